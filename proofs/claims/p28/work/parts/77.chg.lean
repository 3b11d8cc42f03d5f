/-! ===== the class's changes of a film ===== -/
theorem exR_set {N : Nat → Nat} {k e v : Nat} (hk : k < 6) (he : e < 14) : nset (exR N) (k * 14 + e) v = exR (nset N (10 + 6 * e + k) v) := by
  funext j
  unfold nset exR
  dsimp only
  by_cases h : j < 84
  · rw [if_pos h, if_pos h]
    by_cases h2 : j = k * 14 + e
    · rw [if_pos h2, if_pos (by omega)]
    · rw [if_neg h2, if_neg (by omega)]
  · rw [if_neg h, if_neg h, if_neg (by omega)]
theorem scR_set {N : Nat → Nat} {k s v : Nat} (hk : k < 5) (hs : s < 10) : nset (scR N) (k * 10 + s) v = scR (nset N (94 + 7 * s + k) v) := by
  funext j
  unfold nset scR
  dsimp only
  by_cases h : j < 60
  · rw [if_pos h, if_pos h]
    by_cases h5 : j / 10 = 5
    · rw [if_pos h5, if_neg (by omega), if_neg (by omega)]
    · rw [if_neg h5]
      by_cases h2 : j = k * 10 + s
      · rw [if_pos h2, if_pos (by omega)]
      · rw [if_neg h2, if_neg (by omega)]
  · rw [if_neg h, if_neg h, if_neg (by omega)]
theorem scR_crs {N : Nat → Nat} {s v : Nat} (hs : s < 10) : nset (scR N) (5 * 10 + s) v = scR (nset N (94 + 7 * s + 6) v) := by
  funext j
  unfold nset scR
  dsimp only
  by_cases h : j < 60
  · rw [if_pos h, if_pos h]
    by_cases h5 : j / 10 = 5
    · rw [if_pos h5]
      by_cases h2 : j = 5 * 10 + s
      · rw [if_pos h2, if_pos (by omega)]
      · rw [if_neg h2, if_neg (by omega)]
    · rw [if_neg h5, if_neg (by omega), if_neg (by omega)]
  · rw [if_neg h, if_neg h, if_neg (by omega)]
theorem scR_shot {N : Nat → Nat} {s v : Nat} (hs : s < 10) : scR (nset N (94 + 7 * s + 5) v) = scR N := by
  funext j
  unfold nset scR
  dsimp only
  by_cases h : j < 60
  · rw [if_pos h, if_pos h, if_neg]
    split <;> omega
  · rw [if_neg h, if_neg h]
theorem seR_set {N : Nat → Nat} {k v : Nat} (hk : k < 3) : nset (seR N) (k * 1 + 0) v = seR (nset N (7 + k) v) := by
  funext j
  unfold nset seR
  dsimp only
  by_cases h : j < 3
  · rw [if_pos h, if_pos h]
    by_cases h2 : j = k * 1 + 0
    · rw [if_pos h2, if_pos (by omega)]
    · rw [if_neg h2, if_neg (by omega)]
  · rw [if_neg h, if_neg h, if_neg (by omega)]
theorem exR_congr {N M : Nat → Nat} (h : ∀ j, 10 ≤ j → j < 94 → N j = M j) : exR N = exR M := by
  funext j
  unfold exR
  by_cases hj : j < 84
  · rw [if_pos hj, if_pos hj, h _ (by omega) (by omega)]
  · rw [if_neg hj, if_neg hj]
theorem scR_congr {N M : Nat → Nat} (h : ∀ j, 94 ≤ j → j < 164 → N j = M j) : scR N = scR M := by
  funext j
  unfold scR
  by_cases hj : j < 60
  · rw [if_pos hj, if_pos hj, h _ (by split <;> omega) (by split <;> omega)]
  · rw [if_neg hj, if_neg hj]
theorem seR_congr {N M : Nat → Nat} (h : ∀ j, 7 ≤ j → j < 10 → N j = M j) : seR N = seR M := by
  funext j
  unfold seR
  by_cases hj : j < 3
  · rw [if_pos hj, if_pos hj, h _ (by omega) (by omega)]
  · rw [if_neg hj, if_neg hj]
theorem nset_comm {N : Nat → Nat} {a b x y : Nat} (h : a ≠ b) : nset (nset N a x) b y = nset (nset N b y) a x := by
  funext j
  unfold nset
  by_cases h1 : j = a
  · rw [if_neg (by omega), if_pos h1, if_pos h1]
  · rw [if_neg h1]
    by_cases h2 : j = b
    · rw [if_pos h2, if_neg h1]
    · rw [if_neg h2, if_neg h1]
/-! ===== costs ===== -/
theorem zsubI {a b : Nat} (ha : a < 1000000) (hb : b < 1000000) : (nI a - nI b ≤ 0) ↔ a ≤ b := by
  rw [Int32.le_iff_toInt_le, pk_sub_toInt (by omega) (by omega), Int32.toInt_zero]
  omega
theorem qX7_begun30 {a : Nat} (ha : a < 1000000) : pX7_begun (nI a - nI 360) (nI 30) = some (nI (allN a)) := by
  unfold pX7_begun pX7_begun_8 pX7_begun_19
  by_cases h : a ≤ 360
  · rw [if_pos ((zsubI ha (by omega)).mpr h), show allN a = 0 from by unfold allN; omega]
  · rw [if_neg (fun h2 => h ((zsubI ha (by omega)).mp h2)), if_pos (by decide), if_pos (by decide), zsub (by omega), zsub (by omega), zdiv (by omega) (by omega) (by omega), zadd]
    rw [show (a - 360 - 1) / 30 + 1 = allN a from by unfold allN; omega]
theorem qX7_begun60 {a : Nat} (ha : a < 1000000) : pX7_begun (nI a) (nI 60) = some (nI ((a + 60 - 1) / 60)) := by
  unfold pX7_begun pX7_begun_8 pX7_begun_19
  by_cases h : a = 0
  · subst h; rfl
  · rw [if_neg (fun h2 => h ((zle0 (by omega)).mp h2)), if_pos (by decide), if_pos (by decide), zsub (by omega), zdiv (by omega) (by omega) (by omega), zadd]
    rw [show (a - 1) / 60 + 1 = (a + 60 - 1) / 60 from by omega]
theorem qX0_wageOf {N : Nat → Nat} {s : Nat} (hs : s < 10) (hm : N (94 + 7 * s + 4) ≤ 240) : pX0_wageOf (rI (scR N)) (rI (seR N)) (nI s) = some (nI (wageN N (N (94 + 7 * s + 4)))) := by
  unfold pX0_wageOf wageN
  rw [gS (by omega) hs, ob, qX7_begun60 (by omega), ob, gT (by omega), ob, zmul, Nat.mul_comm]
theorem qX0_wagesOf {N : Nat → Nat} {s c : Nat} (hs : s < 10) (hm : N (94 + 7 * s + 4) ≤ 240) (hc : c < 16384) : pX0_wagesOf (rI (scR N)) (rI (seR N)) (nI s) (nI c) = some (nI (bcN c 14 * wageN N (N (94 + 7 * s + 4)))) := by
  unfold pX0_wagesOf
  rw [qJ6_bitCount hc, ob, qX0_wageOf hs hm, ob, zmul]
theorem qX0_newPenalties {N M : Nat → Nat} {s e m : Nat} (hs : s < 10) (he : e < 14) (hm : M (94 + 7 * s + 4) = m) (hm2 : m ≤ 240) (h3 : N (10 + 6 * e + 3) ≤ 1000) (h4 : N (10 + 6 * e + 4) ≤ allN (N (10 + 6 * e + 3))) : pX0_newPenalties (rI (exR N)) (rI (scR M)) (nI s) (nI e) = some (nI (moreN N m e)) := by
  have hle : N (10 + 6 * e + 4) ≤ allN (N (10 + 6 * e + 3) + m) := by
    refine Nat.le_trans h4 ?_
    unfold allN
    exact Nat.div_le_div_right (by omega)
  unfold pX0_newPenalties moreN
  rw [gE (by omega) he, ob, gS (by omega) hs, ob, zadd, qX7_begun30 (by omega), ob, gE (by omega) he, ob, hm, zsub hle]
theorem qX0_penaltyCostsOf_5 {N : Nat → Nat} {s c : Nat} (hS : Sm N) (hs : s < 10) (hm : N (94 + 7 * s + 4) ≤ 240) (hx : ∀ e, e < 14 → N (10 + 6 * e + 3) ≤ 1000 ∧ N (10 + 6 * e + 4) ≤ allN (N (10 + 6 * e + 3))) : ∀ (k e : Nat), e ≤ N 0 → N 0 - e < k → pX0_penaltyCostsOf_5 k (nI (N 0)) (rI (exR N)) (rI (scR N)) (rI (seR N)) (nI s) (nI c) (nI (pnU N c (N (94 + 7 * s + 4)) e)) (nI e) = some (nI (N 9 * pnU N c (N (94 + 7 * s + 4)) (N 0))) := by
  have hN := hS.2.1
  intro k
  induction k with
  | zero => intro e h1 h2; omega
  | succ k ih =>
    intro e h1 h2
    rw [pX0_penaltyCostsOf_5_s]
    by_cases he : N 0 ≤ e
    · rw [if_pos ((zle (by omega) (by omega)).mpr he), gT (by omega), ob, zmul, show e = N 0 from by omega, Nat.mul_comm]
    · have h3 := ih (e + 1) (by omega) (by omega)
      rw [if_neg (fun h => he ((zle (by omega) (by omega)).mp h)), qX7_has _ (by omega), ob, nIbit _ (by omega)]
      unfold pX0_penaltyCostsOf_33
      by_cases hb : c.testBit e = true
      · rw [if_pos hb, if_neg (by rw [zeq0 (by decide)]; decide), qX0_newPenalties hs (by omega) rfl hm (hx e (by omega)).1 (hx e (by omega)).2, ob, zadd, zadd]
        rw [show pnU N c (N (94 + 7 * s + 4)) (e + 1) = pnU N c (N (94 + 7 * s + 4)) e + moreN N (N (94 + 7 * s + 4)) e from by simp [pnU, hb]] at h3
        exact h3
      · rw [if_neg hb, if_pos (by rw [zeq0 (by decide)]), zadd]
        rw [show pnU N c (N (94 + 7 * s + 4)) (e + 1) = pnU N c (N (94 + 7 * s + 4)) e from by simp [pnU, hb]] at h3
        exact h3
theorem Inv.hx {t : Nat} {N : Nat → Nat} (h : Inv t N) : ∀ e, e < 14 → N (10 + 6 * e + 3) ≤ 1000 ∧ N (10 + 6 * e + 4) ≤ allN (N (10 + 6 * e + 3)) := by
  intro e he
  have := h.ex e he
  exact ⟨by omega, this.2.2.2.2.1⟩
theorem qX0_penaltyCostsOf {t : Nat} {N : Nat → Nat} {s c : Nat} (h : Inv t N) (ht : t ≤ 10000) (hs : s < 10) : pX0_penaltyCostsOf (nI (N 0)) (rI (exR N)) (rI (scR N)) (rI (seR N)) (nI s) (nI c) = some (nI (N 9 * pnU N c (N (94 + 7 * s + 4)) (N 0))) :=
  qX0_penaltyCostsOf_5 (h.sm ht) hs (h.sc s hs).2.2.2.2.1 h.hx FU 0 (by omega) (by have := h.ec; unfold FU; omega)
theorem qX0_costOf {t : Nat} {N : Nat → Nat} {s c : Nat} (h : Inv t N) (ht : t ≤ 10000) (hs : s < 10) (hc : c < 16384) : pX0_costOf (nI (N 0)) (rI (exR N)) (rI (scR N)) (rI (seR N)) (nI s) (nI c) = some (nI (bcN c 14 * wageN N (N (94 + 7 * s + 4)) + N 9 * pnU N c (N (94 + 7 * s + 4)) (N 0))) := by
  unfold pX0_costOf
  rw [qX0_wagesOf hs (h.sc s hs).2.2.2.2.1 hc, ob, qX0_penaltyCostsOf h ht hs, ob, zadd]
/-- the faces of a scene's place and day that a crowd breaks with -/
def brN (N : Nat → Nat) (s c : Nat) : Nat := bcN (dif (seenU N s true (N 1)) (fcsU N c (N 0))) 14
theorem qX0_breaksOf {t : Nat} {N : Nat → Nat} {s c : Nat} (h : Inv t N) (ht : t ≤ 10000) (hs : s < 10) : pX0_breaksOf (nI (N 0)) (nI (N 1)) (rI (exR N)) (rI (scR N)) (nI s) (nI c) = some (nI (brN N s c)) := by
  have hS := h.sm ht
  have hse := seenU_lt (s := s) (sm := true) hS (N 1)
  unfold pX0_breaksOf brN
  rw [show nI 1 = nI (if true then 1 else 0) from rfl, qX0_castOf hS hs, ob, qX0_facesN _ hS.2.1 hS.2.2.2.1, ob, fcsU_cast h _ h.sn, qX0_facesN _ hS.2.1 hS.2.2.2.1, ob, zdif hse, qJ6_bitCount (dif_lt _ _), ob]
/-! ===== work ===== -/
theorem exR_wk1 {M : Nat → Nat} {e m p : Nat} (he : e < 14) : exR (nset (nset (nset (nset M (10 + 6 * e + 4) (M (10 + 6 * e + 4) + p)) (10 + 6 * e + 5) (M (10 + 6 * e + 5) + (M 8 * ((m + 60 - 1) / 60) + M 9 * p))) (10 + 6 * e + 2) (M (10 + 6 * e + 2) + m)) (10 + 6 * e + 3) (M (10 + 6 * e + 3) + m)) = exR (wk1 M e m p) := by
  apply exR_congr
  intro j h1 h2
  unfold wk1
  rw [nset_ne _ (k := 5) _ (by omega), nset_ne _ (k := 4) _ (by omega), nset_ne _ (k := 3) _ (by omega)]
  unfold nset
  by_cases a2 : j = 10 + 6 * e + 2
  · simp (disch := omega) only [if_pos, if_neg]
  by_cases a3 : j = 10 + 6 * e + 3
  · simp (disch := omega) only [if_pos, if_neg]
  by_cases a4 : j = 10 + 6 * e + 4
  · simp (disch := omega) only [if_pos, if_neg]
  by_cases a5 : j = 10 + 6 * e + 5
  · simp (disch := omega) only [if_pos, if_neg]
    omega
  · simp (disch := omega) only [if_pos, if_neg]
theorem qX0_workOne {M W : Nat → Nat} {s e m pe pn : Nat} (hs : s < 10) (he : e < 14) (hm : W (94 + 7 * s + 4) = m) (hm2 : m ≤ 240) (h3 : M (10 + 6 * e + 3) ≤ 1000) (h4 : M (10 + 6 * e + 4) ≤ allN (M (10 + 6 * e + 3))) (w8 : M 8 = W 8) (w9 : M 9 = W 9) : pX0_workOne (nI pe) (nI pn) (rI (exR M)) (rI (scR W)) (rI (seR W)) (nI s) (nI e) = some (nI (pe + W 9 * moreN M m e), nI (pn + moreN M m e), rI (exR (wk1 M e m (moreN M m e)))) := by
  unfold pX0_workOne
  rw [qX0_newPenalties hs he hm hm2 h3 h4, ob, gT (by omega), ob, qX5_add he (by omega) (by omega) (by omega), ob, exR_at M (by omega) he, exR_set (by omega) he]
  rw [qX0_wageOf hs (by omega), ob, zmul, zadd, qX5_add he (by omega) (by omega) (by omega), ob, exR_at _ (by omega) he, exR_set (by omega) he, nset_ne _ _ (show 10 + 6 * e + 5 ≠ 10 + 6 * e + 4 by omega)]
  rw [gS (by omega) hs, ob, qX5_add he (by omega) (by omega) (by omega), ob, exR_at _ (by omega) he, exR_set (by omega) he, nset_ne _ _ (show 10 + 6 * e + 2 ≠ 10 + 6 * e + 5 by omega), nset_ne _ _ (show 10 + 6 * e + 2 ≠ 10 + 6 * e + 4 by omega)]
  rw [ob, qX5_add he (by omega) (by omega) (by omega), ob, exR_at _ (by omega) he, exR_set (by omega) he, nset_ne _ _ (show 10 + 6 * e + 3 ≠ 10 + 6 * e + 2 by omega), nset_ne _ _ (show 10 + 6 * e + 3 ≠ 10 + 6 * e + 5 by omega), nset_ne _ _ (show 10 + 6 * e + 3 ≠ 10 + 6 * e + 4 by omega)]
  rw [zadd, zadd, hm, show 7 + 2 = 9 from rfl, Nat.mul_comm (moreN M m e) (W 9)]
  unfold wageN
  rw [← w8, ← w9, exR_wk1 he]
theorem qX0_work_32 {M : Nat → Nat} {s c m n wg br : Nat} (h0 : M 0 = n) (hn : n ≤ 14) (hs : s < 10) (hm : M (94 + 7 * s + 4) = m) (hm2 : m ≤ 240) (hx : ∀ e, e < 14 → M (10 + 6 * e + 3) ≤ 1000 ∧ M (10 + 6 * e + 4) ≤ allN (M (10 + 6 * e + 3))) :
    ∀ (k e : Nat), e ≤ n → n - e < k → pX0_work_32 k (nI n) (nI (M 1)) (nI wg) (nI (wkC M c m e 4)) (nI (wkC M c m e 5)) (nI br) (rI (exR (wkC M c m e))) (rI (scR M)) (rI (seR M)) (nI s) (nI c) (nI e) = some (nI wg, nI (wkC M c m n 4), nI (wkC M c m n 5), nI br, rI (exR (wkC M c m n)), rI (scR (nset M (94 + 7 * s + 6) c))) := by
  intro k
  induction k with
  | zero => intro e h1 h2; omega
  | succ k ih =>
    intro e h1 h2
    rw [pX0_work_32_s]
    by_cases he : n ≤ e
    · rw [if_pos ((zle (by omega) (by omega)).mpr he), qX5_put hs (by omega) (by omega) (by omega), ob, rI_upd, scR_crs hs, show e = n from by omega]
    · have h3 := ih (e + 1) (by omega) (by omega)
      have w3 : wkC M c m e (10 + 6 * e + 3) = M (10 + 6 * e + 3) := wkC_hi M c m e (by omega)
      have w4 : wkC M c m e (10 + 6 * e + 4) = M (10 + 6 * e + 4) := wkC_hi M c m e (by omega)
      have w8 : wkC M c m e 8 = M 8 := wkC_lo M c m e (by omega) (by omega) (by omega) (by omega)
      have w9 : wkC M c m e 9 = M 9 := wkC_lo M c m e (by omega) (by omega) (by omega) (by omega)
      have w7 : moreN (wkC M c m e) m e = moreN M m e := by unfold moreN; rw [w3, w4]
      have hxe := hx e (by omega)
      rw [if_neg (fun h => he ((zle (by omega) (by omega)).mp h)), qX7_has _ (by omega), ob, nIbit _ (by omega)]
      unfold pX0_work_54
      by_cases hb : c.testBit e = true
      · rw [if_pos hb, if_neg (by rw [zeq0 (by decide)]; decide), qX0_workOne hs (by omega) hm hm2 (by omega) (by rw [w3, w4]; exact hxe.2) w8 w9, ob, zadd, w7, wkC_yes hb]
        have e4 : wkC M c m e 4 + M 9 * moreN M m e = wkC M c m (e + 1) 4 := by
          rw [wkC_4, wkC_4, show pnU M c m (e + 1) = pnU M c m e + moreN M m e from by simp [pnU, hb], Nat.mul_add]; omega
        have e5 : wkC M c m e 5 + moreN M m e = wkC M c m (e + 1) 5 := by
          rw [wkC_5, wkC_5, show pnU M c m (e + 1) = pnU M c m e + moreN M m e from by simp [pnU, hb]]; omega
        rw [e4, e5]
        exact h3
      · have hb2 : c.testBit e = false := by simpa using hb
        rw [if_neg hb, if_pos (by rw [zeq0 (by decide)]), zadd]
        rw [wkC_no hb2] at h3
        exact h3
theorem bcN_top {c n : Nat} (hn : n ≤ 14) (h : ∀ e, c.testBit e = true → e < n) : bcN c 14 = bcN c n := by
  have go : ∀ d, bcN c (n + d) = bcN c n := by
    intro d
    induction d with
    | zero => rfl
    | succ d ih =>
      rw [← Nat.add_assoc, bcN, ih]
      have : c.testBit (n + d) = false := by
        cases hc : c.testBit (n + d) with
        | false => rfl
        | true => have := h _ hc; omega
      rw [this]; rfl
  have := go (14 - n)
  rw [show n + (14 - n) = 14 from by omega] at this
  exact this
theorem shN_def (N : Nat → Nat) (s : Nat) : shN N s = nset (nset (wkC (nset N 6 (N 6 + brN N s (chN N s))) (chN N s) (N (94 + 7 * s + 4)) (N 0)) (94 + 7 * s + 5) 1) (94 + 7 * s + 6) (chN N s) := rfl
theorem pnU_congr {N M : Nat → Nat} {c m : Nat} (h : ∀ j, 10 ≤ j → N j = M j) : ∀ n, pnU N c m n = pnU M c m n := by
  intro n
  induction n with
  | zero => rfl
  | succ n ih => rw [pnU, pnU, ih]; unfold moreN; rw [h _ (by omega), h _ (by omega)]
theorem shN_lo (N : Nat → Nat) (s : Nat) {j : Nat} (h : j < 10) (h3 : j ≠ 3) (h4 : j ≠ 4) (h5 : j ≠ 5) (h6 : j ≠ 6) : shN N s j = N j := by
  rw [shN_def, nset_ne _ _ (by omega), nset_ne _ _ (by omega), wkC_lo _ _ _ _ h h3 h4 h5, nset_ne _ _ h6]
theorem shN_3 (N : Nat → Nat) (s : Nat) : shN N s 3 = N 3 + bcN (chN N s) (N 0) * wageN N (N (94 + 7 * s + 4)) := by
  rw [shN_def, nset_ne _ _ (by omega), nset_ne _ _ (by omega), wkC_3, nset_ne _ _ (by omega)]
  unfold wageN
  rw [nset_ne _ _ (by omega)]
theorem shN_4 (N : Nat → Nat) (s : Nat) : shN N s 4 = N 4 + N 9 * pnU N (chN N s) (N (94 + 7 * s + 4)) (N 0) := by
  rw [shN_def, nset_ne _ _ (by omega), nset_ne _ _ (by omega), wkC_4, nset_ne _ _ (by omega), nset_ne _ _ (by omega), pnU_congr (M := N) (fun j hj => nset_ne _ _ (by omega))]
theorem shN_5 (N : Nat → Nat) (s : Nat) : shN N s 5 = N 5 + pnU N (chN N s) (N (94 + 7 * s + 4)) (N 0) := by
  rw [shN_def, nset_ne _ _ (by omega), nset_ne _ _ (by omega), wkC_5, nset_ne _ _ (by omega), pnU_congr (M := N) (fun j hj => nset_ne _ _ (by omega))]
theorem shN_6 (N : Nat → Nat) (s : Nat) : shN N s 6 = N 6 + brN N s (chN N s) := by
  rw [shN_def, nset_ne _ _ (by omega), nset_ne _ _ (by omega), wkC_lo _ _ _ _ (by omega) (by omega) (by omega) (by omega), nset_eq]
theorem qX0_work {t : Nat} {N : Nat → Nat} {s : Nat} (h : Inv t N) (ht : t ≤ 10000) (hs : s < 10) : pX0_work (nI (N 0)) (nI (N 1)) (nI (N 3)) (nI (N 4)) (nI (N 5)) (nI (N 6)) (rI (exR N)) (rI (scR N)) (rI (seR N)) (nI s) (nI (chN N s)) = some (nI (shN N s 3), nI (shN N s 4), nI (shN N s 5), nI (shN N s 6), rI (exR (shN N s)), rI (scR (shN N s))) := by
  have hS := h.sm ht
  have hc := chN_lt (s := s) hS
  have hm := (h.sc s hs).2.2.2.2.1
  have hP := (chN_P (s := s) hS.2.1).2
  unfold pX0_work
  rw [qX0_wagesOf hs hm hc, ob, qX0_breaksOf h ht hs, ob, zadd, zadd]
  have h6 := qX0_work_32 (M := nset N 6 (N 6 + brN N s (chN N s))) (s := s) (c := chN N s) (m := N (94 + 7 * s + 4)) (n := N 0) (wg := N 3 + bcN (chN N s) 14 * wageN N (N (94 + 7 * s + 4))) (br := N 6 + brN N s (chN N s)) (nset_ne _ _ (by omega)) h.ec hs (nset_ne _ _ (by omega)) hm (fun e he => by
    rw [nset_ne _ _ (by omega), nset_ne _ _ (by omega)]
    exact h.hx e he) FU 0 (by omega) (by have := h.ec; unfold FU; omega)
  rw [wkC_zero, nset_ne _ _ (show 1 ≠ 6 by omega), nset_ne _ _ (show 4 ≠ 6 by omega), nset_ne _ _ (show 5 ≠ 6 by omega)] at h6
  rw [exR_congr (N := nset N 6 (N 6 + brN N s (chN N s))) (M := N) (fun j h1 _ => nset_ne _ _ (by omega)), scR_congr (N := nset N 6 (N 6 + brN N s (chN N s))) (M := N) (fun j h1 _ => nset_ne _ _ (by omega)), seR_congr (N := nset N 6 (N 6 + brN N s (chN N s))) (M := N) (fun j h1 _ => nset_ne _ _ (by omega))] at h6
  rw [h6]
  rw [shN_3, shN_6, bcN_top h.ec (fun e he => (hP e he).1)]
  rw [shN_def N s, nset_ne _ _ (show 4 ≠ 94 + 7 * s + 6 by omega), nset_ne _ _ (show 4 ≠ 94 + 7 * s + 5 by omega), nset_ne _ _ (show 5 ≠ 94 + 7 * s + 6 by omega), nset_ne _ _ (show 5 ≠ 94 + 7 * s + 5 by omega)]
  rw [exR_congr (N := nset (nset (wkC (nset N 6 (N 6 + brN N s (chN N s))) (chN N s) (N (94 + 7 * s + 4)) (N 0)) (94 + 7 * s + 5) 1) (94 + 7 * s + 6) (chN N s)) (M := wkC (nset N 6 (N 6 + brN N s (chN N s))) (chN N s) (N (94 + 7 * s + 4)) (N 0)) (fun j _ h2 => by rw [nset_ne _ _ (by omega), nset_ne _ _ (by omega)])]
  rw [← scR_crs (N := nset (wkC (nset N 6 (N 6 + brN N s (chN N s))) (chN N s) (N (94 + 7 * s + 4)) (N 0)) (94 + 7 * s + 5) 1) hs, scR_shot hs, scR_crs hs]
  rw [scR_congr (N := nset (nset N 6 (N 6 + brN N s (chN N s))) (94 + 7 * s + 6) (chN N s)) (M := nset (wkC (nset N 6 (N 6 + brN N s (chN N s))) (chN N s) (N (94 + 7 * s + 4)) (N 0)) (94 + 7 * s + 6) (chN N s)) (fun j h1 _ => by
    by_cases hj : j = 94 + 7 * s + 6
    · subst hj; rw [nset_eq, nset_eq]
    · rw [nset_ne _ _ hj, nset_ne _ _ hj, wkC_hi _ _ _ _ (by have := h.ec; omega)])]
/-- film contents: shot if it can be -/
def siN (N : Nat → Nat) (s : Nat) : Nat → Nat := if cwN N s = 0 then N else shN N s
theorem cwN_lt {t : Nat} {N : Nat → Nat} {s : Nat} (h : Inv t N) (ht : t ≤ 10000) : cwN N s < 16384 := by
  unfold cwN
  split
  · exact chN_lt (h.sm ht)
  · omega
theorem cwN_ch {N : Nat → Nat} {s : Nat} (h : cwN N s ≠ 0) : cwN N s = chN N s := by
  unfold cwN at *
  split
  · rfl
  · rename_i h2; rw [if_neg h2] at h; exact absurd rfl h
theorem qX0_shootIfPossible {t : Nat} {N : Nat → Nat} {s : Nat} (h : Inv t N) (ht : t ≤ 10000) (hs : s < 10) : pX0_shootIfPossible (nI (N 0)) (nI (N 1)) (nI (N 3)) (nI (N 4)) (nI (N 5)) (nI (N 6)) (rI (exR N)) (rI (scR N)) (rI (seR N)) (nI s) = some (nI (if cwN N s = 0 then 0 else 1), nI (siN N s 3), nI (siN N s 4), nI (siN N s 5), nI (siN N s 6), rI (exR (siN N s)), rI (scR (siN N s))) := by
  have hl := cwN_lt (s := s) h ht
  unfold pX0_shootIfPossible siN
  rw [qX0_crowdNow h ht hs, ob]
  by_cases hc : cwN N s = 0
  · rw [if_pos hc, if_pos ((zeq0 (by omega)).mpr hc), if_pos hc]
  · rw [if_neg hc, if_neg (fun h2 => hc ((zeq0 (by omega)).mp h2)), if_neg hc, cwN_ch hc, qX0_work h ht hs, ob]

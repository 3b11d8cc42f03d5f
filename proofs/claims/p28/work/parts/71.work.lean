/-! ===== work, shootOn ===== -/
def moreN (N : Nat → Nat) (m e : Nat) : Nat := allN (N (10 + 6 * e + 3) + m) - N (10 + 6 * e + 4)
def wageN (N : Nat → Nat) (m : Nat) : Nat := N 8 * ((m + 60 - 1) / 60)
def wk1 (N : Nat → Nat) (e m p : Nat) : Nat → Nat :=
  nset (nset (nset (nset (nset (nset (nset N (10 + 6 * e + 2) (N (10 + 6 * e + 2) + m)) (10 + 6 * e + 3) (N (10 + 6 * e + 3) + m)) (10 + 6 * e + 4) (N (10 + 6 * e + 4) + p)) (10 + 6 * e + 5) (N (10 + 6 * e + 5) + N 8 * ((m + 60 - 1) / 60) + N 9 * p)) 3 (N 3 + N 8 * ((m + 60 - 1) / 60))) 4 (N 4 + N 9 * p)) 5 (N 5 + p)
theorem qX8_work_59 {N : Nat → Nat} {e m p : Nat} (he : e < 14) (hm : m ≤ 240) : pX8_work_59 (rI N) (nI e) (nI m) (nI (N (10 + 6 * e + 3) + m)) (nI p) = some (rI (wk1 N e m p)) := by
  unfold pX8_work_59 wk1
  simp (disch := omega) only [qX8_of, qX8_lay, ob, zadd, zsub, zdiv, zmul, znb, zcl, if_pos, rI_at, rI_upd, nset_eq, nset_ne]
theorem qX8_work {N : Nat → Nat} {e m : Nat} (he : e < 14) (hm : m ≤ 240) (h3 : N (10 + 6 * e + 3) ≤ 1000) (h4 : N (10 + 6 * e + 4) ≤ 1000) : pX8_work (rI N) (nI e) (nI m) = some (rI (wk1 N e m (moreN N m e))) := by
  have hd : (N (10 + 6 * e + 3) + m - 360 + 29) / 30 ≤ 100 := by omega
  unfold pX8_work
  rw [qX8_of (by omega), ob, zadd]
  by_cases h1 : N (10 + 6 * e + 3) + m ≤ 360
  · rw [if_pos ((zle (by omega) (by omega)).mpr h1)]
    unfold pX8_work_33
    rw [qX8_of (by omega), ob, if_pos ((zle (by omega) (by omega)).mpr (by omega)), qX8_work_59 he hm]
    rw [show moreN N m e = 0 from by unfold moreN allN; omega]
  · rw [if_neg (fun h => h1 ((zle (by omega) (by omega)).mp h)), zsub (by omega), zadd, zsub (by omega), zdiv (by omega) (by omega) (by omega)]
    have ha : (N (10 + 6 * e + 3) + m - 360 + 30 - 1) / 30 = allN (N (10 + 6 * e + 3) + m) := by unfold allN; omega
    rw [ha]
    unfold pX8_work_33
    rw [qX8_of (by omega), ob]
    have hb : allN (N (10 + 6 * e + 3) + m) ≤ 100 := by unfold allN; omega
    by_cases h2 : allN (N (10 + 6 * e + 3) + m) ≤ N (10 + 6 * e + 4)
    · rw [if_pos ((zle (by omega) (by omega)).mpr h2), qX8_work_59 he hm]
      rw [show moreN N m e = 0 from by unfold moreN; omega]
    · rw [if_neg (fun h => h2 ((zle (by omega) (by omega)).mp h)), ob, zsub (by omega), qX8_work_59 he hm]
      rfl
/-- the penalties of those of c below n -/
def pnU (N : Nat → Nat) (c m : Nat) : Nat → Nat
  | 0 => 0
  | n + 1 => pnU N c m n + (if c.testBit n then moreN N m n else 0)
def exW (N : Nat → Nat) (m e k : Nat) : Nat :=
  if k = 2 then N (10 + 6 * e + 2) + m else if k = 3 then N (10 + 6 * e + 3) + m else if k = 4 then N (10 + 6 * e + 4) + moreN N m e else if k = 5 then N (10 + 6 * e + 5) + wageN N m + N 9 * moreN N m e else N (10 + 6 * e + k)
/-- those of c below n have worked -/
def wkC (N : Nat → Nat) (c m n : Nat) : Nat → Nat := fun j =>
  if j = 3 then N 3 + bcN c n * wageN N m else if j = 4 then N 4 + N 9 * pnU N c m n else if j = 5 then N 5 + pnU N c m n
  else if 10 ≤ j ∧ j < 10 + 6 * n ∧ c.testBit ((j - 10) / 6) = true then exW N m ((j - 10) / 6) ((j - 10) % 6) else N j
theorem wkC_3 (N : Nat → Nat) (c m n : Nat) : wkC N c m n 3 = N 3 + bcN c n * wageN N m := by unfold wkC; rw [if_pos rfl]
theorem wkC_4 (N : Nat → Nat) (c m n : Nat) : wkC N c m n 4 = N 4 + N 9 * pnU N c m n := by unfold wkC; rw [if_neg (by omega), if_pos rfl]
theorem wkC_5 (N : Nat → Nat) (c m n : Nat) : wkC N c m n 5 = N 5 + pnU N c m n := by unfold wkC; rw [if_neg (by omega), if_neg (by omega), if_pos rfl]
theorem wkC_lo (N : Nat → Nat) (c m n : Nat) {j : Nat} (h : j < 10) (h3 : j ≠ 3) (h4 : j ≠ 4) (h5 : j ≠ 5) : wkC N c m n j = N j := by
  unfold wkC
  rw [if_neg h3, if_neg h4, if_neg h5, if_neg (by omega)]
theorem wkC_hi (N : Nat → Nat) (c m n : Nat) {j : Nat} (h : 10 + 6 * n ≤ j) : wkC N c m n j = N j := by
  unfold wkC
  rw [if_neg (by omega), if_neg (by omega), if_neg (by omega), if_neg (by omega)]
theorem wkC_in (N : Nat → Nat) (c m n : Nat) {e k : Nat} (he : e < n) (hk : k < 6) (hb : c.testBit e = true) : wkC N c m n (10 + 6 * e + k) = exW N m e k := by
  unfold wkC
  have h1 : (10 + 6 * e + k - 10) / 6 = e := by omega
  have h2 : (10 + 6 * e + k - 10) % 6 = k := by omega
  rw [if_neg (by omega), if_neg (by omega), if_neg (by omega), h1, h2, if_pos ⟨by omega, by omega, hb⟩]
theorem wkC_out (N : Nat → Nat) (c m n : Nat) {e k : Nat} (hk : k < 6) (hb : c.testBit e = false) : wkC N c m n (10 + 6 * e + k) = N (10 + 6 * e + k) := by
  unfold wkC
  have h1 : (10 + 6 * e + k - 10) / 6 = e := by omega
  rw [if_neg (by omega), if_neg (by omega), if_neg (by omega), h1, if_neg (fun h => by rw [hb] at h; exact absurd h.2.2 (by decide))]
theorem wkC_zero (N : Nat → Nat) (c m : Nat) : wkC N c m 0 = N := by
  funext j
  unfold wkC
  simp only [bcN, pnU]
  split
  · rename_i h; subst h; omega
  · split
    · rename_i h; subst h; omega
    · split
      · rename_i h; subst h; omega
      · rw [if_neg (by omega)]
theorem wkC_no {N : Nat → Nat} {c m n : Nat} (hb : c.testBit n = false) : wkC N c m (n + 1) = wkC N c m n := by
  funext j
  have hbc : bcN c (n + 1) = bcN c n := by simp [bcN, hb]
  have hpn : pnU N c m (n + 1) = pnU N c m n := by simp [pnU, hb]
  unfold wkC
  rw [hbc, hpn]
  have hc : (10 ≤ j ∧ j < 10 + 6 * (n + 1) ∧ c.testBit ((j - 10) / 6) = true) ↔ (10 ≤ j ∧ j < 10 + 6 * n ∧ c.testBit ((j - 10) / 6) = true) := by
    constructor
    · intro h
      by_cases h2 : j < 10 + 6 * n
      · exact ⟨h.1, h2, h.2.2⟩
      · have h3 : (j - 10) / 6 = n := by omega
        rw [h3, hb] at h
        exact absurd h.2.2 (by decide)
    · intro h
      exact ⟨h.1, by omega, h.2.2⟩
  simp only [hc]
theorem wkC_yes {N : Nat → Nat} {c m n : Nat} (hb : c.testBit n = true) : wk1 (wkC N c m n) n m (moreN N m n) = wkC N c m (n + 1) := by
  have hbc : bcN c (n + 1) = bcN c n + 1 := by simp [bcN, hb]
  have hpn : pnU N c m (n + 1) = pnU N c m n + moreN N m n := by simp [pnU, hb]
  funext j
  unfold wk1
  rw [wkC_hi N c m n (j := 10 + 6 * n + 2) (by omega), wkC_hi N c m n (j := 10 + 6 * n + 3) (by omega), wkC_hi N c m n (j := 10 + 6 * n + 4) (by omega), wkC_hi N c m n (j := 10 + 6 * n + 5) (by omega), wkC_lo N c m n (j := 8) (by omega) (by omega) (by omega) (by omega), wkC_lo N c m n (j := 9) (by omega) (by omega) (by omega) (by omega), wkC_3, wkC_4, wkC_5]
  by_cases h5 : j = 5
  · subst h5
    rw [nset_eq, wkC_5, hpn]
    omega
  rw [nset_ne _ _ h5]
  by_cases h4 : j = 4
  · subst h4
    rw [nset_eq, wkC_4, hpn, Nat.mul_add]
    omega
  rw [nset_ne _ _ h4]
  by_cases h3 : j = 3
  · subst h3
    rw [nset_eq, wkC_3, hbc, Nat.add_mul]
    unfold wageN
    omega
  rw [nset_ne _ _ h3]
  by_cases he5 : j = 10 + 6 * n + 5
  · subst he5
    rw [nset_eq, wkC_in N c m (n + 1) (e := n) (by omega) (by omega) hb]
    unfold exW wageN
    rw [if_neg (by omega), if_neg (by omega), if_neg (by omega), if_pos rfl]
  rw [nset_ne _ _ he5]
  by_cases he4 : j = 10 + 6 * n + 4
  · subst he4
    rw [nset_eq, wkC_in N c m (n + 1) (e := n) (by omega) (by omega) hb]
    unfold exW
    rw [if_neg (by omega), if_neg (by omega), if_pos rfl]
  rw [nset_ne _ _ he4]
  by_cases he3 : j = 10 + 6 * n + 3
  · subst he3
    rw [nset_eq, wkC_in N c m (n + 1) (e := n) (by omega) (by omega) hb]
    unfold exW
    rw [if_neg (by omega), if_pos rfl]
  rw [nset_ne _ _ he3]
  by_cases he2 : j = 10 + 6 * n + 2
  · subst he2
    rw [nset_eq, wkC_in N c m (n + 1) (e := n) (by omega) (by omega) hb]
    unfold exW
    rw [if_pos rfl]
  rw [nset_ne _ _ he2]
  by_cases h6 : j < 10
  · rw [wkC_lo N c m n h6 h3 h4 h5, wkC_lo N c m (n + 1) h6 h3 h4 h5]
  · by_cases h7 : j < 10 + 6 * n
    · unfold wkC
      rw [if_neg h3, if_neg h4, if_neg h5, if_neg h3, if_neg h4, if_neg h5]
      have hc : (10 ≤ j ∧ j < 10 + 6 * (n + 1) ∧ c.testBit ((j - 10) / 6) = true) ↔ (10 ≤ j ∧ j < 10 + 6 * n ∧ c.testBit ((j - 10) / 6) = true) :=
        ⟨fun h => ⟨h.1, h7, h.2.2⟩, fun h => ⟨h.1, by omega, h.2.2⟩⟩
      simp only [hc]
    · rw [wkC_hi N c m n (by omega)]
      by_cases h8 : 10 + 6 * (n + 1) ≤ j
      · rw [wkC_hi N c m (n + 1) h8]
      · have h9 : j = 10 + 6 * n + (j - (10 + 6 * n)) := by omega
        rw [h9, wkC_in N c m (n + 1) (e := n) (by omega) (by omega) hb]
        unfold exW
        rw [if_neg (by omega), if_neg (by omega), if_neg (by omega), if_neg (by omega)]
/-- a scene has been shot -/
def shN (N : Nat → Nat) (s : Nat) : Nat → Nat :=
  nset (nset (wkC (nset N 6 (N 6 + bcN (dif (seenU N s true (N 1)) (fcsU N (chN N s) (N 0))) 14)) (chN N s) (N (94 + 7 * s + 4)) (N 0)) (94 + 7 * s + 5) 1) (94 + 7 * s + 6) (chN N s)
theorem qX8_shootOn_32 {M : Nat → Nat} {s c m n : Nat} (h0 : M 0 = n) (hn : n ≤ 14) (hs : s < 10) (hm : M (94 + 7 * s + 4) = m) (hm2 : m ≤ 240) (hc : c < 16384) (hx : ∀ e, e < 14 → M (10 + 6 * e + 3) ≤ 1000 ∧ M (10 + 6 * e + 4) ≤ 1000) :
    ∀ (k e : Nat), e ≤ n → n - e < k → pX8_shootOn_32 k (rI (wkC M c m e)) (nI s) (nI c) (nI e) = some (nI c, rI (nset (nset (wkC M c m n) (94 + 7 * s + 5) 1) (94 + 7 * s + 6) c)) := by
  intro k
  induction k with
  | zero => intro e h1 h2; omega
  | succ k ih =>
    intro e h1 h2
    rw [pX8_shootOn_32_s]
    have w0 : wkC M c m e 0 = n := by rw [wkC_lo M c m e (by omega) (by omega) (by omega) (by omega), h0]
    by_cases he : n ≤ e
    · have e1 : e = n := by omega
      rw [e1] at w0 ⊢
      simp (disch := omega) only [znb, zcl, rI_at, zle, if_pos, w0, zadd, zmul, rI_upd]
    · have w4 : wkC M c m e (94 + 7 * s + 4) = m := by rw [wkC_hi M c m e (by omega), hm]
      have w5 : wkC M c m e (10 + 6 * e + 3) = M (10 + 6 * e + 3) := wkC_hi M c m e (by omega)
      have w6 : wkC M c m e (10 + 6 * e + 4) = M (10 + 6 * e + 4) := wkC_hi M c m e (by omega)
      have w7 : moreN (wkC M c m e) m e = moreN M m e := by unfold moreN; rw [w5, w6]
      have hxe := hx e (by omega)
      have h3 := ih (e + 1) (by omega) (by omega)
      simp (disch := omega) only [znb, zcl, rI_at, zle, if_pos, if_neg, w0, qX8_has (show c < 2147483648 by omega), ob]
      unfold pX8_shootOn_58
      by_cases hb : c.testBit e = true
      · rw [if_pos hb, if_neg (by rw [zeq0 (by decide)]; decide), qX8_told (by omega), ob, w4, qX8_work (by omega) hm2 (by omega) (by omega), ob, zadd, w7, wkC_yes hb]
        exact h3
      · have hb2 : c.testBit e = false := by simpa using hb
        rw [if_neg hb, if_pos (by rw [zeq0 (by decide)]), zadd]
        rw [wkC_no hb2] at h3
        exact h3
theorem qX8_shootOn {t : Nat} {N : Nat → Nat} {s : Nat} (h : Inv t N) (ht : t ≤ 10000) (hs : s < 10) : pX8_shootOn (rI N) (nI s) = some (nI (chN N s), rI (shN N s)) := by
  have hS := h.sm ht
  have hw := (h.sc s hs).2.1
  have hm := (h.sc s hs).2.2.2.2.1
  have hc := chN_lt (s := s) hS
  have hf := fcsU_lt (c := chN N s) hS.2.2.2.1 (N 0) hS.2.1
  have hse := seenU_lt (s := s) (sm := true) hS (N 1)
  have hd := dif_lt (seenU N s true (N 1)) (fcsU N (chN N s) (N 0))
  unfold pX8_shootOn
  rw [qX8_choose hS hs (by omega), ob, if_pos ((znb (by omega)).mpr (by omega)), show nI 1 = nI (if true then 1 else 0) from rfl, qX8_seen hS hs, ob, qX8_facesOf hS.2.1 hS.2.2.2.1 (by omega), ob, zdif hse, qX8_bits (by omega), ob, if_pos ((znb (by omega)).mpr (by omega)), zcl (by omega), rI_at, zadd, rI_upd]
  have h6 := qX8_shootOn_32 (M := nset N 6 (N 6 + bcN (dif (seenU N s true (N 1)) (fcsU N (chN N s) (N 0))) 14)) (s := s) (c := chN N s) (m := N (94 + 7 * s + 4)) (n := N 0) (nset_ne _ _ (by omega)) hS.2.1 hs (nset_ne _ _ (by omega)) hm hc (fun e he => by
    rw [nset_ne _ _ (by omega), nset_ne _ _ (by omega)]
    have := h.ex e he
    unfold allN at this
    omega) FU 0 (by omega) (by have := hS.2.1; unfold FU; omega)
  rw [wkC_zero] at h6
  exact h6

/-! ===== the history and the diary ===== -/
def fD (N : Nat → Nat) : Nat → Nat → Int32 := mkD (rI (exR N)) (rI (scR N)) (rI (seR N)) (nI (N 0)) (nI (N 1)) (nI (N 2)) (nI (N 3)) (nI (N 4)) (nI (N 5)) (nI (N 6))
def rgD (R : Nat → Nat → Nat) : Nat → Nat → Nat → Int32 := fun k => fD (R k)
theorem rgD_up (R : Nat → Nat → Nat) (k : Nat) (N : Nat → Nat) : va_up (rgD R) k (fD N) = rgD (va_up R k N) := by
  funext j
  unfold va_up rgD
  dsimp only
  by_cases h : j = k
  · rw [if_pos h, if_pos h]
  · rw [if_neg h, if_neg h]
theorem qX1_memory {o a : Nat} (h : o + a < 100000) : pX1_memory (nI o) (nI a) = some ((o + a) % 14) := by
  unfold pX1_memory
  rw [zadd, zrem (by omega) (by omega) (by omega), if_neg (fun h => (zlt0 (by omega)).mp h), zof, if_neg (fun h => by have := (zle (by omega) (by omega)).mp h; omega), if_pos ((znb (by omega)).mpr (by omega)), zcl (by omega)]
theorem qX1_remember {o c : Nat} {N : Nat → Nat} {R : Nat → Nat → Nat} (ho : o < 14) (hc : c ≤ 14) : pX1_remember (nI o) (nI c) (nI (N 0)) (nI (N 1)) (nI (N 2)) (nI (N 3)) (nI (N 4)) (nI (N 5)) (nI (N 6)) (rI (exR N)) (rI (scR N)) (rI (seR N)) (rgD R) = some (nI (if c < 14 then o else (o + 1) % 14), nI (if c < 14 then c + 1 else 14), rgD (va_up R ((o + c) % 14) N)) := by
  have go : ∀ o2 c2, o2 + c2 < 100 → 1 ≤ c2 → (o2 + (c2 - 1)) % 14 = (o + c) % 14 → pX1_remember_35 (nI o2) (nI c2) (nI (N 0)) (nI (N 1)) (nI (N 2)) (nI (N 3)) (nI (N 4)) (nI (N 5)) (nI (N 6)) (rI (exR N)) (rI (scR N)) (rI (seR N)) (rgD R) = some (nI o2, nI c2, rgD (va_up R ((o + c) % 14) N)) := by
    intro o2 c2 h1 h2 h3
    unfold pX1_remember_35 pX1_remember_55
    rw [zsub h2, qX1_memory (by omega), ob, h3]
    have hcp : ∀ k, pX0_copy (rgD R k 3 0) (rgD R k 3 1) (rgD R k 3 2) (rgD R k 3 3) (rgD R k 3 4) (rgD R k 3 5) (rgD R k 3 6) (rgD R k 0) (rgD R k 1) (rgD R k 2) (nI (N 0)) (nI (N 1)) (nI (N 2)) (nI (N 3)) (nI (N 4)) (nI (N 5)) (nI (N 6)) (rI (exR N)) (rI (scR N)) (rI (seR N)) = some (nI (N 0), nI (N 1), nI (N 2), nI (N 3), nI (N 4), nI (N 5), nI (N 6), rI (exR N), rI (scR N), rI (seR N)) := fun k => qX0_copy (N := R k)
    rw [hcp, ob, if_pos (by omega), ← rgD_up]
    rfl
  unfold pX1_remember
  by_cases h : c < 14
  · rw [if_neg (fun h2 => by have := (zle (by omega) (by omega)).mp h2; omega), if_pos h, if_pos h, zadd]
    exact go o (c + 1) (by omega) (by omega) (by omega)
  · rw [if_pos ((zle (by omega) (by omega)).mpr (by omega)), if_neg h, if_neg h, zadd, zrem (by omega) (by omega) (by omega), show c = 14 from by omega]
    rw [show c = 14 from by omega] at go
    exact go ((o + 1) % 14) 14 (by omega) (by omega) (by omega)
theorem qX1_takeBack {o c : Nat} {N : Nat → Nat} {R : Nat → Nat → Nat} (ho : o < 14) (hc : c ≤ 14) (hc0 : 0 < c) : pX1_takeBack (nI o) (nI c) (nI (N 0)) (nI (N 1)) (nI (N 2)) (nI (N 3)) (nI (N 4)) (nI (N 5)) (nI (N 6)) (rI (exR N)) (rI (scR N)) (rI (seR N)) (rgD R) = some (nI (c - 1), nI (c - 1), FT (R ((o + (c - 1)) % 14))) := by
  unfold pX1_takeBack pX1_takeBack_37
  rw [zsub hc0, qX1_memory (by omega), ob, if_neg (fun h => by have := (zle0 (by omega)).mp h; omega)]
  have hcp : ∀ k, pX0_copy (nI (N 0)) (nI (N 1)) (nI (N 2)) (nI (N 3)) (nI (N 4)) (nI (N 5)) (nI (N 6)) (rI (exR N)) (rI (scR N)) (rI (seR N)) (rgD R k 3 0) (rgD R k 3 1) (rgD R k 3 2) (rgD R k 3 3) (rgD R k 3 4) (rgD R k 3 5) (rgD R k 3 6) (rgD R k 0) (rgD R k 1) (rgD R k 2) = some (FT (R k)) := fun k => qX0_copy (M := R k)
  rw [hcp, ob, if_pos (by omega)]
/-- the diary as a row -/
def diN (D : Nat → Nat → Nat) : Nat → Nat := fun j => if j < 2296 then D (j / 164) (j % 164) else 0
def shD (D : Nat → Nat → Nat) : Nat → Nat → Nat := fun i => if i < 13 then D (i + 1) else D i
theorem cpK_di {D : Nat → Nat → Nat} {N : Nat → Nat} {c : Nat} (hc : c < 14) : cpK (rI N) (rI (diN D)) 0 (164 * c) 164 = rI (diN (va_up D c N)) := by
  funext j
  unfold cpK
  by_cases h : 164 * c ≤ j ∧ j < 164 * c + 164
  · rw [if_pos h, rI_at, rI_at]
    unfold diN va_up
    rw [if_pos (by omega), if_pos (by omega), show 0 + (j - 164 * c) = j % 164 from by omega]
  · rw [if_neg h, rI_at, rI_at]
    unfold diN va_up
    by_cases h2 : j < 2296
    · rw [if_pos h2, if_pos h2, if_neg (by omega)]
    · rw [if_neg h2, if_neg h2]
theorem cpK_undo {D : Nat → Nat → Nat} {N : Nat → Nat} {a : Nat} (ha : a < 14) (hD : Z164 (D a)) (hN : Z164 N) : cpK (rI (diN D)) (rI N) (164 * a) 0 164 = rI (D a) := by
  funext j
  unfold cpK
  by_cases h : 0 ≤ j ∧ j < 0 + 164
  · rw [if_pos h, rI_at, rI_at]
    unfold diN
    rw [if_pos (by omega), show (164 * a + (j - 0)) / 164 = a from by omega, show (164 * a + (j - 0)) % 164 = j from by omega]
  · rw [if_neg h, rI_at, rI_at, hN j (by omega), hD j (by omega)]
def shK (D : Nat → Nat → Nat) (i : Nat) : Nat → Nat := fun j => if j < i then diN D (j + 164) else diN D j
theorem shK_step (D : Nat → Nat → Nat) (i : Nat) : nset (shK D i) i (diN D (i + 164)) = shK D (i + 1) := by
  funext j
  unfold nset shK
  by_cases h : j = i
  · rw [if_pos h, if_pos (by omega), h]
  · rw [if_neg h]
    by_cases h2 : j < i
    · rw [if_pos h2, if_pos (by omega)]
    · rw [if_neg h2, if_neg (by omega)]
theorem shK_end (D : Nat → Nat → Nat) : shK D 2132 = diN (shD D) := by
  funext j
  unfold shK diN shD
  by_cases h : j < 2132
  · rw [if_pos h, if_pos (by omega), if_pos (by omega), if_pos (by omega), show (j + 164) / 164 = j / 164 + 1 from by omega, show (j + 164) % 164 = j % 164 from by omega]
  · rw [if_neg h]
    by_cases h2 : j < 2296
    · rw [if_pos h2, if_pos h2, if_neg (by omega)]
    · rw [if_neg h2, if_neg h2]
/-- what the diary holds behind one more -/
def reD (D : Nat → Nat → Nat) (c : Nat) (N : Nat → Nat) : Nat → Nat → Nat := if c < 14 then va_up D c N else va_up (shD D) 13 N
theorem qX8_remember {c : Nat} {N : Nat → Nat} {D : Nat → Nat → Nat} (hc : c ≤ 14) : pX8_remember (nI c) (rI N) (rI (diN D)) = some (nI (if c < 14 then c + 1 else 14), rI (diN (reD D c N))) := by
  have go : ∀ c2 D2, c2 < 14 → pX8_remember_50 (nI c2) (rI N) (rI (diN D2)) = some (nI (c2 + 1), rI (diN (va_up D2 c2 N))) := by
    intro c2 D2 h
    unfold pX8_remember_50
    rw [zmul, qX8_copyState (by omega) (by omega) (by omega) (by omega), ob, cpK_di h, zadd]
  have sh : ∀ (k i : Nat), i ≤ 2132 → 2132 - i < k → pX8_remember_11 k (nI 14) (rI N) (rI (shK D i)) (nI i) = some (nI 14, rI (diN (va_up (shD D) 13 N))) := by
    intro k
    induction k with
    | zero => intro i h1 h2; omega
    | succ k ih =>
      intro i h1 h2
      rw [pX8_remember_11]
      by_cases hi : 2132 ≤ i
      · rw [if_pos ((zle (by omega) (by omega)).mpr hi), show i = 2132 from by omega, shK_end, zsub (by omega)]
        exact go 13 _ (by omega)
      · rw [if_neg (fun h => hi ((zle (by omega) (by omega)).mp h)), zadd, if_pos ((znb (by omega)).mpr (by omega)), if_pos ((znb (by omega)).mpr (by omega)), zcl (by omega), zcl (by omega), rI_at, rI_upd, zadd]
        rw [show shK D i (i + 164) = diN D (i + 164) from by unfold shK; rw [if_neg (by omega)], shK_step]
        exact ih (i + 1) (by omega) (by omega)
  unfold pX8_remember reD
  by_cases h : c < 14
  · rw [if_neg (fun h2 => by have := (zeq (by omega) (by omega)).mp h2; omega), if_pos h, if_pos h]
    exact go c D h
  · rw [if_pos ((zeq (by omega) (by omega)).mpr (by omega)), if_neg h, if_neg h, show c = 14 from by omega]
    have h2 := sh FU 0 (by omega) (by unfold FU; omega)
    rw [show shK D 0 = diN D from by funext j; unfold shK; rw [if_neg (by omega)]] at h2
    exact h2
/-- ring and diary agree -/
def HR (o c : Nat) (R D : Nat → Nat → Nat) : Prop := o < 14 ∧ c ≤ 14 ∧ ∀ i, i < c → R ((o + i) % 14) = D i
theorem HR_rem {o c : Nat} {R D : Nat → Nat → Nat} {N : Nat → Nat} (h : HR o c R D) : HR (if c < 14 then o else (o + 1) % 14) (if c < 14 then c + 1 else 14) (va_up R ((o + c) % 14) N) (reD D c N) := by
  obtain ⟨h1, h2, h3⟩ := h
  unfold reD
  by_cases hc : c < 14
  · rw [if_pos hc, if_pos hc, if_pos hc]
    refine ⟨h1, by omega, fun i hi => ?_⟩
    by_cases hic : i = c
    · subst hic
      rw [va_up_self, va_up_self]
    · rw [va_up_ne _ _ (by omega), va_up_ne _ _ hic]
      exact h3 i (by omega)
  · rw [if_neg hc, if_neg hc, if_neg hc]
    refine ⟨by omega, by omega, fun i hi => ?_⟩
    by_cases hic : i = 13
    · subst hic
      rw [va_up_self, show ((o + 1) % 14 + 13) % 14 = (o + c) % 14 from by omega, va_up_self]
    · rw [va_up_ne _ _ (by omega), va_up_ne _ _ hic]
      unfold shD
      rw [if_pos (by omega), show ((o + 1) % 14 + i) % 14 = (o + (i + 1)) % 14 from by omega]
      exact h3 (i + 1) (by omega)
theorem HR_pop {o c : Nat} {R D : Nat → Nat → Nat} (h : HR o c R D) : HR o (c - 1) R D := ⟨h.1, by have := h.2.1; omega, fun i hi => h.2.2 i (by omega)⟩
theorem HR_no {o c : Nat} {R D : Nat → Nat → Nat} (h : HR o c R D) : HR o 0 R D := ⟨h.1, by omega, fun i hi => by omega⟩
/-- kept states as a row -/
def kpN (K : Nat → Nat → Nat) : Nat → Nat := fun j => if j < 328 then K (j / 164) (j % 164) else 0
theorem cpK_keep {K : Nat → Nat → Nat} {N : Nat → Nat} {c : Nat} (hc : c < 2) : cpK (rI N) (rI (kpN K)) 0 (164 * c) 164 = rI (kpN (va_up K c N)) := by
  funext j
  unfold cpK
  by_cases h : 164 * c ≤ j ∧ j < 164 * c + 164
  · rw [if_pos h, rI_at, rI_at]
    unfold kpN va_up
    rw [if_pos (by omega), if_pos (by omega), show 0 + (j - 164 * c) = j % 164 from by omega]
  · rw [if_neg h, rI_at, rI_at]
    unfold kpN va_up
    by_cases h2 : j < 328
    · rw [if_pos h2, if_pos h2, if_neg (by omega)]
    · rw [if_neg h2, if_neg h2]
theorem cpK_back {K : Nat → Nat → Nat} {N : Nat → Nat} {a : Nat} (ha : a < 2) (hD : Z164 (K a)) (hN : Z164 N) : cpK (rI (kpN K)) (rI N) (164 * a) 0 164 = rI (K a) := by
  funext j
  unfold cpK
  by_cases h : 0 ≤ j ∧ j < 0 + 164
  · rw [if_pos h, rI_at, rI_at]
    unfold kpN
    rw [if_pos (by omega), show (164 * a + (j - 0)) / 164 = a from by omega, show (164 * a + (j - 0)) % 164 = j from by omega]
  · rw [if_neg h, rI_at, rI_at, hN j (by omega), hD j (by omega)]

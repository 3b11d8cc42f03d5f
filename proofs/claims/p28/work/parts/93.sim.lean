/-! ===== simulate ===== -/
def rOf (z : Int64) : Nat := z.toBitVec.toNat / 8589934592
theorem rOf_lt (z : Int64) : rOf z < 2147483648 := by
  have := z.toBitVec.isLt
  unfold rOf
  omega
theorem rOf_eq (z : Int64) : ((z.toUInt64 >>> ((nI 33).toInt64.toUInt64 &&& Int64.toUInt64 63)).toInt64).toInt32 = nI (rOf z) := by
  have h : (z.toUInt64 >>> ((nI 33).toInt64.toUInt64 &&& Int64.toUInt64 63)).toInt64 = lN (rOf z) := by
    apply Int64.toBitVec_inj.mp
    apply BitVec.eq_of_toNat_eq
    have hs : ((((nI 33).toInt64.toUInt64 &&& Int64.toUInt64 63).toBitVec) % 64).toNat = 33 := by decide +kernel
    show ((z.toUInt64 >>> ((nI 33).toInt64.toUInt64 &&& Int64.toUInt64 63)).toBitVec).toNat = (BitVec.ofNat 64 (rOf z)).toNat
    rw [UInt64.toBitVec_shiftRight, BitVec.ushiftRight_eq', BitVec.toNat_ushiftRight, hs]
    show z.toBitVec.toNat >>> 33 = _
    have h2 := rOf_lt z
    rw [BitVec.toNat_ofNat, Nat.mod_eq_of_lt (by omega), Nat.shiftRight_eq_div_pow]
    rfl
  rw [h, lN_i]
/-- the next number -/
def nxX (x : Int64) : Int64 := x * 6364136223846793005 + 1442695040888963407
theorem nxX_eq (x : Int64) : x * 6364136223846793005 + 1442695040888963407 = nxX x := rfl
/-- r turns -/
def smG (f : Int64 → Int64) (g : Int64 → Nat) : Nat → Int64 → (Nat → Nat) → (Nat → Nat)
  | 0, _, N => N
  | r + 1, x, N => smG f g r (f x) (turnN N (g (f x)))
theorem smG_s (f : Int64 → Int64) (g : Int64 → Nat) (r : Nat) (x : Int64) (N : Nat → Nat) : smG f g (r + 1) x N = smG f g r (f x) (turnN N (g (f x))) := by rw [smG]
def smN (r : Nat) (x : Int64) (N : Nat → Nat) : Nat → Nat := smG nxX rOf r x N
theorem smN_0 (x : Int64) (N : Nat → Nat) : smN 0 x N = N := by unfold smN; rw [smG]
theorem smN_s (r : Nat) (x : Int64) (N : Nat → Nat) : smN (r + 1) x N = smN r (nxX x) (turnN N (rOf (nxX x))) := by unfold smN; rw [smG_s]
theorem smN_inv : ∀ (r t : Nat) (x : Int64) (N : Nat → Nat), Inv t N → t + r ≤ 10000 → Inv (t + r) (smN r x N) := by
  intro r
  induction r with
  | zero => intro t x N h _; rw [smN_0]; exact h
  | succ r ih =>
    intro t x N h ht
    rw [smN_s]
    exact (ih (t + 1) _ _ (Inv_turn h (by omega)) (by omega)).mono (by omega)
def smV (N M : Nat → Nat) : Int32 := nI 10000 * (nI (shU M (M 1)) - nI (shU N (N 1))) + (if nI 9999 < nI (M 5) - nI (N 5) then nI 9999 else nI (M 5) - nI (N 5))
theorem qX7_simulate_27 {t0 m : Nat} {N : Nat → Nat} (h0 : Inv t0 N) (hm : m ≤ 60) : ∀ (k r i t : Nat) (x : Int64) (M : Nat → Nat), Inv t M → t + r ≤ 10000 → i + r = m → r < k → pX7_simulate_27 k (nI (N 0)) (nI (N 1)) (nI (N 2)) (nI (N 3)) (nI (N 4)) (nI (N 5)) (nI (N 6)) (rI (exR N)) (rI (scR N)) (rI (seR N)) (nI (M 0)) (nI (M 1)) (nI (M 2)) (nI (M 3)) (nI (M 4)) (nI (M 5)) (nI (M 6)) (rI (exR M)) (rI (scR M)) (rI (seR M)) (nI m) x (nI i) = some (.inr (smV N (smN r x M), FT (smN r x M))) := by
  intro k
  induction k with
  | zero => intro r i t x M h ht h1 h2; omega
  | succ k ih =>
    intro r i t x M h ht h1 h2
    rw [pX7_simulate_27_s]
    unfold pX7_simulate_71 pX0_allPenalties
    cases r with
    | zero =>
      rw [if_pos ((zle (by omega) (by omega)).mpr (by omega)), qX0_shotScenes h, ob, qX0_shotScenes h0, ob, ob, ob, smN_0]
      unfold smV FT
      rfl
    | succ r =>
      rw [if_neg (fun h => by have := (zle (by omega) (by omega)).mp h; omega), if_neg (fun h => by have := (zle (by omega) (by omega)).mp h; omega), nxX_eq, rOf_eq, qX3_turn h (by omega) (rOf_lt _), ob, zadd, smN_s]
      exact ih r (i + 1) (t + 1) _ _ (Inv_turn h (by omega)) (by omega) (by omega) (by omega)
theorem qX8_simulate_45 {t0 m : Nat} {N : Nat → Nat} (h0 : Inv t0 N) (hm : m ≤ 60) : ∀ (k r i t : Nat) (x : Int64) (M : Nat → Nat), Inv t M → t + r ≤ 10000 → i + r = m → r < k → pX8_simulate_45 k (nI 0) (rI N) (rI M) (nI m) x (nI i) = some (smV N (smN r x M), nI 0, rI (smN r x M)) := by
  intro k
  induction k with
  | zero => intro r i t x M h ht h1 h2; omega
  | succ k ih =>
    intro r i t x M h ht h1 h2
    rw [pX8_simulate_45]
    unfold pX8_simulate_132
    cases r with
    | zero =>
      have e5 : (nI 5).toNatClampNeg = 5 := by decide
      rw [if_pos ((zle (by omega) (by omega)).mpr (by omega)), if_pos (by decide), if_pos (by decide), qX8_shots h.sn, ob, qX8_shots h0.sn, ob, e5, rI_at, rI_at]
      rw [smN_0]
      unfold smV
      by_cases c : nI 9999 < nI (M 5) - nI (N 5)
      · rw [if_neg (Int32.not_le.mpr c), if_pos c]
      · rw [if_pos (Int32.not_lt.mp c), if_neg c]
    | succ r =>
      rw [if_neg (fun h => by have := (zle (by omega) (by omega)).mp h; omega), nxX_eq, rOf_eq, qX8_turn h (by omega) (rOf_lt _), ob, zadd, smN_s]
      exact ih r (i + 1) (t + 1) _ _ (Inv_turn h (by omega)) (by omega) (by omega) (by omega)
theorem c_simulate (rf x : Int32) (z : Int64) {t : Nat} {N M M' : Nat → Nat} (h : Inv t N) (ht : t < 9900) (hM : Z164 M) :
    (pX7_simulate (nI (N 0)) (nI (N 1)) (nI (N 2)) (nI (N 3)) (nI (N 4)) (nI (N 5)) (nI (N 6)) (rI (exR N)) (rI (scR N)) (rI (seR N)) (nI (M' 0)) (nI (M' 1)) (nI (M' 2)) (nI (M' 3)) (nI (M' 4)) (nI (M' 5)) (nI (M' 6)) (rI (exR M')) (rI (scR M')) (rI (seR M')) z x = some (.inl 0) ∧ pX8_simulate rf (rI N) (rI M) z x = some (nI 0, nI 1, rI M)) ∨
    ∃ v M2, Z164 M2 ∧ pX7_simulate (nI (N 0)) (nI (N 1)) (nI (N 2)) (nI (N 3)) (nI (N 4)) (nI (N 5)) (nI (N 6)) (rI (exR N)) (rI (scR N)) (rI (seR N)) (nI (M' 0)) (nI (M' 1)) (nI (M' 2)) (nI (M' 3)) (nI (M' 4)) (nI (M' 5)) (nI (M' 6)) (rI (exR M')) (rI (scR M')) (rI (seR M')) z x = some (.inr (v, FT M2)) ∧ pX8_simulate rf (rI N) (rI M) z x = some (v, nI 0, rI M2) := by
  unfold pX7_simulate pX8_simulate pX8_simulate_18
  by_cases hx : ((1 : Nat) : Int) ≤ x.toInt ∧ x.toInt ≤ ((60 : Nat) : Int)
  · right
    have ⟨c1, c2⟩ := inC1 (A := 1) (B := 60) (by omega) (by omega) (by decide) (by decide) hx
    obtain ⟨m, hm, hm1, hm2⟩ := in_nat hx
    rw [hm] at c1 c2
    have f1 := qX7_simulate_27 h hm2 FU m 0 t z N h (by omega) (by omega) (by unfold FU; omega)
    have f2 := qX8_simulate_45 h hm2 FU m 0 t z N h (by omega) (by omega) (by unfold FU; omega)
    have hI := smN_inv m t z N h (by omega)
    refine ⟨smV N (smN m z N), smN m z N, hI.bz, ?_, ?_⟩
    · rw [hm]
      simp only [c1, ob, rA1, eR, qX0_copy]
      exact f1
    · rw [hm]
      simp only [c2, ob, if_neg nI1, rf0, if_pos nI0, qX8_copyAll h.bz hM]
      exact f2
  · left
    have ⟨c1, c2⟩ := inC0 (A := 1) (B := 60) (by omega) (by omega) (by decide) (by decide) hx
    refine ⟨?_, ?_⟩
    · simp only [c1, ob, rA0, eL]
    · simp only [c2, ob, if_pos nI0, rf1, if_neg nI1]

/-! ===== Integer.bitCount, the lowest of a set, the least worked ===== -/
theorem zushr {a k : Nat} (ha : a < 4294967296) (hk : k < 32) : ((nI a).toUInt32 >>> ((nI k).toUInt32 &&& Int32.toUInt32 31)).toInt32 = nI (a / 2 ^ k) := by
  apply Int32.toBitVec_inj.mp
  apply BitVec.eq_of_toNat_eq
  have hs : ∀ k, k < 32 → (((nI k).toUInt32 &&& Int32.toUInt32 31).toBitVec % 32).toNat = k := by decide +kernel
  show (((nI a).toUInt32 >>> ((nI k).toUInt32 &&& Int32.toUInt32 31)).toBitVec).toNat = (BitVec.ofNat 32 (a / 2 ^ k)).toNat
  rw [UInt32.toBitVec_shiftRight, BitVec.ushiftRight_eq', BitVec.toNat_ushiftRight, hs k hk]
  show (BitVec.ofNat 32 a).toNat >>> k = _
  have h2 : a / 2 ^ k ≤ a := Nat.div_le_self _ _
  rw [BitVec.toNat_ofNat, BitVec.toNat_ofNat, Nat.mod_eq_of_lt (by omega), Nat.mod_eq_of_lt (by omega), Nat.shiftRight_eq_div_pow]
def bcF (a : Nat) : Nat :=
  let y1 := a - ((a / 2 ^ 1) &&& 1431655765)
  let y2 := (y1 &&& 858993459) + ((y1 / 2 ^ 2) &&& 858993459)
  let y3 := (y2 + y2 / 2 ^ 4) &&& 252645135
  let y4 := y3 + y3 / 2 ^ 8
  let y5 := y4 + y4 / 2 ^ 16
  y5 &&& 63
theorem qJ6_bitCountF {a : Nat} (ha : a < 16384) : pJ6_bitCount_0f7a4 (nI a) = some (nI (bcF a)) := by
  have a1 : (a / 2 ^ 1) &&& 1431655765 ≤ a := Nat.le_trans Nat.and_le_left (Nat.div_le_self _ _)
  have b1 : a - ((a / 2 ^ 1) &&& 1431655765) < 16384 := by omega
  have h2 : ∀ y : Nat, y < 16384 → (y &&& 858993459) + ((y / 2 ^ 2) &&& 858993459) < 40000 := by
    intro y hy
    have p1 : y &&& 858993459 ≤ y := Nat.and_le_left
    have p2 : (y / 2 ^ 2) &&& 858993459 ≤ y := Nat.le_trans Nat.and_le_left (Nat.div_le_self _ _)
    omega
  have b2 := h2 _ b1
  have h3 : ∀ y : Nat, y < 40000 → (y + y / 2 ^ 4) &&& 252645135 < 80000 := by
    intro y hy
    have p1 : (y + y / 2 ^ 4) &&& 252645135 ≤ y + y / 2 ^ 4 := Nat.and_le_left
    have p2 : y / 2 ^ 4 ≤ y := Nat.div_le_self _ _
    omega
  have b3 := h3 _ b2
  have h4 : ∀ y : Nat, y < 80000 → y + y / 2 ^ 8 < 160000 := by
    intro y hy
    have p2 : y / 2 ^ 8 ≤ y := Nat.div_le_self _ _
    omega
  have b4 := h4 _ b3
  unfold pJ6_bitCount_0f7a4 bcF
  simp (disch := first | assumption | omega) only [zushr, zand, zsub, zadd]
def chkB : Nat → Nat → Bool
  | 0, b => Nat.beq (bcF b) (bcN b 14)
  | d + 1, b => chkB d b && chkB d (b + 2 ^ d)
theorem chkB_sound : ∀ (d b : Nat), chkB d b = true → ∀ a, b ≤ a → a < b + 2 ^ d → bcF a = bcN a 14 := by
  intro d
  induction d with
  | zero =>
    intro b h a h1 h2
    have : a = b := by simp at h2; omega
    subst this
    exact Nat.eq_of_beq_eq_true h
  | succ d ih =>
    intro b h a h1 h2
    unfold chkB at h
    rw [Bool.and_eq_true] at h
    by_cases h3 : a < b + 2 ^ d
    · exact ih b h.1 a h1 h3
    · exact ih (b + 2 ^ d) h.2 a (by omega) (by rw [Nat.pow_succ] at h2; omega)
theorem chkB_all : chkB 14 0 = true := by decide +kernel
theorem qJ6_bitCount {a : Nat} (ha : a < 16384) : pJ6_bitCount_0f7a4 (nI a) = some (nI (bcN a 14)) := by
  rw [qJ6_bitCountF ha, chkB_sound 14 0 chkB_all a (by omega) (by omega)]

/-! ===== small naturals in Int32 ===== -/

theorem zlt {a b : Nat} (ha : a < 2147483648) (hb : b < 2147483648) : (nI a < nI b) ↔ a < b := nI_ltI ha hb
theorem zle {a b : Nat} (ha : a < 2147483648) (hb : b < 2147483648) : (nI a ≤ nI b) ↔ a ≤ b := nI_leI ha hb
theorem zeq {a b : Nat} (ha : a < 2147483648) (hb : b < 2147483648) : (nI a = nI b) ↔ a = b := nI_eq ha hb
theorem z0 : (0 : Int32) = nI 0 := rfl
theorem zlt0 {a : Nat} (ha : a < 2147483648) : (nI a < 0) ↔ False := by rw [z0, zlt ha (by decide)]; simp
theorem zle0 {a : Nat} (ha : a < 2147483648) : (nI a ≤ 0) ↔ a = 0 := by rw [z0, zle ha (by decide)]; omega
theorem z0le {a : Nat} (ha : a < 2147483648) : (0 ≤ nI a) ↔ True := by rw [z0, zle (by decide) ha]; simp
theorem z0lt {a : Nat} (ha : a < 2147483648) : (0 < nI a) ↔ 0 < a := by rw [z0, zlt (by decide) ha]
theorem zeq0 {a : Nat} (ha : a < 2147483648) : (nI a = 0) ↔ a = 0 := by rw [z0, zeq ha (by decide)]
theorem znb {a n : Nat} (ha : a < 2147483648) : (nb (nI a) n = true) ↔ a < n := by
  rw [nb_iff, nI_toInt ha]
  omega
theorem zcl {a : Nat} (ha : a < 2147483648) : (nI a).toNatClampNeg = a := nI_clamp ha
theorem zof (n : Nat) : Int32.ofNat n = nI n := rfl
theorem zadd (a b : Nat) : nI a + nI b = nI (a + b) := nI_add a b
theorem zmul (a b : Nat) : nI a * nI b = nI (a * b) := pk_mul a b
theorem zsub {a b : Nat} (h : b ≤ a) : nI a - nI b = nI (a - b) := pk_sub h
theorem zdiv {a d : Nat} (ha : a < 2147483648) (h0 : 0 < d) (hd : d < 2147483648) : nI a / nI d = nI (a / d) := pk_div ha h0 hd
theorem zrem {a d : Nat} (ha : a < 2147483648) (h0 : 0 < d) (hd : d < 2147483648) : nI a - nI a / nI d * nI d = nI (a % d) := pk_rem ha h0 hd
theorem zor (a b : Nat) : nI a ||| nI b = nI (a ||| b) := fa_or a b
theorem zand (a b : Nat) : nI a &&& nI b = nI (a &&& b) := fa_and a b
theorem zbz0 : bz (nI 0) = some (nI 0) := rfl
theorem zbz1 : bz (nI 1) = some (nI 1) := rfl
theorem zsh {k : Nat} (hk : k < 32) : nI k &&& 31 = nI k := by
  have h : nI k &&& nI 31 = nI (k % 2 ^ 5) := fa_mask k 5
  rw [Nat.mod_eq_of_lt (show k < 2 ^ 5 by omega)] at h
  exact h
theorem zshl {a k : Nat} (hk : k < 32) : nI a <<< (nI k &&& 31) = nI (a * 2 ^ k) := by
  apply Int32.toBitVec_inj.mp
  apply BitVec.eq_of_toNat_eq
  have hs : ((nI k &&& 31).toBitVec.smod 32).toNat = k := by
    rw [zsh hk]
    revert k
    decide +kernel
  rw [pk_shl (nI a) _ k hs]
  show (BitVec.ofNat 32 a).toNat * 2 ^ k % 2 ^ 32 = (BitVec.ofNat 32 (a * 2 ^ k)).toNat
  rw [BitVec.toNat_ofNat, BitVec.toNat_ofNat]
  exact Nat.mod_mul_mod _ _ _
theorem zhas {a k : Nat} (ha : a < 2147483648) (hk : k < 31) : ((nI a >>> (nI k &&& 31)) &&& nI 1 = nI 1) ↔ a.testBit k = true := by
  have hs : ((nI k &&& 31).toBitVec.smod 32).toNat = k := by
    rw [zsh (by omega)]
    have : ∀ k, k < 31 → ((nI k).toBitVec.smod 32).toNat = k := by decide +kernel
    exact this k hk
  rw [pk_shrN ha _ k hs, zand, zeq (by have := Nat.and_le_right (n := a / 2 ^ k) (m := 1); omega) (by decide), Nat.testBit_eq_decide_div_mod_eq, Nat.and_one_is_mod]
  simp
/-- a row of naturals as the machine's row -/
def rI (N : Nat → Nat) : Nat → Int32 := fun j => nI (N j)
theorem rI_at (N : Nat → Nat) (j : Nat) : rI N j = nI (N j) := rfl
/-- a changed cell -/
def nset (N : Nat → Nat) (k v : Nat) : Nat → Nat := fun j => if j = k then v else N j
theorem rI_upd (N : Nat → Nat) (k v : Nat) : upd (rI N) k (nI v) = rI (nset N k v) := by
  funext j
  by_cases h : j = k
  · subst h; simp [rI, nset, upd]
  · simp [rI, nset, upd, h]
theorem qX8_of {N : Nat → Nat} {e k : Nat} (h : 10 + 6 * e + k < 164) : pX8_of (rI N) (nI e) (nI k) = some (nI (N (10 + 6 * e + k))) := by
  unfold pX8_of
  simp (disch := omega) only [zadd, zmul, znb, zcl, if_pos, rI_at]

/-! ===== sets as naturals, the invariant of a film's row ===== -/
theorem nset_eq (N : Nat → Nat) (k v : Nat) : nset N k v k = v := by unfold nset; rw [if_pos rfl]
theorem nset_ne (N : Nat → Nat) {k j : Nat} (v : Nat) (h : j ≠ k) : nset N k v j = N j := by unfold nset; rw [if_neg h]
/-- those below n with P, as a set -/
def setU (P : Nat → Bool) : Nat → Nat
  | 0 => 0
  | n + 1 => setU P n ||| (if P n then 2 ^ n else 0)
theorem setU_bit (P : Nat → Bool) : ∀ n k, (setU P n).testBit k = (decide (k < n) && P k) := by
  intro n
  induction n with
  | zero => intro k; simp [setU]
  | succ n ih =>
    intro k
    unfold setU
    rw [Nat.testBit_or, ih]
    by_cases h : k = n
    · subst h
      cases hP : P k <;> simp
    · have h1 : decide (k < n + 1) = decide (k < n) := by
        by_cases h2 : k < n
        · rw [decide_eq_true h2, decide_eq_true (by omega)]
        · rw [decide_eq_false h2, decide_eq_false (by omega)]
      rw [h1]
      have h2 : (if P n = true then 2 ^ n else 0).testBit k = false := by
        split
        · rw [Nat.testBit_two_pow]
          exact decide_eq_false (fun h3 => h h3.symm)
        · exact Nat.zero_testBit k
      rw [h2, Bool.or_false]
theorem setU_lt (P : Nat → Bool) : ∀ n, n ≤ 14 → setU P n < 16384 := by
  intro n
  induction n with
  | zero => intro _; simp [setU]
  | succ n ih =>
    intro h
    unfold setU
    refine or14 (ih (by omega)) ?_
    split
    · exact pw14 (by omega)
    · omega
theorem setU_congr {P Q : Nat → Bool} : ∀ n, (∀ k, k < n → P k = Q k) → setU P n = setU Q n := by
  intro n
  induction n with
  | zero => intro _; rfl
  | succ n ih =>
    intro h
    unfold setU
    rw [ih (fun k hk => h k (by omega)), h n (by omega)]
theorem tb14 {a k : Nat} (ha : a < 16384) (hk : 14 ≤ k) : a.testBit k = false :=
  Nat.testBit_lt_two_pow (Nat.lt_of_lt_of_le (show a < 2 ^ 14 from ha) (Nat.pow_le_pow_right (by decide) hk))
theorem eq14 {a b : Nat} (ha : a < 16384) (hb : b < 16384) (h : ∀ k, k < 14 → a.testBit k = b.testBit k) : a = b := by
  apply Nat.eq_of_testBit_eq
  intro k
  by_cases hk : k < 14
  · exact h k hk
  · rw [tb14 ha (by omega), tb14 hb (by omega)]
theorem nIbit (a : Nat) {k : Nat} (hk : k < 32) : (nI a).toBitVec.getLsbD k = a.testBit k := by
  show (BitVec.ofNat 32 a).getLsbD k = a.testBit k
  rw [BitVec.getLsbD_ofNat, decide_eq_true hk, Bool.true_and]
theorem eqbit {x y : Int32} (h : ∀ k, k < 32 → x.toBitVec.getLsbD k = y.toBitVec.getLsbD k) : x = y := by
  apply Int32.toBitVec_inj.mp
  apply BitVec.eq_of_getLsbD_eq
  exact h
theorem m1bit {k : Nat} (hk : k < 32) : (-1 : Int32).toBitVec.getLsbD k = true := by
  have : ∀ k, k < 32 → (-1 : Int32).toBitVec.getLsbD k = true := by decide
  exact this k hk
theorem notbit (x : Int32) {k : Nat} (hk : k < 32) : (x ^^^ (-1)).toBitVec.getLsbD k = !x.toBitVec.getLsbD k := by
  rw [Int32.toBitVec_xor, BitVec.getLsbD_xor, m1bit hk, Bool.xor_true]
theorem andbit (x y : Int32) (k : Nat) : (x &&& y).toBitVec.getLsbD k = (x.toBitVec.getLsbD k && y.toBitVec.getLsbD k) := by
  rw [Int32.toBitVec_and, BitVec.getLsbD_and]
theorem orbit (x y : Int32) (k : Nat) : (x ||| y).toBitVec.getLsbD k = (x.toBitVec.getLsbD k || y.toBitVec.getLsbD k) := by
  rw [Int32.toBitVec_or, BitVec.getLsbD_or]
/-- those of a that are not in b -/
def dif (a b : Nat) : Nat := setU (fun k => a.testBit k && !b.testBit k) 14
theorem dif_lt (a b : Nat) : dif a b < 16384 := setU_lt _ 14 (by omega)
theorem dif_bit {a b k : Nat} (ha : a < 16384) : (dif a b).testBit k = (a.testBit k && !b.testBit k) := by
  unfold dif
  rw [setU_bit]
  by_cases hk : k < 14
  · rw [decide_eq_true hk, Bool.true_and]
  · rw [decide_eq_false hk, tb14 ha (by omega)]; rfl
theorem zdif {a b : Nat} (ha : a < 16384) : nI a &&& (nI b ^^^ (-1)) = nI (dif a b) := by
  apply eqbit
  intro k hk
  rw [andbit, notbit _ hk, nIbit _ hk, nIbit _ hk, nIbit _ hk, dif_bit ha]
/-- the half hours begun beyond six hours -/
def allN (x : Nat) : Nat := (x - 360 + 29) / 30
/-- what stands fast of a film's row behind at most t steps -/
def Inv (t : Nat) (N : Nat → Nat) : Prop :=
  (N 0 ≤ 14 ∧ N 1 ≤ 10) ∧
  (N 2 ≤ 40000 * t ∧ N 3 ≤ 40000 * t ∧ N 4 ≤ 40000 * t ∧ N 5 ≤ 40000 * t ∧ N 6 ≤ 40000 * t) ∧
  (240 ≤ N 7 ∧ N 7 ≤ 960 ∧ N 8 ≤ 99 ∧ N 9 ≤ 99) ∧
  (∀ e, e < 14 → N (10 + 6 * e + 0) < 5 ∧ N (10 + 6 * e + 1) < 14 ∧ N (10 + 6 * e + 2) ≤ 960 ∧ N (10 + 6 * e + 3) ≤ N (10 + 6 * e + 2) ∧ N (10 + 6 * e + 4) ≤ allN (N (10 + 6 * e + 3)) ∧ N (10 + 6 * e + 5) ≤ 40000 * t) ∧
  (∀ s, s < 10 → N (94 + 7 * s + 0) < 5 ∧ N (94 + 7 * s + 1) ≤ 6 ∧ N (94 + 7 * s + 2) < 10 ∧ N (94 + 7 * s + 3) < 4 ∧ N (94 + 7 * s + 4) ≤ 240 ∧ N (94 + 7 * s + 5) ≤ 1 ∧ N (94 + 7 * s + 6) < 16384 ∧ (N (94 + 7 * s + 5) = 0 ↔ N (94 + 7 * s + 6) = 0) ∧ (s < N 1 → 1 ≤ N (94 + 7 * s + 1))) ∧
  (∀ e k, N 0 ≤ e → e < 14 → k < 6 → N (10 + 6 * e + k) = 0) ∧
  (∀ s k, N 1 ≤ s → s < 10 → k < 7 → N (94 + 7 * s + k) = 0) ∧
  (∀ j, 164 ≤ j → N j = 0)
theorem Inv.ec {t : Nat} {N : Nat → Nat} (h : Inv t N) : N 0 ≤ 14 := h.1.1
theorem Inv.sn {t : Nat} {N : Nat → Nat} (h : Inv t N) : N 1 ≤ 10 := h.1.2
theorem Inv.tot {t : Nat} {N : Nat → Nat} (h : Inv t N) : N 2 ≤ 40000 * t ∧ N 3 ≤ 40000 * t ∧ N 4 ≤ 40000 * t ∧ N 5 ≤ 40000 * t ∧ N 6 ≤ 40000 * t := h.2.1
theorem Inv.set {t : Nat} {N : Nat → Nat} (h : Inv t N) : 240 ≤ N 7 ∧ N 7 ≤ 960 ∧ N 8 ≤ 99 ∧ N 9 ≤ 99 := h.2.2.1
theorem Inv.ex {t : Nat} {N : Nat → Nat} (h : Inv t N) : ∀ e, e < 14 → N (10 + 6 * e + 0) < 5 ∧ N (10 + 6 * e + 1) < 14 ∧ N (10 + 6 * e + 2) ≤ 960 ∧ N (10 + 6 * e + 3) ≤ N (10 + 6 * e + 2) ∧ N (10 + 6 * e + 4) ≤ allN (N (10 + 6 * e + 3)) ∧ N (10 + 6 * e + 5) ≤ 40000 * t := h.2.2.2.1
theorem Inv.sc {t : Nat} {N : Nat → Nat} (h : Inv t N) : ∀ s, s < 10 → N (94 + 7 * s + 0) < 5 ∧ N (94 + 7 * s + 1) ≤ 6 ∧ N (94 + 7 * s + 2) < 10 ∧ N (94 + 7 * s + 3) < 4 ∧ N (94 + 7 * s + 4) ≤ 240 ∧ N (94 + 7 * s + 5) ≤ 1 ∧ N (94 + 7 * s + 6) < 16384 ∧ (N (94 + 7 * s + 5) = 0 ↔ N (94 + 7 * s + 6) = 0) ∧ (s < N 1 → 1 ≤ N (94 + 7 * s + 1)) := h.2.2.2.2.1
theorem Inv.ez {t : Nat} {N : Nat → Nat} (h : Inv t N) : ∀ e k, N 0 ≤ e → e < 14 → k < 6 → N (10 + 6 * e + k) = 0 := h.2.2.2.2.2.1
theorem Inv.sz {t : Nat} {N : Nat → Nat} (h : Inv t N) : ∀ s k, N 1 ≤ s → s < 10 → k < 7 → N (94 + 7 * s + k) = 0 := h.2.2.2.2.2.2.1
theorem Inv.bz {t : Nat} {N : Nat → Nat} (h : Inv t N) : ∀ j, 164 ≤ j → N j = 0 := h.2.2.2.2.2.2.2
theorem Inv.sm0 {t : Nat} {N : Nat → Nat} (h : Inv t N) (ht : t ≤ 10000) : ∀ j, N j ≤ 400000000 := by
  intro j
  by_cases h1 : j < 10
  · have a := h.ec
    have b := h.sn
    have c := h.tot
    have d := h.set
    have e : j = 0 ∨ j = 1 ∨ j = 2 ∨ j = 3 ∨ j = 4 ∨ j = 5 ∨ j = 6 ∨ j = 7 ∨ j = 8 ∨ j = 9 := by omega
    rcases e with e | e | e | e | e | e | e | e | e | e <;> subst e <;> omega
  · by_cases h2 : j < 94
    · have hx := h.ex ((j - 10) / 6) (by omega)
      unfold allN at hx
      have e : j = 10 + 6 * ((j - 10) / 6) + 0 ∨ j = 10 + 6 * ((j - 10) / 6) + 1 ∨ j = 10 + 6 * ((j - 10) / 6) + 2 ∨ j = 10 + 6 * ((j - 10) / 6) + 3 ∨ j = 10 + 6 * ((j - 10) / 6) + 4 ∨ j = 10 + 6 * ((j - 10) / 6) + 5 := by omega
      rcases e with e | e | e | e | e | e <;> rw [e] <;> omega
    · by_cases h3 : j < 164
      · have hx := h.sc ((j - 94) / 7) (by omega)
        have e : j = 94 + 7 * ((j - 94) / 7) + 0 ∨ j = 94 + 7 * ((j - 94) / 7) + 1 ∨ j = 94 + 7 * ((j - 94) / 7) + 2 ∨ j = 94 + 7 * ((j - 94) / 7) + 3 ∨ j = 94 + 7 * ((j - 94) / 7) + 4 ∨ j = 94 + 7 * ((j - 94) / 7) + 5 ∨ j = 94 + 7 * ((j - 94) / 7) + 6 := by omega
        rcases e with e | e | e | e | e | e | e <;> rw [e] <;> omega
      · have := h.bz j (by omega)
        omega
theorem Inv.sm {t : Nat} {N : Nat → Nat} (h : Inv t N) (ht : t ≤ 10000) : Sm N := by
  refine ⟨fun j => ?_, h.ec, h.sn, fun e he => (h.ex e he).2.1, fun e he => ?_, fun s hs => ?_, ?_, fun s hs => (h.sc s hs).2.2.2.2.2.2.1⟩
  · have := h.sm0 ht j; omega
  · have := (h.ex e he).2.2.1; omega
  · have := (h.sc s hs).2.2.2.2.1; omega
  · have := h.set; omega
theorem Inv.mono {t u : Nat} {N : Nat → Nat} (h : Inv t N) (htu : t ≤ u) : Inv u N := by
  refine ⟨h.1, ?_, h.2.2.1, fun e he => ?_, h.2.2.2.2⟩
  · have := h.tot; omega
  · have := h.ex e he; omega

/-! ===== the lowest of a set, the least worked ===== -/
theorem bcN_or {c e : Nat} (hc : c.testBit e = false) : ∀ n, bcN (c ||| 2 ^ e) n = bcN c n + (if e < n then 1 else 0) := by
  intro n
  induction n with
  | zero => rfl
  | succ n ih =>
    rw [bcN, bcN, ih, Nat.testBit_or, Nat.testBit_two_pow]
    by_cases h : e = n
    · subst h
      rw [hc, decide_eq_true rfl]
      simp
    · rw [decide_eq_false h, Bool.or_false]
      by_cases h2 : e < n
      · rw [if_pos (c := e < n) h2, if_pos (c := e < n + 1) (by omega)]; omega
      · rw [if_neg (c := e < n) h2, if_neg (c := e < n + 1) (by omega)]; rfl
/-- the first of r from e on with P -/
def fsP (P : Nat → Bool) : Nat → Nat → Option Nat
  | 0, _ => none
  | r + 1, e => if P e = true then some e else fsP P r (e + 1)
theorem fsP_none {P : Nat → Bool} : ∀ {r e : Nat}, fsP P r e = none → ∀ j, e ≤ j → j < e + r → P j = false := by
  intro r
  induction r with
  | zero => intro e _ j h1 h2; omega
  | succ r ih =>
    intro e h j h1 h2
    unfold fsP at h
    by_cases hP : P e = true
    · rw [if_pos hP] at h; cases h
    · rw [if_neg hP] at h
      by_cases he : j = e
      · subst he; simpa using hP
      · exact ih h j (by omega) (by omega)
theorem fsP_some {P : Nat → Bool} : ∀ {r e b : Nat}, fsP P r e = some b → e ≤ b ∧ b < e + r ∧ P b = true ∧ ∀ j, e ≤ j → j < b → P j = false := by
  intro r
  induction r with
  | zero => intro e b h; simp [fsP] at h
  | succ r ih =>
    intro e b h
    unfold fsP at h
    by_cases hP : P e = true
    · rw [if_pos hP] at h
      cases h
      exact ⟨by omega, by omega, hP, fun j h1 h2 => by omega⟩
    · rw [if_neg hP] at h
      have ⟨h1, h2, h3, h4⟩ := ih h
      refine ⟨by omega, by omega, h3, fun j h5 h6 => ?_⟩
      by_cases he : j = e
      · subst he; simpa using hP
      · exact h4 j (by omega) h6
theorem lowN_fs {N : Nat → Nat} {s f : Nat} : ∀ r e, lowN N s f r e = fsP (fun e => decide (N (10 + 6 * e + 1) = f) && frB N s e) r e := by
  intro r
  induction r with
  | zero => intro e; rfl
  | succ r ih =>
    intro e
    rw [lowN, fsP, ih]
    by_cases h1 : N (10 + 6 * e + 1) = f
    · by_cases h2 : frB N s e = true
      · rw [if_pos ⟨h1, h2⟩, if_pos (by rw [decide_eq_true h1, h2]; rfl)]
      · rw [if_neg (fun h => h2 h.2), if_neg (by rw [show frB N s e = false from by simpa using h2, Bool.and_false]; decide)]
    · rw [if_neg (fun h => h1 h.1), if_neg (by rw [decide_eq_false h1, Bool.false_and]; decide)]
def oP : Option Nat → Nat
  | none => 0
  | some e => 2 ^ e
theorem lowbit {P : Nat → Bool} {n : Nat} (hn : n ≤ 14) : nI (setU P n) &&& -nI (setU P n) = nI (oP (fsP P n 0)) := by
  apply eqbit
  intro k hk
  rw [andbit, Int32.toBitVec_neg, BitVec.getLsbD_neg, nIbit _ hk, nIbit _ hk]
  cases h : fsP P n 0 with
  | none =>
    have hn0 : (setU P n).testBit k = false := by
      rw [setU_bit]
      by_cases h2 : k < n
      · rw [fsP_none h k (by omega) (by omega), Bool.and_false]
      · rw [decide_eq_false h2, Bool.false_and]
    rw [hn0, Bool.false_and]
    exact (Nat.zero_testBit k).symm
  | some e =>
    have ⟨_, h2, h3, h4⟩ := fsP_some h
    show _ = (2 ^ e).testBit k
    rw [Nat.testBit_two_pow]
    by_cases hke : e = k
    · subst hke
      have h5 : (setU P n).testBit e = true := by rw [setU_bit, decide_eq_true (show e < n by omega), h3]; rfl
      have h6 : ¬ ∃ j, j < e ∧ (nI (setU P n)).toBitVec.getLsbD j = true := by
        rintro ⟨j, h7, h8⟩
        rw [nIbit _ (by omega), setU_bit, h4 j (by omega) h7, Bool.and_false] at h8
        cases h8
      rw [h5, decide_eq_true rfl, decide_eq_true hk, decide_eq_false h6]
      rfl
    · rw [decide_eq_false hke]
      by_cases h7 : k < e
      · have h5 : (setU P n).testBit k = false := by rw [setU_bit, h4 k (by omega) h7, Bool.and_false]
        rw [h5, Bool.false_and]
      · have h6 : ∃ j, j < k ∧ (nI (setU P n)).toBitVec.getLsbD j = true := by
          refine ⟨e, by omega, ?_⟩
          rw [nIbit _ (by omega), setU_bit, decide_eq_true (show e < n by omega), h3]; rfl
        rw [decide_eq_true hk, decide_eq_true h6]
        cases (setU P n).testBit k <;> rfl
def lwP (N : Nat → Nat) (P : Nat → Bool) : Nat → Option Nat
  | 0 => none
  | e + 1 => match lwP N P e with
    | none => if P e = true then some e else none
    | some b => if P e = true ∧ N (10 + 6 * e + 2) < N (10 + 6 * b + 2) then some e else some b
theorem lwP_some {N : Nat → Nat} {P : Nat → Bool} : ∀ {n b : Nat}, lwP N P n = some b → b < n ∧ P b = true := by
  intro n
  induction n with
  | zero => intro b h; simp [lwP] at h
  | succ n ih =>
    intro b h
    unfold lwP at h
    cases hq : lwP N P n with
    | none =>
      rw [hq] at h
      dsimp only at h
      split at h
      · cases h; rename_i hp; exact ⟨by omega, hp⟩
      · cases h
    | some b0 =>
      rw [hq] at h
      dsimp only at h
      split at h
      · cases h; rename_i hp; exact ⟨by omega, hp.1⟩
      · cases h; have := ih hq; exact ⟨by omega, this.2⟩
theorem lwP_none {N : Nat → Nat} {P : Nat → Bool} : ∀ {n : Nat}, lwP N P n = none → ∀ j, j < n → P j = false := by
  intro n
  induction n with
  | zero => intro _ j h; omega
  | succ n ih =>
    intro h j hj
    unfold lwP at h
    cases hq : lwP N P n with
    | none =>
      rw [hq] at h
      dsimp only at h
      by_cases hp : P n = true
      · rw [if_pos hp] at h; cases h
      · by_cases hjn : j = n
        · subst hjn; simpa using hp
        · exact ih hq j (by omega)
    | some b0 =>
      rw [hq] at h
      dsimp only at h
      split at h <;> cases h
theorem lwP_congr {N : Nat → Nat} {P Q : Nat → Bool} : ∀ {n : Nat}, (∀ e, e < n → P e = Q e) → lwP N P n = lwP N Q n := by
  intro n
  induction n with
  | zero => intro _; rfl
  | succ n ih => intro h; rw [lwP, lwP, ih (fun e he => h e (by omega)), h n (by omega)]
theorem frsN_lw {N : Nat → Nat} {s fs : Nat} : ∀ n, frsN N s fs n = lwP N (fun e => frB N s e && !fs.testBit (N (10 + 6 * e + 1))) n := by
  intro n
  induction n with
  | zero => rfl
  | succ n ih =>
    rw [frsN, lwP, ih]
    have hc : (frB N s n = true ∧ fs.testBit (N (10 + 6 * n + 1)) = false) ↔ (frB N s n && !fs.testBit (N (10 + 6 * n + 1))) = true := by
      cases frB N s n <;> cases fs.testBit (N (10 + 6 * n + 1)) <;> simp
    cases lwP N (fun e => frB N s e && !fs.testBit (N (10 + 6 * e + 1))) n with
    | none => simp only [hc]
    | some b =>
      dsimp only
      simp only [← and_assoc, hc]
theorem qX0_leastWorked_4 {N : Nat → Nat} {P : Nat → Bool} {x : Int32} (hS : Sm N) (hP : ∀ e, e < 14 → x.toBitVec.getLsbD e = P e) : ∀ (k e : Nat), e ≤ N 0 → N 0 - e < k → pX0_leastWorked_4 k (nI (N 0)) (rI (exR N)) x (oI (lwP N P e)) (nI e) = some (nI (oP (lwP N P (N 0)))) := by
  have hN := hS.2.1
  intro k
  induction k with
  | zero => intro e h1 h2; omega
  | succ k ih =>
    intro e h1 h2
    rw [pX0_leastWorked_4_s]
    by_cases he : N 0 ≤ e
    · rw [if_pos ((zle (by omega) (by omega)).mpr he), show e = N 0 from by omega]
      unfold pX0_leastWorked_66
      cases hq : lwP N P (N 0) with
      | none => rw [show oI none = -1 from rfl, if_pos rfl]; rfl
      | some b =>
        have := (lwP_some hq).1
        rw [show oI (some b) = nI b from rfl, if_neg (fun h => (zm1 (by omega)).mp h), zshl (by omega), Nat.one_mul]; rfl
    · have h3 := ih (e + 1) (by omega) (by omega)
      rw [if_neg (fun h => he ((zle (by omega) (by omega)).mp h)), qX7_has x (by omega), ob, hP e (by omega)]
      unfold pX0_leastWorked_46 pX0_leastWorked_48
      rw [lwP] at h3
      by_cases hb : P e = true
      · rw [if_pos hb, if_neg (by rw [zeq0 (by decide)]; decide)]
        cases hq : lwP N P e with
        | none =>
          rw [hq] at h3
          dsimp only at h3
          rw [if_pos hb] at h3
          rw [show oI none = -1 from rfl, if_pos rfl, zadd]
          exact h3
        | some b =>
          have hbe := (lwP_some hq).1
          have w1 := hS.2.2.2.2.1 b (by omega)
          have w2 := hS.2.2.2.2.1 e (by omega)
          rw [hq] at h3
          dsimp only at h3
          rw [show oI (some b) = nI b from rfl, if_neg (fun h => (zm1 (by omega)).mp h), gE (by omega) (by omega), ob, gE (by omega) (by omega), ob, zadd]
          by_cases hd : N (10 + 6 * b + 2) ≤ N (10 + 6 * e + 2)
          · rw [if_neg (fun h => by omega)] at h3
            rw [if_pos ((zle (by omega) (by omega)).mpr hd)]
            exact h3
          · rw [if_pos ⟨hb, by omega⟩] at h3
            rw [if_neg (fun h => hd ((zle (by omega) (by omega)).mp h))]
            exact h3
      · rw [if_neg hb, if_pos (by rw [zeq0 (by decide)]), zadd]
        cases hq : lwP N P e with
        | none =>
          rw [hq] at h3
          dsimp only at h3
          rw [if_neg hb] at h3
          exact h3
        | some b =>
          rw [hq] at h3
          dsimp only at h3
          rw [if_neg (fun h => hb h.1)] at h3
          exact h3
theorem qX0_leastWorked {N : Nat → Nat} (P : Nat → Bool) {x : Int32} (hS : Sm N) (hP : ∀ e, e < 14 → x.toBitVec.getLsbD e = P e) : pX0_leastWorked (nI (N 0)) (rI (exR N)) x = some (nI (oP (lwP N P (N 0)))) :=
  qX0_leastWorked_4 hS hP FU 0 (by omega) (by have := hS.2.1; unfold FU; omega)

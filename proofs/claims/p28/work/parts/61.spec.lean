/-! ===== what the reference's small functions answer, on a row of small naturals ===== -/
theorem ob {α β : Type} (a : α) (f : α → Option β) : (some a).bind f = f a := rfl
theorem qX8_lay {N : Nat → Nat} {e k v : Nat} (h : 10 + 6 * e + k < 164) : pX8_lay (rI N) (nI e) (nI k) (nI v) = some (rI (nset N (10 + 6 * e + k) v)) := by
  unfold pX8_lay
  simp (disch := omega) only [zadd, zmul, znb, zcl, if_pos, rI_upd]
theorem qX8_told {N : Nat → Nat} {s k : Nat} (h : 94 + 7 * s + k < 164) : pX8_told (rI N) (nI s) (nI k) = some (nI (N (94 + 7 * s + k))) := by
  unfold pX8_told
  simp (disch := omega) only [zadd, zmul, znb, zcl, if_pos, rI_at]
theorem qX8_has {c k : Nat} (hc : c < 2147483648) (hk : k < 31) : pX8_has (nI c) (nI k) = some (nI (if c.testBit k then 1 else 0)) := by
  unfold pX8_has
  simp only [zhas hc hk]
  by_cases h : c.testBit k = true
  · rw [if_pos h, if_pos h]; rfl
  · rw [if_neg h, if_neg h]; rfl
/-- the faces of a set of extras, of those below n -/
def fcsU (N : Nat → Nat) (c : Nat) : Nat → Nat
  | 0 => 0
  | n + 1 => fcsU N c n ||| (if c.testBit n then 2 ^ N (10 + 6 * n + 1) else 0)
theorem qX8_facesOf_4 {N : Nat → Nat} {c : Nat} (hN : N 0 ≤ 14) (hf : ∀ e, e < 14 → N (10 + 6 * e + 1) < 14) (hc : c < 2147483648) : ∀ (k e : Nat), e ≤ N 0 → N 0 - e < k → pX8_facesOf_4 k (rI N) (nI c) (nI (fcsU N c e)) (nI e) = some (nI (fcsU N c (N 0))) := by
  intro k
  induction k with
  | zero => intro e h1 h2; omega
  | succ k ih =>
    intro e h1 h2
    rw [pX8_facesOf_4_s]
    by_cases he : N 0 ≤ e
    · have e1 : e = N 0 := by omega
      simp (disch := omega) only [znb, zcl, rI_at, zle, if_pos, e1]
    · have hfe := hf e (by omega)
      have h3 := ih (e + 1) (by omega) (by omega)
      unfold pX8_facesOf_32
      simp (disch := omega) only [znb, zcl, rI_at, zle, if_pos, if_neg, he, qX8_has hc, ob, qX8_of, zshl, zor, zadd, Nat.one_mul]
      by_cases hb : c.testBit e = true
      · simp (disch := omega) only [hb, if_pos, zeq0, if_neg, Nat.one_ne_zero, not_false_eq_true, if_true, if_false]
        rw [show fcsU N c (e + 1) = fcsU N c e ||| 2 ^ N (10 + 6 * e + 1) from by simp [fcsU, hb]] at h3
        exact h3
      · simp (disch := omega) only [hb, zeq0, if_true, if_false]
        rw [show fcsU N c (e + 1) = fcsU N c e ||| 0 from by simp [fcsU, hb]] at h3
        exact h3
theorem qX8_facesOf {N : Nat → Nat} {c : Nat} (hN : N 0 ≤ 14) (hf : ∀ e, e < 14 → N (10 + 6 * e + 1) < 14) (hc : c < 2147483648) : pX8_facesOf (rI N) (nI c) = some (nI (fcsU N c (N 0))) :=
  qX8_facesOf_4 hN hf hc FU 0 (by omega) (by unfold FU; omega)
theorem qX8_fits {N : Nat → Nat} {s e : Nat} (hB : ∀ j, N j < 2147483648) (hs : s < 10) (he : e < 14) : pX8_fits (rI N) (nI s) (nI e) = some (nI (if N (10 + 6 * e + 0) = N (94 + 7 * s + 0) then 1 else 0)) := by
  have h1 := hB (10 + 6 * e + 0)
  have h2 := hB (94 + 7 * s + 0)
  unfold pX8_fits pX8_fits_20
  simp (disch := omega) only [qX8_of, qX8_told, ob, zeq]
  by_cases h : N (10 + 6 * e + 0) = N (94 + 7 * s + 0)
  · rw [if_pos h, if_pos h]; rfl
  · rw [if_neg h, if_neg h]; rfl
theorem qX8_hasTime {N : Nat → Nat} {s e : Nat} (h1 : N (10 + 6 * e + 2) < 100000) (h2 : N (94 + 7 * s + 4) < 100000) (h3 : N 7 < 100000) (hs : s < 10) (he : e < 14) : pX8_hasTime (rI N) (nI s) (nI e) = some (nI (if N (10 + 6 * e + 2) + N (94 + 7 * s + 4) ≤ N 7 then 1 else 0)) := by
  unfold pX8_hasTime pX8_hasTime_25
  simp (disch := omega) only [qX8_of, qX8_told, ob, znb, zcl, if_pos, rI_at, zadd, zlt]
  by_cases h : N (10 + 6 * e + 2) + N (94 + 7 * s + 4) ≤ N 7
  · rw [if_pos h, if_neg (by omega)]; rfl
  · rw [if_neg h, if_pos (by omega)]; rfl
/-- the row's cells are small -/
def Sm (N : Nat → Nat) : Prop := (∀ j, N j < 2147483648) ∧ N 0 ≤ 14 ∧ N 1 ≤ 10 ∧ (∀ e, e < 14 → N (10 + 6 * e + 1) < 14) ∧ (∀ e, e < 14 → N (10 + 6 * e + 2) < 100000) ∧ (∀ s, s < 10 → N (94 + 7 * s + 4) < 100000) ∧ N 7 < 100000 ∧ ∀ s, s < 10 → N (94 + 7 * s + 6) < 16384
def frB (N : Nat → Nat) (s e : Nat) : Bool := decide (N (10 + 6 * e + 0) = N (94 + 7 * s + 0)) && decide (N (10 + 6 * e + 2) + N (94 + 7 * s + 4) ≤ N 7)
theorem qX8_isFree {N : Nat → Nat} {s e : Nat} (hS : Sm N) (hs : s < 10) (he : e < 14) : pX8_isFree (rI N) (nI s) (nI e) = some (nI (if frB N s e then 1 else 0)) := by
  unfold pX8_isFree pX8_isFree_22 pX8_isFree_23
  rw [qX8_fits hS.1 hs he, ob]
  by_cases h1 : N (10 + 6 * e + 0) = N (94 + 7 * s + 0)
  · rw [if_pos h1, if_neg (by rw [zeq0 (by decide)]; decide), qX8_hasTime (hS.2.2.2.2.1 e he) (hS.2.2.2.2.2.1 s hs) hS.2.2.2.2.2.2.1 hs he, ob]
    by_cases h2 : N (10 + 6 * e + 2) + N (94 + 7 * s + 4) ≤ N 7
    · rw [if_pos h2, if_neg (by rw [zeq0 (by decide)]; decide), if_pos (by unfold frB; rw [decide_eq_true h1, decide_eq_true h2]; rfl)]; rfl
    · rw [if_neg h2, if_pos (by rw [zeq0 (by decide)]), if_neg (by unfold frB; rw [decide_eq_false h2, Bool.and_false]; decide)]; rfl
  · rw [if_neg h1, if_pos (by rw [zeq0 (by decide)]), if_neg (by unfold frB; rw [decide_eq_false h1, Bool.false_and]; decide)]; rfl
/-- an extra, or none, as the machine tells it -/
def oI : Option Nat → Int32
  | none => -1
  | some e => nI e
def lowN (N : Nat → Nat) (s f : Nat) : Nat → Nat → Option Nat
  | 0, _ => none
  | r + 1, e => if N (10 + 6 * e + 1) = f ∧ frB N s e = true then some e else lowN N s f r (e + 1)
theorem qX8_lowestWith_2 {N : Nat → Nat} {s f : Nat} (hS : Sm N) (hs : s < 10) (hf : f < 14) : ∀ (k r e : Nat), e + r = N 0 → r < k → pX8_lowestWith_2 k (rI N) (nI s) (nI f) (nI e) = some (oI (lowN N s f r e)) := by
  have hN := hS.2.1
  intro k
  induction k with
  | zero => intro r e h1 h2; omega
  | succ k ih =>
    intro r e h1 h2
    rw [pX8_lowestWith_2_s]
    cases r with
    | zero =>
      have e1 : e = N 0 := by omega
      simp (disch := omega) only [znb, zcl, rI_at, zle, if_pos, e1]
      rfl
    | succ r =>
      have h3 := ih r (e + 1) (by omega) (by omega)
      have hB := hS.1 (10 + 6 * e + 1)
      unfold pX8_lowestWith_30
      simp (disch := omega) only [znb, zcl, rI_at, zle, if_pos, if_neg, qX8_of, ob, zeq, zadd, qX8_isFree hS hs]
      by_cases hb : N (10 + 6 * e + 1) = f
      · by_cases hc : frB N s e = true
        · simp (disch := omega) only [hb, hc, if_pos, zeq0, Nat.one_ne_zero, if_true, if_false]
          rw [show lowN N s f (r + 1) e = some e from by simp [lowN, hb, hc]]
          rfl
        · simp (disch := omega) only [hb, hc, zeq0, if_true, if_false]
          rw [show lowN N s f (r + 1) e = lowN N s f r (e + 1) from by simp [lowN, hc]]
          exact h3
      · simp (disch := omega) only [hb, if_false]
        rw [show lowN N s f (r + 1) e = lowN N s f r (e + 1) from by simp [lowN, hb]]
        exact h3
theorem qX8_lowestWith {N : Nat → Nat} {s f : Nat} (hS : Sm N) (hs : s < 10) (hf : f < 14) : pX8_lowestWith (rI N) (nI s) (nI f) = some (oI (lowN N s f (N 0) 0)) :=
  qX8_lowestWith_2 hS hs hf FU (N 0) 0 (by omega) (by have := hS.2.1; unfold FU; omega)
/-- of those below e: the best so far -/
def frsN (N : Nat → Nat) (s fs : Nat) : Nat → Option Nat
  | 0 => none
  | e + 1 => match frsN N s fs e with
    | none => if frB N s e = true ∧ fs.testBit (N (10 + 6 * e + 1)) = false then some e else none
    | some b => if frB N s e = true ∧ fs.testBit (N (10 + 6 * e + 1)) = false ∧ N (10 + 6 * e + 2) < N (10 + 6 * b + 2) then some e else some b
theorem frsN_lt {N : Nat → Nat} {s fs : Nat} : ∀ {e b : Nat}, frsN N s fs e = some b → b < e := by
  intro e
  induction e with
  | zero => intro b h; simp [frsN] at h
  | succ e ih =>
    intro b h
    unfold frsN at h
    cases hp : frsN N s fs e with
    | none =>
      rw [hp] at h
      dsimp only at h
      split at h
      · cases h; omega
      · cases h
    | some b0 =>
      rw [hp] at h
      dsimp only at h
      have := ih hp
      split at h
      · cases h; omega
      · cases h; omega
theorem zm1 {a : Nat} (ha : a < 2147483648) : (nI a = -1) ↔ False := by
  constructor
  · intro h
    have h2 := congrArg Int32.toInt h
    rw [nI_toInt ha] at h2
    have h3 : (-1 : Int32).toInt = -1 := by decide
    omega
  · exact False.elim
theorem qX8_freshest_5 {N : Nat → Nat} {s fs : Nat} (hS : Sm N) (hs : s < 10) (hfs : fs < 2147483648) : ∀ (k e : Nat), e ≤ N 0 → N 0 - e < k → pX8_freshest_5 k (rI N) (nI s) (nI fs) (oI (frsN N s fs e)) (nI e) = some (oI (frsN N s fs (N 0))) := by
  have hN := hS.2.1
  intro k
  induction k with
  | zero => intro e h1 h2; omega
  | succ k ih =>
    intro e h1 h2
    rw [pX8_freshest_5_s]
    by_cases he : N 0 ≤ e
    · have e1 : e = N 0 := by omega
      simp (disch := omega) only [znb, zcl, rI_at, zle, if_pos, e1]
    · have h3 := ih (e + 1) (by omega) (by omega)
      have hf := hS.2.2.2.1 e (by omega)
      have hw := hS.2.2.2.2.1 e (by omega)
      unfold pX8_freshest_41 pX8_freshest_42 pX8_freshest_75 pX8_freshest_70 pX8_freshest_76
      simp (disch := omega) only [znb, zcl, rI_at, zle, if_pos, if_neg, he, qX8_of, ob, zadd, qX8_isFree hS hs, qX8_has hfs, zeq0, Nat.zero_ne_one, Nat.one_ne_zero, if_true, if_false]
      by_cases hb : frB N s e = true
      · simp (disch := omega) only [hb, if_true, zeq0, Nat.one_ne_zero, if_false]
        by_cases hc : fs.testBit (N (10 + 6 * e + 1)) = true
        · rw [show frsN N s fs (e + 1) = frsN N s fs e from by cases hq : frsN N s fs e <;> simp [frsN, hq, hc]] at h3
          simp only [hc, if_true, Nat.one_ne_zero, if_false]
          exact h3
        · simp only [hc, if_true, if_false]
          cases hq : frsN N s fs e with
          | none =>
            rw [show frsN N s fs (e + 1) = some e from by simp [frsN, hq, hb, hc]] at h3
            simp only [oI, if_true]
            exact h3
          | some b =>
            have hbe := frsN_lt hq
            have hwb := hS.2.2.2.2.1 b (by omega)
            simp (disch := omega) only [oI, zm1, if_false, qX8_of, ob, zle]
            by_cases hd : N (10 + 6 * b + 2) ≤ N (10 + 6 * e + 2)
            · rw [show frsN N s fs (e + 1) = some b from by simp [frsN, hq, hb, hc]; omega] at h3
              rw [if_pos hd]
              exact h3
            · rw [show frsN N s fs (e + 1) = some e from by simp [frsN, hq, hb, hc]; omega] at h3
              rw [if_neg hd]
              exact h3
      · rw [show frsN N s fs (e + 1) = frsN N s fs e from by cases hq : frsN N s fs e <;> simp [frsN, hq, hb]] at h3
        simp only [hb, if_true, if_false, zeq0 (show (0 : Nat) < 2147483648 by decide)]
        exact h3
theorem qX8_freshest {N : Nat → Nat} {s fs : Nat} (hS : Sm N) (hs : s < 10) (hfs : fs < 2147483648) : pX8_freshest (rI N) (nI s) (nI fs) = some (oI (frsN N s fs (N 0))) :=
  qX8_freshest_5 hS hs hfs FU 0 (by omega) (by have := hS.2.1; unfold FU; omega)

/-! ===== the commands of the text ===== -/
/-- digits, least, greatest of a letter's i-th number -/
def trF (y i : Nat) : Nat × Nat × Nat := ((fLs y).getD (3 * i) 0, (fLs y).getD (3 * i + 1) 0, (fLs y).getD (3 * i + 2) 0)
def nT (y : Nat) : Nat := fLn y / 3
theorem nT_len : ∀ y, y < 4 → fLn y = 3 * nT y := by decide
theorem nT_le : ∀ y, y < 4 → nT y ≤ 5 := by decide
theorem trF_ok : ∀ y, y < 4 → ∀ i, i < nT y → ((trF y i).1 = 1 ∨ (trF y i).1 = 2 ∨ (trF y i).1 = 3) ∧ (trF y i).2.1 < 1000 ∧ (trF y i).2.2 < 1000 := by
  intro y hy
  have : y = 0 ∨ y = 1 ∨ y = 2 ∨ y = 3 := by omega
  rcases this with h | h | h | h <;> subst h <;> decide
/-- r numbers, the i-th being the first, from sp on -/
def fldP (y : Nat) (T : Nat → Nat) (L : Nat) : Nat → Nat → Nat → Option (List Nat) × Nat
  | 0, _, sp => (some [], sp)
  | r + 1, i, sp => match figL T L (trF y i).2.1 (trF y i).2.2 (trF y i).1 0 sp with
    | (none, p) => (none, p)
    | (some v, p) => match fldP y T L r (i + 1) p with
      | (none, q) => (none, q)
      | (some vs, q) => (some (v :: vs), q)
def sumT (y : Nat) : Nat → Nat → Nat
  | 0, _ => 0
  | r + 1, i => (trF y i).1 + sumT y r (i + 1)
def yOf (c : Nat) : Nat := if c = 101 then 0 else if c = 103 then 2 else if c = 115 then 1 else 3
def isC (c : Nat) : Bool := decide (c = 101) || decide (c = 103) || decide (c = 109) || decide (c = 110) || decide (c = 115)
def cmdP (T : Nat → Nat) (L sp : Nat) : Option (List Nat) × Nat := if isC (T sp) = true then fldP (yOf (T sp)) T L (nT (yOf (T sp))) 0 (sp + 1) else (none, sp)
theorem yOf_lt (c : Nat) : yOf c < 4 := by
  unfold yOf
  split
  · omega
  · split
    · omega
    · split <;> omega
theorem fldP_le {y : Nat} {T : Nat → Nat} {L : Nat} (hy : y < 4) : ∀ (r i sp : Nat) (o : Option (List Nat)) (q : Nat), i + r = nT y → sp ≤ L → fldP y T L r i sp = (o, q) → q ≤ L ∧ (o ≠ none → q = sp + sumT y r i) := by
  intro r
  induction r with
  | zero => intro i sp o q _ hs h; unfold fldP at h; cases h; exact ⟨hs, fun _ => by simp [sumT]⟩
  | succ r ih =>
    intro i sp o q hir hs h
    have ht := (trF_ok y hy i (by omega)).1
    rw [fldP] at h
    cases hf : figL T L (trF y i).2.1 (trF y i).2.2 (trF y i).1 0 sp with
    | mk o1 p1 =>
      rw [hf] at h
      cases o1 with
      | none =>
        cases h
        exact ⟨figL_none _ _ _ _ hf hs, fun h => absurd rfl h⟩
      | some v =>
        have ⟨g1, g2⟩ := figL_good _ _ _ _ _ hf
        have g3 := (g2 (by omega)).2.2
        dsimp only at h
        cases hf2 : fldP y T L r (i + 1) p1 with
        | mk o2 p2 =>
          rw [hf2] at h
          have ⟨k1, k2⟩ := ih (i + 1) p1 o2 p2 (by omega) g3 hf2
          cases o2 with
          | none => cases h; exact ⟨k1, fun h => absurd rfl h⟩
          | some vs =>
            cases h
            refine ⟨k1, fun _ => ?_⟩
            have := k2 (fun h => by cases h)
            rw [sumT]
            omega
theorem cmdP_le {T : Nat → Nat} {L sp : Nat} {o : Option (List Nat)} {q : Nat} (hs : sp < L) (h : cmdP T L sp = (o, q)) : q ≤ L ∧ (o ≠ none → q = sp + 1 + sumT (yOf (T sp)) (nT (yOf (T sp))) 0) := by
  unfold cmdP at h
  by_cases hc : isC (T sp) = true
  · rw [if_pos hc] at h
    exact fldP_le (yOf_lt _) _ _ _ _ _ (by omega) (by omega) h
  · rw [if_neg hc] at h
    cases h
    exact ⟨by omega, fun h => absurd rfl h⟩
/-! ===== the class's side ===== -/
theorem qX6_isCommand {c : Nat} (hc : c < 1000) : pX6_isCommand (nI c) = some (nI (if isC c = true then 1 else 0)) := by
  have kk : ∀ n, n < 1000 → ((nI c = nI n) ↔ c = n) := fun n hn => zeq (by omega) (by omega)
  unfold pX6_isCommand pX6_isCommand_30 pX6_isCommand_35
  simp (disch := omega) only [kk]
  unfold isC
  by_cases h1 : c = 101
  · subst h1; rfl
  by_cases h2 : c = 115
  · subst h2; rfl
  by_cases h3 : c = 103
  · subst h3; rfl
  by_cases h4 : c = 109
  · subst h4; rfl
  by_cases h5 : c = 110
  · subst h5; rfl
  rw [if_neg h1, if_neg h2, if_neg h3, if_neg h4, if_neg h5, decide_eq_false h1, decide_eq_false h2, decide_eq_false h3, decide_eq_false h4, decide_eq_false h5]
  rfl
theorem qX6_fieldsOf {c : Nat} (hc : c < 1000) : pX6_fieldsOf (nI c) = some (yOf c) := by
  have kk : ∀ n, n < 1000 → ((nI c = nI n) ↔ c = n) := fun n hn => zeq (by omega) (by omega)
  unfold pX6_fieldsOf yOf
  simp (disch := omega) only [kk]
  by_cases h1 : c = 101
  · rw [if_pos h1, if_pos h1]
  rw [if_neg h1, if_neg h1]
  by_cases h2 : c = 103
  · rw [if_pos h2, if_pos h2]
  rw [if_neg h2, if_neg h2]
  by_cases h3 : c = 115
  · rw [if_pos h3, if_pos h3]
  rw [if_neg h3, if_neg h3]
theorem fRw_tr (y i : Nat) : fRw y (3 * i) = nI (trF y i).1 ∧ fRw y (3 * i + 1) = nI (trF y i).2.1 ∧ fRw y (3 * i + 2) = nI (trF y i).2.2 := ⟨rfl, rfl, rfl⟩
theorem qX6_commandError_29 {T : Nat → Nat} {L y : Nat} (hT : ∀ j, T j < 1000) (hL : L ≤ 120) (hy : y < 4) : ∀ (k r i sp : Nat), i + r = nT y → r < k → sp ≤ L → pX6_commandError_29 k (nI L) (rI T) y (nI sp) (nI (3 * i)) = some (match fldP y T L r i sp with | (none, p) => nI p | (some _, _) => -1) := by
  have hn := nT_len y hy
  have hn5 := nT_le y hy
  intro k
  induction k with
  | zero => intro r i sp h1 h2; omega
  | succ k ih =>
    intro r i sp h1 h2 hs
    rw [pX6_commandError_29_s, if_pos hy, zadd, zof]
    cases r with
    | zero =>
      rw [if_pos ((zle (by omega) (by omega)).mpr (by omega))]
      rfl
    | succ r =>
      have ⟨t1, t2, t3⟩ := trF_ok y hy i (by omega)
      have ⟨f1, f2, f3⟩ := fRw_tr y i
      rw [if_neg (c := nI (fLn y) ≤ nI (3 * i + 2)) (fun h => by have := (zle (by omega) (by omega)).mp h; omega)]
      rw [if_pos hy, if_pos ((znb (by omega)).mpr (by omega)), if_pos hy, zadd, if_pos ((znb (by omega)).mpr (by omega)), if_pos hy, if_pos ((znb (by omega)).mpr (by omega)), zcl (by omega), zcl (by omega), zcl (by omega), f1, f2, f3, qX6_numberError hT hL t2 t3 t1 hs, ob, fldP]
      cases hf : figL T L (trF y i).2.1 (trF y i).2.2 (trF y i).1 0 sp with
      | mk o1 p1 =>
        cases o1 with
        | none =>
          have := figL_none _ _ _ _ hf hs
          dsimp only
          rw [if_neg (fun h => (zm1 (by omega)).mp h)]
        | some v =>
          have ⟨g1, g2⟩ := figL_good _ _ _ _ _ hf
          have g3 := (g2 (by omega)).2.2
          dsimp only
          rw [if_pos rfl, if_pos hy, if_pos ((znb (by omega)).mpr (by omega)), zadd, zadd, ← g1, show 3 * i + 3 = 3 * (i + 1) from by omega, ih r (i + 1) p1 (by omega) (by omega) g3]
          cases hf2 : fldP y T L r (i + 1) p1 with
          | mk o2 p2 => cases o2 <;> rfl
theorem qX6_commandError {T : Nat → Nat} {L sp : Nat} (hT : ∀ j, T j < 1000) (hL : L ≤ 120) (hs : sp < L) : pX6_commandError (nI L) (rI T) (nI sp) = some (match cmdP T L sp with | (none, p) => nI p | (some _, _) => -1) := by
  unfold pX6_commandError cmdP
  rw [qX6_characterAt (by omega), ob, qX6_isCommand (hT _), ob]
  by_cases hc : isC (T sp) = true
  · rw [if_pos hc, if_neg nI1, ob, qX6_fieldsOf (hT _), ob, if_pos hc, zadd]
    exact qX6_commandError_29 hT hL (yOf_lt _) FU _ 0 (sp + 1) (by omega) (by have := nT_le _ (yOf_lt (T sp)); unfold FU; omega) (by omega)
  · rw [if_neg hc, if_pos nI0, if_neg hc]
theorem qX6_commandLength_14 {T : Nat → Nat} {y : Nat} (hy : y < 4) : ∀ (k r i a : Nat), i + r = nT y → r < k → pX6_commandLength_14 k (rI T) y (nI a) (nI (3 * i)) = some (nI (a + sumT y r i)) := by
  have hn := nT_len y hy
  have hn5 := nT_le y hy
  intro k
  induction k with
  | zero => intro r i a h1 h2; omega
  | succ k ih =>
    intro r i a h1 h2
    rw [pX6_commandLength_14_s, if_pos hy, zof]
    cases r with
    | zero =>
      rw [if_pos ((zle (by omega) (by omega)).mpr (by omega))]
      rfl
    | succ r =>
      have ⟨f1, f2, f3⟩ := fRw_tr y i
      rw [if_neg (c := nI (fLn y) ≤ nI (3 * i)) (fun h => by have := (zle (by omega) (by omega)).mp h; omega), if_pos hy, if_pos ((znb (by omega)).mpr (by omega)), zcl (by omega), f1, zadd, zadd, show 3 * i + 3 = 3 * (i + 1) from by omega, ih r (i + 1) _ (by omega) (by omega), sumT, Nat.add_assoc]
theorem qX6_commandLength {T : Nat → Nat} {sp : Nat} (hT : ∀ j, T j < 1000) (hs : sp < 120) : pX6_commandLength (rI T) (nI sp) = some (nI (1 + sumT (yOf (T sp)) (nT (yOf (T sp))) 0)) := by
  unfold pX6_commandLength
  rw [qX6_characterAt hs, ob, qX6_fieldsOf (hT _), ob]
  exact qX6_commandLength_14 (yOf_lt _) FU _ 0 1 (by omega) (by have := nT_le _ (yOf_lt (T sp)); unfold FU; omega)
/-- where the text from sp on is wrong -/
def erL (T : Nat → Nat) (L : Nat) : Nat → Nat → Option Nat
  | 0, _ => none
  | k + 1, sp => if L ≤ sp then none else match cmdP T L sp with
    | (none, p) => some p
    | (some _, q) => erL T L k q
theorem qX6_firstError_23 {T : Nat → Nat} {L : Nat} (hT : ∀ j, T j < 1000) (hL : L ≤ 120) : ∀ (k i sp : Nat), i < sp → sp ≤ L + 10 → 121 - i ≤ k → i ≤ 120 → pX6_firstError_23 k (nI L) (rI T) (nI sp) (nI i) = some (oI (erL T L (121 - i) sp)) := by
  intro k
  induction k with
  | zero => intro i sp h1 h2 h3; omega
  | succ k ih =>
    intro i sp h1 hs h3 h4
    rw [pX6_firstError_23_s, show 121 - i = (120 - i) + 1 from by omega, erL]
    unfold pX6_firstError_64
    by_cases c1 : L ≤ sp
    · rw [if_pos c1]
      split
      · rfl
      · rw [if_pos ((zle (by omega) (by omega)).mpr c1)]; rfl
    · rw [if_neg (fun h => by have := (zle (by omega) (by omega)).mp h; omega), if_neg (fun h => c1 ((zle (by omega) (by omega)).mp h)), qX6_commandError hT hL (by omega), ob, if_neg c1]
      cases hq : cmdP T L sp with
      | mk o q =>
        have ⟨g1, g2⟩ := cmdP_le (by omega) hq
        cases o with
        | none =>
          dsimp only
          rw [if_neg (fun h => (zm1 (by omega)).mp h)]
          rfl
        | some vs =>
          have g3 := g2 (fun h => by cases h)
          dsimp only
          rw [if_pos rfl, qX6_commandLength hT (by omega), ob, zadd, zadd, show sp + (1 + sumT (yOf (T sp)) (nT (yOf (T sp))) 0) = q from by omega]
          have h6 := ih (i + 1) q (by omega) (by omega) (by omega) (by omega)
          rw [show 121 - (i + 1) = 120 - i from by omega] at h6
          exact h6
/-- where the text is wrong -/
def erT (T : Nat → Nat) (L : Nat) : Option Nat := if L = 0 then some 0 else if T 0 = 70 then erL T L 121 1 else some 0
theorem qX6_firstError {T : Nat → Nat} {L : Nat} (hT : ∀ j, T j < 1000) (hL : L ≤ 120) : pX6_firstError (nI L) (rI T) = some (oI (erT T L)) := by
  unfold pX6_firstError pX6_firstError_17 erT
  by_cases h0 : L = 0
  · rw [if_pos ((zeq0 (by omega)).mpr h0), if_pos h0]; rfl
  · rw [if_neg (fun h => h0 ((zeq0 (by omega)).mp h)), if_neg h0, qX6_characterAt (by omega), ob]
    have := hT 0
    by_cases h1 : T 0 = 70
    · rw [if_pos ((zeq (by omega) (by omega)).mpr h1), if_pos h1]
      exact qX6_firstError_23 hT hL FU 0 1 (by omega) (by omega) (by unfold FU; omega) (by omega)
    · rw [if_neg (fun h => h1 ((zeq (by omega) (by omega)).mp h)), if_neg h1]; rfl

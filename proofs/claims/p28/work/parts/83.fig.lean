/-! ===== the numbers of the text ===== -/
/-- d digits from sp on, v before them: the number and the place behind it; none, and where it is wrong -/
def figL (T : Nat → Nat) (L lo hi : Nat) : Nat → Nat → Nat → Option Nat × Nat
  | 0, v, sp => (some v, sp)
  | d + 1, v, sp => if sp < L ∧ 48 ≤ T sp ∧ T sp ≤ 57 ∧ v + (T sp - 48) * 10 ^ d ≤ hi ∧ lo ≤ v + (T sp - 48) * 10 ^ d + 10 ^ d - 1 then figL T L lo hi d (v + (T sp - 48) * 10 ^ d) (sp + 1) else (none, sp)
/-- the unit of the first of d digits -/
def unN : Nat → Nat
  | 0 => 0
  | d + 1 => 10 ^ d
theorem unN_div (d : Nat) : unN (d + 1) / 10 = unN d := by
  cases d with
  | zero => rfl
  | succ d =>
    show 10 ^ (d + 1) / 10 = 10 ^ d
    rw [Nat.pow_succ, Nat.mul_div_cancel _ (by omega)]
theorem pw10 {d : Nat} (h : d < 3) : 10 ^ d ≤ 100 ∧ 1 ≤ 10 ^ d := by
  have : d = 0 ∨ d = 1 ∨ d = 2 := by omega
  rcases this with h | h | h <;> subst h <;> decide
theorem figL_good {T : Nat → Nat} {L lo hi : Nat} : ∀ (d v sp V p : Nat), figL T L lo hi d v sp = (some V, p) → p = sp + d ∧ (0 < d → lo ≤ V ∧ V ≤ hi ∧ p ≤ L) := by
  intro d
  induction d with
  | zero => intro v sp V p h; unfold figL at h; cases h; exact ⟨rfl, fun h => absurd h (by omega)⟩
  | succ d ih =>
    intro v sp V p h
    rw [figL] at h
    by_cases hc : sp < L ∧ 48 ≤ T sp ∧ T sp ≤ 57 ∧ v + (T sp - 48) * 10 ^ d ≤ hi ∧ lo ≤ v + (T sp - 48) * 10 ^ d + 10 ^ d - 1
    · rw [if_pos hc] at h
      have ⟨h1, h2⟩ := ih _ _ _ _ h
      refine ⟨by omega, fun _ => ?_⟩
      cases d with
      | zero =>
        unfold figL at h
        cases h
        simp only [Nat.pow_zero, Nat.mul_one] at hc ⊢
        omega
      | succ d => exact h2 (by omega)
    · rw [if_neg hc] at h
      cases h
theorem figL_none {T : Nat → Nat} {L lo hi : Nat} : ∀ (d v sp p : Nat), figL T L lo hi d v sp = (none, p) → sp ≤ L → p ≤ L := by
  intro d
  induction d with
  | zero => intro v sp p h; unfold figL at h; cases h
  | succ d ih =>
    intro v sp p h hs
    rw [figL] at h
    by_cases hc : sp < L ∧ 48 ≤ T sp ∧ T sp ≤ 57 ∧ v + (T sp - 48) * 10 ^ d ≤ hi ∧ lo ≤ v + (T sp - 48) * 10 ^ d + 10 ^ d - 1
    · rw [if_pos hc] at h
      exact ih _ _ _ h (by omega)
    · rw [if_neg hc] at h
      cases h
      exact hs
theorem figL_m1 (a : Int32) : (-1 : Int32) = -1 := rfl
theorem m1I : (-1 : Int32).toInt = -1 := by decide
theorem zdig {c : Nat} (hc : c < 1000) : (0 ≤ (nI c - nI 48).toInt ∧ (nI c - nI 48).toInt ≤ 9) ↔ (48 ≤ c ∧ c ≤ 57) := by
  rw [pk_sub_toInt (by omega) (by omega)]
  omega
theorem digmul {a d : Nat} (ha : a ≤ 9) (hd : d < 3) : a * 10 ^ d ≤ 900 := by
  have := pw10 hd
  exact Nat.le_trans (Nat.mul_le_mul ha this.1) (by omega)
theorem qX8_figures_26 {T : Nat → Nat} {L lo hi a : Nat} (hT : ∀ j, T j < 1000) (hL : L ≤ 120) (ha : a < 2147483648) (hlo : lo < 1000) (hhi : hi < 1000) : ∀ (k d v sp : Nat), d ≤ 3 → d < k → v < 100000 → v + 1000 * d < 100000 → sp ≤ L + 3 → pX8_figures_26 k (nI L) (nI sp) (rI T) (nI a) (nI lo) (nI hi) (nI v) (nI (unN d)) = some (oI (figL T L lo hi d v sp).1, nI (figL T L lo hi d v sp).2) := by
  intro k
  induction k with
  | zero => intro d v sp h1 h2; omega
  | succ k ih =>
    intro d v sp hd hk hv hvd hsp
    rw [pX8_figures_26_s]
    unfold pX8_figures_132 pX8_figures_143
    cases d with
    | zero =>
      rw [if_pos (by show nI 0 ≤ 0; decide), if_neg (fun h => (zm1 ha).mp h)]
      rfl
    | succ d =>
      have hp := pw10 (show d < 3 by omega)
      rw [if_neg (c := nI (unN (d + 1)) ≤ 0) (fun h => by have := (zle0 (show 10 ^ d < 2147483648 by omega)).mp h; omega), if_neg (fun h => (zm1 ha).mp h), figL]
      have htsp := hT sp
      have bad : ∀ s0 : Int32, ¬ (0 ≤ s0.toInt ∧ s0.toInt ≤ 9) → pX8_figures_63 (fun u0 u1 u2 u3 u4 u5 u6 u7 => pX8_figures_26 k u0 u1 u2 u3 u4 u5 u6 u7) (nI L) (nI sp) (rI T) (nI a) (nI lo) (nI hi) (nI v) (nI (unN (d + 1))) s0 = some (-1, nI sp) := by
        intro s0 h
        unfold pX8_figures_63 pX8_figures_106
        rw [inI (a := 0) (b := 9) (by decide) (by decide), ob, if_neg h, if_pos nI0]
      by_cases c1 : sp < L
      · rw [if_neg (fun h => by have := (zle (by omega) (by omega)).mp h; omega), if_pos ((znb (by omega)).mpr (by omega)), zcl (by omega), rI_at]
        by_cases c2 : 48 ≤ T sp ∧ T sp ≤ 57
        · unfold pX8_figures_63 pX8_figures_106
          rw [inI (a := 0) (b := 9) (by decide) (by decide), ob, if_pos ((zdig (by omega)).mpr c2), if_neg nI1, zsub c2.1]
          have hdm := digmul (a := T sp - 48) (d := d) (by omega) (by omega)
          rw [show unN (d + 1) = 10 ^ d from rfl, zmul, zadd, zadd, zadd, zsub (by omega), zdiv (by omega) (by omega) (by omega)]
          by_cases c3 : v + (T sp - 48) * 10 ^ d ≤ hi
          · rw [if_neg (c := nI hi < nI (v + (T sp - 48) * 10 ^ d)) (fun h => by have := (zlt (by omega) (by omega)).mp h; omega)]
            by_cases c4 : lo ≤ v + (T sp - 48) * 10 ^ d + 10 ^ d - 1
            · rw [if_pos ((zle (by omega) (by omega)).mpr c4), if_pos (c := sp < L ∧ 48 ≤ T sp ∧ T sp ≤ 57 ∧ v + (T sp - 48) * 10 ^ d ≤ hi ∧ lo ≤ v + (T sp - 48) * 10 ^ d + 10 ^ d - 1) ⟨c1, c2.1, c2.2, c3, c4⟩]
              have hu := unN_div d
              rw [show unN (d + 1) = 10 ^ d from rfl] at hu
              rw [hu]
              exact ih d _ (sp + 1) (by omega) (by omega) (by omega) (by omega) (by omega)
            · rw [if_neg (fun h => c4 ((zle (by omega) (by omega)).mp h)), if_neg (c := sp < L ∧ 48 ≤ T sp ∧ T sp ≤ 57 ∧ v + (T sp - 48) * 10 ^ d ≤ hi ∧ lo ≤ v + (T sp - 48) * 10 ^ d + 10 ^ d - 1) (fun h => c4 h.2.2.2.2)]
              rfl
          · rw [if_pos (c := nI hi < nI (v + (T sp - 48) * 10 ^ d)) ((zlt (by omega) (by omega)).mpr (by omega)), if_neg (c := sp < L ∧ 48 ≤ T sp ∧ T sp ≤ 57 ∧ v + (T sp - 48) * 10 ^ d ≤ hi ∧ lo ≤ v + (T sp - 48) * 10 ^ d + 10 ^ d - 1) (fun h => c3 h.2.2.2.1)]
            rfl
        · rw [bad _ (fun h => c2 ((zdig (by omega)).mp h)), if_neg (c := sp < L ∧ 48 ≤ T sp ∧ T sp ≤ 57 ∧ v + (T sp - 48) * 10 ^ d ≤ hi ∧ lo ≤ v + (T sp - 48) * 10 ^ d + 10 ^ d - 1) (fun h => c2 ⟨h.2.1, h.2.2.1⟩)]
          rfl
      · rw [if_pos ((zle (by omega) (by omega)).mpr (by omega)), bad _ (by rw [m1I]; omega), if_neg (c := sp < L ∧ 48 ≤ T sp ∧ T sp ≤ 57 ∧ v + (T sp - 48) * 10 ^ d ≤ hi ∧ lo ≤ v + (T sp - 48) * 10 ^ d + 10 ^ d - 1) (fun h => c1 h.1)]
        rfl
def figA (T : Nat → Nat) (L : Nat) (a : Option Nat) (d lo hi sp : Nat) : Option Nat × Nat := match a with
  | none => (none, sp)
  | some _ => figL T L lo hi d 0 sp
theorem qX8_figures {T : Nat → Nat} {L lo hi d sp : Nat} {a : Option Nat} (hT : ∀ j, T j < 1000) (hL : L ≤ 120) (ha : ∀ x, a = some x → x < 1000) (hlo : lo < 1000) (hhi : hi < 1000) (hd : d = 1 ∨ d = 2 ∨ d = 3) (hsp : sp ≤ L + 3) : pX8_figures (nI L) (nI sp) (rI T) (oI a) (nI d) (nI lo) (nI hi) = some (oI (figA T L a d lo hi sp).1, nI (figA T L a d lo hi sp).2) := by
  have go : ∀ d, d ≤ 3 → 0 < d → pX8_figures_24 (nI L) (nI sp) (rI T) (oI a) (nI lo) (nI hi) (nI 0) (nI (unN d)) = some (oI (figA T L a d lo hi sp).1, nI (figA T L a d lo hi sp).2) := by
    intro d hd hd0
    unfold pX8_figures_24
    cases a with
    | none =>
      rw [show FU = 3999 + 1 from rfl, pX8_figures_26_s]
      unfold pX8_figures_132 pX8_figures_143
      rw [show oI none = -1 from rfl, if_pos rfl, if_pos rfl]
      split <;> rfl
    | some x =>
      have := ha x rfl
      exact qX8_figures_26 hT hL (by omega) hlo hhi FU d 0 sp hd (by unfold FU; omega) (by omega) (by omega) hsp
  unfold pX8_figures
  rcases hd with h | h | h
  · subst h
    rw [if_neg (by decide), if_neg (by decide)]
    exact go 1 (by omega) (by omega)
  · subst h
    rw [if_neg (by decide), if_pos rfl]
    exact go 2 (by omega) (by omega)
  · subst h
    rw [if_pos rfl]
    exact go 3 (by omega) (by omega)
/-! ===== the class's numbers ===== -/
theorem qX6_characterAt {T : Nat → Nat} {at_ : Nat} (h : at_ < 120) : pX6_characterAt (rI T) (nI at_) = some (nI (T at_)) := by
  unfold pX6_characterAt
  rw [qX5_get (by omega) (by omega) (by omega) (by omega), ob, rI_at, show 0 * 120 + at_ = at_ from by omega]
theorem qX6_numberError_29 {T : Nat → Nat} {L lo hi f D : Nat} (hT : ∀ j, T j < 1000) (hL : L ≤ 120) (hlo : lo < 1000) (hhi : hi < 1000) (hf : f + D ≤ L + 3) (hfL : f ≤ L) : ∀ (k d v i : Nat), i + d = D → d ≤ 3 → d < k → v + 1000 * d < 100000 → f + i ≤ L → pX6_numberError_29 k (nI L) (rI T) (nI f) (nI D) (nI lo) (nI hi) (nI (unN d)) (nI v) (nI i) = some (match figL T L lo hi d v (f + i) with | (none, p) => nI p | (some _, _) => -1) := by
  intro k
  induction k with
  | zero => intro d v i h1 h2 h3; omega
  | succ k ih =>
    intro d v i h1 hd hk hvd hfi
    rw [pX6_numberError_29_s]
    unfold pX6_numberError_105
    cases d with
    | zero =>
      rw [if_pos ((zle (by omega) (by omega)).mpr (by omega))]
      rfl
    | succ d =>
      have hp := pw10 (show d < 3 by omega)
      rw [if_neg (fun h => by have := (zle (by omega) (by omega)).mp h; omega), zadd, figL]
      by_cases c1 : f + i < L
      · have htsp := hT (f + i)
        rw [if_pos ((zlt (by omega) (by omega)).mpr c1), qX6_characterAt (by omega), ob, qX7_isInN (by omega) (by omega), ob]
        by_cases c2 : 48 ≤ T (f + i) ∧ T (f + i) ≤ 57
        · rw [if_pos (c := ((0 : Nat) : Int) ≤ (nI (T (f + i)) - nI 48).toInt ∧ (nI (T (f + i)) - nI 48).toInt ≤ ((9 : Nat) : Int)) ((zdig (by omega)).mpr c2), if_neg nI1, zsub c2.1]
          have hdm := digmul (a := T (f + i) - 48) (d := d) (by omega) (by omega)
          rw [show unN (d + 1) = 10 ^ d from rfl, zmul, zadd, zadd, zsub (by omega), zdiv (by omega) (by omega) (by omega), zadd]
          by_cases c3 : v + (T (f + i) - 48) * 10 ^ d ≤ hi
          · rw [if_neg (c := nI hi < nI (v + (T (f + i) - 48) * 10 ^ d)) (fun h => by have := (zlt (by omega) (by omega)).mp h; omega)]
            by_cases c4 : lo ≤ v + (T (f + i) - 48) * 10 ^ d + 10 ^ d - 1
            · rw [if_pos ((zle (by omega) (by omega)).mpr c4), if_pos (c := f + i < L ∧ 48 ≤ T (f + i) ∧ T (f + i) ≤ 57 ∧ v + (T (f + i) - 48) * 10 ^ d ≤ hi ∧ lo ≤ v + (T (f + i) - 48) * 10 ^ d + 10 ^ d - 1) ⟨c1, c2.1, c2.2, c3, c4⟩]
              have hu := unN_div d
              rw [show unN (d + 1) = 10 ^ d from rfl] at hu
              rw [hu]
              exact ih d _ (i + 1) (by omega) (by omega) (by omega) (by omega) (by omega)
            · rw [if_neg (fun h => c4 ((zle (by omega) (by omega)).mp h)), if_neg (c := f + i < L ∧ 48 ≤ T (f + i) ∧ T (f + i) ≤ 57 ∧ v + (T (f + i) - 48) * 10 ^ d ≤ hi ∧ lo ≤ v + (T (f + i) - 48) * 10 ^ d + 10 ^ d - 1) (fun h => c4 h.2.2.2.2)]
          · rw [if_pos (c := nI hi < nI (v + (T (f + i) - 48) * 10 ^ d)) ((zlt (by omega) (by omega)).mpr (by omega)), if_neg (c := f + i < L ∧ 48 ≤ T (f + i) ∧ T (f + i) ≤ 57 ∧ v + (T (f + i) - 48) * 10 ^ d ≤ hi ∧ lo ≤ v + (T (f + i) - 48) * 10 ^ d + 10 ^ d - 1) (fun h => c3 h.2.2.2.1)]
        · rw [if_neg (c := ((0 : Nat) : Int) ≤ (nI (T (f + i)) - nI 48).toInt ∧ (nI (T (f + i)) - nI 48).toInt ≤ ((9 : Nat) : Int)) (fun h => c2 ((zdig (by omega)).mp h)), if_pos nI0, if_neg (c := f + i < L ∧ 48 ≤ T (f + i) ∧ T (f + i) ≤ 57 ∧ v + (T (f + i) - 48) * 10 ^ d ≤ hi ∧ lo ≤ v + (T (f + i) - 48) * 10 ^ d + 10 ^ d - 1) (fun h => c2 ⟨h.2.1, h.2.2.1⟩)]
      · rw [if_neg (fun h => c1 ((zlt (by omega) (by omega)).mp h)), if_neg (c := f + i < L ∧ 48 ≤ T (f + i) ∧ T (f + i) ≤ 57 ∧ v + (T (f + i) - 48) * 10 ^ d ≤ hi ∧ lo ≤ v + (T (f + i) - 48) * 10 ^ d + 10 ^ d - 1) (fun h => c1 h.1)]
        rw [show f + i = L from by omega]
theorem qX6_numberError {T : Nat → Nat} {L lo hi d sp : Nat} (hT : ∀ j, T j < 1000) (hL : L ≤ 120) (hlo : lo < 1000) (hhi : hi < 1000) (hd : d = 1 ∨ d = 2 ∨ d = 3) (hsp : sp ≤ L) : pX6_numberError (nI L) (rI T) (nI sp) (nI d) (nI lo) (nI hi) = some (match figL T L lo hi d 0 sp with | (none, p) => nI p | (some _, _) => -1) := by
  have go : ∀ D, D ≤ 3 → pX6_numberError_21 (nI L) (rI T) (nI sp) (nI D) (nI lo) (nI hi) (nI (unN D)) = some (match figL T L lo hi D 0 sp with | (none, p) => nI p | (some _, _) => -1) := by
    intro D hD
    unfold pX6_numberError_21
    exact qX6_numberError_29 hT hL hlo hhi (by omega) hsp FU D 0 0 (by omega) hD (by unfold FU; omega) (by omega) (by omega)
  unfold pX6_numberError
  rcases hd with h | h | h
  · subst h
    rw [if_neg (by decide), if_neg (by decide)]
    exact go 1 (by omega)
  · subst h
    rw [if_neg (by decide), if_pos rfl]
    exact go 2 (by omega)
  · subst h
    rw [if_pos rfl]
    exact go 3 (by omega)
theorem qX6_number_5 {T : Nat → Nat} {L lo hi f D V p : Nat} (hT : ∀ j, T j < 1000) (hL : L ≤ 120) (hD : D ≤ 3) : ∀ (k d w i : Nat), i + d = D → d ≤ 3 → d < k → (w + 1) * 10 ^ d ≤ 10000 → figL T L lo hi d (w * 10 ^ d) (f + i) = (some V, p) → pX6_number_5 k (rI T) (nI f) (nI D) (nI w) (nI i) = some (nI V) := by
  intro k
  induction k with
  | zero => intro d w i h1 h2 h3; omega
  | succ k ih =>
    intro d w i h1 hd hk hw hfg
    rw [pX6_number_5_s]
    cases d with
    | zero =>
      rw [if_pos ((zle (by omega) (by omega)).mpr (by omega))]
      unfold figL at hfg
      cases hfg
      rw [Nat.pow_zero, Nat.mul_one]
    | succ d =>
      have hp := pw10 (show d < 3 by omega)
      rw [figL] at hfg
      by_cases hc : f + i < L ∧ 48 ≤ T (f + i) ∧ T (f + i) ≤ 57 ∧ w * 10 ^ (d + 1) + (T (f + i) - 48) * 10 ^ d ≤ hi ∧ lo ≤ w * 10 ^ (d + 1) + (T (f + i) - 48) * 10 ^ d + 10 ^ d - 1
      · rw [if_pos hc] at hfg
        rw [if_neg (fun h => by have := (zle (by omega) (by omega)).mp h; omega), zadd, qX6_characterAt (by omega), ob, zmul, zadd, zsub (by omega), zadd]
        have e1 : w * 10 ^ (d + 1) + (T (f + i) - 48) * 10 ^ d = (w * 10 + T (f + i) - 48) * 10 ^ d := by
          rw [show w * 10 + T (f + i) - 48 = w * 10 + (T (f + i) - 48) from by omega, Nat.add_mul, Nat.pow_succ, Nat.mul_assoc, Nat.mul_comm 10 (10 ^ d)]
        rw [e1] at hfg
        refine ih d _ (i + 1) (by omega) (by omega) (by omega) ?_ hfg
        have e2 : (w * 10 + T (f + i) - 48 + 1) * 10 ^ d ≤ (w + 1) * 10 ^ (d + 1) := by
          rw [Nat.pow_succ, Nat.mul_comm (10 ^ d) 10, ← Nat.mul_assoc]
          exact Nat.mul_le_mul_right _ (by omega)
        omega
      · rw [if_neg hc] at hfg
        cases hfg
theorem qX6_number {T : Nat → Nat} {L lo hi f D V p : Nat} (hT : ∀ j, T j < 1000) (hL : L ≤ 120) (hD : D ≤ 3) (hfg : figL T L lo hi D 0 f = (some V, p)) : pX6_number (rI T) (nI f) (nI D) = some (nI V) := by
  refine qX6_number_5 (lo := lo) (hi := hi) (p := p) hT hL hD FU D 0 0 (by omega) hD (by unfold FU; omega) ?_ ?_
  · have : D = 0 ∨ D = 1 ∨ D = 2 ∨ D = 3 := by omega
    rcases this with h | h | h | h <;> subst h <;> decide
  · rw [Nat.zero_mul]; exact hfg

/-! ===== the states of an object: films that hold, one step apart in the diary ===== -/
def FG (t : Nat) (N : Nat → Nat) : Prop := Inv t N ∧ GW N
theorem FG.mono {t u : Nat} {N : Nat → Nat} (h : FG t N) (htu : t ≤ u) : FG u N := ⟨h.1.mono htu, h.2⟩
/-- at most one extra and one scene more -/
def st1 (N M : Nat → Nat) : Prop := M 0 ≤ N 0 + 1 ∧ M 1 ≤ N 1 + 1
def RW (t : Nat) (S : SS) : Prop := FG t S.1 ∧ S.2.1 ≤ 14 ∧ (∀ j, j < S.2.1 → FG t (S.2.2.1 j)) ∧ (0 < S.2.1 → st1 (S.2.2.1 (S.2.1 - 1)) S.1) ∧ (∀ j, j + 1 < S.2.1 → st1 (S.2.2.1 j) (S.2.2.1 (j + 1))) ∧ (∀ i, i < 2 → S.2.2.2.1 i = 1 → FG t (S.2.2.2.2 i) ∧ 2 ≤ S.2.2.2.2 i 0 ∧ 2 ≤ S.2.2.2.2 i 1)
def RG (t : Nat) (S : SS) : Prop := RW t S ∧ 2 ≤ S.1 0 ∧ 2 ≤ S.1 1
theorem RW.mono {t u : Nat} {S : SS} (h : RW t S) (htu : t ≤ u) : RW u S := by
  obtain ⟨h1, h2, h3, h4, h5, h6⟩ := h
  exact ⟨h1.mono htu, h2, fun j hj => (h3 j hj).mono htu, h4, h5, fun i hi hf => ⟨(h6 i hi hf).1.mono htu, (h6 i hi hf).2⟩⟩
theorem RG.mono {t u : Nat} {S : SS} (h : RG t S) (htu : t ≤ u) : RG u S := ⟨h.1.mono htu, h.2⟩
theorem remC_pos (c : Nat) : 0 < remC c := by
  unfold remC
  split <;> omega
theorem reD_top {D : Nat → Nat → Nat} {c : Nat} {N : Nat → Nat} (hc : c ≤ 14) : reD D c N (remC c - 1) = N := by
  unfold reD remC
  by_cases h : c < 14
  · rw [if_pos h, if_pos h, Nat.add_sub_cancel, va_up_self]
  · rw [if_neg h, if_neg h, va_up_self]
theorem RW.act {t : Nat} {S : SS} {N2 : Nat → Nat} (h : RW t S) (h9 : FG (t + 1) N2) (hs : st1 S.1 N2) : RW (t + 1) (actS S N2) := by
  obtain ⟨h1, h2, h3, h4, h5, h6⟩ := h.mono (Nat.le_succ t)
  refine ⟨h9, ?_, reD_all h2 h1 h3, fun _ => ?_, fun j hj => ?_, h6⟩
  · show remC S.2.1 ≤ 14
    unfold remC
    split <;> omega
  · show st1 (reD S.2.2.1 S.2.1 S.1 (remC S.2.1 - 1)) N2
    rw [reD_top h2]
    exact hs
  · have hj : j + 1 < remC S.2.1 := hj
    show st1 (reD S.2.2.1 S.2.1 S.1 j) (reD S.2.2.1 S.2.1 S.1 (j + 1))
    unfold remC at hj
    unfold reD
    by_cases h7 : S.2.1 < 14
    · rw [if_pos h7] at hj
      rw [if_pos h7, va_up_ne _ _ (by omega)]
      by_cases h8 : j + 1 = S.2.1
      · rw [h8, va_up_self]
        have h4' := h4 (by omega)
        rw [← h8, Nat.add_sub_cancel] at h4'
        exact h4'
      · rw [va_up_ne _ _ h8]
        exact h5 j (by omega)
    · rw [if_neg h7] at hj
      rw [if_neg h7, va_up_ne _ _ (by omega)]
      have e14 : S.2.1 = 14 := by omega
      by_cases h8 : j + 1 = 13
      · rw [h8, va_up_self]
        have h4' := h4 (by omega)
        rw [e14] at h4'
        unfold shD
        rw [if_pos (by omega), h8]
        exact h4'
      · rw [va_up_ne _ _ h8]
        unfold shD
        rw [if_pos (by omega), if_pos (by omega)]
        exact h5 (j + 1) (by omega)
theorem RW.back {t : Nat} {S : SS} (h : RW t S) (hc : 0 < S.2.1) : RW t (bakS S) := by
  obtain ⟨h1, h2, h3, h4, h5, h6⟩ := h
  refine ⟨h3 _ (by omega), by show S.2.1 - 1 ≤ 14; omega, fun j hj => h3 j (by have : j < S.2.1 - 1 := hj; omega), fun hp => ?_, fun j hj => h5 j (by have : j + 1 < S.2.1 - 1 := hj; omega), h6⟩
  have hp : 0 < S.2.1 - 1 := hp
  show st1 (S.2.2.1 (S.2.1 - 1 - 1)) (S.2.2.1 (S.2.1 - 1))
  have := h5 (S.2.1 - 1 - 1) (by omega)
  rw [show S.2.1 - 1 - 1 + 1 = S.2.1 - 1 from by omega] at this
  exact this
/-- undone behind an act: the film is as before -/
theorem bak_act1 {S : SS} {N2 : Nat → Nat} (hc : S.2.1 ≤ 14) : (bakS (actS S N2)).1 = S.1 := reD_top hc
theorem bak_act2 {S : SS} {N2 N3 : Nat → Nat} (hc : S.2.1 ≤ 14) : 0 < (bakS (actS (actS S N2) N3)).2.1 ∧ (bakS (bakS (actS (actS S N2) N3))).1 = S.1 := by
  constructor
  · show 0 < remC (remC S.2.1) - 1
    unfold remC
    split <;> split <;> omega
  · show reD (reD S.2.2.1 S.2.1 S.1) (remC S.2.1) N2 (remC (remC S.2.1) - 1 - 1) = S.1
    by_cases h1 : S.2.1 < 13
    · have e1 : remC S.2.1 = S.2.1 + 1 := by unfold remC; rw [if_pos (by omega)]
      have e2 : remC (S.2.1 + 1) = S.2.1 + 2 := by unfold remC; rw [if_pos (by omega)]
      rw [e1, e2]
      unfold reD
      rw [if_pos (by omega), if_pos (by omega), show S.2.1 + 2 - 1 - 1 = S.2.1 from by omega, va_up_ne _ _ (by omega), va_up_self]
    · have e1 : remC S.2.1 = 14 := by
        unfold remC
        split <;> omega
      have e2 : remC 14 = 14 := rfl
      have h3 : reD S.2.2.1 S.2.1 S.1 13 = S.1 := by
        have := reD_top (D := S.2.2.1) (N := S.1) hc
        rw [e1] at this
        exact this
      rw [e1, e2]
      show reD (reD S.2.2.1 S.2.1 S.1) 14 N2 12 = S.1
      unfold reD at h3 ⊢
      rw [if_neg (c := 14 < 14) (by omega), va_up_ne _ _ (by omega)]
      unfold shD
      rw [if_pos (by omega)]
      exact h3
theorem fUn_act {S : SS} {N2 : Nat → Nat} : fUn (actS S N2) = (nI (remC S.2.1 - 1), bakS (actS S N2)) := if_neg (by have := remC_pos S.2.1; show ¬ remC S.2.1 = 0; omega)
theorem fUn_pos {S : SS} (h : 0 < S.2.1) : fUn S = (nI (S.2.1 - 1), bakS S) := if_neg (by omega)
theorem zneg {k : Nat} {x : Int32} (hk : k < 2147483648) (hx : x.toInt < 0) : ¬ (nI k = x) := fun h => by
  have h2 := congrArg Int32.toInt h
  rw [nI_toInt hk] at h2
  omega
theorem thrown_no {k : Nat} (hk : k < 2147483648) : pL_thrown (nI k) = some (nI 0) := by
  unfold pL_thrown
  rw [if_neg (zneg hk (by decide)), if_neg (zneg hk (by decide)), if_neg (zneg hk (by decide))]
  rfl
theorem spent_ok (N : Nat → Nat) : pL_spent N = some (nI (N 3 + N 4)) := by
  unfold pL_spent
  rw [aAb_n (by omega), aAb_n (by omega), zadd]
  rfl
theorem bits_4 {c : Nat} (hc : c < 2147483648) : ∀ (k e : Nat), e ≤ 14 → 14 - e < k → pL_bits_4 k (nI c) (nI (bcN c e)) (nI e) = some (nI (bcN c 14)) := by
  intro k
  induction k with
  | zero => intro e h1 h2; omega
  | succ k ih =>
    intro e h1 h2
    rw [pL_bits_4_s]
    by_cases he : 14 ≤ e
    · have e1 : e = 14 := by omega
      rw [if_pos ((zle (by omega) (by omega)).mpr he), e1]
    · have h3 := ih (e + 1) (by omega) (by omega)
      rw [if_neg (fun q => he ((zle (by omega) (by omega)).mp q)), zbit hc (by omega), zadd, zadd]
      rw [bcN] at h3
      exact h3
theorem bits_ok {c : Nat} (hc : c < 2147483648) : pL_bits (nI c) = some (nI (bcN c 14)) := by
  have h := bits_4 hc FU 0 (by omega) (by unfold FU; omega)
  rw [bcN] at h
  exact h

/-! ===== the law: two scenes in their order ===== -/
theorem oI_ge {o : Option Nat} (h : ∀ x, o = some x → x < 2147483648) : ¬ (oI o < (-1 : Int32)) := by
  cases o with
  | none => decide
  | some x =>
    have hx := h x rfl
    rw [oI_some]
    intro q
    have := Int32.lt_iff_toInt_lt.mp q
    rw [nI_toInt hx] at this
    have h2 : (-1 : Int32).toInt = -1 := by decide
    omega
theorem both_mod {n a r : Nat} (ha : a < n) (hr : r < n - 1) : (a + 1 + r) % n < n ∧ (a + 1 + r) % n ≠ a := by
  refine ⟨Nat.mod_lt _ (by omega), ?_⟩
  by_cases h : a + 1 + r < n
  · rw [Nat.mod_eq_of_lt h]
    omega
  · rw [Nat.mod_eq_sub_mod (by omega), Nat.mod_eq_of_lt (by omega)]
    omega
theorem both_end {S8 : SS} {N : Nat → Nat} {A B : Nat} {y : Int32} (hs : S8.1 = N) (hA : A < N 1) (hB : B < N 1) (hN : N 1 ≤ 10) (hAB : A ≠ B) (hy : y = orV N B A) : pL_both_178 S8 S8 y (aOr S8.1 (nI B) (nI A)) = some (nI 1, S8, S8) := by
  unfold pL_both_178
  rw [hs, aOr_n hB hA hN (fun q => hAB q.symm), hy, if_pos rfl]
  unfold pL_both_186
  rfl
theorem both_ok {t : Nat} {S : SS} {X : Nat} (h : RG t S) (ht : t ≤ 7000) (hX : X < 2147483648) : ∃ S2, pL_both S S (nI X) = some (nI 1, S2, S2) ∧ S2.1 = S.1 ∧ RG (t + 8) S2 := by
  have hI := h.1.1.1
  have hsn := hI.sn
  have g1 := h.2.2
  obtain ⟨A, hAe⟩ : ∃ A, A = X % S.1 1 := ⟨_, rfl⟩
  obtain ⟨r, hre⟩ : ∃ r, r = X / 16 % (S.1 1 - 1) := ⟨_, rfl⟩
  obtain ⟨B, hBe⟩ : ∃ B, B = (A + 1 + r) % S.1 1 := ⟨_, rfl⟩
  have hA : A < S.1 1 := by rw [hAe]; exact Nat.mod_lt _ (by omega)
  have hr : r < S.1 1 - 1 := by rw [hre]; exact Nat.mod_lt _ (by omega)
  have hB : B < S.1 1 ∧ B ≠ A := by rw [hBe]; exact both_mod hA hr
  have e1 : aAb S.1 (nI 1) = nI (S.1 1) := aAb_n (by omega)
  have en : ¬ nI (S.1 1) = 0 := fun q => by have := (zeq0 (by omega)).mp q; omega
  have en1 : ¬ nI (S.1 1 - 1) = 0 := fun q => by have := (zeq0 (by omega)).mp q; omega
  have es : nI (S.1 1) - nI 1 = nI (S.1 1 - 1) := zsub (by omega)
  have er : nI X - nI X / nI (S.1 1) * nI (S.1 1) = nI A := by rw [hAe]; exact zrem hX (by omega) (by omega)
  have e16 : nI X / nI 16 = nI (X / 16) := zdiv hX (by omega) (by omega)
  have er2 : nI (X / 16) - nI (X / 16) / nI (S.1 1 - 1) * nI (S.1 1 - 1) = nI r := by rw [hre]; exact zrem (by omega) (by omega) (by omega)
  have er3 : nI (A + 1 + r) - nI (A + 1 + r) / nI (S.1 1) * nI (S.1 1) = nI B := by rw [hBe]; exact zrem (by omega) (by omega) (by omega)
  obtain ⟨S5, p1, f1, k1⟩ := price_ok h (by omega) hA hB.1
  obtain ⟨S8, p2, f2, k2⟩ := price_ok (a := B) (b := A) k1 (by omega) (by rw [f1]; exact hB.1) (by rw [f1]; exact hA)
  rw [f1] at p2 f2
  refine ⟨S8, ?_, f2, k2.mono (by omega)⟩
  have l1 : ∀ x, orN S.1 A B = some x → x < 2147483648 := fun x hx => orN_lt hI (by omega) (by omega) (by omega) hx
  have l2 : ∀ x, orN S.1 B A = some x → x < 2147483648 := fun x hx => orN_lt hI (by omega) (by omega) (by omega) hx
  have o1 : aOr S.1 (nI A) (nI B) = orV S.1 A B := aOr_n hA hB.1 hsn (fun q => hB.2 q.symm)
  unfold pL_both
  simp only [e1, er, es, e16, er2, zadd, er3, p1, p2, ob, if_true, o1]
  rw [if_pos en, if_pos en1, if_pos en, if_neg (oI_ge l1), if_neg (oI_ge l2)]
  have fin : ∀ y, y = orV S.1 B A → pL_both_178 S8 S8 y (aOr S8.1 (nI B) (nI A)) = some (nI 1, S8, S8) := fun y hy => both_end f2 hA hB.1 hsn (fun q => hB.2 q.symm) hy
  unfold pL_both_116 pL_both_143 pL_both_169
  unfold orV at fin ⊢
  cases q1 : orN S.1 A B with
  | none =>
    simp only [q1] at fin ⊢
    rw [oI_none, if_pos rfl, if_pos trivial, if_pos trivial]
    refine fin _ ?_
    cases orN S.1 B A <;> rfl
  | some u =>
    have hu := l1 u q1
    have nu : ¬ (nI u = -1) := fun q => (zm1 hu).mp q
    simp only [q1] at fin ⊢
    rw [oI_some, if_neg nu]
    cases q2 : orN S.1 B A with
    | none =>
      simp only [q2] at fin ⊢
      rw [oI_none, if_pos rfl, if_pos trivial, if_pos trivial]
      exact fin _ rfl
    | some w =>
      have hw := l2 w q2
      have nw : ¬ (nI w = -1) := fun q => (zm1 hw).mp q
      simp only [q2] at fin ⊢
      rw [oI_some, if_neg nw]
      by_cases c1 : u = w
      · rw [if_pos ((zle hw hu).mpr (by omega)), if_pos ((zle hu hw).mpr (by omega)), if_pos c1, if_pos rfl, if_neg (by decide), if_pos rfl]
        refine fin _ ?_
        rw [if_pos c1.symm]
      · rw [if_neg c1]
        by_cases c2 : u < w
        · rw [if_neg (fun q => by have := (zle hw hu).mp q; omega), if_pos c2, if_pos rfl, if_neg (by decide), if_neg (by decide)]
          refine fin _ ?_
          rw [if_neg (by omega), if_neg (by omega)]
          decide
        · rw [if_pos ((zle hw hu).mpr (by omega)), if_neg (fun q => by have := (zle hu hw).mp q; omega), if_neg c2, if_pos rfl, if_neg (by decide), if_neg (by decide)]
          refine fin _ ?_
          rw [if_neg (by omega), if_pos (by omega)]
          decide

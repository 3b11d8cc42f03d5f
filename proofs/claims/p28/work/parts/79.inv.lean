/-! ===== what stands fast, behind each change ===== -/
theorem Inv_new : Inv 0 N0 := by
  unfold N0
  refine ⟨⟨?_, ?_⟩, ?_, ?_, fun e he => ?_, fun s hs => ?_, fun e k h1 h2 h3 => ?_, fun s k h1 h2 h3 => ?_, fun j hj => ?_⟩
  · decide
  · decide
  · decide
  · decide
  · simp (disch := omega) only [nset_ne]
    unfold allN
    omega
  · simp (disch := omega) only [nset_ne]
    exact ⟨by omega, by omega, by omega, by omega, by omega, by omega, by omega, trivial, fun h => absurd h (by omega)⟩
  · simp (disch := omega) only [nset_ne]
  · simp (disch := omega) only [nset_ne]
  · simp (disch := omega) only [nset_ne]
theorem Inv_ex {t : Nat} {N : Nat → Nat} {look face : Nat} (h : Inv t N) (hn : N 0 < 14) (hl : look < 5) (hf : face < 14) : Inv t (exN N look face) := by
  have h1 := h.sn
  unfold exN
  refine ⟨⟨?_, ?_⟩, ?_, ?_, fun e he => ?_, fun s hs => ?_, fun e k h1 h2 h3 => ?_, fun s k h1 h2 h3 => ?_, fun j hj => ?_⟩
  · simp (disch := omega) only [nset_eq, nset_ne]
    omega
  · simp (disch := omega) only [nset_eq, nset_ne]
    omega
  · simp (disch := omega) only [nset_eq, nset_ne]
    exact h.tot
  · simp (disch := omega) only [nset_eq, nset_ne]
    exact h.set
  · have hx := h.ex e he
    by_cases hen : e = N 0
    · have z2 := h.ez (N 0) 2 (by omega) (by omega) (by omega)
      have z3 := h.ez (N 0) 3 (by omega) (by omega) (by omega)
      have z4 := h.ez (N 0) 4 (by omega) (by omega) (by omega)
      have z5 := h.ez (N 0) 5 (by omega) (by omega) (by omega)
      rw [hen]
      simp (disch := omega) only [nset_eq, nset_ne]
      rw [z2, z3, z4, z5]
      unfold allN
      omega
    · simp (disch := omega) only [nset_ne]
      exact hx
  · simp (disch := omega) only [nset_ne]
    exact h.sc s hs
  · simp (disch := omega) only [nset_eq] at h1
    have h4 : N 0 + 1 ≤ e := h1
    simp (disch := omega) only [nset_ne]
    exact h.ez e k (by omega) h2 h3
  · have h4 : N 1 ≤ s := by
      simp (disch := omega) only [nset_ne] at h1
      exact h1
    simp (disch := omega) only [nset_ne]
    exact h.sz s k h4 h2 h3
  · simp (disch := omega) only [nset_ne]
    exact h.bz j hj
theorem Inv_sc {t : Nat} {N : Nat → Nat} {look many day place minutes : Nat} (h : Inv t N) (hn : N 1 < 10) (hl : look < 5) (hm : 1 ≤ many ∧ many ≤ 6) (hd : day < 10) (hp : place < 4) (hmi : minutes ≤ 240) : Inv t (scN N look many day place minutes) := by
  have h1 := h.ec
  unfold scN
  refine ⟨⟨?_, ?_⟩, ?_, ?_, fun e he => ?_, fun s hs => ?_, fun e k h1 h2 h3 => ?_, fun s k h1 h2 h3 => ?_, fun j hj => ?_⟩
  · simp (disch := omega) only [nset_eq, nset_ne]
    omega
  · simp (disch := omega) only [nset_eq, nset_ne]
    omega
  · simp (disch := omega) only [nset_eq, nset_ne]
    exact h.tot
  · simp (disch := omega) only [nset_eq, nset_ne]
    exact h.set
  · simp (disch := omega) only [nset_ne]
    exact h.ex e he
  · have hx := h.sc s hs
    by_cases hen : s = N 1
    · have z5 := h.sz (N 1) 5 (by omega) (by omega) (by omega)
      have z6 := h.sz (N 1) 6 (by omega) (by omega) (by omega)
      rw [hen, show 94 + 7 * N 1 + 0 = 94 + 7 * N 1 from rfl]
      simp (disch := omega) only [nset_eq, nset_ne]
      rw [z5, z6]
      omega
    · simp (disch := omega) only [nset_eq, nset_ne]
      omega
  · have h4 : N 0 ≤ e := by
      simp (disch := omega) only [nset_ne] at h1
      exact h1
    simp (disch := omega) only [nset_ne]
    exact h.ez e k h4 h2 h3
  · simp (disch := omega) only [nset_eq] at h1
    have h4 : N 1 + 1 ≤ s := h1
    simp (disch := omega) only [nset_ne]
    exact h.sz s k (by omega) h2 h3
  · simp (disch := omega) only [nset_ne]
    exact h.bz j hj
theorem Inv_meal {t : Nat} {N : Nat → Nat} (h : Inv t N) : Inv t (mlC N (N 0)) := by
  have h0 := h.ec
  have h1 := h.sn
  refine ⟨⟨?_, ?_⟩, ?_, ?_, fun e he => ?_, fun s hs => ?_, fun e k h1 h2 h3 => ?_, fun s k h1 h2 h3 => ?_, fun j hj => ?_⟩
  · rw [mlC_out _ _ (by omega)]; exact h0
  · rw [mlC_out _ _ (by omega)]; exact h1
  · rw [mlC_out _ _ (by omega), mlC_out _ _ (by omega), mlC_out _ _ (by omega), mlC_out _ _ (by omega), mlC_out _ _ (by omega)]; exact h.tot
  · rw [mlC_out _ _ (by omega), mlC_out _ _ (by omega), mlC_out _ _ (by omega)]; exact h.set
  · have hx := h.ex e he
    rw [mlC_at N _ (by omega), mlC_at N _ (by omega), mlC_at N _ (by omega), mlC_at N _ (by omega), mlC_at N _ (by omega), mlC_at N _ (by omega)]
    by_cases hen : e < N 0
    · rw [if_neg (by omega), if_neg (by omega), if_neg (by omega), if_pos (by omega), if_pos (by omega), if_neg (by omega)]
      exact ⟨hx.1, hx.2.1, hx.2.2.1, Nat.zero_le _, Nat.zero_le _, hx.2.2.2.2.2⟩
    · rw [if_neg (by omega), if_neg (by omega), if_neg (by omega), if_neg (by omega), if_neg (by omega), if_neg (by omega)]
      exact hx
  · have hx := h.sc s hs
    rw [mlC_out _ _ (by omega), mlC_out _ _ (by omega), mlC_out _ _ (by omega), mlC_out _ _ (by omega), mlC_out _ _ (by omega), mlC_out _ _ (by omega), mlC_out _ _ (by omega), mlC_out _ _ (by omega)]
    exact hx
  · rw [mlC_out _ _ (by omega)] at h1
    rw [mlC_out _ _ (by omega)]
    exact h.ez e k h1 h2 h3
  · rw [mlC_out _ _ (by omega)] at h1
    rw [mlC_out _ _ (by omega)]
    exact h.sz s k h1 h2 h3
  · rw [mlC_out _ _ (by omega)]
    exact h.bz j hj
theorem Inv_next {t : Nat} {N : Nat → Nat} (h : Inv t N) : Inv (t + 1) (nxN N) := by
  have hm := Inv_meal h
  have h0 := h.ec
  have h1 := h.sn
  have m0 : mlC N (N 0) 0 = N 0 := mlC_out _ _ (by omega)
  have m2 : mlC N (N 0) 2 = N 2 := mlC_out _ _ (by omega)
  have hlate : ∀ e, e < N 0 → mlC N (N 0) (10 + 6 * e + 3) = 0 ∧ mlC N (N 0) (10 + 6 * e + 4) = 0 := by
    intro e he
    rw [mlC_at _ _ (by omega), mlC_at _ _ (by omega), if_pos (by omega), if_pos (by omega)]
    exact ⟨rfl, rfl⟩
  unfold nxN
  generalize mlC N (N 0) = M at hm m0 m2 hlate
  have t1 := hm.tot
  refine ⟨⟨?_, ?_⟩, ?_, ?_, fun e he => ?_, fun s hs => ?_, fun e k h1 h2 h3 => ?_, fun s k h1 h2 h3 => ?_, fun j hj => ?_⟩
  · rw [nset_ne _ _ (by omega), nxC_out _ _ (by omega)]; exact hm.ec
  · rw [nset_ne _ _ (by omega), nxC_out _ _ (by omega)]; exact hm.sn
  · rw [nset_eq, nset_ne _ _ (by omega), nset_ne _ _ (by omega), nset_ne _ _ (by omega), nset_ne _ _ (by omega), nxC_out _ _ (by omega), nxC_out _ _ (by omega), nxC_out _ _ (by omega), nxC_out _ _ (by omega)]
    omega
  · rw [nset_ne _ _ (by omega), nset_ne _ _ (by omega), nset_ne _ _ (by omega), nxC_out _ _ (by omega), nxC_out _ _ (by omega), nxC_out _ _ (by omega)]; exact hm.set
  · have hx := hm.ex e he
    rw [nset_ne _ _ (by omega), nset_ne _ _ (by omega), nset_ne _ _ (by omega), nset_ne _ _ (by omega), nset_ne _ _ (by omega), nset_ne _ _ (by omega), nxC_at _ _ (by omega), nxC_at _ _ (by omega), nxC_at _ _ (by omega), nxC_at _ _ (by omega), nxC_at _ _ (by omega), nxC_at _ _ (by omega)]
    by_cases hen : e < N 0
    · have hl := hlate e hen
      rw [if_neg (by omega), if_neg (by omega), if_pos (by omega), if_neg (by omega), if_neg (by omega), if_neg (by omega), hl.1, hl.2]
      exact ⟨hx.1, hx.2.1, by omega, by omega, Nat.zero_le _, by omega⟩
    · rw [if_neg (by omega), if_neg (by omega), if_neg (by omega), if_neg (by omega), if_neg (by omega), if_neg (by omega)]
      exact ⟨hx.1, hx.2.1, hx.2.2.1, hx.2.2.2.1, hx.2.2.2.2.1, by omega⟩
  · have hx := hm.sc s hs
    rw [nset_ne _ _ (by omega), nset_ne _ _ (by omega), nset_ne _ _ (by omega), nset_ne _ _ (by omega), nset_ne _ _ (by omega), nset_ne _ _ (by omega), nset_ne _ _ (by omega), nset_ne _ _ (by omega), nxC_out _ _ (by omega), nxC_out _ _ (by omega), nxC_out _ _ (by omega), nxC_out _ _ (by omega), nxC_out _ _ (by omega), nxC_out _ _ (by omega), nxC_out _ _ (by omega), nxC_out _ _ (by omega)]
    exact hx
  · rw [nset_ne _ _ (by omega), nxC_out _ _ (by omega)] at h1
    rw [nset_ne _ _ (by omega), nxC_at _ _ h3, if_neg (by omega)]
    exact hm.ez e k h1 h2 h3
  · rw [nset_ne _ _ (by omega), nxC_out _ _ (by omega)] at h1
    rw [nset_ne _ _ (by omega), nxC_out _ _ (by omega)]
    exact hm.sz s k h1 h2 h3
  · rw [nset_ne _ _ (by omega), nxC_out _ _ (by omega)]
    exact hm.bz j hj
theorem Inv_set {t : Nat} {N : Nat → Nat} {k v : Nat} (h : Inv t N) (hk : (k = 0 ∧ 240 ≤ v ∧ v ≤ 960) ∨ (k = 1 ∧ v ≤ 99) ∨ (k = 2 ∧ v ≤ 99)) : Inv t (seN N k v) := by
  have hs := h.set
  unfold seN
  refine ⟨⟨?_, ?_⟩, ?_, ?_, fun e he => ?_, fun s hs => ?_, fun e k h1 h2 h3 => ?_, fun s k h1 h2 h3 => ?_, fun j hj => ?_⟩
  · rw [nset_ne _ _ (by omega)]; exact h.ec
  · rw [nset_ne _ _ (by omega)]; exact h.sn
  · rw [nset_ne _ _ (by omega), nset_ne _ _ (by omega), nset_ne _ _ (by omega), nset_ne _ _ (by omega), nset_ne _ _ (by omega)]; exact h.tot
  · unfold nset
    rcases hk with hk | hk | hk
    · rw [hk.1]; simp; omega
    · rw [hk.1]; simp; omega
    · rw [hk.1]; simp; omega
  · simp (disch := omega) only [nset_ne]; exact h.ex e he
  · simp (disch := omega) only [nset_ne]; exact h.sc s hs
  · rw [nset_ne _ _ (by omega)] at h1
    rw [nset_ne _ _ (by omega)]; exact h.ez e k h1 h2 h3
  · rw [nset_ne _ _ (by omega)] at h1
    rw [nset_ne _ _ (by omega)]; exact h.sz s k h1 h2 h3
  · rw [nset_ne _ _ (by omega)]; exact h.bz j hj
theorem Inv_rep {t : Nat} {N : Nat → Nat} {s a b : Nat} (h : Inv t N) (hs : s < N 1) (hb : b < 14) (hc : crB N s a b = true) : Inv t (reN N s a b) := by
  have hn := h.sn
  have hr : reC N s a b < 16384 := or14 (dif_lt _ _) (pw14 hb)
  have hr0 : reC N s a b ≠ 0 := by
    intro h0
    have h1 : (reC N s a b).testBit b = true := by
      unfold reC
      rw [Nat.testBit_or, Nat.testBit_two_pow, decide_eq_true rfl, Bool.or_true]
    rw [h0, Nat.zero_testBit] at h1
    cases h1
  have h5 : N (94 + 7 * s + 5) ≠ 0 := by
    unfold crB at hc
    simp only [Bool.and_eq_true, decide_eq_true_eq] at hc
    exact hc.1.1.1.1.1
  unfold reN
  refine ⟨⟨?_, ?_⟩, ?_, ?_, fun e he => ?_, fun s2 hs2 => ?_, fun e k h1 h2 h3 => ?_, fun s2 k h1 h2 h3 => ?_, fun j hj => ?_⟩
  · rw [nset_ne _ _ (by omega)]; exact h.ec
  · rw [nset_ne _ _ (by omega)]; exact hn
  · simp (disch := omega) only [nset_ne]; exact h.tot
  · simp (disch := omega) only [nset_ne]; exact h.set
  · simp (disch := omega) only [nset_ne]; exact h.ex e he
  · have hx := h.sc s2 hs2
    by_cases hss : s2 = s
    · rw [hss] at hx ⊢
      simp (disch := omega) only [nset_eq, nset_ne]
      refine ⟨hx.1, hx.2.1, hx.2.2.1, hx.2.2.2.1, hx.2.2.2.2.1, hx.2.2.2.2.2.1, hr, ⟨fun h => absurd h h5, fun h => absurd h hr0⟩, hx.2.2.2.2.2.2.2.2⟩
    · simp (disch := omega) only [nset_ne]; exact hx
  · rw [nset_ne _ _ (by omega)] at h1
    rw [nset_ne _ _ (by omega)]; exact h.ez e k h1 h2 h3
  · rw [nset_ne _ _ (by omega)] at h1
    rw [nset_ne _ _ (by omega)]; exact h.sz s2 k h1 h2 h3
  · rw [nset_ne _ _ (by omega)]; exact h.bz j hj
theorem shN_in {N : Nat → Nat} {s e k : Nat} (he : e < N 0) (he2 : e < 14) (hk : k < 6) (hb : (chN N s).testBit e = true) : shN N s (10 + 6 * e + k) = exW N (N (94 + 7 * s + 4)) e k := by
  rw [shN_def, nset_ne _ _ (by omega), nset_ne _ _ (by omega), wkC_in _ _ _ _ he hk hb]
  unfold exW moreN wageN
  rw [nset_ne _ _ (show 10 + 6 * e + 2 ≠ 6 by omega), nset_ne _ _ (show 10 + 6 * e + 3 ≠ 6 by omega), nset_ne _ _ (show 10 + 6 * e + 4 ≠ 6 by omega), nset_ne _ _ (show 10 + 6 * e + 5 ≠ 6 by omega), nset_ne _ _ (show 8 ≠ 6 by omega), nset_ne _ _ (show 9 ≠ 6 by omega), nset_ne _ _ (show 10 + 6 * e + k ≠ 6 by omega)]
theorem shN_out {N : Nat → Nat} {s e k : Nat} (he2 : e < 14) (hk : k < 6) (hb : (chN N s).testBit e = false) : shN N s (10 + 6 * e + k) = N (10 + 6 * e + k) := by
  rw [shN_def, nset_ne _ _ (by omega), nset_ne _ _ (by omega), wkC_out _ _ _ _ hk hb, nset_ne _ _ (by omega)]
theorem shN_hi {N : Nat → Nat} {s j : Nat} (hN : N 0 ≤ 14) (h : 94 ≤ j) (h5 : j ≠ 94 + 7 * s + 5) (h6 : j ≠ 94 + 7 * s + 6) : shN N s j = N j := by
  rw [shN_def, nset_ne _ _ h6, nset_ne _ _ h5, wkC_hi _ _ _ _ (by omega), nset_ne _ _ (by omega)]
theorem shN_s5 (N : Nat → Nat) (s : Nat) : shN N s (94 + 7 * s + 5) = 1 := by
  rw [shN_def, nset_ne _ _ (by omega), nset_eq]
theorem shN_s6 (N : Nat → Nat) (s : Nat) : shN N s (94 + 7 * s + 6) = chN N s := by
  rw [shN_def, nset_eq]
theorem pnU_le {N : Nat → Nat} {c m b : Nat} (h : ∀ e, c.testBit e = true → moreN N m e ≤ b) : ∀ n, pnU N c m n ≤ b * n := by
  intro n
  induction n with
  | zero => simp [pnU]
  | succ n ih =>
    rw [pnU, Nat.mul_succ]
    split
    · rename_i hb
      have := h n hb
      omega
    · omega
theorem Inv_shoot {t : Nat} {N : Nat → Nat} {s : Nat} (h : Inv t N) (ht : t ≤ 10000) (hs : s < N 1) (hcan : canN N s = true) : Inv (t + 1) (shN N s) := by
  have hS := h.sm ht
  have hn := h.sn
  have h0 := h.ec
  have hset := h.set
  have htot := h.tot
  have hm := (h.sc s (by omega)).2.2.2.2.1
  have hpos := (cwN_pos h hs hcan).2
  have hlt := chN_lt (s := s) hS
  have hP := (chN_P (s := s) h0).2
  have hw : wageN N (N (94 + 7 * s + 4)) ≤ 99 * 4 := Nat.mul_le_mul hset.2.2.1 (by omega)
  have hfree : ∀ e, (chN N s).testBit e = true → e < N 0 ∧ N (10 + 6 * e + 2) + N (94 + 7 * s + 4) ≤ N 7 := by
    intro e he
    have ⟨h1, h2⟩ := hP e he
    unfold frB at h2
    rw [Bool.and_eq_true, decide_eq_true_eq, decide_eq_true_eq] at h2
    exact ⟨h1, h2.2⟩
  have hmore : ∀ e, (chN N s).testBit e = true → moreN N (N (94 + 7 * s + 4)) e ≤ 20 := by
    intro e he
    have ⟨h1, h2⟩ := hfree e he
    have hx := h.ex e (by omega)
    unfold moreN allN
    omega
  have hpn := pnU_le hmore (N 0)
  have hfine : ∀ p, p ≤ 280 → N 9 * p ≤ 99 * 280 := fun p hp => Nat.mul_le_mul hset.2.2.2 hp
  have hbc := bcN_le (chN N s) (N 0)
  have hbw : bcN (chN N s) (N 0) * wageN N (N (94 + 7 * s + 4)) ≤ 14 * (99 * 4) := Nat.mul_le_mul (by omega) hw
  have hbr : brN N s (chN N s) ≤ 14 := bcN_le _ 14
  have hfp := hfine (pnU N (chN N s) (N (94 + 7 * s + 4)) (N 0)) (by omega)
  refine ⟨⟨?_, ?_⟩, ?_, ?_, fun e he => ?_, fun s2 hs2 => ?_, fun e k h1 h2 h3 => ?_, fun s2 k h1 h2 h3 => ?_, fun j hj => ?_⟩
  · rw [shN_lo _ _ (by omega) (by omega) (by omega) (by omega) (by omega)]; exact h0
  · rw [shN_lo _ _ (by omega) (by omega) (by omega) (by omega) (by omega)]; exact hn
  · rw [shN_lo _ _ (j := 2) (by omega) (by omega) (by omega) (by omega) (by omega), shN_3, shN_4, shN_5, shN_6]
    omega
  · rw [shN_lo _ _ (j := 7) (by omega) (by omega) (by omega) (by omega) (by omega), shN_lo _ _ (j := 8) (by omega) (by omega) (by omega) (by omega) (by omega), shN_lo _ _ (j := 9) (by omega) (by omega) (by omega) (by omega) (by omega)]; exact hset
  · have hx := h.ex e he
    cases hb : (chN N s).testBit e with
    | false =>
      rw [shN_out he (by omega) hb, shN_out he (by omega) hb, shN_out he (by omega) hb, shN_out he (by omega) hb, shN_out he (by omega) hb, shN_out he (by omega) hb]
      exact ⟨hx.1, hx.2.1, hx.2.2.1, hx.2.2.2.1, hx.2.2.2.2.1, by omega⟩
    | true =>
      have ⟨f1, f2⟩ := hfree e hb
      have f3 := hmore e hb
      have f4 := hfine (moreN N (N (94 + 7 * s + 4)) e) (by omega)
      have f5 : N (10 + 6 * e + 4) + moreN N (N (94 + 7 * s + 4)) e ≤ allN (N (10 + 6 * e + 3) + N (94 + 7 * s + 4)) := by
        have := hx.2.2.2.2.1
        unfold moreN allN at *
        omega
      rw [shN_in f1 he (by omega) hb, shN_in f1 he (by omega) hb, shN_in f1 he (by omega) hb, shN_in f1 he (by omega) hb, shN_in f1 he (by omega) hb, shN_in f1 he (by omega) hb]
      unfold exW
      simp only [show ¬ (0 = 2) by omega, show ¬ (0 = 3) by omega, show ¬ (0 = 4) by omega, show ¬ (0 = 5) by omega, show ¬ (1 = 2) by omega, show ¬ (1 = 3) by omega, show ¬ (1 = 4) by omega, show ¬ (1 = 5) by omega, show ¬ (3 = 2) by omega, show ¬ (4 = 2) by omega, show ¬ (4 = 3) by omega, show ¬ (5 = 2) by omega, show ¬ (5 = 3) by omega, show ¬ (5 = 4) by omega, if_true, if_false]
      refine ⟨hx.1, hx.2.1, by omega, by omega, f5, by omega⟩
  · have hx := h.sc s2 hs2
    have e0 : shN N s 1 = N 1 := shN_lo _ _ (by omega) (by omega) (by omega) (by omega) (by omega)
    rw [e0]
    by_cases hss : s2 = s
    · rw [hss] at hx ⊢
      rw [shN_s5, shN_s6, shN_hi h0 (by omega) (by omega) (by omega), shN_hi h0 (by omega) (by omega) (by omega), shN_hi h0 (by omega) (by omega) (by omega), shN_hi h0 (by omega) (by omega) (by omega), shN_hi h0 (by omega) (by omega) (by omega)]
      exact ⟨hx.1, hx.2.1, hx.2.2.1, hx.2.2.2.1, hx.2.2.2.2.1, by omega, hlt, by omega, hx.2.2.2.2.2.2.2.2⟩
    · rw [shN_hi h0 (by omega) (by omega) (by omega), shN_hi h0 (by omega) (by omega) (by omega), shN_hi h0 (by omega) (by omega) (by omega), shN_hi h0 (by omega) (by omega) (by omega), shN_hi h0 (by omega) (by omega) (by omega), shN_hi h0 (by omega) (by omega) (by omega), shN_hi h0 (by omega) (by omega) (by omega)]
      exact hx
  · have e0 : shN N s 0 = N 0 := shN_lo _ _ (by omega) (by omega) (by omega) (by omega) (by omega)
    rw [e0] at h1
    have hb : (chN N s).testBit e = false := by
      cases hb : (chN N s).testBit e with
      | false => rfl
      | true => have := (hfree e hb).1; omega
    rw [shN_out h2 h3 hb]
    exact h.ez e k h1 h2 h3
  · have e0 : shN N s 1 = N 1 := shN_lo _ _ (by omega) (by omega) (by omega) (by omega) (by omega)
    rw [e0] at h1
    rw [shN_hi h0 (by omega) (by omega) (by omega)]
    exact h.sz s2 k h1 h2 h3
  · rw [shN_hi h0 (by omega) (by omega) (by omega)]
    exact h.bz j hj
theorem Inv_si {t : Nat} {N : Nat → Nat} {s : Nat} (h : Inv t N) (ht : t ≤ 10000) : Inv (t + 1) (siN N s) := by
  unfold siN
  by_cases hc : cwN N s = 0
  · rw [if_pos hc]; exact h.mono (by omega)
  · rw [if_neg hc]
    unfold cwN at hc
    by_cases h2 : s < N 1 ∧ canN N s = true
    · exact Inv_shoot h ht h2.1 h2.2
    · rw [if_neg h2] at hc; exact absurd rfl hc

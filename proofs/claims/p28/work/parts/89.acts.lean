/-! ===== outcomes of the calls: actions ===== -/
def remO (o c : Nat) : Nat := if c < 14 then o else (o + 1) % 14
def remC (c : Nat) : Nat := if c < 14 then c + 1 else 14
def remR (R : Nat → Nat → Nat) (o c : Nat) (N : Nat → Nat) : Nat → Nat → Nat := va_up R ((o + c) % 14) N
theorem HR_remD {o c : Nat} {R D : Nat → Nat → Nat} (N : Nat → Nat) (h : HR o c R D) : HR (remO o c) (remC c) (remR R o c N) (reD D c N) := HR_rem h
theorem qX1_rem {o c : Nat} {N : Nat → Nat} {R D : Nat → Nat → Nat} (h : HR o c R D) : pX1_remember (nI o) (nI c) (nI (N 0)) (nI (N 1)) (nI (N 2)) (nI (N 3)) (nI (N 4)) (nI (N 5)) (nI (N 6)) (rI (exR N)) (rI (scR N)) (rI (seR N)) (rgD R) = some (nI (remO o c), nI (remC c), rgD (remR R o c N)) := qX1_remember h.1 h.2.1
theorem qX8_rem {o c : Nat} {N : Nat → Nat} {R D : Nat → Nat → Nat} (h : HR o c R D) : pX8_remember (nI c) (rI N) (rI (diN D)) = some (nI (remC c), rI (diN (reD D c N))) := qX8_remember h.2.1
theorem c_extra (rf x y : Int32) {t o c : Nat} {N : Nat → Nat} {R D : Nat → Nat → Nat} (h : Inv t N) (hH : HR o c R D) :
    (pX7_extra (nI o) (nI c) (nI (N 0)) (nI (N 1)) (nI (N 2)) (nI (N 3)) (nI (N 4)) (nI (N 5)) (nI (N 6)) (rI (exR N)) (rI (scR N)) (rI (seR N)) (rgD R) x y = some (.inl 0) ∧ pX8_extra rf (nI c) (rI N) (rI (diN D)) x y = some (nI 0, nI 1, nI c, rI N, rI (diN D))) ∨
    (pX7_extra (nI o) (nI c) (nI (N 0)) (nI (N 1)) (nI (N 2)) (nI (N 3)) (nI (N 4)) (nI (N 5)) (nI (N 6)) (rI (exR N)) (rI (scR N)) (rI (seR N)) (rgD R) x y = some (.inl 1) ∧ pX8_extra rf (nI c) (rI N) (rI (diN D)) x y = some (nI 0, nI 2, nI c, rI N, rI (diN D))) ∨
    ∃ v N2, Inv (t + 1) N2 ∧ FT N2 = (nI (N2 0), nI (N 1), nI (N 2), nI (N 3), nI (N 4), nI (N 5), nI (N 6), rI (exR N2), rI (scR N), rI (seR N)) ∧ pX7_extra (nI o) (nI c) (nI (N 0)) (nI (N 1)) (nI (N 2)) (nI (N 3)) (nI (N 4)) (nI (N 5)) (nI (N 6)) (rI (exR N)) (rI (scR N)) (rI (seR N)) (rgD R) x y = some (.inr (v, nI (remO o c), nI (remC c), nI (N2 0), rI (exR N2), rgD (remR R o c N))) ∧ pX8_extra rf (nI c) (rI N) (rI (diN D)) x y = some (v, nI 0, nI (remC c), rI N2, rI (diN (reD D c N))) := by
  have h0 := h.ec
  have r1 := qX1_rem (N := N) hH
  have r2 := qX8_rem (N := N) hH
  have e164 : nb (nI 0) 164 = true := by decide
  have e0 : (nI 0).toNatClampNeg = 0 := by decide
  unfold pX7_extra pX7_extra_23 pX7_extra_24 pX8_extra pX8_extra_29
  rw [qX8_isNewExtra, qX7_isInN (by omega) (by omega), qX7_isInN (by omega) (by omega), qX0_hasRoomForExtra (by omega)]
  unfold neB
  by_cases h1 : 0 ≤ x.toInt ∧ x.toInt ≤ 4
  · by_cases h2 : 0 ≤ y.toInt ∧ y.toInt ≤ 13
    · have g1 : ((0 : Nat) : Int) ≤ x.toInt ∧ x.toInt ≤ ((4 : Nat) : Int) := h1
      have g2 : ((0 : Nat) : Int) ≤ y.toInt ∧ y.toInt ≤ ((13 : Nat) : Int) := h2
      obtain ⟨a, ha, _, ha2⟩ := in_nat g1
      obtain ⟨b, hb, _, hb2⟩ := in_nat g2
      rw [if_pos g1, if_pos g2, if_pos (c := (decide (0 ≤ x.toInt ∧ x.toInt ≤ 4) && decide (0 ≤ y.toInt ∧ y.toInt ≤ 13)) = true) (by rw [decide_eq_true h1, decide_eq_true h2]; rfl)]
      by_cases hn : N 0 < 14
      · right; right
        refine ⟨nI (N 0), exN N a b, (Inv_ex h hn (by omega) (by omega)).mono (by omega), ?_, ?_, ?_⟩
        · rw [exN_0]; exact FT_ex hn
        · simp only [if_pos hn, ob, if_neg nI1, rA1, rS1, eR, r1, ha, hb, qX0_addExtra hn, exN_0]
        · have e2 : ¬ (nI 14 ≤ nI (N 0)) := fun h => by have := (zle (by omega) (by omega)).mp h; omega
          simp only [ob, if_neg nI1, if_pos e164, e0, rI_at, if_neg e2, rf0, if_pos nI0, r2, ha, hb, qX8_extraOn h hn]
      · right; left
        have e2 : nI 14 ≤ nI (N 0) := (zle (by omega) (by omega)).mpr (by omega)
        refine ⟨?_, ?_⟩
        · simp only [if_neg hn, ob, if_neg nI1, rA1, rS0, eR, eL]
        · simp only [ob, if_neg nI1, if_pos e164, e0, rI_at, if_pos e2, rf2]
    · left
      have g1 : ((0 : Nat) : Int) ≤ x.toInt ∧ x.toInt ≤ ((4 : Nat) : Int) := h1
      have g2 : ¬ (((0 : Nat) : Int) ≤ y.toInt ∧ y.toInt ≤ ((13 : Nat) : Int)) := h2
      rw [if_pos g1, if_neg g2, if_neg (c := (decide (0 ≤ x.toInt ∧ x.toInt ≤ 4) && decide (0 ≤ y.toInt ∧ y.toInt ≤ 13)) = true) (by rw [decide_eq_false h2, Bool.and_false]; decide)]
      refine ⟨?_, ?_⟩
      · simp only [ob, if_neg nI1, if_pos nI0, rA0, eL]
      · simp only [ob, if_pos nI0, rf1, if_neg nI1]
  · left
    have g1 : ¬ (((0 : Nat) : Int) ≤ x.toInt ∧ x.toInt ≤ ((4 : Nat) : Int)) := h1
    rw [if_neg g1, if_neg (c := (decide (0 ≤ x.toInt ∧ x.toInt ≤ 4) && decide (0 ≤ y.toInt ∧ y.toInt ≤ 13)) = true) (by rw [decide_eq_false h1, Bool.false_and]; decide)]
    refine ⟨?_, ?_⟩
    · simp only [ob, if_pos nI0, rA0, eL]
    · simp only [ob, if_pos nI0, rf1, if_neg nI1]
theorem c_scene (rf x1 x2 x3 x4 x5 : Int32) {t o c : Nat} {N : Nat → Nat} {R D : Nat → Nat → Nat} (h : Inv t N) (hH : HR o c R D) :
    (pX7_scene (nI o) (nI c) (nI (N 0)) (nI (N 1)) (nI (N 2)) (nI (N 3)) (nI (N 4)) (nI (N 5)) (nI (N 6)) (rI (exR N)) (rI (scR N)) (rI (seR N)) (rgD R) x1 x2 x3 x4 x5 = some (.inl 0) ∧ pX8_scene rf (nI c) (rI N) (rI (diN D)) x1 x2 x3 x4 x5 = some (nI 0, nI 1, nI c, rI N, rI (diN D))) ∨
    (pX7_scene (nI o) (nI c) (nI (N 0)) (nI (N 1)) (nI (N 2)) (nI (N 3)) (nI (N 4)) (nI (N 5)) (nI (N 6)) (rI (exR N)) (rI (scR N)) (rI (seR N)) (rgD R) x1 x2 x3 x4 x5 = some (.inl 1) ∧ pX8_scene rf (nI c) (rI N) (rI (diN D)) x1 x2 x3 x4 x5 = some (nI 0, nI 2, nI c, rI N, rI (diN D))) ∨
    ∃ v N2, Inv (t + 1) N2 ∧ FT N2 = (nI (N 0), nI (N2 1), nI (N 2), nI (N 3), nI (N 4), nI (N 5), nI (N 6), rI (exR N), rI (scR N2), rI (seR N)) ∧ pX7_scene (nI o) (nI c) (nI (N 0)) (nI (N 1)) (nI (N 2)) (nI (N 3)) (nI (N 4)) (nI (N 5)) (nI (N 6)) (rI (exR N)) (rI (scR N)) (rI (seR N)) (rgD R) x1 x2 x3 x4 x5 = some (.inr (v, nI (remO o c), nI (remC c), nI (N2 1), rI (scR N2), rgD (remR R o c N))) ∧ pX8_scene rf (nI c) (rI N) (rI (diN D)) x1 x2 x3 x4 x5 = some (v, nI 0, nI (remC c), rI N2, rI (diN (reD D c N))) := by
  have h1' := h.sn
  have r1 := qX1_rem (N := N) hH
  have r2 := qX8_rem (N := N) hH
  have e164 : nb (nI 1) 164 = true := by decide
  have e0 : (nI 1).toNatClampNeg = 1 := by decide
  unfold pX7_scene pX7_scene_56 pX7_scene_57 pX8_scene pX8_scene_34
  rw [qX8_isNewScene, qX7_isInN (by omega) (by omega), qX7_isInN (by omega) (by omega), qX7_isInN (by omega) (by omega), qX7_isInN (by omega) (by omega), qX7_isInN (by omega) (by omega), qX0_hasRoomForScene (by omega)]
  by_cases hb : nsB x1 x2 x3 x4 x5 = true
  · have hb' := hb
    unfold nsB at hb'
    simp only [Bool.and_eq_true, decide_eq_true_eq] at hb'
    obtain ⟨⟨⟨⟨q1, q2⟩, q3⟩, q4⟩, q5⟩ := hb'
    have g1 : ((0 : Nat) : Int) ≤ x1.toInt ∧ x1.toInt ≤ ((4 : Nat) : Int) := q1
    have g2 : ((1 : Nat) : Int) ≤ x2.toInt ∧ x2.toInt ≤ ((6 : Nat) : Int) := q2
    have g3 : ((0 : Nat) : Int) ≤ x3.toInt ∧ x3.toInt ≤ ((9 : Nat) : Int) := q3
    have g4 : ((0 : Nat) : Int) ≤ x4.toInt ∧ x4.toInt ≤ ((3 : Nat) : Int) := q4
    have g5 : ((10 : Nat) : Int) ≤ x5.toInt ∧ x5.toInt ≤ ((240 : Nat) : Int) := q5
    obtain ⟨a1, k1, _, l1⟩ := in_nat g1
    obtain ⟨a2, k2, m2, l2⟩ := in_nat g2
    obtain ⟨a3, k3, _, l3⟩ := in_nat g3
    obtain ⟨a4, k4, _, l4⟩ := in_nat g4
    obtain ⟨a5, k5, m5, l5⟩ := in_nat g5
    rw [if_pos g1, if_pos g2, if_pos g3, if_pos g4, if_pos g5, if_pos hb]
    by_cases hn : N 1 < 10
    · right; right
      refine ⟨nI (N 1), scN N a1 a2 a3 a4 a5, (Inv_sc h hn (by omega) (by omega) (by omega) (by omega) (by omega)).mono (by omega), ?_, ?_, ?_⟩
      · rw [scN_1]; exact FT_sc
      · simp only [if_pos hn, ob, if_neg nI1, rA1, rS1, eR, r1, k1, k2, k3, k4, k5, qX0_addScene hn, scN_1]
      · have e2 : ¬ (nI 10 ≤ nI (N 1)) := fun h => by have := (zle (by omega) (by omega)).mp h; omega
        simp only [ob, if_neg nI1, if_pos e164, e0, rI_at, if_neg e2, rf0, if_pos nI0, r2, k1, k2, k3, k4, k5, qX8_sceneOn h hn]
    · right; left
      have e2 : nI 10 ≤ nI (N 1) := (zle (by omega) (by omega)).mpr (by omega)
      refine ⟨?_, ?_⟩
      · simp only [if_neg hn, ob, if_neg nI1, rA1, rS0, eR, eL]
      · simp only [ob, if_neg nI1, if_pos e164, e0, rI_at, if_pos e2, rf2]
  · left
    rw [if_neg hb]
    refine ⟨?_, ?_⟩
    · have hb' : ¬ (((((0 ≤ x1.toInt ∧ x1.toInt ≤ 4) ∧ (1 ≤ x2.toInt ∧ x2.toInt ≤ 6)) ∧ (0 ≤ x3.toInt ∧ x3.toInt ≤ 9)) ∧ (0 ≤ x4.toInt ∧ x4.toInt ≤ 3)) ∧ (10 ≤ x5.toInt ∧ x5.toInt ≤ 240)) := by
        intro q
        apply hb
        unfold nsB
        simp only [Bool.and_eq_true, decide_eq_true_eq]
        exact q
      simp only [ob]
      by_cases q1 : ((0 : Nat) : Int) ≤ x1.toInt ∧ x1.toInt ≤ ((4 : Nat) : Int)
      · simp only [if_pos q1, if_neg nI1]
        by_cases q2 : ((1 : Nat) : Int) ≤ x2.toInt ∧ x2.toInt ≤ ((6 : Nat) : Int)
        · simp only [if_pos q2, if_neg nI1]
          by_cases q3 : ((0 : Nat) : Int) ≤ x3.toInt ∧ x3.toInt ≤ ((9 : Nat) : Int)
          · simp only [if_pos q3, if_neg nI1]
            by_cases q4 : ((0 : Nat) : Int) ≤ x4.toInt ∧ x4.toInt ≤ ((3 : Nat) : Int)
            · simp only [if_pos q4, if_neg nI1]
              have q5 : ¬ (((10 : Nat) : Int) ≤ x5.toInt ∧ x5.toInt ≤ ((240 : Nat) : Int)) := fun q => hb' ⟨⟨⟨⟨q1, q2⟩, q3⟩, q4⟩, q⟩
              simp only [if_neg q5, if_pos nI0, rA0, ob, eL]
            · simp only [if_neg q4, if_pos nI0, rA0, ob, eL]
          · simp only [if_neg q3, if_pos nI0, rA0, ob, eL]
        · simp only [if_neg q2, if_pos nI0, rA0, ob, eL]
      · simp only [if_neg q1, if_pos nI0, rA0, ob, eL]
    · simp only [ob, if_pos nI0, rf1, if_neg nI1]
theorem c_shoot (rf x : Int32) {t o c : Nat} {N : Nat → Nat} {R D : Nat → Nat → Nat} (h : Inv t N) (ht : t ≤ 10000) (hH : HR o c R D) :
    (pX7_shoot (nI o) (nI c) (nI (N 0)) (nI (N 1)) (nI (N 2)) (nI (N 3)) (nI (N 4)) (nI (N 5)) (nI (N 6)) (rI (exR N)) (rI (scR N)) (rI (seR N)) (rgD R) x = some (.inl 2) ∧ pX8_shoot rf (nI c) (rI N) (rI (diN D)) x = some (nI 0, nI 1, nI c, rI N, rI (diN D))) ∨
    (pX7_shoot (nI o) (nI c) (nI (N 0)) (nI (N 1)) (nI (N 2)) (nI (N 3)) (nI (N 4)) (nI (N 5)) (nI (N 6)) (rI (exR N)) (rI (scR N)) (rI (seR N)) (rgD R) x = some (.inl 1) ∧ pX8_shoot rf (nI c) (rI N) (rI (diN D)) x = some (nI 0, nI 2, nI c, rI N, rI (diN D))) ∨
    ∃ v N2, Inv (t + 1) N2 ∧ FT N2 = (nI (N 0), nI (N 1), nI (N 2), nI (N2 3), nI (N2 4), nI (N2 5), nI (N2 6), rI (exR N2), rI (scR N2), rI (seR N)) ∧ pX7_shoot (nI o) (nI c) (nI (N 0)) (nI (N 1)) (nI (N 2)) (nI (N 3)) (nI (N 4)) (nI (N 5)) (nI (N 6)) (rI (exR N)) (rI (scR N)) (rI (seR N)) (rgD R) x = some (.inr (v, nI (remO o c), nI (remC c), nI (N2 3), nI (N2 4), nI (N2 5), nI (N2 6), rI (exR N2), rI (scR N2), rgD (remR R o c N))) ∧ pX8_shoot rf (nI c) (rI N) (rI (diN D)) x = some (v, nI 0, nI (remC c), rI N2, rI (diN (reD D c N))) := by
  have h1' := h.sn
  have r1 := qX1_rem (N := N) hH
  have r2 := qX8_rem (N := N) hH
  unfold pX7_shoot pX7_shoot_23 pX8_shoot pX8_shoot_32
  by_cases hx : isS N x
  · obtain ⟨s, hs, hs2⟩ := isS_nat hx
    simp only [qX7_reqS1 h1' hx, qX8_isS1 h1' hx, ob, eR, if_neg nI1]
    have hl := cwN_lt (s := s) h ht
    have w1 := qX0_crowdNow h ht (show s < 10 by omega)
    have w2 := qX8_canShootW h ht (show s < 10 by omega)
    rw [hs]
    by_cases hc : cwN N s = 0
    · right; left
      rw [if_pos hc] at w2
      have e1 : nI (cwN N s) = 0 := (zeq0 (by omega)).mpr hc
      refine ⟨?_, ?_⟩
      · simp only [w1, ob, if_pos e1, rS0, eL]
      · simp only [w2, ob, if_pos nI0, rf2, if_neg nI1]
    · right; right
      rw [if_neg hc] at w2
      have e1 : ¬ (nI (cwN N s) = 0) := fun h => hc ((zeq0 (by omega)).mp h)
      have w3 := qX0_work h ht (show s < 10 by omega)
      rw [← cwN_ch hc] at w3
      have es : siN N s = shN N s := by unfold siN; rw [if_neg hc]
      have w4 := qX8_shootW h ht (show s < 10 by omega) hc
      rw [es] at w4
      have hI := Inv_si (s := s) h ht
      rw [es] at hI
      refine ⟨nI (cwN N s), shN N s, hI, FT_sh, ?_, ?_⟩
      · simp only [w1, ob, if_neg e1, rS1, eR, r1, w3]
      · simp only [w2, ob, if_neg nI1, rf0, if_pos nI0, r2, w4]
  · left
    refine ⟨?_, ?_⟩
    · simp only [qX7_reqS0 h1' hx, ob, eL]
    · simp only [qX8_isS0 h1' hx, ob, if_pos nI0, rf1, if_neg nI1]
theorem c_replace (rf x a b : Int32) {t o c : Nat} {N : Nat → Nat} {R D : Nat → Nat → Nat} (h : Inv t N) (ht : t ≤ 10000) (hH : HR o c R D) :
    (pX7_replace (nI o) (nI c) (nI (N 0)) (nI (N 1)) (nI (N 2)) (nI (N 3)) (nI (N 4)) (nI (N 5)) (nI (N 6)) (rI (exR N)) (rI (scR N)) (rI (seR N)) (rgD R) x a b = some (.inl 2) ∧ pX8_replace rf (nI c) (rI N) (rI (diN D)) x a b = some (nI 0, nI 1, nI c, rI N, rI (diN D))) ∨
    (pX7_replace (nI o) (nI c) (nI (N 0)) (nI (N 1)) (nI (N 2)) (nI (N 3)) (nI (N 4)) (nI (N 5)) (nI (N 6)) (rI (exR N)) (rI (scR N)) (rI (seR N)) (rgD R) x a b = some (.inl 1) ∧ pX8_replace rf (nI c) (rI N) (rI (diN D)) x a b = some (nI 0, nI 2, nI c, rI N, rI (diN D))) ∨
    ∃ v N2, Inv (t + 1) N2 ∧ FT N2 = (nI (N 0), nI (N 1), nI (N 2), nI (N 3), nI (N 4), nI (N 5), nI (N 6), rI (exR N), rI (scR N2), rI (seR N)) ∧ pX7_replace (nI o) (nI c) (nI (N 0)) (nI (N 1)) (nI (N 2)) (nI (N 3)) (nI (N 4)) (nI (N 5)) (nI (N 6)) (rI (exR N)) (rI (scR N)) (rI (seR N)) (rgD R) x a b = some (.inr (v, nI (remO o c), nI (remC c), rI (scR N2), rgD (remR R o c N))) ∧ pX8_replace rf (nI c) (rI N) (rI (diN D)) x a b = some (v, nI 0, nI (remC c), rI N2, rI (diN (reD D c N))) := by
  have h1' := h.sn
  have h0' := h.ec
  have r1 := qX1_rem (N := N) hH
  have r2 := qX8_rem (N := N) hH
  unfold pX7_replace pX8_replace pX8_replace_34 pX8_replace_56
  by_cases hx : isS N x
  · obtain ⟨s, hs, hs2⟩ := isS_nat hx
    simp only [qX7_reqS1 h1' hx, qX8_isS1 h1' hx, ob, eR, if_neg nI1]
    by_cases ha : isE N a
    · obtain ⟨e, he, he2⟩ := isE_nat ha
      simp only [qX7_reqE1 h0' ha, qX8_isE1 h0' ha, ob, eR, if_neg nI1]
      by_cases hb : isE N b
      · obtain ⟨f, hf, hf2⟩ := isE_nat hb
        simp only [qX7_reqE1 h0' hb, qX8_isE1 h0' hb, ob, eR, if_neg nI1]
        rw [hs, he, hf]
        have w1 := qX0_canExchange h ht hs2 he2 hf2
        have w2 := qX8_canReplace (h.sm ht) (show s < 10 by omega) (show e < 14 by omega) (show f < 14 by omega)
        by_cases hc : crB N s e f = true
        · right; right
          rw [if_pos hc] at w1 w2
          have hcr := (h.sc s (by omega)).2.2.2.2.2.2.1
          have w3 := qX0_exchange (N := N) (show s < 10 by omega) (show e < 14 by omega) (show f < 14 by omega) hcr
          have w4 := qX8_replaceOn (N := N) (show s < 10 by omega) (show e < 14 by omega) (show f < 14 by omega) hcr
          refine ⟨nI (reC N s e f), reN N s e f, (Inv_rep h hs2 (by omega) hc).mono (by omega), FT_re, ?_, ?_⟩
          · simp only [w1, ob, rS1, eR, r1, w3]
          · simp only [w2, ob, if_neg nI1, rf0, if_pos nI0, r2, w4]
        · right; left
          rw [if_neg hc] at w1 w2
          refine ⟨?_, ?_⟩
          · simp only [w1, ob, rS0, eL]
          · simp only [w2, ob, if_pos nI0, rf2, if_neg nI1]
      · left
        refine ⟨?_, ?_⟩
        · simp only [qX7_reqE0 h0' hb, ob, eL]
        · simp only [qX8_isE0 h0' hb, ob, if_pos nI0, rf1, if_neg nI1]
    · left
      refine ⟨?_, ?_⟩
      · simp only [qX7_reqE0 h0' ha, ob, eL]
      · simp only [qX8_isE0 h0' ha, ob, if_pos nI0, rf1, if_neg nI1]
  · left
    refine ⟨?_, ?_⟩
    · simp only [qX7_reqS0 h1' hx, ob, eL]
    · simp only [qX8_isS0 h1' hx, ob, if_pos nI0, rf1, if_neg nI1]
theorem c_meal (rf : Int32) {t o c : Nat} {N : Nat → Nat} {R D : Nat → Nat → Nat} (h : Inv t N) (ht : t ≤ 10000) (hH : HR o c R D) :
    ∃ v N2, Inv (t + 1) N2 ∧ FT N2 = (nI (N 0), nI (N 1), nI (N 2), nI (N 3), nI (N 4), nI (N 5), nI (N 6), rI (exR N2), rI (scR N), rI (seR N)) ∧ pX7_meal (nI o) (nI c) (nI (N 0)) (nI (N 1)) (nI (N 2)) (nI (N 3)) (nI (N 4)) (nI (N 5)) (nI (N 6)) (rI (exR N)) (rI (scR N)) (rI (seR N)) (rgD R) = some (v, nI (remO o c), nI (remC c), rI (exR N2), rgD (remR R o c N)) ∧ pX8_meal rf (nI c) (rI N) (rI (diN D)) = some (v, nI 0, nI (remC c), rI N2, rI (diN (reD D c N))) := by
  have h0' := h.ec
  have hB := h.sm0 ht
  have r1 := qX1_rem (N := N) hH
  have r2 := qX8_rem (N := N) hH
  refine ⟨nI (lateU N (N 0)), mlC N (N 0), (Inv_meal h).mono (by omega), FT_ml h0', ?_, ?_⟩
  · unfold pX7_meal
    simp only [r1, ob, qX0_eat h ht]
  · unfold pX8_meal
    simp only [r2, ob, qX8_mealOn h0' (fun j => by have := hB j; omega)]
theorem c_nextDay (rf : Int32) {t o c : Nat} {N : Nat → Nat} {R D : Nat → Nat → Nat} (h : Inv t N) (ht : t ≤ 10000) (hH : HR o c R D) :
    ∃ v N2, Inv (t + 1) N2 ∧ FT N2 = (nI (N 0), nI (N 1), nI (N2 2), nI (N 3), nI (N 4), nI (N 5), nI (N 6), rI (exR N2), rI (scR N), rI (seR N)) ∧ pX7_nextDay (nI o) (nI c) (nI (N 0)) (nI (N 1)) (nI (N 2)) (nI (N 3)) (nI (N 4)) (nI (N 5)) (nI (N 6)) (rI (exR N)) (rI (scR N)) (rI (seR N)) (rgD R) = some (v, nI (remO o c), nI (remC c), nI (N2 2), rI (exR N2), rgD (remR R o c N)) ∧ pX8_nextDay rf (nI c) (rI N) (rI (diN D)) = some (v, nI 0, nI (remC c), rI N2, rI (diN (reD D c N))) := by
  have h0' := h.ec
  have hB := h.sm0 ht
  have r1 := qX1_rem (N := N) hH
  have r2 := qX8_rem (N := N) hH
  refine ⟨nI (N 2 + 1), nxN N, Inv_next h, by rw [nxN_2]; exact FT_nx h0', ?_, ?_⟩
  · unfold pX7_nextDay
    simp only [r1, ob, qX0_beginDay h, nxN_2]
  · unfold pX8_nextDay
    simp only [r2, ob, qX8_nextOn h0' (fun j => by have := hB j; omega)]
theorem stB_nat {x v : Int32} (h : stB x v = true) : ∃ k w, x = nI k ∧ v = nI w ∧ ((k = 0 ∧ 240 ≤ w ∧ w ≤ 960) ∨ (k = 1 ∧ w ≤ 99) ∨ (k = 2 ∧ w ≤ 99)) := by
  unfold stB at h
  simp only [Bool.or_eq_true, Bool.and_eq_true, decide_eq_true_eq] at h
  rcases h with (h | h) | h
  · exact ⟨0, v.toInt.toNat, h.1, i32nat (by omega), by omega⟩
  · exact ⟨1, v.toInt.toNat, h.1, i32nat (by omega), by omega⟩
  · exact ⟨2, v.toInt.toNat, h.1, i32nat (by omega), by omega⟩
theorem c_set (rf x y : Int32) {t o c : Nat} {N : Nat → Nat} {R D : Nat → Nat → Nat} (h : Inv t N) (hH : HR o c R D) :
    (pX7_set (nI o) (nI c) (nI (N 0)) (nI (N 1)) (nI (N 2)) (nI (N 3)) (nI (N 4)) (nI (N 5)) (nI (N 6)) (rI (exR N)) (rI (scR N)) (rI (seR N)) (rgD R) x y = some (.inl 0) ∧ pX8_set rf (nI c) (rI N) (rI (diN D)) x y = some (nI 0, nI 1, nI c, rI N, rI (diN D))) ∨
    ∃ v N2, Inv (t + 1) N2 ∧ FT N2 = (nI (N 0), nI (N 1), nI (N 2), nI (N 3), nI (N 4), nI (N 5), nI (N 6), rI (exR N), rI (scR N), rI (seR N2)) ∧ pX7_set (nI o) (nI c) (nI (N 0)) (nI (N 1)) (nI (N 2)) (nI (N 3)) (nI (N 4)) (nI (N 5)) (nI (N 6)) (rI (exR N)) (rI (scR N)) (rI (seR N)) (rgD R) x y = some (.inr (v, nI (remO o c), nI (remC c), rI (seR N2), rgD (remR R o c N))) ∧ pX8_set rf (nI c) (rI N) (rI (diN D)) x y = some (v, nI 0, nI (remC c), rI N2, rI (diN (reD D c N))) := by
  have r1 := qX1_rem (N := N) hH
  have r2 := qX8_rem (N := N) hH
  unfold pX7_set pX8_set pX8_set_14
  rw [qX7_isSetting, qX8_isSetting]
  by_cases hs : stB x y = true
  · right
    obtain ⟨k, w, hk, hw, hkw⟩ := stB_nat hs
    rw [if_pos hs]
    have e1 : nb (nI 7 + nI k) 164 = true := by rw [zadd]; exact (znb (by omega)).mpr (by omega)
    have e2 : (nI 7 + nI k).toNatClampNeg = 7 + k := by rw [zadd]; exact zcl (by omega)
    have w3 := qX0_change (N := N) (v := w) (show k < 3 by omega)
    refine ⟨nI (N (7 + k)), seN N k w, (Inv_set h hkw).mono (by omega), FT_se (by omega), ?_, ?_⟩
    · simp only [ob, rA1, eR, r1, hk, hw, w3]
    · simp only [ob, if_neg nI1, rf0, if_pos nI0, r2, hk, hw, if_pos e1, e2, rI_at, rI_upd]
      rfl
  · left
    rw [if_neg hs]
    refine ⟨?_, ?_⟩
    · simp only [ob, rA0, eL]
    · simp only [ob, if_pos nI0, rf1, if_neg nI1]
theorem c_undo (rf : Int32) {o c : Nat} {N : Nat → Nat} {R D : Nat → Nat → Nat} (hH : HR o c R D) (hN : Z164 N) (hD : ∀ i, i < c → Z164 (D i)) :
    (pX7_undo (nI o) (nI c) (nI (N 0)) (nI (N 1)) (nI (N 2)) (nI (N 3)) (nI (N 4)) (nI (N 5)) (nI (N 6)) (rI (exR N)) (rI (scR N)) (rI (seR N)) (rgD R) = some (.inl 1) ∧ pX8_undo rf (nI c) (rI N) (rI (diN D)) = some (nI 0, nI 1, nI c, rI N)) ∨
    (0 < c ∧ pX7_undo (nI o) (nI c) (nI (N 0)) (nI (N 1)) (nI (N 2)) (nI (N 3)) (nI (N 4)) (nI (N 5)) (nI (N 6)) (rI (exR N)) (rI (scR N)) (rI (seR N)) (rgD R) = some (.inr (nI (c - 1), nI (c - 1), FT (D (c - 1)))) ∧ pX8_undo rf (nI c) (rI N) (rI (diN D)) = some (nI (c - 1), nI 0, nI (c - 1), rI (D (c - 1)))) := by
  have hc := hH.2.1
  unfold pX7_undo pX7_undo_15 pX8_undo pX8_undo_13 pX1_size
  by_cases h0 : c = 0
  · left
    have e1 : nI c ≤ 0 := (zle0 (by omega)).mpr h0
    have e2 : nI c = 0 := (zeq0 (by omega)).mpr h0
    refine ⟨?_, ?_⟩
    · simp only [ob, if_pos e1, rS0, eL]
    · simp only [if_pos e2, rf1, ob, if_neg nI1]
  · right
    have e1 : ¬ (nI c ≤ 0) := fun h => h0 ((zle0 (by omega)).mp h)
    have e2 : ¬ (nI c = 0) := fun h => h0 ((zeq0 (by omega)).mp h)
    have w1 := qX1_takeBack (N := N) (R := R) hH.1 hc (by omega)
    rw [hH.2.2 (c - 1) (by omega)] at w1
    have w2 : pX8_copyState 2296 (rI (diN D)) 164 (rI N) (nI 164 * (nI c - nI 1)) (nI 0) = some (rI (D (c - 1))) := by
      rw [zsub (by omega), zmul, qX8_copyState (by omega) (by omega) (by omega) (by omega), cpK_undo (by omega) (hD _ (by omega)) hN]
    have e3 : nI c - nI 1 = nI (c - 1) := zsub (by omega)
    rw [e3] at w2
    refine ⟨by omega, ?_, ?_⟩
    · simp only [ob, if_neg e1, rS1, eR, w1]
    · simp only [if_neg e2, rf0, ob, if_pos nI0, w2, e3]

/-! ===== the law: what scenes cost; a scene as it was told, two in their order ===== -/
theorem FG_sh {t : Nat} {N : Nat → Nat} {s : Nat} (h : FG t N) (ht : t ≤ 9000) (hs : s < N 1) (hc : cwN N s ≠ 0) : FG (t + 1) (shN N s) ∧ st1 N (shN N s) ∧ shN N s 0 = N 0 ∧ shN N s 1 = N 1 := by
  have e0 : shN N s 0 = N 0 := shN_lo N s (by omega) (by omega) (by omega) (by omega) (by omega)
  have e1 : shN N s 1 = N 1 := shN_lo N s (by omega) (by omega) (by omega) (by omega) (by omega)
  have hcan : canN N s = true := by
    by_cases c : s < N 1 ∧ canN N s = true
    · exact c.2
    · exact absurd (cwN_no c) hc
  exact ⟨⟨Inv_shoot h.1 (by omega) hs hcan, GW_shoot h.1 hs hcan h.2⟩, ⟨by omega, by omega⟩, e0, e1⟩
theorem fSh_no {S : SS} {s : Nat} (hs : s < S.1 1) (h : s < 10) (hc : cwN S.1 s = 0) : fSh S (nI s) = (-9999003, S) := by
  unfold fSh
  rw [if_pos (nbt hs (by omega)), tn (by omega), if_pos hc]
theorem fSh_ok {S : SS} {s : Nat} (hs : s < S.1 1) (h : s < 10) (hc : cwN S.1 s ≠ 0) : fSh S (nI s) = (nI (cwN S.1 s), actS S (shN S.1 s)) := by
  unfold fSh
  rw [if_pos (nbt hs (by omega)), tn (by omega), if_neg hc]
theorem coN_cw {N : Nat → Nat} {s : Nat} (hc : cwN N s ≠ 0) : woV N s 1 + woV N s 2 = coN N s := by
  show bcN (cwN N s) 14 * wageN N (N (94 + 7 * s + 4)) + N 9 * pnU N (cwN N s) (N (94 + 7 * s + 4)) (N 0) = coN N s
  rw [cwN_ch hc]
  rfl
/-- what two scenes cost, one behind the other, and all is as before -/
theorem price_ok {t : Nat} {S : SS} {a b : Nat} (h : RG t S) (ht : t ≤ 8000) (ha : a < S.1 1) (hb : b < S.1 1) : ∃ S2, pL_price S (nI a) (nI b) = some (oI (orN S.1 a b), S2) ∧ S2.1 = S.1 ∧ RG (t + 4) S2 := by
  obtain ⟨hw, g0, g1⟩ := h
  have hI := hw.1.1
  have hsn := hI.sn
  have hec := hI.ec
  have hc14 := hw.2.1
  have k1 : ((-9999003 : Int32) = -9999003) := rfl
  unfold pL_price pL_price_37 pL_price_69 pL_price_91 pL_price_95 pL_price_96 pL_price_122 pL_price_128 orN
  rw [spent_ok, ob]
  by_cases hca : cwN S.1 a = 0
  · rw [fSh_no ha (by omega) hca, if_pos hca]
    refine ⟨S, ?_, rfl, ⟨hw.mono (by omega), g0, g1⟩⟩
    simp only [if_true, spent_ok, ob]
    rw [if_neg nI1]
    rfl
  · have hla := cwN_lt (s := a) hI (by omega)
    obtain ⟨q1, q2, q3, q4⟩ := FG_sh hw.1 (by omega) ha hca
    have n1 : ¬ (nI (cwN S.1 a) = -9999003) := zneg (by omega) (by decide)
    have esi : siN S.1 a = shN S.1 a := by unfold siN; rw [if_neg hca]
    have hw1 : RW (t + 1) (actS S (shN S.1 a)) := hw.act q1 q2
    rw [fSh_ok ha (by omega) hca, if_neg hca, esi]
    have b1 : (bakS (actS S (shN S.1 a))).1 = S.1 := bak_act1 hc14
    have hp1 := remC_pos S.2.1
    by_cases hcb : cwN (shN S.1 a) b = 0
    · have f2 : fSh (actS S (shN S.1 a)) (nI b) = (-9999003, actS S (shN S.1 a)) := fSh_no (S := actS S (shN S.1 a)) (by show b < shN S.1 a 1; omega) (by omega) hcb
      rw [if_pos hcb]
      refine ⟨bakS (actS S (shN S.1 a)), ?_, b1, ⟨(hw1.back hp1).mono (by omega), by rw [b1]; exact g0, by rw [b1]; exact g1⟩⟩
      simp only [f2, if_neg n1, if_true, spent_ok, ob, fUn_act, thrown_no (show remC S.2.1 - 1 < 2147483648 by unfold remC; split <;> omega)]
      rw [if_pos nI0, if_neg nI1]
      rfl
    · have f2 : fSh (actS S (shN S.1 a)) (nI b) = (nI (cwN (shN S.1 a) b), actS (actS S (shN S.1 a)) (shN (shN S.1 a) b)) := fSh_ok (S := actS S (shN S.1 a)) (by show b < shN S.1 a 1; omega) (by omega) hcb
      have hlb := cwN_lt (s := b) q1.1 (by omega)
      obtain ⟨r1, r2, r3, r4⟩ := FG_sh q1 (by omega) (by omega) hcb
      have n2 : ¬ (nI (cwN (shN S.1 a) b) = -9999003) := zneg (by omega) (by decide)
      have hw2 : RW (t + 1 + 1) (actS (actS S (shN S.1 a)) (shN (shN S.1 a) b)) := hw1.act r1 r2
      obtain ⟨b2, b3⟩ := bak_act2 (S := S) (N2 := shN S.1 a) (N3 := shN (shN S.1 a) b) hc14
      have hp2 := remC_pos (remC S.2.1)
      have hw3 : RW (t + 1 + 1) (bakS (actS (actS S (shN S.1 a)) (shN (shN S.1 a) b))) := hw2.back hp2
      have l2 : (bakS (actS (actS S (shN S.1 a)) (shN (shN S.1 a) b))).2.1 ≤ 14 := hw3.2.1
      have f3 := fUn_pos b2
      have sp1 := sh_spent (s := a) hec
      have sp2 := sh_spent (N := shN S.1 a) (s := b) (by omega)
      rw [if_neg hcb]
      refine ⟨bakS (bakS (actS (actS S (shN S.1 a)) (shN (shN S.1 a) b))), ?_, b3, ⟨(hw3.back b2).mono (by omega), by rw [b3]; exact g0, by rw [b3]; exact g1⟩⟩
      have u2 : fUn (actS (actS S (shN S.1 a)) (shN (shN S.1 a) b)) = (nI (remC (remC S.2.1) - 1), bakS (actS (actS S (shN S.1 a)) (shN (shN S.1 a) b))) := fUn_act
      simp only [f2, if_neg n1, if_neg n2, spent_ok, ob, u2, f3, thrown_no (show remC (remC S.2.1) - 1 < 2147483648 by unfold remC; split <;> split <;> omega), thrown_no (show (bakS (actS (actS S (shN S.1 a)) (shN (shN S.1 a) b))).2.1 - 1 < 2147483648 by omega), if_pos nI0, if_neg nI1]
      show some (nI (shN (shN S.1 a) b 3 + shN (shN S.1 a) b 4) - nI (S.1 3 + S.1 4), _) = some (nI (coN S.1 a + coN (shN S.1 a) b), _)
      rw [sp2, sp1, zsub (by omega)]
      congr 2
      congr 1
      omega
theorem shU_sh {t : Nat} {N : Nat → Nat} {s : Nat} (h : Inv t N) (h5 : N (94 + 7 * s + 5) = 0) : ∀ n, n ≤ 10 → shU (shN N s) n = shU N n + (if s < n then 1 else 0) := by
  intro n
  induction n with
  | zero => intro _; rw [shU, shU, if_neg (by omega)]
  | succ n ih =>
    intro hn
    rw [shU, shU, ih (by omega)]
    by_cases hs : n = s
    · subst hs
      rw [shN_s5, h5, if_neg (by omega), if_pos (by omega)]
    · rw [shN_hi h.ec (by omega) (by omega) (by omega)]
      by_cases h2 : s < n
      · rw [if_pos h2, if_pos (by omega)]
        omega
      · rw [if_neg h2, if_neg (by omega)]
        omega
/-- a scene is shot as it was told, and undone -/
theorem scene_ok {t : Nat} {S : SS} {X : Nat} (h : RG t S) (ht : t ≤ 8000) (hX : X < 2147483648) : ∃ S2, pL_scene S S (nI X) = some (nI 1, S2, S2) ∧ S2.1 = S.1 ∧ RG (t + 2) S2 := by
  obtain ⟨hw, g0, g1⟩ := h
  have hI := hw.1.1
  have hsn := hI.sn
  have hec := hI.ec
  have hc14 := hw.2.1
  obtain ⟨s, hs⟩ : ∃ s, s = X % S.1 1 := ⟨_, rfl⟩
  have hs1 : s < S.1 1 := by rw [hs]; exact Nat.mod_lt _ (by omega)
  have e1 : aAb S.1 (nI 1) = nI (S.1 1) := aAb_n (by omega)
  have er : nI X - nI X / nI (S.1 1) * nI (S.1 1) = nI s := by rw [hs]; exact zrem hX (by omega) (by omega)
  have en : ¬ nI (S.1 1) = 0 := fun q => by have := (zeq0 (by omega)).mp q; omega
  have w0 := aWo_n (N := S.1) (w := 0) hs1 hsn (by omega)
  unfold pL_scene
  rw [e1, if_pos en, er]
  by_cases hc : cwN S.1 s = 0
  · rw [w0, if_pos hc, if_pos rfl, fSh_no hs1 (by omega) hc, if_pos rfl, if_pos rfl]
    refine ⟨S, ?_, rfl, ⟨hw.mono (by omega), g0, g1⟩⟩
    unfold pL_scene_61
    rfl
  · have hl := cwN_lt (s := s) hI (by omega)
    obtain ⟨q1, q2, q3, q4⟩ := FG_sh hw.1 (by omega) hs1 hc
    have hcan : canN S.1 s = true := by
      by_cases c : s < S.1 1 ∧ canN S.1 s = true
      · exact c.2
      · exact absurd (cwN_no c) hc
    have h5 : S.1 (94 + 7 * s + 5) = 0 := by
      unfold canN at hcan
      rw [Bool.and_eq_true, decide_eq_true_eq] at hcan
      exact hcan.1
    have hw1 : RW (t + 1) (actS S (shN S.1 s)) := hw.act q1 q2
    have b1 : (bakS (actS S (shN S.1 s))).1 = S.1 := bak_act1 hc14
    have hp1 := remC_pos S.2.1
    have w1 := aWo_n (N := S.1) (w := 1) hs1 hsn (by omega)
    have w2 := aWo_n (N := S.1) (w := 2) hs1 hsn (by omega)
    have w3 := aWo_n (N := S.1) (w := 3) hs1 hsn (by omega)
    rw [if_neg hc] at w0 w1 w2 w3
    have w0' : woV S.1 s 0 = cwN S.1 s := rfl
    have w3' : woV S.1 s 3 = brN S.1 s (chN S.1 s) := by
      show brN S.1 s (cwN S.1 s) = _
      rw [cwN_ch hc]
    have hcost := coN_cw hc
    have sp := sh_spent (s := s) hec
    have f1 := fSh_ok hs1 (show s < 10 by omega) hc
    have hno : cwN (shN S.1 s) s = 0 := by
      refine cwN_no (fun q => ?_)
      have q2 := q.2
      unfold canN at q2
      rw [Bool.and_eq_true, decide_eq_true_eq, shN_s5] at q2
      omega
    have f2 : fSh (actS S (shN S.1 s)) (nI s) = (-9999003, actS S (shN S.1 s)) := fSh_no (S := actS S (shN S.1 s)) (by show s < shN S.1 s 1; omega) (by omega) hno
    have a7 : aAb (shN S.1 s) (nI 7) = nI (S.1 6 + brN S.1 s (chN S.1 s)) := by
      rw [aAb_n (by omega)]
      show nI (shN S.1 s 6) = _
      rw [shN_6]
    have a2 : aAb (shN S.1 s) (nI 2) = nI (shU S.1 (S.1 1) + 1) := by
      rw [aAb_n (by omega)]
      show nI (shU (shN S.1 s) (shN S.1 s 1)) = _
      rw [q4, shU_sh hI h5 _ hsn, if_pos hs1]
    have b7 : aAb S.1 (nI 7) = nI (S.1 6) := aAb_n (by omega)
    have b2 : aAb S.1 (nI 2) = nI (shU S.1 (S.1 1)) := aAb_n (by omega)
    have c6 : aSc (shN S.1 s) (nI s) (nI 6) = nI (cwN S.1 s) := by
      rw [aSc_n (by omega) (by omega) (by omega)]
      show nI (shN S.1 s (94 + 7 * s + 6)) = _
      rw [shN_s6, cwN_ch hc]
    have n1 : ¬ (nI (cwN S.1 s) = -1) := fun q => (zm1 (by omega)).mp q
    refine ⟨bakS (actS S (shN S.1 s)), ?_, b1, ⟨(hw1.back hp1).mono (by omega), by rw [b1]; exact g0, by rw [b1]; exact g1⟩⟩
    rw [w0, w0', if_neg n1, spent_ok, ob, f1]
    show (if nI (cwN S.1 s) = nI (cwN S.1 s) then _ else _) = _
    rw [if_pos rfl, if_pos rfl]
    show (pL_spent (shN S.1 s)).bind _ = _
    rw [spent_ok, ob, w1, w2, zadd, hcost, zadd, sp, if_pos rfl]
    show (if aAb (shN S.1 s) (nI 7) = _ then _ else _) = _
    rw [a7, b7, w3, w3', zadd, if_pos rfl]
    show (if aAb (shN S.1 s) (nI 2) = _ then _ else _) = _
    rw [a2, b2, zadd, if_pos rfl]
    show (if aSc (shN S.1 s) (nI s) (nI 6) = _ then _ else _) = _
    rw [c6, if_pos rfl, f2]
    show (if (-9999003 : Int32) = -9999003 then _ else _) = _
    rw [if_pos rfl]
    unfold pL_scene_226
    rw [if_neg nI1]
    show (pL_thrown (fUn (actS S (shN S.1 s))).1).bind _ = _
    rw [fUn_act]
    show (pL_thrown (nI (remC S.2.1 - 1))).bind _ = _
    rw [thrown_no (show remC S.2.1 - 1 < 2147483648 by unfold remC; split <;> omega), ob, if_pos nI0, ob, if_pos nI0]
    show (pL_spent (bakS (actS S (shN S.1 s))).1).bind _ = _
    rw [b1, spent_ok, ob, if_pos rfl]

    rw [w0, w0', if_pos rfl]
    unfold pL_scene_291
    rfl

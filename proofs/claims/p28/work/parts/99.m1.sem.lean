/-! ===== the class's calls over a film's row: what the law's helpers answer ===== -/
theorem nb_nat {x : Int32} {n : Nat} (h : nb x n = true) : ∃ k, x = nI k ∧ k < n ∧ x.toInt.toNat = k := by
  have h2 := nb_iff.mp h
  exact ⟨x.toInt.toNat, i32nat h2.1, by omega, rfl⟩
theorem nb_rg {x : Int32} {n : Nat} (h : nb x (n + 1) = true) : ((0 : Nat) : Int) ≤ x.toInt ∧ x.toInt ≤ ((n : Nat) : Int) := by
  have h2 := nb_iff.mp h
  omega
theorem nb_ng {x : Int32} {n : Nat} (h : ¬ nb x (n + 1) = true) : ¬ (((0 : Nat) : Int) ≤ x.toInt ∧ x.toInt ≤ ((n : Nat) : Int)) := fun h2 => h (nb_iff.mpr (by omega))
theorem iN1 {x : Int32} {a b : Nat} (ha : a < 100000) (hb : b < 100000) (h : (a : Int) ≤ x.toInt ∧ x.toInt ≤ (b : Int)) : pX7_isIn x (nI a) (nI b) = some (nI 1) := by rw [qX7_isInN ha hb, if_pos h]
theorem iN0 {x : Int32} {a b : Nat} (ha : a < 100000) (hb : b < 100000) (h : ¬ ((a : Int) ≤ x.toInt ∧ x.toInt ≤ (b : Int))) : pX7_isIn x (nI a) (nI b) = some (nI 0) := by rw [qX7_isInN ha hb, if_neg h]
theorem isE_nb {N : Nat → Nat} {x : Int32} (h : nb x (N 0) = true) : isE N x := nb_iff.mp h
theorem isE_nn {N : Nat → Nat} {x : Int32} (h : ¬ nb x (N 0) = true) : ¬ isE N x := fun h2 => h (nb_iff.mpr h2)
theorem isS_nb {N : Nat → Nat} {x : Int32} (h : nb x (N 1) = true) : isS N x := nb_iff.mp h
theorem isS_nn {N : Nat → Nat} {x : Int32} (h : ¬ nb x (N 1) = true) : ¬ isS N x := fun h2 => h (nb_iff.mpr h2)
/-- about -/
def abN (N : Nat → Nat) (w : Nat) : Nat := if w = 0 then N 0 else if w = 1 then N 1 else if w = 2 then shU N (N 1) else if w = 8 then bcN (fcsU N 16383 (N 0)) 14 else N (w - 1)
def aAb (N : Nat → Nat) (x : Int32) : Int32 := if nb x 9 = true then nI (abN N x.toInt.toNat) else -9999002
theorem e_about (x : Int32) {t : Nat} {N : Nat → Nat} (h : Inv t N) (ht : t ≤ 10000) :
    (pX7_about (nI (N 0)) (nI (N 1)) (nI (N 2)) (nI (N 3)) (nI (N 4)) (nI (N 5)) (nI (N 6)) (rI (exR N)) (rI (scR N)) x = some (.inl 0) ∧ aAb N x = -9999002) ∨
    pX7_about (nI (N 0)) (nI (N 1)) (nI (N 2)) (nI (N 3)) (nI (N 4)) (nI (N 5)) (nI (N 6)) (rI (exR N)) (rI (scR N)) x = some (.inr (aAb N x)) := by
  have hS := h.sm ht
  unfold pX7_about aAb
  by_cases hx : nb x 9 = true
  · right
    have c1 := iN1 (by omega) (by omega) (nb_rg hx)
    obtain ⟨c, hc, hc2, e9⟩ := nb_nat hx
    rw [if_pos hx, e9, c1, ob, rA1, ob, eR, hc]
    unfold pX0_total
    have kk : ∀ n, n < 1000 → c ≠ n → ¬ (nI c = nI n) := fun n hn h1 h2 => h1 ((zeq (by omega) (by omega)).mp h2)
    have tot : c = 0 ∨ c = 1 ∨ c = 2 ∨ c = 3 ∨ c = 4 ∨ c = 5 ∨ c = 6 ∨ c = 7 ∨ c = 8 := by omega
    rcases tot with e | e | e | e | e | e | e | e | e
    · subst e; rfl
    · subst e; rfl
    · subst e
      rw [if_neg (kk 0 (by omega) (by omega)), if_neg (kk 1 (by omega) (by omega)), if_pos (c := nI 2 = nI 2) rfl, qX0_shotScenes h, ob, ob]
      rfl
    · subst e; rfl
    · subst e; rfl
    · subst e; rfl
    · subst e; rfl
    · subst e; rfl
    · subst e
      have hf := fcsU_lt (c := 16383) hS.2.2.2.1 (N 0) hS.2.1
      have h16 : ∀ e, e < 14 → (16383 : Nat).testBit e = true := by decide
      have hfe : fcsP N (fun _ => true) (N 0) = fcsU N 16383 (N 0) := by
        rw [← fcsP_U]
        exact fcsP_congr N (N 0) (fun k hk => (h16 k (by have := h.ec; omega)).symm)
      rw [if_neg (kk 0 (by omega) (by omega)), if_neg (kk 1 (by omega) (by omega)), if_neg (kk 2 (by omega) (by omega)), if_neg (kk 3 (by omega) (by omega)), if_neg (kk 4 (by omega) (by omega)), if_neg (kk 5 (by omega) (by omega)), if_neg (kk 6 (by omega) (by omega)), if_neg (kk 7 (by omega) (by omega)), qX0_facesOf (P := fun _ => true) hS.2.1 hS.2.2.2.1 (fun e he => m1bit (by omega)), ob, hfe, qJ6_bitCount hf, ob, ob]
      rfl
  · left
    have c1 := iN0 (by omega) (by omega) (nb_ng hx)
    rw [if_neg hx, c1, ob, rA0, ob, eL]
    exact ⟨rfl, rfl⟩
/-- extraOf -/
def aEx (N : Nat → Nat) (x y : Int32) : Int32 := if nb x (N 0) = true then if nb y 7 = true then nI (exV N x.toInt.toNat y.toInt.toNat) else -9999002 else -9999001
theorem e_extraOf (x y : Int32) {t : Nat} {N : Nat → Nat} (h : Inv t N) (ht : t ≤ 10000) :
    (pX7_extraOf (nI (N 0)) (nI (N 1)) (rI (exR N)) (rI (scR N)) x y = some (.inl 2) ∧ aEx N x y = -9999001) ∨
    (pX7_extraOf (nI (N 0)) (nI (N 1)) (rI (exR N)) (rI (scR N)) x y = some (.inl 0) ∧ aEx N x y = -9999002) ∨
    pX7_extraOf (nI (N 0)) (nI (N 1)) (rI (exR N)) (rI (scR N)) x y = some (.inr (aEx N x y)) := by
  have h0 := h.ec
  unfold pX7_extraOf aEx
  by_cases hx : nb x (N 0) = true
  · obtain ⟨e, he, he2, e8⟩ := nb_nat hx
    simp only [qX7_reqE1 h0 (isE_nb hx), ob, eR, if_pos hx, e8]
    by_cases hy : nb y 7 = true
    · right; right
      have c1 := iN1 (by omega) (by omega) (nb_rg hy)
      obtain ⟨w, hw, hw2, e9⟩ := nb_nat hy
      simp only [c1, ob, rA1, eR, if_pos hy, e9]
      rw [he, hw, qX0_numberOfExtra h ht he2 (by omega), ob]
    · right; left
      have c1 := iN0 (by omega) (by omega) (nb_ng hy)
      simp only [c1, ob, rA0, eL, if_neg hy]
      exact ⟨trivial, trivial⟩
  · left
    simp only [qX7_reqE0 h0 (isE_nn hx), ob, eL, if_neg hx]
    exact ⟨trivial, trivial⟩
/-- sceneOf -/
def scV (N : Nat → Nat) (s w : Nat) : Nat := if w = 7 then seenU N s true (N 1) else if w = 8 then seenU N s false (N 1) else N (94 + 7 * s + w)
def aSc (N : Nat → Nat) (x y : Int32) : Int32 := if nb x (N 1) = true then if nb y 9 = true then nI (scV N x.toInt.toNat y.toInt.toNat) else -9999002 else -9999001
theorem e_sceneOf (x y : Int32) {t : Nat} {N : Nat → Nat} (h : Inv t N) (ht : t ≤ 10000) :
    (pX7_sceneOf (nI (N 0)) (nI (N 1)) (rI (exR N)) (rI (scR N)) x y = some (.inl 2) ∧ aSc N x y = -9999001) ∨
    (pX7_sceneOf (nI (N 0)) (nI (N 1)) (rI (exR N)) (rI (scR N)) x y = some (.inl 0) ∧ aSc N x y = -9999002) ∨
    pX7_sceneOf (nI (N 0)) (nI (N 1)) (rI (exR N)) (rI (scR N)) x y = some (.inr (aSc N x y)) := by
  have h0 := h.ec
  have h1 := h.sn
  have hS := h.sm ht
  unfold pX7_sceneOf aSc
  by_cases hx : nb x (N 1) = true
  · obtain ⟨s, hs, hs2, e8⟩ := nb_nat hx
    simp only [qX7_reqS1 h1 (isS_nb hx), ob, eR, if_pos hx, e8]
    by_cases hy : nb y 9 = true
    · right; right
      have c1 := iN1 (by omega) (by omega) (nb_rg hy)
      obtain ⟨w, hw, hw2, e9⟩ := nb_nat hy
      have hsc := h.sc s (by omega)
      have kk : ∀ n, n < 1000 → w ≠ n → ¬ (nI w = nI n) := fun n hn h1 h2 => h1 ((zeq (by omega) (by omega)).mp h2)
      simp only [c1, ob, rA1, eR, if_pos hy, e9]
      rw [hs, hw]
      unfold pX0_numberOfScene pX0_numberOfScene_45
      by_cases d5 : w = 5
      · subst d5
        rw [if_pos rfl, qX0_crowdOf (by omega), ob]
        by_cases hc : N (94 + 7 * s + 6) = 0
        · have h5 := hsc.2.2.2.2.2.2.2.1.mpr hc
          rw [if_pos ((zeq0 (by omega)).mpr hc), show scV N s 5 = 0 from h5]
          rfl
        · have h5 : N (94 + 7 * s + 5) = 1 := by
            have : N (94 + 7 * s + 5) ≠ 0 := fun q => hc (hsc.2.2.2.2.2.2.2.1.mp q)
            omega
          rw [if_neg (fun h => hc ((zeq0 (by omega)).mp h)), show scV N s 5 = 1 from h5]
          rfl
      rw [if_neg (kk 5 (by omega) d5)]
      by_cases d6 : w = 6
      · subst d6
        rw [if_pos rfl, qX0_crowdOf (by omega), ob]
        rfl
      rw [if_neg (kk 6 (by omega) d6)]
      have cast : ∀ sm : Bool, (pX0_castOf (nI (N 1)) (rI (scR N)) (nI s) (nI (if sm then 1 else 0))).bind (fun v3 => (pX0_facesOf (nI (N 0)) (rI (exR N)) v3).bind fun v4 => some v4) = some (nI (seenU N s sm (N 1))) := by
        intro sm
        rw [qX0_castOf hS (by omega), ob, qX0_facesN _ hS.2.1 hS.2.2.2.1, ob, fcsU_cast h _ h.sn]
      by_cases d7 : w = 7
      · subst d7
        have a1 := cast true
        rw [if_pos (c := true = true) rfl] at a1
        rw [if_pos (c := nI 7 = nI 7) rfl, a1, ob]
        rfl
      rw [if_neg (kk 7 (by omega) d7)]
      by_cases d8 : w = 8
      · subst d8
        have a1 := cast false
        rw [if_neg (c := false = true) (by decide)] at a1
        rw [if_pos (c := nI 8 = nI 8) rfl, a1, ob]
        rfl
      have ev : scV N s w = N (94 + 7 * s + w) := by
        unfold scV
        rw [if_neg d7, if_neg d8]
      rw [if_neg (kk 8 (by omega) d8), gS (by omega) (by omega), ob, ob, ev]
    · right; left
      have c1 := iN0 (by omega) (by omega) (nb_ng hy)
      simp only [c1, ob, rA0, eL, if_neg hy]
      exact ⟨trivial, trivial⟩
  · left
    simp only [qX7_reqS0 h1 (isS_nn hx), ob, eL, if_neg hx]
    exact ⟨trivial, trivial⟩
/-- setting -/
def aSe (N : Nat → Nat) (x : Int32) : Int32 := if nb x 3 = true then nI (N (7 + x.toInt.toNat)) else -9999002
theorem e_setting (x : Int32) {N : Nat → Nat} :
    (pX7_setting (rI (seR N)) x = some (.inl 0) ∧ aSe N x = -9999002) ∨ pX7_setting (rI (seR N)) x = some (.inr (aSe N x)) := by
  unfold pX7_setting aSe
  by_cases hx : nb x 3 = true
  · right
    have c1 := iN1 (by omega) (by omega) (nb_rg hx)
    obtain ⟨c, hc, hc2, e9⟩ := nb_nat hx
    rw [if_pos hx, e9, c1, ob, rA1, ob, eR, hc, qX0_valueOf (by omega), ob]
  · left
    have c1 := iN0 (by omega) (by omega) (nb_ng hx)
    rw [if_neg hx, c1, ob, rA0, ob, eL]
    exact ⟨rfl, rfl⟩
/-- would -/
def woV (N : Nat → Nat) (s w : Nat) : Nat := if w = 0 then cwN N s else if w = 1 then bcN (cwN N s) 14 * wageN N (N (94 + 7 * s + 4)) else if w = 2 then N 9 * pnU N (cwN N s) (N (94 + 7 * s + 4)) (N 0) else brN N s (cwN N s)
def aWo (N : Nat → Nat) (x y : Int32) : Int32 := if nb x (N 1) = true then if nb y 4 = true then (if cwN N x.toInt.toNat = 0 then -1 else nI (woV N x.toInt.toNat y.toInt.toNat)) else -9999002 else -9999001
theorem e_would (x y : Int32) {t : Nat} {N : Nat → Nat} (h : Inv t N) (ht : t ≤ 10000) :
    (pX7_would (nI (N 0)) (nI (N 1)) (rI (exR N)) (rI (scR N)) (rI (seR N)) x y = some (.inl 2) ∧ aWo N x y = -9999001) ∨
    (pX7_would (nI (N 0)) (nI (N 1)) (rI (exR N)) (rI (scR N)) (rI (seR N)) x y = some (.inl 0) ∧ aWo N x y = -9999002) ∨
    pX7_would (nI (N 0)) (nI (N 1)) (rI (exR N)) (rI (scR N)) (rI (seR N)) x y = some (.inr (aWo N x y)) := by
  have h0 := h.ec
  have h1 := h.sn
  have hS := h.sm ht
  unfold pX7_would aWo
  by_cases hx : nb x (N 1) = true
  · obtain ⟨s, hs, hs2, e8⟩ := nb_nat hx
    simp only [qX7_reqS1 h1 (isS_nb hx), ob, eR, if_pos hx, e8]
    by_cases hy : nb y 4 = true
    · right; right
      have c1 := iN1 (by omega) (by omega) (nb_rg hy)
      obtain ⟨w, hw, hw2, e9⟩ := nb_nat hy
      have hl := cwN_lt (s := s) h ht
      have w1 := qX0_crowdNow h ht (show s < 10 by omega)
      simp only [c1, ob, rA1, eR, if_pos hy, e9]
      rw [hs, hw]
      simp only [w1, ob]
      by_cases hc : cwN N s = 0
      · rw [if_pos ((zeq0 (by omega)).mpr hc), if_pos hc]
      · have hm := (h.sc s (by omega)).2.2.2.2.1
        rw [if_neg (fun h => hc ((zeq0 (by omega)).mp h)), if_neg hc]
        have kk : ∀ n, n < 1000 → w ≠ n → ¬ (nI w = nI n) := fun n hn h1 h2 => h1 ((zeq (by omega) (by omega)).mp h2)
        by_cases d0 : w = 0
        · subst d0
          rw [if_pos rfl]
          rfl
        rw [if_neg (kk 0 (by omega) d0)]
        by_cases d1 : w = 1
        · subst d1
          rw [if_pos rfl, qX0_wagesOf (by omega) hm hl, ob]
          rfl
        rw [if_neg (kk 1 (by omega) d1)]
        by_cases d2 : w = 2
        · subst d2
          rw [if_pos rfl, qX0_penaltyCostsOf h (by omega) (by omega), ob]
          rfl
        rw [if_neg (kk 2 (by omega) d2), qX0_breaksOf h (by omega) (by omega), ob]
        have ev : woV N s w = brN N s (cwN N s) := by
          unfold woV
          rw [if_neg d0, if_neg d1, if_neg d2]
        rw [ev]
    · right; left
      have c1 := iN0 (by omega) (by omega) (nb_ng hy)
      simp only [c1, ob, rA0, eL, if_neg hy]
      exact ⟨trivial, trivial⟩
  · left
    simp only [qX7_reqS0 h1 (isS_nn hx), ob, eL, if_neg hx]
    exact ⟨trivial, trivial⟩
/-- why -/
def whV (N : Nat → Nat) (s e : Nat) : Nat :=
  if ¬ N (10 + 6 * e + 0) = N (94 + 7 * s + 0) then 1
  else if ¬ N (10 + 6 * e + 2) + N (94 + 7 * s + 4) ≤ N 7 then 2
  else if (seenU N s false (N 1)).testBit (N (10 + 6 * e + 1)) = true then 3
  else if cwN N s = 0 then 4
  else if (cwN N s).testBit e = true then 0
  else if (fcsU N (cwN N s) (N 0)).testBit (N (10 + 6 * e + 1)) = true then 5
  else 6
def aWh (N : Nat → Nat) (x y : Int32) : Int32 := if nb x (N 1) = true ∧ nb y (N 0) = true then nI (whV N x.toInt.toNat y.toInt.toNat) else -9999001
theorem e_why (x y : Int32) {t : Nat} {N : Nat → Nat} (h : Inv t N) (ht : t ≤ 10000) :
    (pX7_why (nI (N 0)) (nI (N 1)) (rI (exR N)) (rI (scR N)) (rI (seR N)) x y = some (.inl 2) ∧ aWh N x y = -9999001) ∨
    pX7_why (nI (N 0)) (nI (N 1)) (rI (exR N)) (rI (scR N)) (rI (seR N)) x y = some (.inr (aWh N x y)) := by
  have h0 := h.ec
  have h1 := h.sn
  have hS := h.sm ht
  unfold pX7_why aWh
  by_cases hx : nb x (N 1) = true
  · obtain ⟨s, hs, hs2, e8⟩ := nb_nat hx
    simp only [qX7_reqS1 h1 (isS_nb hx), ob, eR]
    by_cases hy : nb y (N 0) = true
    · right
      obtain ⟨e, he, he2, e9⟩ := nb_nat hy
      simp only [qX7_reqE1 h0 (isE_nb hy), ob, eR]
      rw [if_pos (c := nb x (N 1) = true ∧ nb y (N 0) = true) ⟨hx, hy⟩, e8, e9, hs, he]
      have hsc := h.sc s (by omega)
      have hex := h.ex e (by omega)
      have hse := seenU_lt (s := s) (sm := false) hS (N 1)
      have hl := cwN_lt (s := s) h ht
      have hfc := fcsU_lt (c := cwN N s) hS.2.2.2.1 (N 0) hS.2.1
      unfold pX0_reason pX0_reason_99 whV
      rw [gE (by omega) (by omega), ob, qX0_withRightLook hS (by omega), ob, qX7_has _ (by omega), ob, nIbit _ (by omega), setU_bit, decide_eq_true he2, Bool.true_and]
      by_cases c1 : N (10 + 6 * e + 0) = N (94 + 7 * s + 0)
      rotate_left
      · rw [decide_eq_false c1, if_neg (c := false = true) (by decide), if_pos nI0, if_pos c1]
        rfl
      rw [decide_eq_true c1, if_pos (c := true = true) rfl, if_neg nI1, if_neg (c := ¬ N (10 + 6 * e + 0) = N (94 + 7 * s + 0)) (fun q => q c1), qX0_withTime hS (by omega), ob, qX7_has _ (by omega), ob, nIbit _ (by omega), setU_bit, decide_eq_true he2, Bool.true_and]
      by_cases c2 : N (10 + 6 * e + 2) + N (94 + 7 * s + 4) ≤ N 7
      rotate_left
      · rw [decide_eq_false c2, if_neg (c := false = true) (by decide), if_pos nI0, if_pos c2]
        rfl
      have a1 : pX0_castOf (nI (N 1)) (rI (scR N)) (nI s) (nI 0) = some (nI (castU N s false (N 1))) := qX0_castOf (sm := false) hS (by omega)
      rw [decide_eq_true c2, if_pos (c := true = true) rfl, if_neg nI1, if_neg (c := ¬ N (10 + 6 * e + 2) + N (94 + 7 * s + 4) ≤ N 7) (fun q => q c2), a1, ob, qX0_facesN _ hS.2.1 hS.2.2.2.1, ob, fcsU_cast h _ h.sn, zshl (by omega), Nat.one_mul]
      by_cases c3 : (seenU N s false (N 1)).testBit (N (10 + 6 * e + 1)) = true
      · rw [if_neg (c := nI (seenU N s false (N 1)) &&& nI (2 ^ N (10 + 6 * e + 1)) = 0) (fun q => by rw [(andpow hse (by omega)).mp q] at c3; cases c3), if_pos c3]
        rfl
      have c3' : (seenU N s false (N 1)).testBit (N (10 + 6 * e + 1)) = false := by simpa using c3
      rw [if_pos (c := nI (seenU N s false (N 1)) &&& nI (2 ^ N (10 + 6 * e + 1)) = 0) ((andpow hse (by omega)).mpr c3'), if_neg c3, qX0_crowdNow h ht (by omega), ob]
      by_cases c4 : cwN N s = 0
      · rw [if_pos ((zeq0 (by omega)).mpr c4), if_pos c4]
        rfl
      rw [if_neg (fun q => c4 ((zeq0 (by omega)).mp q)), if_neg c4, qX7_has _ (by omega), ob, nIbit _ (by omega)]
      by_cases c5 : (cwN N s).testBit e = true
      · rw [if_pos c5, if_neg nI1, if_pos c5]
        rfl
      rw [if_neg c5, if_pos nI0, if_neg c5, qX0_facesN _ hS.2.1 hS.2.2.2.1, ob]
      by_cases c6 : (fcsU N (cwN N s) (N 0)).testBit (N (10 + 6 * e + 1)) = true
      · rw [if_neg (c := nI (fcsU N (cwN N s) (N 0)) &&& nI (2 ^ N (10 + 6 * e + 1)) = 0) (fun q => by rw [(andpow hfc (by omega)).mp q] at c6; cases c6), if_pos c6]
        rfl
      have c6' : (fcsU N (cwN N s) (N 0)).testBit (N (10 + 6 * e + 1)) = false := by simpa using c6
      rw [if_pos (c := nI (fcsU N (cwN N s) (N 0)) &&& nI (2 ^ N (10 + 6 * e + 1)) = 0) ((andpow hfc (by omega)).mpr c6'), if_neg c6]
      rfl
    · left
      simp only [qX7_reqE0 h0 (isE_nn hy), ob, eL]
      rw [if_neg (fun q => hy q.2)]
      exact ⟨trivial, rfl⟩
  · left
    simp only [qX7_reqS0 h1 (isS_nn hx), ob, eL]
    rw [if_neg (fun q => hx q.1)]
    exact ⟨trivial, rfl⟩
/-- lacks -/
def aLa (N : Nat → Nat) (x : Int32) : Int32 := if nb x (N 1) = true then nI (N (94 + 7 * x.toInt.toNat + 1) - bcN (chN N x.toInt.toNat) 14) else -9999001
theorem e_lacks (x : Int32) {t : Nat} {N : Nat → Nat} (h : Inv t N) (ht : t ≤ 10000) :
    (pX7_lacks (nI (N 0)) (nI (N 1)) (rI (exR N)) (rI (scR N)) (rI (seR N)) x = some (.inl 2) ∧ aLa N x = -9999001) ∨
    pX7_lacks (nI (N 0)) (nI (N 1)) (rI (exR N)) (rI (scR N)) (rI (seR N)) x = some (.inr (aLa N x)) := by
  have h1 := h.sn
  unfold pX7_lacks aLa
  by_cases hx : nb x (N 1) = true
  · right
    obtain ⟨s, hs, hs2, e8⟩ := nb_nat hx
    have hc := chN_lt (s := s) (h.sm ht)
    have hle := (chN_P (s := s) h.ec).1
    rw [qX7_reqS1 h1 (isS_nb hx), ob, eR, if_pos hx, e8]
    unfold pX0_lackOf
    rw [hs, gS (by omega) (by omega), ob, qX0_chosenCrowd h ht (by omega), ob, qJ6_bitCount hc, ob, zsub hle, ob]
  · left
    rw [qX7_reqS0 h1 (isS_nn hx), ob, eL, if_neg hx]
    exact ⟨rfl, rfl⟩
/-- order -/
def orV (N : Nat → Nat) (a b : Nat) : Int32 := match orN N a b with
  | none => -1
  | some u => match orN N b a with
    | none => -1
    | some w => if u = w then nI 2 else if u < w then nI 0 else nI 1
def aOr (N : Nat → Nat) (x y : Int32) : Int32 := if nb x (N 1) = true ∧ nb y (N 1) = true then if x = y then -9999002 else orV N x.toInt.toNat y.toInt.toNat else -9999001
theorem e_order (x y : Int32) {t : Nat} {N M' : Nat → Nat} (h : Inv t N) (ht : t < 9999) :
    (pX7_order (nI (N 0)) (nI (N 1)) (nI (N 2)) (nI (N 3)) (nI (N 4)) (nI (N 5)) (nI (N 6)) (rI (exR N)) (rI (scR N)) (rI (seR N)) (nI (M' 0)) (nI (M' 1)) (nI (M' 2)) (nI (M' 3)) (nI (M' 4)) (nI (M' 5)) (nI (M' 6)) (rI (exR M')) (rI (scR M')) (rI (seR M')) x y = some (.inl 2) ∧ aOr N x y = -9999001) ∨
    (pX7_order (nI (N 0)) (nI (N 1)) (nI (N 2)) (nI (N 3)) (nI (N 4)) (nI (N 5)) (nI (N 6)) (rI (exR N)) (rI (scR N)) (rI (seR N)) (nI (M' 0)) (nI (M' 1)) (nI (M' 2)) (nI (M' 3)) (nI (M' 4)) (nI (M' 5)) (nI (M' 6)) (rI (exR M')) (rI (scR M')) (rI (seR M')) x y = some (.inl 0) ∧ aOr N x y = -9999002) ∨
    ∃ M2, pX7_order (nI (N 0)) (nI (N 1)) (nI (N 2)) (nI (N 3)) (nI (N 4)) (nI (N 5)) (nI (N 6)) (rI (exR N)) (rI (scR N)) (rI (seR N)) (nI (M' 0)) (nI (M' 1)) (nI (M' 2)) (nI (M' 3)) (nI (M' 4)) (nI (M' 5)) (nI (M' 6)) (rI (exR M')) (rI (scR M')) (rI (seR M')) x y = some (.inr (aOr N x y, FT M2)) := by
  have h1 := h.sn
  unfold pX7_order pX7_order_20 pX7_order_49 pX7_order_70 aOr
  by_cases hx : nb x (N 1) = true
  · simp only [qX7_reqS1 h1 (isS_nb hx), ob, eR]
    by_cases hy : nb y (N 1) = true
    · simp only [qX7_reqS1 h1 (isS_nb hy), ob, eR]
      rw [if_pos (c := nb x (N 1) = true ∧ nb y (N 1) = true) ⟨hx, hy⟩]
      by_cases hxy : x = y
      · right; left
        rw [if_pos hxy, if_pos hxy]
        refine ⟨?_, rfl⟩
        simp only [rA0, ob, eL]
      · right; right
        rw [if_neg hxy, if_neg hxy]
        obtain ⟨a, ha, ha2, e8⟩ := nb_nat hx
        obtain ⟨b, hb, hb2, e9⟩ := nb_nat hy
        rw [e8, e9, ha, hb]
        have f1 := qX7_costInTurn (M := M') h ht (show a < 10 by omega) (show b < 10 by omega)
        have f2 := qX7_costInTurn (M := orT N a b) h ht (show b < 10 by omega) (show a < 10 by omega)
        simp only [rA1, ob, eR, f1]
        unfold FT at f2 ⊢
        simp only [f2, ob]
        unfold orV
        cases q1 : orN N a b with
        | none =>
          rw [oI_none, if_pos rfl]
          exact ⟨_, rfl⟩
        | some u =>
          have hu := orN_lt h ht (by omega) (by omega) q1
          rw [oI_some, if_neg (fun h => (zm1 hu).mp h)]
          cases q2 : orN N b a with
          | none =>
            rw [oI_none, if_pos rfl]
            exact ⟨_, rfl⟩
          | some w =>
            have hw := orN_lt h ht (by omega) (by omega) q2
            rw [oI_some, if_neg (fun h => (zm1 hw).mp h)]
            dsimp only
            by_cases e1 : u = w
            · subst e1
              rw [if_pos rfl, if_pos rfl]
              exact ⟨_, rfl⟩
            · rw [if_neg (fun h => e1 ((zeq hu hw).mp h)), if_neg e1]
              by_cases e2 : u < w
              · rw [if_neg (c := nI w ≤ nI u) (fun h => by have := (zle hw hu).mp h; omega), if_pos e2]
                exact ⟨_, rfl⟩
              · rw [if_pos (c := nI w ≤ nI u) ((zle hw hu).mpr (by omega)), if_neg e2]
                exact ⟨_, rfl⟩
    · left
      rw [if_neg (c := nb x (N 1) = true ∧ nb y (N 1) = true) (fun q => hy q.2)]
      refine ⟨?_, rfl⟩
      simp only [qX7_reqS0 h1 (isS_nn hy), ob, eL]
  · left
    rw [if_neg (c := nb x (N 1) = true ∧ nb y (N 1) = true) (fun q => hx q.1)]
    refine ⟨?_, rfl⟩
    simp only [qX7_reqS0 h1 (isS_nn hx), ob, eL]
/-- cheapest -/
def aCh (N : Nat → Nat) : Int32 := oI (bsN N (N 1)).1
theorem e_cheapest {t : Nat} {N : Nat → Nat} (h : Inv t N) (ht : t < 10000) : pX7_cheapest (nI (N 0)) (nI (N 1)) (rI (exR N)) (rI (scR N)) (rI (seR N)) = some (aCh N) := by
  have h1' := h.sn
  have e1 := qX7_cheapest_6 h ht FU 0 (by omega) (by unfold FU; omega)
  have e3 := bsN_top (N := N) (10 - N 1)
  rw [show N 1 + (10 - N 1) = 10 from by omega] at e3
  rw [e3] at e1
  exact e1
/-- simulate -/
def aSm (N : Nat → Nat) (z : Int64) (x : Int32) : Int32 := if (1 : Int) ≤ x.toInt ∧ x.toInt ≤ 60 then smV N (smN x.toInt.toNat z N) else -9999002
theorem e_simulate (z : Int64) (x : Int32) {t : Nat} {N M' : Nat → Nat} (h : Inv t N) (ht : t < 9900) :
    (pX7_simulate (nI (N 0)) (nI (N 1)) (nI (N 2)) (nI (N 3)) (nI (N 4)) (nI (N 5)) (nI (N 6)) (rI (exR N)) (rI (scR N)) (rI (seR N)) (nI (M' 0)) (nI (M' 1)) (nI (M' 2)) (nI (M' 3)) (nI (M' 4)) (nI (M' 5)) (nI (M' 6)) (rI (exR M')) (rI (scR M')) (rI (seR M')) z x = some (.inl 0) ∧ aSm N z x = -9999002) ∨
    ∃ M2, pX7_simulate (nI (N 0)) (nI (N 1)) (nI (N 2)) (nI (N 3)) (nI (N 4)) (nI (N 5)) (nI (N 6)) (rI (exR N)) (rI (scR N)) (rI (seR N)) (nI (M' 0)) (nI (M' 1)) (nI (M' 2)) (nI (M' 3)) (nI (M' 4)) (nI (M' 5)) (nI (M' 6)) (rI (exR M')) (rI (scR M')) (rI (seR M')) z x = some (.inr (aSm N z x, FT M2)) := by
  unfold pX7_simulate aSm
  by_cases hx : ((1 : Nat) : Int) ≤ x.toInt ∧ x.toInt ≤ ((60 : Nat) : Int)
  · right
    have c1 := iN1 (by omega) (by omega) hx
    obtain ⟨m, hm, hm1, hm2⟩ := in_nat hx
    have e9 : x.toInt.toNat = m := by rw [hm, nI_toInt (by omega)]; omega
    rw [if_pos (c := (1 : Int) ≤ x.toInt ∧ x.toInt ≤ 60) hx, e9]
    rw [hm] at c1 ⊢
    have f1 := qX7_simulate_27 h hm2 FU m 0 t z N h (by omega) (by omega) (by unfold FU; omega)
    refine ⟨smN m z N, ?_⟩
    simp only [c1, ob, rA1, eR, qX0_copy]
    exact f1
  · left
    have c1 := iN0 (by omega) (by omega) hx
    rw [if_neg (c := (1 : Int) ≤ x.toInt ∧ x.toInt ≤ 60) hx]
    refine ⟨?_, rfl⟩
    simp only [c1, ob, rA0, eL]
/-- a script that is refused -/
def rsB (n : Int32) (z : Int64) : Bool := decide (n = nI 0) || (decide (n = nI 1) && decide (0 ≤ lg_cmp z (lN 100000)))
theorem e_runScript (n : Int32) (z : Int64) {a0 a1 a2 a3 a4 a5 a6 b0 b1 b2 b3 b4 b5 b6 : Int32} {x0 x1 x2 y0 y1 y2 : Nat → Int32} (hb : rsB n z = true) : pX7_runScript a0 a1 a2 a3 a4 a5 a6 x0 x1 x2 b0 b1 b2 b3 b4 b5 b6 y0 y1 y2 n z = some (.inl 0) := by
  unfold rsB at hb
  simp only [Bool.or_eq_true, Bool.and_eq_true, decide_eq_true_eq] at hb
  unfold pX7_runScript pX7_runScript_28 pX7_runScript_29
  rcases hb with hb | ⟨hb, hz⟩
  · have c1 : pX7_isIn n (nI 1) (nI 3) = some (nI 0) := by rw [hb]; decide
    rw [c1, ob, rA0, ob, eL]
  · have c1 : pX7_isIn n (nI 1) (nI 3) = some (nI 1) := by rw [hb]; decide
    have hgu : pX7_groupUnit n = some (lN 100000) := by rw [hb]; exact qX7_groupUnit (n := 1) (by omega)
    rw [c1, ob, rA1, ob, eR]
    by_cases h0 : lg_cmp z 0 < 0
    · rw [if_pos h0, rA0, ob, eL]
    · rw [if_neg h0, hgu, ob, if_pos hz, rA0, ob, eL]
/-! ===== what the law sees of an object: the film, its diary, its slots; what is hidden: trial, ring, stale slots ===== -/
abbrev SS : Type := (Nat → Nat) × Nat × (Nat → Nat → Nat) × (Nat → Nat) × (Nat → Nat → Nat)
abbrev HH : Type := (Nat → Nat) × Nat × (Nat → Nat → Nat) × (Nat → Nat → Nat)
abbrev AA : Type := Nat × (Nat → Nat) × (Nat → Nat → Nat)
/-- the film N, c films remembered in D, the slots' flags F and films K; hidden: the trial M, the ring from o on, R, the slots' cells P -/
def RP (t : Nat) (S : SS) (H : HH) : Prop := Inv t S.1 ∧ HR H.2.1 S.2.1 H.2.2.1 S.2.2.1 ∧ (∀ j, j < S.2.1 → Inv t (S.2.2.1 j)) ∧ SL S.2.2.2.1 H.2.2.2 S.2.2.2.2 ∧ (∀ j, j < 2 → S.2.2.2.1 j = 1 → Inv t (S.2.2.2.2 j))
theorem RP.up {t u : Nat} {S : SS} {H : HH} (h : RP t S H) (htu : t ≤ u) : RP u S H := by
  obtain ⟨h1, h3, h4, h5, h6⟩ := h
  exact ⟨h1.mono htu, h3, fun j hj => (h4 j hj).mono htu, h5, fun j hj hf => (h6 j hj hf).mono htu⟩
/-- another trial -/
theorem RP.trial {t : Nat} {S : SS} {H : HH} (h : RP t S H) (M : Nat → Nat) : RP t S (M, H.2) := h
/-- an act: the film before it goes into the diary -/
def actS (S : SS) (N2 : Nat → Nat) : SS := (N2, remC S.2.1, reD S.2.2.1 S.2.1 S.1, S.2.2.2)
def actH (S : SS) (H : HH) : HH := (H.1, remO H.2.1 S.2.1, remR H.2.2.1 H.2.1 S.2.1 S.1, H.2.2.2)
theorem reD_all {P : (Nat → Nat) → Prop} {c : Nat} {N : Nat → Nat} {D : Nat → Nat → Nat} (hc : c ≤ 14) (hN : P N) (hD : ∀ j, j < c → P (D j)) : ∀ j, j < remC c → P (reD D c N j) := by
  intro j hj
  unfold remC at hj
  unfold reD
  by_cases hc9 : c < 14
  · rw [if_pos hc9] at hj
    rw [if_pos hc9]
    unfold va_up
    by_cases hjc : j = c
    · rw [if_pos hjc]
      exact hN
    · rw [if_neg hjc]
      exact hD j (by omega)
  · rw [if_neg hc9] at hj
    rw [if_neg hc9]
    unfold va_up
    by_cases hjc : j = 13
    · rw [if_pos hjc]
      exact hN
    · rw [if_neg hjc]
      unfold shD
      rw [if_pos (by omega)]
      exact hD (j + 1) (by omega)
theorem RP.act {t : Nat} {S : SS} {H : HH} {N2 : Nat → Nat} (h : RP t S H) (h9 : Inv (t + 1) N2) : RP (t + 1) (actS S N2) (actH S H) := by
  obtain ⟨h1, h3, h4, h5, h6⟩ := h.up (Nat.le_succ t)
  exact ⟨h9, HR_remD S.1 h3, reD_all h3.2.1 h1 h4, h5, h6⟩
/-- undone -/
def bakS (S : SS) : SS := (S.2.2.1 (S.2.1 - 1), S.2.1 - 1, S.2.2)
theorem RP.back {t : Nat} {S : SS} {H : HH} (h : RP t S H) (hc : 0 < S.2.1) : RP t (bakS S) H := by
  obtain ⟨h1, h3, h4, h5, h6⟩ := h
  exact ⟨h4 (S.2.1 - 1) (by omega), ⟨h3.1, by have := h3.2.1; show S.2.1 - 1 ≤ 14; omega, fun i hi => h3.2.2 i (by have : i < S.2.1 - 1 := hi; omega)⟩, fun j hj => h4 j (by have : j < S.2.1 - 1 := hj; omega), h5, h6⟩
/-- saved -/
def savS (S : SS) (i : Nat) : SS := (S.1, S.2.1, S.2.2.1, nset S.2.2.2.1 i 1, va_up S.2.2.2.2 i S.1)
def savH (S : SS) (H : HH) (i : Nat) : HH := (H.1, H.2.1, H.2.2.1, va_up H.2.2.2 i S.1)
theorem RP.save {t i : Nat} {S : SS} {H : HH} (h : RP t S H) (hi : i < 2) : RP t (savS S i) (savH S H i) := by
  obtain ⟨h1, h3, h4, h5, h6⟩ := h
  refine ⟨h1, h3, h4, SL_save h5, fun j hj hf => ?_⟩
  show Inv t (va_up S.2.2.2.2 i S.1 j)
  unfold va_up
  by_cases hji : j = i
  · rw [if_pos hji]
    exact h1
  · rw [if_neg hji]
    have hf : nset S.2.2.2.1 i 1 j = 1 := hf
    rw [nset_ne _ _ hji] at hf
    exact h6 j hj hf
/-- restored -/
def resS (S : SS) (i : Nat) : SS := (S.2.2.2.2 i, 0, S.2.2)
theorem RP.rest {t i : Nat} {S : SS} {H : HH} (h : RP t S H) (hi : i < 2) (hf : S.2.2.2.1 i = 1) : RP t (resS S i) H := by
  obtain ⟨h1, h3, h4, h5, h6⟩ := h
  exact ⟨h6 i hi hf, ⟨h3.1, Nat.zero_le _, fun j hj => absurd hj (Nat.not_lt_zero j)⟩, fun j hj => absurd hj (Nat.not_lt_zero j), h5, h6⟩
/-! ===== the acts ===== -/
def fEx (S : SS) (x y : Int32) : Int32 × SS := if nb x 5 = true ∧ nb y 14 = true then if S.1 0 < 14 then (nI (S.1 0), actS S (exN S.1 x.toInt.toNat y.toInt.toNat)) else (-9999003, S) else (-9999002, S)
theorem e_extra (x y : Int32) {t o c : Nat} {N : Nat → Nat} {R D : Nat → Nat → Nat} {FK : (Nat → Nat) × (Nat → Nat → Nat)} (h : Inv t N) (hH : HR o c R D) :
    (pX7_extra (nI o) (nI c) (nI (N 0)) (nI (N 1)) (nI (N 2)) (nI (N 3)) (nI (N 4)) (nI (N 5)) (nI (N 6)) (rI (exR N)) (rI (scR N)) (rI (seR N)) (rgD R) x y = some (.inl 0) ∧ fEx (N, c, D, FK) x y = (-9999002, (N, c, D, FK))) ∨
    (pX7_extra (nI o) (nI c) (nI (N 0)) (nI (N 1)) (nI (N 2)) (nI (N 3)) (nI (N 4)) (nI (N 5)) (nI (N 6)) (rI (exR N)) (rI (scR N)) (rI (seR N)) (rgD R) x y = some (.inl 1) ∧ fEx (N, c, D, FK) x y = (-9999003, (N, c, D, FK))) ∨
    ∃ v N2, Inv (t + 1) N2 ∧ FT N2 = (nI (N2 0), nI (N 1), nI (N 2), nI (N 3), nI (N 4), nI (N 5), nI (N 6), rI (exR N2), rI (scR N), rI (seR N)) ∧ pX7_extra (nI o) (nI c) (nI (N 0)) (nI (N 1)) (nI (N 2)) (nI (N 3)) (nI (N 4)) (nI (N 5)) (nI (N 6)) (rI (exR N)) (rI (scR N)) (rI (seR N)) (rgD R) x y = some (.inr (v, nI (remO o c), nI (remC c), nI (N2 0), rI (exR N2), rgD (remR R o c N))) ∧ fEx (N, c, D, FK) x y = (v, actS (N, c, D, FK) N2) := by
  have h0 := h.ec
  have r1 := qX1_rem (N := N) hH
  unfold pX7_extra pX7_extra_23 pX7_extra_24
  rw [qX7_isInN (by omega) (by omega), qX7_isInN (by omega) (by omega), qX0_hasRoomForExtra (by omega)]
  by_cases h1 : nb x 5 = true
  · have g1 := nb_rg h1
    obtain ⟨a, ha, ha2, e8⟩ := nb_nat h1
    by_cases h2 : nb y 14 = true
    · have g2 := nb_rg h2
      obtain ⟨b, hb, hb2, e9⟩ := nb_nat h2
      rw [if_pos g1, if_pos g2]
      by_cases hn : N 0 < 14
      · right; right
        refine ⟨nI (N 0), exN N a b, (Inv_ex h hn (by omega) (by omega)).mono (by omega), ?_, ?_, ?_⟩
        · rw [exN_0]; exact FT_ex hn
        · simp only [if_pos hn, ob, if_neg nI1, rA1, rS1, eR, r1, ha, hb, qX0_addExtra hn, exN_0]
        · unfold fEx
          rw [if_pos (c := nb x 5 = true ∧ nb y 14 = true) ⟨h1, h2⟩, e8, e9]
          exact if_pos hn
      · right; left
        refine ⟨?_, ?_⟩
        · simp only [if_neg hn, ob, if_neg nI1, rA1, rS0, eR, eL]
        · unfold fEx
          rw [if_pos (c := nb x 5 = true ∧ nb y 14 = true) ⟨h1, h2⟩]
          exact if_neg hn
    · left
      have g2 := nb_ng h2
      rw [if_pos g1, if_neg g2]
      refine ⟨?_, if_neg (fun q => h2 q.2)⟩
      simp only [ob, if_neg nI1, if_pos nI0, rA0, eL]
  · left
    have g1 := nb_ng h1
    rw [if_neg g1]
    refine ⟨?_, if_neg (fun q => h1 q.1)⟩
    simp only [ob, if_pos nI0, rA0, eL]
def fSc (S : SS) (x1 x2 x3 x4 x5 : Int32) : Int32 × SS := if nsB x1 x2 x3 x4 x5 = true then if S.1 1 < 10 then (nI (S.1 1), actS S (scN S.1 x1.toInt.toNat x2.toInt.toNat x3.toInt.toNat x4.toInt.toNat x5.toInt.toNat)) else (-9999003, S) else (-9999002, S)
theorem in_nat2 {x : Int32} {a b : Nat} (h : (a : Int) ≤ x.toInt ∧ x.toInt ≤ (b : Int)) : ∃ n, x = nI n ∧ a ≤ n ∧ n ≤ b ∧ x.toInt.toNat = n := ⟨x.toInt.toNat, i32nat (by omega), by omega, by omega, rfl⟩
theorem e_scene (x1 x2 x3 x4 x5 : Int32) {t o c : Nat} {N : Nat → Nat} {R D : Nat → Nat → Nat} {FK : (Nat → Nat) × (Nat → Nat → Nat)} (h : Inv t N) (hH : HR o c R D) :
    (pX7_scene (nI o) (nI c) (nI (N 0)) (nI (N 1)) (nI (N 2)) (nI (N 3)) (nI (N 4)) (nI (N 5)) (nI (N 6)) (rI (exR N)) (rI (scR N)) (rI (seR N)) (rgD R) x1 x2 x3 x4 x5 = some (.inl 0) ∧ fSc (N, c, D, FK) x1 x2 x3 x4 x5 = (-9999002, (N, c, D, FK))) ∨
    (pX7_scene (nI o) (nI c) (nI (N 0)) (nI (N 1)) (nI (N 2)) (nI (N 3)) (nI (N 4)) (nI (N 5)) (nI (N 6)) (rI (exR N)) (rI (scR N)) (rI (seR N)) (rgD R) x1 x2 x3 x4 x5 = some (.inl 1) ∧ fSc (N, c, D, FK) x1 x2 x3 x4 x5 = (-9999003, (N, c, D, FK))) ∨
    ∃ v N2, Inv (t + 1) N2 ∧ FT N2 = (nI (N 0), nI (N2 1), nI (N 2), nI (N 3), nI (N 4), nI (N 5), nI (N 6), rI (exR N), rI (scR N2), rI (seR N)) ∧ pX7_scene (nI o) (nI c) (nI (N 0)) (nI (N 1)) (nI (N 2)) (nI (N 3)) (nI (N 4)) (nI (N 5)) (nI (N 6)) (rI (exR N)) (rI (scR N)) (rI (seR N)) (rgD R) x1 x2 x3 x4 x5 = some (.inr (v, nI (remO o c), nI (remC c), nI (N2 1), rI (scR N2), rgD (remR R o c N))) ∧ fSc (N, c, D, FK) x1 x2 x3 x4 x5 = (v, actS (N, c, D, FK) N2) := by
  have h1' := h.sn
  have r1 := qX1_rem (N := N) hH
  unfold pX7_scene pX7_scene_56 pX7_scene_57
  rw [qX7_isInN (by omega) (by omega), qX7_isInN (by omega) (by omega), qX7_isInN (by omega) (by omega), qX7_isInN (by omega) (by omega), qX7_isInN (by omega) (by omega), qX0_hasRoomForScene (by omega)]
  by_cases hb : nsB x1 x2 x3 x4 x5 = true
  · have hb' := hb
    unfold nsB at hb'
    simp only [Bool.and_eq_true, decide_eq_true_eq] at hb'
    obtain ⟨⟨⟨⟨q1, q2⟩, q3⟩, q4⟩, q5⟩ := hb'
    have g1 : ((0 : Nat) : Int) ≤ x1.toInt ∧ x1.toInt ≤ ((4 : Nat) : Int) := q1
    have g2 : ((1 : Nat) : Int) ≤ x2.toInt ∧ x2.toInt ≤ ((6 : Nat) : Int) := q2
    have g3 : ((0 : Nat) : Int) ≤ x3.toInt ∧ x3.toInt ≤ ((9 : Nat) : Int) := q3
    have g4 : ((0 : Nat) : Int) ≤ x4.toInt ∧ x4.toInt ≤ ((3 : Nat) : Int) := q4
    have g5 : ((10 : Nat) : Int) ≤ x5.toInt ∧ x5.toInt ≤ ((240 : Nat) : Int) := q5
    obtain ⟨a1, k1, _, l1, n1⟩ := in_nat2 g1
    obtain ⟨a2, k2, m2, l2, n2⟩ := in_nat2 g2
    obtain ⟨a3, k3, _, l3, n3⟩ := in_nat2 g3
    obtain ⟨a4, k4, _, l4, n4⟩ := in_nat2 g4
    obtain ⟨a5, k5, m5, l5, n5⟩ := in_nat2 g5
    rw [if_pos g1, if_pos g2, if_pos g3, if_pos g4, if_pos g5]
    by_cases hn : N 1 < 10
    · right; right
      refine ⟨nI (N 1), scN N a1 a2 a3 a4 a5, (Inv_sc h hn (by omega) (by omega) (by omega) (by omega) (by omega)).mono (by omega), ?_, ?_, ?_⟩
      · rw [scN_1]; exact FT_sc
      · simp only [if_pos hn, ob, if_neg nI1, rA1, rS1, eR, r1, k1, k2, k3, k4, k5, qX0_addScene hn, scN_1]
      · unfold fSc
        rw [if_pos hb, n1, n2, n3, n4, n5]
        exact if_pos hn
    · right; left
      refine ⟨?_, ?_⟩
      · simp only [if_neg hn, ob, if_neg nI1, rA1, rS0, eR, eL]
      · unfold fSc
        rw [if_pos hb]
        exact if_neg hn
  · left
    refine ⟨?_, if_neg hb⟩
    have hb' : ¬ (((((0 ≤ x1.toInt ∧ x1.toInt ≤ 4) ∧ (1 ≤ x2.toInt ∧ x2.toInt ≤ 6)) ∧ (0 ≤ x3.toInt ∧ x3.toInt ≤ 9)) ∧ (0 ≤ x4.toInt ∧ x4.toInt ≤ 3)) ∧ (10 ≤ x5.toInt ∧ x5.toInt ≤ 240)) := by
      intro q
      apply hb
      unfold nsB
      simp only [Bool.and_eq_true, decide_eq_true_eq]
      exact q
    simp only [ob]
    by_cases q1 : ((0 : Nat) : Int) ≤ x1.toInt ∧ x1.toInt ≤ ((4 : Nat) : Int)
    · simp only [if_pos q1, if_neg nI1]
      by_cases q2 : ((1 : Nat) : Int) ≤ x2.toInt ∧ x2.toInt ≤ ((6 : Nat) : Int)
      · simp only [if_pos q2, if_neg nI1]
        by_cases q3 : ((0 : Nat) : Int) ≤ x3.toInt ∧ x3.toInt ≤ ((9 : Nat) : Int)
        · simp only [if_pos q3, if_neg nI1]
          by_cases q4 : ((0 : Nat) : Int) ≤ x4.toInt ∧ x4.toInt ≤ ((3 : Nat) : Int)
          · simp only [if_pos q4, if_neg nI1]
            have q5 : ¬ (((10 : Nat) : Int) ≤ x5.toInt ∧ x5.toInt ≤ ((240 : Nat) : Int)) := fun q => hb' ⟨⟨⟨⟨q1, q2⟩, q3⟩, q4⟩, q⟩
            simp only [if_neg q5, if_pos nI0, rA0, ob, eL]
          · simp only [if_neg q4, if_pos nI0, rA0, ob, eL]
        · simp only [if_neg q3, if_pos nI0, rA0, ob, eL]
      · simp only [if_neg q2, if_pos nI0, rA0, ob, eL]
    · simp only [if_neg q1, if_pos nI0, rA0, ob, eL]
def fSh (S : SS) (x : Int32) : Int32 × SS := if nb x (S.1 1) = true then if cwN S.1 x.toInt.toNat = 0 then (-9999003, S) else (nI (cwN S.1 x.toInt.toNat), actS S (shN S.1 x.toInt.toNat)) else (-9999001, S)
theorem e_shoot (x : Int32) {t o c : Nat} {N : Nat → Nat} {R D : Nat → Nat → Nat} {FK : (Nat → Nat) × (Nat → Nat → Nat)} (h : Inv t N) (ht : t ≤ 10000) (hH : HR o c R D) :
    (pX7_shoot (nI o) (nI c) (nI (N 0)) (nI (N 1)) (nI (N 2)) (nI (N 3)) (nI (N 4)) (nI (N 5)) (nI (N 6)) (rI (exR N)) (rI (scR N)) (rI (seR N)) (rgD R) x = some (.inl 2) ∧ fSh (N, c, D, FK) x = (-9999001, (N, c, D, FK))) ∨
    (pX7_shoot (nI o) (nI c) (nI (N 0)) (nI (N 1)) (nI (N 2)) (nI (N 3)) (nI (N 4)) (nI (N 5)) (nI (N 6)) (rI (exR N)) (rI (scR N)) (rI (seR N)) (rgD R) x = some (.inl 1) ∧ fSh (N, c, D, FK) x = (-9999003, (N, c, D, FK))) ∨
    ∃ v N2, Inv (t + 1) N2 ∧ FT N2 = (nI (N 0), nI (N 1), nI (N 2), nI (N2 3), nI (N2 4), nI (N2 5), nI (N2 6), rI (exR N2), rI (scR N2), rI (seR N)) ∧ pX7_shoot (nI o) (nI c) (nI (N 0)) (nI (N 1)) (nI (N 2)) (nI (N 3)) (nI (N 4)) (nI (N 5)) (nI (N 6)) (rI (exR N)) (rI (scR N)) (rI (seR N)) (rgD R) x = some (.inr (v, nI (remO o c), nI (remC c), nI (N2 3), nI (N2 4), nI (N2 5), nI (N2 6), rI (exR N2), rI (scR N2), rgD (remR R o c N))) ∧ fSh (N, c, D, FK) x = (v, actS (N, c, D, FK) N2) := by
  have h1' := h.sn
  have r1 := qX1_rem (N := N) hH
  unfold pX7_shoot pX7_shoot_23 fSh
  by_cases hx : nb x (N 1) = true
  · obtain ⟨s, hs, hs2, e8⟩ := nb_nat hx
    simp only [qX7_reqS1 h1' (isS_nb hx), ob, eR]
    rw [if_pos (c := nb x ((N, c, D, FK).1 1) = true) hx, e8]
    have hl := cwN_lt (s := s) h ht
    have w1 := qX0_crowdNow h ht (show s < 10 by omega)
    rw [hs]
    by_cases hc : cwN N s = 0
    · right; left
      have e1 : nI (cwN N s) = 0 := (zeq0 (by omega)).mpr hc
      rw [if_pos (c := cwN (N, c, D, FK).1 s = 0) hc]
      refine ⟨?_, rfl⟩
      simp only [w1, ob, if_pos e1, rS0, eL]
    · right; right
      have e1 : ¬ (nI (cwN N s) = 0) := fun h => hc ((zeq0 (by omega)).mp h)
      have w3 := qX0_work h ht (show s < 10 by omega)
      rw [← cwN_ch hc] at w3
      have es : siN N s = shN N s := by unfold siN; rw [if_neg hc]
      have hI := Inv_si (s := s) h ht
      rw [es] at hI
      rw [if_neg (c := cwN (N, c, D, FK).1 s = 0) hc]
      refine ⟨nI (cwN N s), shN N s, hI, FT_sh, ?_, rfl⟩
      simp only [w1, ob, if_neg e1, rS1, eR, r1, w3]
  · left
    rw [if_neg (c := nb x ((N, c, D, FK).1 1) = true) hx]
    refine ⟨?_, rfl⟩
    simp only [qX7_reqS0 h1' (isS_nn hx), ob, eL]
def fRe (S : SS) (x a b : Int32) : Int32 × SS := if nb x (S.1 1) = true ∧ nb a (S.1 0) = true ∧ nb b (S.1 0) = true then if crB S.1 x.toInt.toNat a.toInt.toNat b.toInt.toNat = true then (nI (reC S.1 x.toInt.toNat a.toInt.toNat b.toInt.toNat), actS S (reN S.1 x.toInt.toNat a.toInt.toNat b.toInt.toNat)) else (-9999003, S) else (-9999001, S)
theorem e_replace (x a b : Int32) {t o c : Nat} {N : Nat → Nat} {R D : Nat → Nat → Nat} {FK : (Nat → Nat) × (Nat → Nat → Nat)} (h : Inv t N) (ht : t ≤ 10000) (hH : HR o c R D) :
    (pX7_replace (nI o) (nI c) (nI (N 0)) (nI (N 1)) (nI (N 2)) (nI (N 3)) (nI (N 4)) (nI (N 5)) (nI (N 6)) (rI (exR N)) (rI (scR N)) (rI (seR N)) (rgD R) x a b = some (.inl 2) ∧ fRe (N, c, D, FK) x a b = (-9999001, (N, c, D, FK))) ∨
    (pX7_replace (nI o) (nI c) (nI (N 0)) (nI (N 1)) (nI (N 2)) (nI (N 3)) (nI (N 4)) (nI (N 5)) (nI (N 6)) (rI (exR N)) (rI (scR N)) (rI (seR N)) (rgD R) x a b = some (.inl 1) ∧ fRe (N, c, D, FK) x a b = (-9999003, (N, c, D, FK))) ∨
    ∃ v N2, Inv (t + 1) N2 ∧ FT N2 = (nI (N 0), nI (N 1), nI (N 2), nI (N 3), nI (N 4), nI (N 5), nI (N 6), rI (exR N), rI (scR N2), rI (seR N)) ∧ pX7_replace (nI o) (nI c) (nI (N 0)) (nI (N 1)) (nI (N 2)) (nI (N 3)) (nI (N 4)) (nI (N 5)) (nI (N 6)) (rI (exR N)) (rI (scR N)) (rI (seR N)) (rgD R) x a b = some (.inr (v, nI (remO o c), nI (remC c), rI (scR N2), rgD (remR R o c N))) ∧ fRe (N, c, D, FK) x a b = (v, actS (N, c, D, FK) N2) := by
  have h1' := h.sn
  have h0' := h.ec
  have r1 := qX1_rem (N := N) hH
  unfold pX7_replace fRe
  by_cases hx : nb x (N 1) = true
  · obtain ⟨s, hs, hs2, e7⟩ := nb_nat hx
    simp only [qX7_reqS1 h1' (isS_nb hx), ob, eR]
    by_cases ha : nb a (N 0) = true
    · obtain ⟨e, he, he2, e8⟩ := nb_nat ha
      simp only [qX7_reqE1 h0' (isE_nb ha), ob, eR]
      by_cases hb : nb b (N 0) = true
      · obtain ⟨f, hf, hf2, e9⟩ := nb_nat hb
        simp only [qX7_reqE1 h0' (isE_nb hb), ob, eR]
        rw [if_pos (c := nb x ((N, c, D, FK).1 1) = true ∧ nb a ((N, c, D, FK).1 0) = true ∧ nb b ((N, c, D, FK).1 0) = true) ⟨hx, ha, hb⟩, e7, e8, e9, hs, he, hf]
        have w1 := qX0_canExchange h ht hs2 he2 hf2
        by_cases hc : crB N s e f = true
        · right; right
          rw [if_pos hc] at w1
          have hcr := (h.sc s (by omega)).2.2.2.2.2.2.1
          have w3 := qX0_exchange (N := N) (show s < 10 by omega) (show e < 14 by omega) (show f < 14 by omega) hcr
          rw [if_pos (c := crB (N, c, D, FK).1 s e f = true) hc]
          refine ⟨nI (reC N s e f), reN N s e f, (Inv_rep h hs2 (by omega) hc).mono (by omega), FT_re, ?_, rfl⟩
          simp only [w1, ob, rS1, eR, r1, w3]
        · right; left
          rw [if_neg hc] at w1
          rw [if_neg (c := crB (N, c, D, FK).1 s e f = true) hc]
          refine ⟨?_, rfl⟩
          simp only [w1, ob, rS0, eL]
      · left
        rw [if_neg (fun q => hb q.2.2)]
        refine ⟨?_, rfl⟩
        simp only [qX7_reqE0 h0' (isE_nn hb), ob, eL]
    · left
      rw [if_neg (fun q => ha q.2.1)]
      refine ⟨?_, rfl⟩
      simp only [qX7_reqE0 h0' (isE_nn ha), ob, eL]
  · left
    rw [if_neg (fun q => hx q.1)]
    refine ⟨?_, rfl⟩
    simp only [qX7_reqS0 h1' (isS_nn hx), ob, eL]
def fMe (S : SS) : Int32 × SS := (nI (lateU S.1 (S.1 0)), actS S (mlC S.1 (S.1 0)))
theorem e_meal {t o c : Nat} {N : Nat → Nat} {R D : Nat → Nat → Nat} {FK : (Nat → Nat) × (Nat → Nat → Nat)} (h : Inv t N) (ht : t ≤ 10000) (hH : HR o c R D) :
    ∃ v N2, Inv (t + 1) N2 ∧ FT N2 = (nI (N 0), nI (N 1), nI (N 2), nI (N 3), nI (N 4), nI (N 5), nI (N 6), rI (exR N2), rI (scR N), rI (seR N)) ∧ pX7_meal (nI o) (nI c) (nI (N 0)) (nI (N 1)) (nI (N 2)) (nI (N 3)) (nI (N 4)) (nI (N 5)) (nI (N 6)) (rI (exR N)) (rI (scR N)) (rI (seR N)) (rgD R) = some (v, nI (remO o c), nI (remC c), rI (exR N2), rgD (remR R o c N)) ∧ fMe (N, c, D, FK) = (v, actS (N, c, D, FK) N2) := by
  have h0' := h.ec
  have r1 := qX1_rem (N := N) hH
  refine ⟨nI (lateU N (N 0)), mlC N (N 0), (Inv_meal h).mono (by omega), FT_ml h0', ?_, rfl⟩
  unfold pX7_meal
  simp only [r1, ob, qX0_eat h ht]
def fNx (S : SS) : Int32 × SS := (nI (S.1 2 + 1), actS S (nxN S.1))
theorem e_nextDay {t o c : Nat} {N : Nat → Nat} {R D : Nat → Nat → Nat} {FK : (Nat → Nat) × (Nat → Nat → Nat)} (h : Inv t N) (ht : t ≤ 10000) (hH : HR o c R D) :
    ∃ v N2, Inv (t + 1) N2 ∧ FT N2 = (nI (N 0), nI (N 1), nI (N2 2), nI (N 3), nI (N 4), nI (N 5), nI (N 6), rI (exR N2), rI (scR N), rI (seR N)) ∧ pX7_nextDay (nI o) (nI c) (nI (N 0)) (nI (N 1)) (nI (N 2)) (nI (N 3)) (nI (N 4)) (nI (N 5)) (nI (N 6)) (rI (exR N)) (rI (scR N)) (rI (seR N)) (rgD R) = some (v, nI (remO o c), nI (remC c), nI (N2 2), rI (exR N2), rgD (remR R o c N)) ∧ fNx (N, c, D, FK) = (v, actS (N, c, D, FK) N2) := by
  have h0' := h.ec
  have r1 := qX1_rem (N := N) hH
  refine ⟨nI (N 2 + 1), nxN N, Inv_next h, by rw [nxN_2]; exact FT_nx h0', ?_, rfl⟩
  unfold pX7_nextDay
  simp only [r1, ob, qX0_beginDay h, nxN_2]
def fSe (S : SS) (x y : Int32) : Int32 × SS := if stB x y = true then (nI (S.1 (7 + x.toInt.toNat)), actS S (seN S.1 x.toInt.toNat y.toInt.toNat)) else (-9999002, S)
theorem e_set (x y : Int32) {t o c : Nat} {N : Nat → Nat} {R D : Nat → Nat → Nat} {FK : (Nat → Nat) × (Nat → Nat → Nat)} (h : Inv t N) (hH : HR o c R D) :
    (pX7_set (nI o) (nI c) (nI (N 0)) (nI (N 1)) (nI (N 2)) (nI (N 3)) (nI (N 4)) (nI (N 5)) (nI (N 6)) (rI (exR N)) (rI (scR N)) (rI (seR N)) (rgD R) x y = some (.inl 0) ∧ fSe (N, c, D, FK) x y = (-9999002, (N, c, D, FK))) ∨
    ∃ v N2, Inv (t + 1) N2 ∧ FT N2 = (nI (N 0), nI (N 1), nI (N 2), nI (N 3), nI (N 4), nI (N 5), nI (N 6), rI (exR N), rI (scR N), rI (seR N2)) ∧ pX7_set (nI o) (nI c) (nI (N 0)) (nI (N 1)) (nI (N 2)) (nI (N 3)) (nI (N 4)) (nI (N 5)) (nI (N 6)) (rI (exR N)) (rI (scR N)) (rI (seR N)) (rgD R) x y = some (.inr (v, nI (remO o c), nI (remC c), rI (seR N2), rgD (remR R o c N))) ∧ fSe (N, c, D, FK) x y = (v, actS (N, c, D, FK) N2) := by
  have r1 := qX1_rem (N := N) hH
  unfold pX7_set fSe
  rw [qX7_isSetting]
  by_cases hs : stB x y = true
  · right
    obtain ⟨k, w, hk, hw, hkw⟩ := stB_nat hs
    have e8 : x.toInt.toNat = k := by rw [hk, nI_toInt (by omega)]; omega
    have e9 : y.toInt.toNat = w := by rw [hw, nI_toInt (by omega)]; omega
    rw [if_pos hs, if_pos hs, e8, e9]
    have w3 := qX0_change (N := N) (v := w) (show k < 3 by omega)
    refine ⟨nI (N (7 + k)), seN N k w, (Inv_set h hkw).mono (by omega), FT_se (by omega), ?_, rfl⟩
    simp only [ob, rA1, eR, r1, hk, hw, w3]
  · left
    rw [if_neg hs, if_neg hs]
    refine ⟨?_, rfl⟩
    simp only [ob, rA0, eL]
def fUn (S : SS) : Int32 × SS := if S.2.1 = 0 then (-9999003, S) else (nI (S.2.1 - 1), bakS S)
theorem e_undo {o c : Nat} {N : Nat → Nat} {R D : Nat → Nat → Nat} {FK : (Nat → Nat) × (Nat → Nat → Nat)} (hH : HR o c R D) :
    (pX7_undo (nI o) (nI c) (nI (N 0)) (nI (N 1)) (nI (N 2)) (nI (N 3)) (nI (N 4)) (nI (N 5)) (nI (N 6)) (rI (exR N)) (rI (scR N)) (rI (seR N)) (rgD R) = some (.inl 1) ∧ fUn (N, c, D, FK) = (-9999003, (N, c, D, FK))) ∨
    (0 < c ∧ pX7_undo (nI o) (nI c) (nI (N 0)) (nI (N 1)) (nI (N 2)) (nI (N 3)) (nI (N 4)) (nI (N 5)) (nI (N 6)) (rI (exR N)) (rI (scR N)) (rI (seR N)) (rgD R) = some (.inr (nI (c - 1), nI (c - 1), FT (D (c - 1)))) ∧ fUn (N, c, D, FK) = (nI (c - 1), bakS (N, c, D, FK))) := by
  have hc := hH.2.1
  unfold pX7_undo pX7_undo_15 pX1_size fUn
  by_cases h0 : c = 0
  · left
    have e1 : nI c ≤ 0 := (zle0 (by omega)).mpr h0
    rw [if_pos (c := (N, c, D, FK).2.1 = 0) h0]
    refine ⟨?_, rfl⟩
    simp only [ob, if_pos e1, rS0, eL]
  · right
    have e1 : ¬ (nI c ≤ 0) := fun h => h0 ((zle0 (by omega)).mp h)
    have w1 := qX1_takeBack (N := N) (R := R) hH.1 hc (by omega)
    rw [hH.2.2 (c - 1) (by omega)] at w1
    rw [if_neg (c := (N, c, D, FK).2.1 = 0) h0]
    refine ⟨by omega, ?_, rfl⟩
    simp only [ob, if_neg e1, rS1, eR, w1]
def fSa (S : SS) (x : Int32) : Int32 × SS := if nb x 2 = true then (nI (shU S.1 (S.1 1)), savS S x.toInt.toNat) else (-9999001, S)
theorem e_save (x : Int32) {t c : Nat} {N F : Nat → Nat} {P K D : Nat → Nat → Nat} (h : Inv t N) :
    (pX7_save (nI (F 0)) (nI (P 0 0)) (nI (P 0 1)) (nI (P 0 2)) (nI (P 0 3)) (nI (P 0 4)) (nI (P 0 5)) (nI (P 0 6)) (rI (exR (P 0))) (rI (scR (P 0))) (rI (seR (P 0))) (nI (F 1)) (nI (P 1 0)) (nI (P 1 1)) (nI (P 1 2)) (nI (P 1 3)) (nI (P 1 4)) (nI (P 1 5)) (nI (P 1 6)) (rI (exR (P 1))) (rI (scR (P 1))) (rI (seR (P 1))) (nI (N 0)) (nI (N 1)) (nI (N 2)) (nI (N 3)) (nI (N 4)) (nI (N 5)) (nI (N 6)) (rI (exR N)) (rI (scR N)) (rI (seR N)) x = some (.inl 2) ∧ fSa (N, c, D, F, K) x = (-9999001, (N, c, D, F, K))) ∨
    ∃ i v, i < 2 ∧ pX7_save (nI (F 0)) (nI (P 0 0)) (nI (P 0 1)) (nI (P 0 2)) (nI (P 0 3)) (nI (P 0 4)) (nI (P 0 5)) (nI (P 0 6)) (rI (exR (P 0))) (rI (scR (P 0))) (rI (seR (P 0))) (nI (F 1)) (nI (P 1 0)) (nI (P 1 1)) (nI (P 1 2)) (nI (P 1 3)) (nI (P 1 4)) (nI (P 1 5)) (nI (P 1 6)) (rI (exR (P 1))) (rI (scR (P 1))) (rI (seR (P 1))) (nI (N 0)) (nI (N 1)) (nI (N 2)) (nI (N 3)) (nI (N 4)) (nI (N 5)) (nI (N 6)) (rI (exR N)) (rI (scR N)) (rI (seR N)) x = some (.inr (v, nI (nset F i 1 0), nI (va_up P i N 0 0), nI (va_up P i N 0 1), nI (va_up P i N 0 2), nI (va_up P i N 0 3), nI (va_up P i N 0 4), nI (va_up P i N 0 5), nI (va_up P i N 0 6), rI (exR (va_up P i N 0)), rI (scR (va_up P i N 0)), rI (seR (va_up P i N 0)), nI (nset F i 1 1), nI (va_up P i N 1 0), nI (va_up P i N 1 1), nI (va_up P i N 1 2), nI (va_up P i N 1 3), nI (va_up P i N 1 4), nI (va_up P i N 1 5), nI (va_up P i N 1 6), rI (exR (va_up P i N 1)), rI (scR (va_up P i N 1)), rI (seR (va_up P i N 1)))) ∧ fSa (N, c, D, F, K) x = (v, savS (N, c, D, F, K) i) := by
  unfold pX7_save fSa
  by_cases hx : nb x 2 = true
  · right
    have c1 := iN1 (by omega) (by omega) (nb_rg hx)
    obtain ⟨i, hi, hi2, e9⟩ := nb_nat hx
    rw [if_pos hx, e9]
    rw [hi] at c1 ⊢
    refine ⟨i, nI (shU N (N 1)), hi2, ?_, rfl⟩
    have : i = 0 ∨ i = 1 := by omega
    rcases this with e | e
    · subst e
      simp only [c1, ob, rX1, eR, if_pos nI0, qX4_keep, qX0_shotScenes h]
      rfl
    · subst e
      simp only [c1, ob, rX1, eR, if_neg nI1, qX4_keep, qX0_shotScenes h]
      rfl
  · left
    have c1 := iN0 (by omega) (by omega) (nb_ng hx)
    rw [if_neg hx]
    refine ⟨?_, rfl⟩
    simp only [c1, ob, rX0, eL]
def fBa (S : SS) (x : Int32) : Int32 × SS := if nb x 2 = true then if S.2.2.2.1 x.toInt.toNat = 1 then (nI (shU (S.2.2.2.2 x.toInt.toNat) (S.2.2.2.2 x.toInt.toNat 1)), resS S x.toInt.toNat) else (-9999003, S) else (-9999001, S)
theorem e_restore (x hc : Int32) {t c : Nat} {N F : Nat → Nat} {P K D : Nat → Nat → Nat} (hS : SL F P K) (hK : ∀ i, i < 2 → F i = 1 → Inv t (K i)) :
    (pX7_restore hc (nI (F 0)) (nI (P 0 0)) (nI (P 0 1)) (nI (P 0 2)) (nI (P 0 3)) (nI (P 0 4)) (nI (P 0 5)) (nI (P 0 6)) (rI (exR (P 0))) (rI (scR (P 0))) (rI (seR (P 0))) (nI (F 1)) (nI (P 1 0)) (nI (P 1 1)) (nI (P 1 2)) (nI (P 1 3)) (nI (P 1 4)) (nI (P 1 5)) (nI (P 1 6)) (rI (exR (P 1))) (rI (scR (P 1))) (rI (seR (P 1))) (nI (N 0)) (nI (N 1)) (nI (N 2)) (nI (N 3)) (nI (N 4)) (nI (N 5)) (nI (N 6)) (rI (exR N)) (rI (scR N)) (rI (seR N)) x = some (.inl 2) ∧ fBa (N, c, D, F, K) x = (-9999001, (N, c, D, F, K))) ∨
    (pX7_restore hc (nI (F 0)) (nI (P 0 0)) (nI (P 0 1)) (nI (P 0 2)) (nI (P 0 3)) (nI (P 0 4)) (nI (P 0 5)) (nI (P 0 6)) (rI (exR (P 0))) (rI (scR (P 0))) (rI (seR (P 0))) (nI (F 1)) (nI (P 1 0)) (nI (P 1 1)) (nI (P 1 2)) (nI (P 1 3)) (nI (P 1 4)) (nI (P 1 5)) (nI (P 1 6)) (rI (exR (P 1))) (rI (scR (P 1))) (rI (seR (P 1))) (nI (N 0)) (nI (N 1)) (nI (N 2)) (nI (N 3)) (nI (N 4)) (nI (N 5)) (nI (N 6)) (rI (exR N)) (rI (scR N)) (rI (seR N)) x = some (.inl 1) ∧ fBa (N, c, D, F, K) x = (-9999003, (N, c, D, F, K))) ∨
    ∃ v i, i < 2 ∧ F i = 1 ∧ pX7_restore hc (nI (F 0)) (nI (P 0 0)) (nI (P 0 1)) (nI (P 0 2)) (nI (P 0 3)) (nI (P 0 4)) (nI (P 0 5)) (nI (P 0 6)) (rI (exR (P 0))) (rI (scR (P 0))) (rI (seR (P 0))) (nI (F 1)) (nI (P 1 0)) (nI (P 1 1)) (nI (P 1 2)) (nI (P 1 3)) (nI (P 1 4)) (nI (P 1 5)) (nI (P 1 6)) (rI (exR (P 1))) (rI (scR (P 1))) (rI (seR (P 1))) (nI (N 0)) (nI (N 1)) (nI (N 2)) (nI (N 3)) (nI (N 4)) (nI (N 5)) (nI (N 6)) (rI (exR N)) (rI (scR N)) (rI (seR N)) x = some (.inr (v, nI 0, FT (K i))) ∧ fBa (N, c, D, F, K) x = (v, resS (N, c, D, F, K) i) := by
  unfold pX7_restore pX1_forget pX4_isFilled fBa
  rw [bzF (hS.1 0), bzF (hS.1 1)]
  by_cases hx : nb x 2 = true
  · right
    have c1 := iN1 (by omega) (by omega) (nb_rg hx)
    obtain ⟨i, hi, hi2, e9⟩ := nb_nat hx
    rw [if_pos hx, e9]
    rw [hi] at c1 ⊢
    by_cases hf : F i = 1
    · right
      have hk := hK i (by omega) hf
      have hp := hS.2 i (by omega) hf
      rw [if_pos (c := (N, c, D, F, K).2.2.2.1 i = 1) hf]
      refine ⟨nI (shU (K i) (K i 1)), i, hi2, hf, ?_, rfl⟩
      have : i = 0 ∨ i = 1 := by omega
      rcases this with e | e
      · subst e
        rw [hp]
        simp only [c1, ob, rX1, eR, if_pos nI0, hf, rS1, qX4_giveBack, FT, qX0_shotScenes hk]
      · subst e
        rw [hp]
        simp only [c1, ob, rX1, eR, if_neg nI1, hf, rS1, qX4_giveBack, FT, qX0_shotScenes hk]
    · left
      have hf0 : F i = 0 := by have := hS.1 i; omega
      rw [if_neg (c := (N, c, D, F, K).2.2.2.1 i = 1) hf]
      refine ⟨?_, rfl⟩
      have : i = 0 ∨ i = 1 := by omega
      rcases this with e | e
      · subst e
        simp only [c1, ob, rX1, eR, if_pos nI0, hf0, rS0, eL]
      · subst e
        simp only [c1, ob, rX1, eR, if_neg nI1, hf0, rS0, eL]
  · left
    have c1 := iN0 (by omega) (by omega) (nb_ng hx)
    rw [if_neg hx]
    refine ⟨?_, rfl⟩
    simp only [c1, ob, rX0, eL]
/-- a sign that is refused -/
theorem e_append (x : Int32) {L : Int32} {T : Nat → Int32} (h : ¬ nb x 256 = true) : pX7_append L T x = some (.inl 0) := by
  unfold pX7_append
  rw [iN0 (by omega) (by omega) (nb_ng h), ob, rA0, ob, eL]

/-! ===== Script.succeeds ===== -/
theorem qX7_isIn {x a b : Int32} : pX7_isIn x a b = some (nI (if a.toInt ≤ x.toInt ∧ x.toInt ≤ b.toInt then 1 else 0)) := by
  unfold pX7_isIn pX7_isIn_14 pX7_isIn_15
  simp only [Int32.lt_iff_toInt_lt]
  by_cases h1 : x.toInt < a.toInt
  · rw [if_pos h1, if_neg (c := a.toInt ≤ x.toInt ∧ x.toInt ≤ b.toInt) (by omega)]; rfl
  · rw [if_neg h1]
    by_cases h2 : b.toInt < x.toInt
    · rw [if_pos h2, if_neg (c := a.toInt ≤ x.toInt ∧ x.toInt ≤ b.toInt) (by omega)]; rfl
    · rw [if_neg h2, if_pos (c := a.toInt ≤ x.toInt ∧ x.toInt ≤ b.toInt) (by omega)]; rfl
theorem qX7_isInN {x : Int32} {a b : Nat} (ha : a < 100000) (hb : b < 100000) : pX7_isIn x (nI a) (nI b) = some (nI (if (a : Int) ≤ x.toInt ∧ x.toInt ≤ (b : Int) then 1 else 0)) := by
  rw [qX7_isIn, nI_toInt (by omega), nI_toInt (by omega)]
theorem bzif {p : Prop} [Decidable p] : bz (nI (if p then 1 else 0)) = some (nI (if p then 1 else 0)) := by
  split <;> rfl
theorem qX7_isSetting (x v : Int32) : pX7_isSetting x v = some (nI (if stB x v = true then 1 else 0)) := by
  have h01 : ¬ (nI 0 = nI 1) := by decide
  have h02 : ¬ (nI 0 = nI 2) := by decide
  have h10 : ¬ (nI 1 = nI 0) := by decide
  have h12 : ¬ (nI 1 = nI 2) := by decide
  have h20 : ¬ (nI 2 = nI 0) := by decide
  have h21 : ¬ (nI 2 = nI 1) := by decide
  unfold pX7_isSetting
  rw [qX7_isInN (by omega) (by omega), ob, qX7_isInN (by omega) (by omega), ob, qX7_isInN (by omega) (by omega), ob, bzif, bzif, bzif]
  unfold stB
  by_cases e0 : x = nI 0
  · subst e0
    rw [if_pos rfl]
    by_cases h : 240 ≤ v.toInt ∧ v.toInt ≤ 960
    · rw [if_pos (c := ((240 : Nat) : Int) ≤ v.toInt ∧ v.toInt ≤ ((960 : Nat) : Int)) h]
      simp [h]
    · rw [if_neg (c := ((240 : Nat) : Int) ≤ v.toInt ∧ v.toInt ≤ ((960 : Nat) : Int)) h]
      simp [h, h01, h02]
  · rw [if_neg e0]
    by_cases e1 : x = nI 1
    · subst e1
      rw [if_pos rfl]
      by_cases h : 1 ≤ v.toInt ∧ v.toInt ≤ 99
      · rw [if_pos (c := ((1 : Nat) : Int) ≤ v.toInt ∧ v.toInt ≤ ((99 : Nat) : Int)) h]
        simp [h]
      · rw [if_neg (c := ((1 : Nat) : Int) ≤ v.toInt ∧ v.toInt ≤ ((99 : Nat) : Int)) h]
        simp [h, h10, h12]
    · rw [if_neg e1]
      by_cases e2 : x = nI 2
      · subst e2
        rw [if_pos rfl]
        by_cases h : 0 ≤ v.toInt ∧ v.toInt ≤ 99
        · rw [if_pos (c := ((0 : Nat) : Int) ≤ v.toInt ∧ v.toInt ≤ ((99 : Nat) : Int)) h]
          simp [h]
        · rw [if_neg (c := ((0 : Nat) : Int) ≤ v.toInt ∧ v.toInt ≤ ((99 : Nat) : Int)) h]
          simp [h, h20, h21]
      · rw [if_neg e2]
        simp [e0, e1, e2]
theorem qX2_changes {N : Nat → Nat} {k v : Nat} (hk : k < 1000) (hv : v < 100000) : pX2_changes (rI (seR N)) (nI k) (nI v) = some (if stB (nI k) (nI v) = true then (nI 1, rI (seR (seN N k v))) else (nI 0, rI (seR N))) := by
  unfold pX2_changes
  rw [qX7_isSetting, ob]
  by_cases h : stB (nI k) (nI v) = true
  · have := (stB_cases hk hv).mp h
    rw [if_pos h, if_neg nI1, if_pos h, qX0_change (by omega), ob]
  · rw [if_neg h, if_pos nI0, if_neg h]
theorem qX2_isCast {t : Nat} {N : Nat → Nat} {s e : Nat} (h : Inv t N) (hs : s < 1000) (he : e < 1000) : pX2_isCast (nI (N 0)) (nI (N 1)) (rI (scR N)) (nI s) (nI e) = some (nI (if s < N 1 ∧ e < N 0 ∧ (N (94 + 7 * s + 6)).testBit e = true then 1 else 0)) := by
  have h0 := h.ec
  have h1 := h.sn
  have b1 : bz (nI 1) = some (nI 1) := rfl
  have b0 : bz (nI 0) = some (nI 0) := rfl
  unfold pX2_isCast pX2_isCast_32 pX2_isCast_33
  rw [qX0_isScene _ h1, nI_toInt (by omega), ob, b0, b1]
  by_cases d2 : s < N 1
  · rw [if_pos (c := 0 ≤ (s : Int) ∧ (s : Int) < (N 1 : Int)) (by omega), if_neg nI1, qX0_isExtra _ h0, nI_toInt (by omega), ob]
    by_cases d3 : e < N 0
    · rw [if_pos (c := 0 ≤ (e : Int) ∧ (e : Int) < (N 0 : Int)) (by omega), if_neg nI1, qX0_crowdOf (by omega), ob, qX7_has _ (by omega), ob, nIbit _ (by omega)]
      by_cases d4 : (N (94 + 7 * s + 6)).testBit e = true
      · rw [if_pos d4, if_neg nI1, if_pos (c := s < N 1 ∧ e < N 0 ∧ (N (94 + 7 * s + 6)).testBit e = true) ⟨d2, d3, d4⟩]
      · rw [if_neg d4, if_pos nI0, if_neg (c := s < N 1 ∧ e < N 0 ∧ (N (94 + 7 * s + 6)).testBit e = true) (fun h => d4 h.2.2)]
    · rw [if_neg (c := 0 ≤ (e : Int) ∧ (e : Int) < (N 0 : Int)) (by omega), if_pos nI0, if_neg (c := s < N 1 ∧ e < N 0 ∧ (N (94 + 7 * s + 6)).testBit e = true) (fun h => d3 h.2.1)]
  · rw [if_neg (c := 0 ≤ (s : Int) ∧ (s : Int) < (N 1 : Int)) (by omega), if_pos nI0, if_neg (c := s < N 1 ∧ e < N 0 ∧ (N (94 + 7 * s + 6)).testBit e = true) (fun h => d2 h.1)]
theorem qX0_hasWorked {t : Nat} {N : Nat → Nat} {e : Nat} (h : Inv t N) (he : e < 14) : pX0_hasWorked (rI (exR N)) (nI e) = some (nI (if 0 < N (10 + 6 * e + 2) then 1 else 0)) := by
  have hw := (h.ex e he).2.2.1
  unfold pX0_hasWorked pX0_hasWorked_17
  rw [gE (by omega) he, ob]
  by_cases d : N (10 + 6 * e + 2) = 0
  · rw [if_pos ((zle0 (by omega)).mpr d), if_neg (by omega)]; rfl
  · rw [if_neg (fun h => d ((zle0 (by omega)).mp h)), if_pos (by omega)]; rfl
theorem qX2_worksSo {t : Nat} {N : Nat → Nat} {e w : Nat} (h : Inv t N) (he : e < 1000) (hw : w < 1000) : pX2_worksSo (nI (N 0)) (rI (exR N)) (nI e) (nI w) = some (nI (if w < 2 ∧ e < N 0 ∧ (0 < N (10 + 6 * e + 2) ↔ w = 1) then 1 else 0)) := by
  have h0 := h.ec
  have b1 : bz (nI 1) = some (nI 1) := rfl
  have b0 : bz (nI 0) = some (nI 0) := rfl
  unfold pX2_worksSo pX2_worksSo_32 pX2_worksSo_39 pX2_worksSo_40
  rw [qX0_isExtra _ h0, nI_toInt (by omega), ob, b0, b1]
  by_cases d3 : e < N 0
  · rw [if_pos (c := 0 ≤ (e : Int) ∧ (e : Int) < (N 0 : Int)) (by omega), if_neg nI1, qX7_isInN (by omega) (by omega), nI_toInt (by omega), ob]
    by_cases d1 : w < 2
    · rw [if_pos (c := ((0 : Nat) : Int) ≤ (w : Int) ∧ (w : Int) ≤ ((1 : Nat) : Int)) (by omega), if_neg nI1, qX0_hasWorked h (by omega), ob]
      by_cases d4 : 0 < N (10 + 6 * e + 2)
      · rw [if_pos d4]
        by_cases d5 : w = 1
        · subst d5
          rw [if_pos rfl, if_pos rfl, if_pos (c := 1 < 2 ∧ e < N 0 ∧ (0 < N (10 + 6 * e + 2) ↔ 1 = 1)) (by omega)]
        · rw [if_neg (c := nI w = nI 1) (fun h => d5 ((zeq (by omega) (by omega)).mp h)), if_neg (c := nI 1 = nI 0) (by decide), if_neg (c := w < 2 ∧ e < N 0 ∧ (0 < N (10 + 6 * e + 2) ↔ w = 1)) (by omega)]
      · rw [if_neg d4]
        by_cases d5 : w = 1
        · subst d5
          rw [if_pos rfl, if_neg (c := nI 0 = nI 1) (by decide), if_neg (c := 1 < 2 ∧ e < N 0 ∧ (0 < N (10 + 6 * e + 2) ↔ 1 = 1)) (by omega)]
        · rw [if_neg (c := nI w = nI 1) (fun h => d5 ((zeq (by omega) (by omega)).mp h)), if_pos (c := nI 0 = nI 0) rfl, if_pos (c := w < 2 ∧ e < N 0 ∧ (0 < N (10 + 6 * e + 2) ↔ w = 1)) (by omega)]
    · rw [if_neg (c := ((0 : Nat) : Int) ≤ (w : Int) ∧ (w : Int) ≤ ((1 : Nat) : Int)) (by omega), if_pos nI0, if_neg (c := w < 2 ∧ e < N 0 ∧ (0 < N (10 + 6 * e + 2) ↔ w = 1)) (by omega)]
  · rw [if_neg (c := 0 ≤ (e : Int) ∧ (e : Int) < (N 0 : Int)) (by omega), if_pos nI0, if_neg (c := w < 2 ∧ e < N 0 ∧ (0 < N (10 + 6 * e + 2) ↔ w = 1)) (by omega)]
/-- the parts of a film that a command may change -/
def FT6 (N : Nat → Nat) : Int32 × Int32 × Int32 × Int32 × Int32 × (Nat → Int32) × (Nat → Int32) × (Nat → Int32) := (nI (N 2), nI (N 3), nI (N 4), nI (N 5), nI (N 6), rI (exR N), rI (scR N), rI (seR N))
theorem FT6_ml {N : Nat → Nat} (h0 : N 0 ≤ 14) : FT6 (mlC N (N 0)) = (nI (N 2), nI (N 3), nI (N 4), nI (N 5), nI (N 6), rI (exR (mlC N (N 0))), rI (scR N), rI (seR N)) := congrArg (fun x : FTy => x.2.2) (FT_ml h0)
theorem FT6_nx {N : Nat → Nat} (h0 : N 0 ≤ 14) : FT6 (nxN N) = (nI (N 2 + 1), nI (N 3), nI (N 4), nI (N 5), nI (N 6), rI (exR (nxN N)), rI (scR N), rI (seR N)) := congrArg (fun x : FTy => x.2.2) (FT_nx h0)
theorem FT6_se {N : Nat → Nat} {k v : Nat} (hk : k < 3) : FT6 (seN N k v) = (nI (N 2), nI (N 3), nI (N 4), nI (N 5), nI (N 6), rI (exR N), rI (scR N), rI (seR (seN N k v))) := congrArg (fun x : FTy => x.2.2) (FT_se hk)
theorem FT6_re {N : Nat → Nat} {s a b : Nat} : FT6 (reN N s a b) = (nI (N 2), nI (N 3), nI (N 4), nI (N 5), nI (N 6), rI (exR N), rI (scR (reN N s a b)), rI (seR N)) := congrArg (fun x : FTy => x.2.2) FT_re
theorem FT6_si {N : Nat → Nat} {s : Nat} : FT6 (siN N s) = (nI (N 2), nI (siN N s 3), nI (siN N s 4), nI (siN N s 5), nI (siN N s 6), rI (exR (siN N s)), rI (scR (siN N s)), rI (seR N)) := congrArg (fun x : FTy => x.2.2) FT_si
theorem siN_no {N : Nat → Nat} {s : Nat} (h : cwN N s = 0) : siN N s = N := by unfold siN; rw [if_pos h]
theorem qX2_succeeds {t : Nat} {N : Nat → Nat} {g : Nat} (h : Inv t N) (ht : t ≤ 10000) (hg : g < 100000) : pX2_succeeds (nI (N 0)) (nI (N 1)) (nI (N 2)) (nI (N 3)) (nI (N 4)) (nI (N 5)) (nI (N 6)) (rI (exR N)) (rI (scR N)) (rI (seR N)) (nI g) = some (nI (if (cmdN N g).1 = true then 1 else 0), FT6 (cmdN N g).2) := by
  have h0 := h.ec
  have h1 := h.sn
  have htot := h.tot
  have b1 : bz (nI 1) = some (nI 1) := rfl
  have b0 : bz (nI 0) = some (nI 0) := rfl
  have hF : FT6 N = (nI (N 2), nI (N 3), nI (N 4), nI (N 5), nI (N 6), rI (exR N), rI (scR N), rI (seR N)) := rfl
  unfold pX2_succeeds pX2_succeeds_83 pX2_succeeds_84 pX2_succeeds_104 pX2_succeeds_105 pX2_succeeds_125 pX2_succeeds_126 pX2_succeeds_160 pX2_succeeds_161 pX2_succeeds_213 pX2_succeeds_214 pX2_succeeds_256 pX2_succeeds_257 pX2_succeeds_283 pX2_succeeds_284
  have e1 : nI g - nI g / nI 1000 * nI 1000 = nI (g % 1000) := zrem (by omega) (by omega) (by omega)
  have e2 : nI g / nI 1000 - nI g / nI 1000 / nI 10 * nI 10 = nI (g / 1000 % 10) := by
    rw [zdiv (a := g) (by omega) (by omega) (by omega), zrem (by omega) (by omega) (by omega)]
  have e3 : nI g / nI 10 - nI g / nI 10 / nI 100 * nI 100 = nI (g / 10 % 100) := by
    rw [zdiv (a := g) (by omega) (by omega) (by omega), zrem (by omega) (by omega) (by omega)]
  have e4 : nI g - nI g / nI 10 * nI 10 = nI (g % 10) := zrem (by omega) (by omega) (by omega)
  have e5 : nI g - nI g / nI 100 * nI 100 = nI (g % 100) := zrem (by omega) (by omega) (by omega)
  have e6 : nI g / nI 100 - nI g / nI 100 / nI 100 * nI 100 = nI (g / 100 % 100) := by
    rw [zdiv (a := g) (by omega) (by omega) (by omega), zrem (by omega) (by omega) (by omega)]
  have e7 : nI g - nI g / nI 10000 * nI 10000 = nI (g % 10000) := zrem (by omega) (by omega) (by omega)
  have e8 : nI g / nI 10000 = nI (g / 10000) := zdiv (by omega) (by omega) (by omega)
  have kk : ∀ n, n < 1000 → ((nI (g / 10000) = nI n) ↔ g / 10000 = n) := fun n hn => zeq (by omega) (by omega)
  rw [e1, e3, e4, e5, e2, e6, e7, e8]
  unfold cmdN
  by_cases c1 : g / 10000 = 1
  · rw [if_pos ((kk 1 (by omega)).mpr c1), if_pos c1]
    by_cases d1 : g % 1000 = 0
    · rw [if_pos ((zeq0 (by omega)).mpr d1), qX0_shootIfPossible h ht (by omega), ob]
      by_cases d2 : cwN N (g / 1000 % 10) = 0
      · rw [if_pos d2, if_pos nI0, b0, ob, if_neg (c := g % 1000 = 0 ∧ cwN N (g / 1000 % 10) ≠ 0) (fun h => h.2 d2), siN_no d2]; rfl
      · rw [if_neg d2, if_neg nI1, b1, ob, if_pos (c := g % 1000 = 0 ∧ cwN N (g / 1000 % 10) ≠ 0) ⟨d1, d2⟩, FT6_si]; rfl
    · rw [if_neg (fun h => d1 ((zeq0 (by omega)).mp h)), b0, ob, if_neg (c := g % 1000 = 0 ∧ cwN N (g / 1000 % 10) ≠ 0) (fun h => d1 h.1)]; rfl
  rw [if_neg (fun h => c1 ((kk 1 (by omega)).mp h)), if_neg c1]
  by_cases c2 : g / 10000 = 2
  · rw [if_pos ((kk 2 (by omega)).mpr c2), if_pos c2]
    by_cases d1 : g % 10000 = 0
    · rw [if_pos ((zeq0 (by omega)).mpr d1), if_pos d1, qX0_eat h ht, ob, if_neg (fun h => (zlt0 (by
        have : ∀ n, lateU N n ≤ n := by
          intro n
          induction n with
          | zero => simp [lateU]
          | succ n ih => unfold lateU; split <;> omega
        have := this (N 0)
        omega)).mp h), b1, ob, FT6_ml h0]; rfl
    · rw [if_neg (fun h => d1 ((zeq0 (by omega)).mp h)), if_neg d1, b0, ob]; rfl
  rw [if_neg (fun h => c2 ((kk 2 (by omega)).mp h)), if_neg c2]
  by_cases c3 : g / 10000 = 3
  · rw [if_pos ((kk 3 (by omega)).mpr c3), if_pos c3]
    by_cases d1 : g % 10000 = 0
    · rw [if_pos ((zeq0 (by omega)).mpr d1), if_pos d1, qX0_beginDay h, ob, if_neg (fun h => by have := (zle0 (by omega)).mp h; omega), b1, ob, FT6_nx h0]; rfl
    · rw [if_neg (fun h => d1 ((zeq0 (by omega)).mp h)), if_neg d1, b0, ob]; rfl
  rw [if_neg (fun h => c3 ((kk 3 (by omega)).mp h)), if_neg c3]
  by_cases c4 : g / 10000 = 4
  · rw [if_pos ((kk 4 (by omega)).mpr c4), if_pos c4]
    by_cases d1 : g % 10 = 0
    · rw [if_pos ((zeq0 (by omega)).mpr d1)]
      by_cases d2 : g / 1000 % 10 < N 1 ∧ g / 10 % 100 < N 0
      · rw [qX0_exchangeForLowest h ht d2.1 d2.2, ob, if_pos (c := g % 10 = 0 ∧ g / 1000 % 10 < N 1 ∧ g / 10 % 100 < N 0) ⟨d1, d2⟩]
        cases hq : inN N (g / 1000 % 10) (g / 10 % 100) with
        | none => rw [if_pos nI0, b0, ob]; rfl
        | some b => rw [if_neg nI1, b1, ob, FT6_re]; rfl
      · rw [qX0_exchangeForLowest_no h0 h1 (by rw [nI_toInt (by omega), nI_toInt (by omega)]; omega), ob, if_neg (c := g % 10 = 0 ∧ g / 1000 % 10 < N 1 ∧ g / 10 % 100 < N 0) (fun h => d2 h.2), if_pos nI0, b0, ob]; rfl
    · rw [if_neg (fun h => d1 ((zeq0 (by omega)).mp h)), if_neg (c := g % 10 = 0 ∧ g / 1000 % 10 < N 1 ∧ g / 10 % 100 < N 0) (fun h => d1 h.1), b0, ob]; rfl
  rw [if_neg (fun h => c4 ((kk 4 (by omega)).mp h)), if_neg c4]
  by_cases c5 : g / 10000 = 5
  · rw [if_pos ((kk 5 (by omega)).mpr c5), if_pos c5, qX2_changes (by omega) (by omega), ob]
    by_cases d1 : stB (nI (g / 1000 % 10)) (nI (g % 1000)) = true
    · have := (stB_cases (by omega) (by omega)).mp d1
      rw [if_pos d1, if_pos d1, b1, ob, FT6_se (by omega)]; rfl
    · rw [if_neg d1, if_neg d1, b0, ob]; rfl
  rw [if_neg (fun h => c5 ((kk 5 (by omega)).mp h)), if_neg c5]
  by_cases c6 : g / 10000 = 6
  · rw [if_pos ((kk 6 (by omega)).mpr c6), if_pos c6]
    by_cases d1 : g % 10 = 0
    · rw [if_pos ((zeq0 (by omega)).mpr d1), qX2_isCast h (by omega) (by omega), ob]
      by_cases d2 : g / 1000 % 10 < N 1 ∧ g / 10 % 100 < N 0 ∧ (N (94 + 7 * (g / 1000 % 10) + 6)).testBit (g / 10 % 100) = true
      · rw [if_pos d2, if_neg nI1, b1, ob, if_pos (c := g % 10 = 0 ∧ g / 1000 % 10 < N 1 ∧ g / 10 % 100 < N 0 ∧ (N (94 + 7 * (g / 1000 % 10) + 6)).testBit (g / 10 % 100) = true) ⟨d1, d2⟩]; rfl
      · rw [if_neg d2, if_pos nI0, b0, ob, if_neg (c := g % 10 = 0 ∧ g / 1000 % 10 < N 1 ∧ g / 10 % 100 < N 0 ∧ (N (94 + 7 * (g / 1000 % 10) + 6)).testBit (g / 10 % 100) = true) (fun h => d2 h.2)]; rfl
    · rw [if_neg (fun h => d1 ((zeq0 (by omega)).mp h)), if_neg (c := g % 10 = 0 ∧ g / 1000 % 10 < N 1 ∧ g / 10 % 100 < N 0 ∧ (N (94 + 7 * (g / 1000 % 10) + 6)).testBit (g / 10 % 100) = true) (fun h => d1 h.1), b0, ob]; rfl
  rw [if_neg (fun h => c6 ((kk 6 (by omega)).mp h)), if_neg c6]
  by_cases c7 : g / 10000 = 7
  · rw [if_pos ((kk 7 (by omega)).mpr c7), if_pos c7, qX2_worksSo h (by omega) (by omega), ob, bzif, ob]
    by_cases d2 : g % 100 < 2 ∧ g / 100 % 100 < N 0 ∧ (0 < N (10 + 6 * (g / 100 % 100) + 2) ↔ g % 100 = 1)
    · rw [if_pos d2, if_pos d2]; rfl
    · rw [if_neg d2, if_neg d2]; rfl
  rw [if_neg (fun h => c7 ((kk 7 (by omega)).mp h)), if_neg c7]
  by_cases c8 : g / 10000 = 8
  · rw [if_pos ((kk 8 (by omega)).mpr c8), if_pos c8]
    unfold pX0_allPenalties
    rw [ob]
    by_cases d1 : g / 100 % 100 = 0
    · rw [if_pos ((zeq0 (by omega)).mpr d1)]
      by_cases d2 : N 5 ≤ g % 100
      · rw [if_neg (fun h => by have := (zlt (by omega) (by omega)).mp h; omega), if_pos (c := g / 100 % 100 = 0 ∧ N 5 ≤ g % 100) ⟨d1, d2⟩, b1, ob]; rfl
      · rw [if_pos ((zlt (by omega) (by omega)).mpr (by omega)), if_neg (c := g / 100 % 100 = 0 ∧ N 5 ≤ g % 100) (fun h => d2 h.2), b0, ob]; rfl
    · rw [if_neg (fun h => d1 ((zeq0 (by omega)).mp h)), if_neg (c := g / 100 % 100 = 0 ∧ N 5 ≤ g % 100) (fun h => d1 h.1), b0, ob]; rfl
  rw [if_neg (fun h => c8 ((kk 8 (by omega)).mp h)), if_neg c8]
  by_cases c9 : g / 10000 = 9
  · rw [if_pos ((kk 9 (by omega)).mpr c9), if_pos c9]
    unfold pX0_allBreaks
    rw [ob]
    by_cases d1 : g / 100 % 100 = 0
    · rw [if_pos ((zeq0 (by omega)).mpr d1)]
      by_cases d2 : N 6 ≤ g % 100
      · rw [if_neg (fun h => by have := (zlt (by omega) (by omega)).mp h; omega), if_pos (c := g / 100 % 100 = 0 ∧ N 6 ≤ g % 100) ⟨d1, d2⟩, b1, ob]; rfl
      · rw [if_pos ((zlt (by omega) (by omega)).mpr (by omega)), if_neg (c := g / 100 % 100 = 0 ∧ N 6 ≤ g % 100) (fun h => d2 h.2), b0, ob]; rfl
    · rw [if_neg (fun h => d1 ((zeq0 (by omega)).mp h)), if_neg (c := g / 100 % 100 = 0 ∧ N 6 ≤ g % 100) (fun h => d1 h.1), b0, ob]; rfl
  rw [if_neg (fun h => c9 ((kk 9 (by omega)).mp h)), if_neg c9]; rfl

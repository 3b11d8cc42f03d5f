/-! ===== outcomes of the calls: what there is, what would be ===== -/
/-- in how many scenes below n an extra is cast -/
def swU (N : Nat → Nat) (e : Nat) : Nat → Nat
  | 0 => 0
  | n + 1 => swU N e n + (if (N (94 + 7 * n + 6)).testBit e then 1 else 0)
theorem swU_le (N : Nat → Nat) (e : Nat) : ∀ n, swU N e n ≤ n := by
  intro n
  induction n with
  | zero => simp [swU]
  | succ n ih => unfold swU; split <;> omega
theorem qX0_scenesWith_4 {t : Nat} {N : Nat → Nat} {e : Nat} (h : Inv t N) (he : e < 14) : ∀ (k s : Nat), s ≤ N 1 → N 1 - s < k → pX0_scenesWith_4 k (nI (N 1)) (rI (scR N)) (nI e) (nI (swU N e s)) (nI s) = some (nI (swU N e (N 1))) := by
  have hn := h.sn
  intro k
  induction k with
  | zero => intro s h1 h2; omega
  | succ k ih =>
    intro s h1 h2
    rw [pX0_scenesWith_4_s]
    by_cases hs : N 1 ≤ s
    · rw [if_pos ((zle (by omega) (by omega)).mpr hs), show s = N 1 from by omega]
    · have h3 := ih (s + 1) (by omega) (by omega)
      have hx := h.sc s (by omega)
      rw [if_neg (fun h => hs ((zle (by omega) (by omega)).mp h)), qX0_crowdOf (by omega), ob, qX7_has _ (by omega), ob, nIbit _ (by omega)]
      unfold pX0_scenesWith_27
      rw [swU] at h3
      by_cases hb : (N (94 + 7 * s + 6)).testBit e = true
      · rw [if_pos hb, if_neg nI1, zadd, zadd]
        rw [if_pos hb] at h3
        exact h3
      · rw [if_neg hb, if_pos nI0, zadd]
        rw [if_neg hb, Nat.add_zero] at h3
        exact h3
theorem qX0_scenesWith {t : Nat} {N : Nat → Nat} {e : Nat} (h : Inv t N) (he : e < 14) : pX0_scenesWith (nI (N 1)) (rI (scR N)) (nI e) = some (nI (swU N e (N 1))) :=
  qX0_scenesWith_4 h he FU 0 (by omega) (by have := h.sn; unfold FU; omega)
def twB (N : Nat → Nat) (e k : Nat) : Bool := decide (k ≠ e) && decide (N (10 + 6 * k + 1) = N (10 + 6 * e + 1))
def exV (N : Nat → Nat) (e w : Nat) : Nat := if w < 4 then N (10 + 6 * e + w) else if w = 4 then swU N e (N 1) else if w = 5 then setU (twB N e) (N 0) else N (10 + 6 * e + 5)
theorem qX0_numberOfExtra {t : Nat} {N : Nat → Nat} {e w : Nat} (h : Inv t N) (ht : t ≤ 10000) (he : e < N 0) (hw : w ≤ 6) : pX0_numberOfExtra (nI (N 0)) (nI (N 1)) (rI (exR N)) (rI (scR N)) (nI e) (nI w) = some (nI (exV N e w)) := by
  have hS := h.sm ht
  have h0 := h.ec
  have kk : ∀ n, n < 1000 → w ≠ n → ¬ (nI w = nI n) := fun n hn h1 h2 => h1 ((zeq (by omega) (by omega)).mp h2)
  unfold pX0_numberOfExtra exV
  by_cases c4 : w = 4
  · subst c4
    rw [if_pos rfl, qX0_scenesWith h (by omega), ob]; rfl
  rw [if_neg (kk 4 (by omega) c4)]
  by_cases c5 : w = 5
  · subst c5
    rw [if_pos rfl, gE (by omega) (by omega), ob, zshl (by omega), Nat.one_mul, zshl (by have := (h.ex e (by omega)).2.1; omega), Nat.one_mul]
    rw [qX0_withFaces (fun k => !(2 ^ e).testBit k) (fun f => (2 ^ N (10 + 6 * e + 1)).testBit f) hS.2.1 hS.2.2.2.1 (fun k hk => by rw [notbit _ (by omega), nIbit _ (by omega)]) (fun f hf => nIbit _ (by omega)), ob]
    rw [if_neg (by omega), if_neg (by omega), if_pos rfl]
    rw [setU_congr (Q := twB N e) (N 0) (fun k hk => by
      unfold twB
      rw [Nat.testBit_two_pow, Nat.testBit_two_pow]
      by_cases q1 : e = k
      · rw [decide_eq_true q1, decide_eq_false (show ¬ (k ≠ e) by omega)]; rfl
      · rw [decide_eq_false q1, decide_eq_true (show k ≠ e by omega)]
        by_cases q2 : N (10 + 6 * e + 1) = N (10 + 6 * k + 1)
        · rw [decide_eq_true q2, decide_eq_true q2.symm]; rfl
        · rw [decide_eq_false q2, decide_eq_false (fun q => q2 q.symm)]; rfl)]
  rw [if_neg (kk 5 (by omega) c5)]
  by_cases c6 : w = 6
  · subst c6
    rw [if_pos rfl, gE (by omega) (by omega), ob]; rfl
  · rw [if_neg (kk 6 (by omega) c6), gE (by omega) (by omega), ob, if_pos (by omega)]
theorem qX8_extraOf_95 {t : Nat} {N : Nat → Nat} {e w sc : Nat} (rf : Int32) (h : Inv t N) (ht : t ≤ 10000) (he : e < N 0) (hw : w ≤ 6) (hsc : sc = swU N e (N 1)) : ∀ (k n : Nat), n ≤ N 0 → N 0 - n < k → pX8_extraOf_95 k rf (rI N) (nI e) (nI w) (nI sc) (nI (setU (twB N e) n)) (nI n) = some (nI (exV N e w), rf) := by
  have h0 := h.ec
  have hB := h.sm0 ht
  intro k
  induction k with
  | zero => intro n h1 h2; omega
  | succ k ih =>
    intro n h1 h2
    rw [pX8_extraOf_95, if_pos ((znb (by omega)).mpr (by omega)), zcl (by omega), rI_at]
    unfold pX8_extraOf_198
    by_cases hn : N 0 ≤ n
    · have e1 : n = N 0 := by omega
      rw [if_pos ((zle (by omega) (by omega)).mpr hn), e1]
      unfold exV
      by_cases c4 : 4 ≤ w
      · rw [if_pos ((zle (by omega) (by omega)).mpr c4), if_neg (c := w < 4) (by omega)]
        by_cases d4 : w = 4
        · rw [if_pos ((zeq (by omega) (by omega)).mpr d4), if_pos d4, hsc]
        rw [if_neg (fun h => d4 ((zeq (by omega) (by omega)).mp h)), if_neg d4]
        by_cases d5 : w = 5
        · rw [if_pos ((zeq (by omega) (by omega)).mpr d5), if_pos d5]
        rw [if_neg (fun h => d5 ((zeq (by omega) (by omega)).mp h)), if_neg d5, qX8_of (by omega), ob]
      · rw [if_neg (fun h => c4 ((zle (by omega) (by omega)).mp h)), qX8_of (by omega), ob, if_pos (c := w < 4) (by omega)]
    · have h3 := ih (n + 1) (by omega) (by omega)
      rw [if_neg (fun h => hn ((zle (by omega) (by omega)).mp h))]
      unfold pX8_extraOf_143 pX8_extraOf_144
      by_cases c1 : n = e
      · rw [if_pos ((zeq (by omega) (by omega)).mpr c1), zor, Nat.or_zero, zadd]
        rw [setU_no (by unfold twB; rw [decide_eq_false (not_not_intro c1)]; rfl)] at h3
        exact h3
      rw [if_neg (fun h => c1 ((zeq (by omega) (by omega)).mp h)), qX8_of (by omega), ob, qX8_of (by omega), ob]
      by_cases c2 : N (10 + 6 * n + 1) = N (10 + 6 * e + 1)
      · rw [if_pos (by rw [c2]), zshl (by omega), Nat.one_mul, zor, zadd]
        rw [setU_yes (by unfold twB; rw [decide_eq_true c1, decide_eq_true c2]; rfl)] at h3
        exact h3
      · have b1 := hB (10 + 6 * n + 1)
        have b2 := hB (10 + 6 * e + 1)
        rw [if_neg (fun h => c2 ((zeq (by omega) (by omega)).mp h)), zor, Nat.or_zero, zadd]
        rw [setU_no (by unfold twB; rw [decide_eq_false c2, Bool.and_false])] at h3
        exact h3
theorem qX8_extraOf_49 {t : Nat} {N : Nat → Nat} {e w : Nat} (rf : Int32) (h : Inv t N) (ht : t ≤ 10000) (he : e < N 0) (hw : w ≤ 6) : ∀ (k s : Nat), s ≤ N 1 → N 1 - s < k → pX8_extraOf_49 k rf (rI N) (nI e) (nI w) (nI (swU N e s)) (nI 0) (nI s) = some (nI (exV N e w), rf) := by
  have h0 := h.ec
  have hn := h.sn
  intro k
  induction k with
  | zero => intro s h1 h2; omega
  | succ k ih =>
    intro s h1 h2
    rw [pX8_extraOf_49, if_pos ((znb (by omega)).mpr (by omega)), zcl (by omega), rI_at]
    by_cases hs : N 1 ≤ s
    · rw [if_pos ((zle (by omega) (by omega)).mpr hs), show s = N 1 from by omega]
      exact qX8_extraOf_95 rf h ht he hw rfl FU 0 (by omega) (by unfold FU; omega)
    · have h3 := ih (s + 1) (by omega) (by omega)
      have hx := h.sc s (by omega)
      rw [if_neg (fun h => hs ((zle (by omega) (by omega)).mp h)), qX8_told (by omega), ob, qX8_has (by omega) (by omega), ob]
      unfold pX8_extraOf_84
      rw [swU] at h3
      by_cases hb : (N (94 + 7 * s + 6)).testBit e = true
      · rw [if_pos hb, if_neg nI1, zadd, zadd]
        rw [if_pos hb] at h3
        exact h3
      · rw [if_neg hb, if_pos nI0, zadd, zadd]
        rw [if_neg hb] at h3
        exact h3
theorem c_extraOf (rf x y : Int32) {t : Nat} {N : Nat → Nat} (h : Inv t N) (ht : t ≤ 10000) :
    (pX7_extraOf (nI (N 0)) (nI (N 1)) (rI (exR N)) (rI (scR N)) x y = some (.inl 2) ∧ pX8_extraOf rf (rI N) x y = some (nI 0, nI 1)) ∨
    (pX7_extraOf (nI (N 0)) (nI (N 1)) (rI (exR N)) (rI (scR N)) x y = some (.inl 0) ∧ pX8_extraOf rf (rI N) x y = some (nI 0, nI 2)) ∨
    ∃ v, pX7_extraOf (nI (N 0)) (nI (N 1)) (rI (exR N)) (rI (scR N)) x y = some (.inr v) ∧ pX8_extraOf rf (rI N) x y = some (v, nI 0) := by
  have h0 := h.ec
  unfold pX7_extraOf pX8_extraOf pX8_extraOf_33
  by_cases hx : isE N x
  · obtain ⟨e, he, he2⟩ := isE_nat hx
    simp only [qX7_reqE1 h0 hx, qX8_isE1 h0 hx, ob, eR, if_neg nI1]
    by_cases hy : ((0 : Nat) : Int) ≤ y.toInt ∧ y.toInt ≤ ((6 : Nat) : Int)
    · right; right
      have ⟨c1, c2⟩ := inC1 (A := 0) (B := 6) (by omega) (by omega) (by decide) (by decide) hy
      obtain ⟨w, hw, _, hw2⟩ := in_nat hy
      rw [hw] at c1 c2
      have w1 := qX0_numberOfExtra h ht he2 hw2
      have w2 := qX8_extraOf_49 (nI 0) h ht he2 hw2 FU 0 (by omega) (by have := h.sn; unfold FU; omega)
      refine ⟨nI (exV N e w), ?_, ?_⟩
      · simp only [c1, ob, rA1, eR, he, hw, w1]
      · simp only [c2, ob, if_neg nI1, rf0, if_pos nI0, he, hw]
        exact w2
    · right; left
      have ⟨c1, c2⟩ := inC0 (A := 0) (B := 6) (by omega) (by omega) (by decide) (by decide) hy
      refine ⟨?_, ?_⟩
      · simp only [c1, ob, rA0, eL]
      · simp only [c2, ob, if_pos nI0, rf2, if_neg nI1]
  · left
    refine ⟨?_, ?_⟩
    · simp only [qX7_reqE0 h0 hx, ob, eL]
    · simp only [qX8_isE0 h0 hx, ob, if_pos nI0, rf1, if_neg nI1]
theorem c_sceneOf (rf x y : Int32) {t : Nat} {N : Nat → Nat} (h : Inv t N) (ht : t ≤ 10000) :
    (pX7_sceneOf (nI (N 0)) (nI (N 1)) (rI (exR N)) (rI (scR N)) x y = some (.inl 2) ∧ pX8_sceneOf rf (rI N) x y = some (nI 0, nI 1)) ∨
    (pX7_sceneOf (nI (N 0)) (nI (N 1)) (rI (exR N)) (rI (scR N)) x y = some (.inl 0) ∧ pX8_sceneOf rf (rI N) x y = some (nI 0, nI 2)) ∨
    ∃ v, pX7_sceneOf (nI (N 0)) (nI (N 1)) (rI (exR N)) (rI (scR N)) x y = some (.inr v) ∧ pX8_sceneOf rf (rI N) x y = some (v, nI 0) := by
  have h0 := h.ec
  have h1 := h.sn
  have hS := h.sm ht
  unfold pX7_sceneOf pX8_sceneOf pX8_sceneOf_33 pX8_sceneOf_75 pX8_sceneOf_78
  by_cases hx : isS N x
  · obtain ⟨s, hs, hs2⟩ := isS_nat hx
    simp only [qX7_reqS1 h1 hx, qX8_isS1 h1 hx, ob, eR, if_neg nI1]
    by_cases hy : ((0 : Nat) : Int) ≤ y.toInt ∧ y.toInt ≤ ((8 : Nat) : Int)
    · right; right
      have ⟨c1, c2⟩ := inC1 (A := 0) (B := 8) (by omega) (by omega) (by decide) (by decide) hy
      obtain ⟨w, hw, _, hw2⟩ := in_nat hy
      rw [hw] at c1 c2
      have hsc := h.sc s (by omega)
      have kk : ∀ n, n < 1000 → w ≠ n → ¬ (nI w = nI n) := fun n hn h1 h2 => h1 ((zeq (by omega) (by omega)).mp h2)
      have e7 : w ≠ 7 → w ≠ 8 → ¬ (nI 7 ≤ nI w) := fun a b h => by have := (zle (by omega) (by omega)).mp h; omega
      simp only [c1, c2, ob, rA1, eR, if_neg nI1, rf0, if_pos nI0, hs, hw]
      unfold pX0_numberOfScene pX0_numberOfScene_45
      by_cases d5 : w = 5
      · subst d5
        rw [if_pos rfl, qX0_crowdOf (by omega), ob, if_neg (e7 (by omega) (by omega)), qX8_told (by omega), ob]
        by_cases hc : N (94 + 7 * s + 6) = 0
        · have h5 := hsc.2.2.2.2.2.2.2.1.mpr hc
          rw [if_pos ((zeq0 (by omega)).mpr hc), h5]
          exact ⟨_, rfl, rfl⟩
        · have h5 : N (94 + 7 * s + 5) = 1 := by
            have : N (94 + 7 * s + 5) ≠ 0 := fun q => hc (hsc.2.2.2.2.2.2.2.1.mp q)
            omega
          rw [if_neg (fun h => hc ((zeq0 (by omega)).mp h)), h5]
          exact ⟨_, rfl, rfl⟩
      rw [if_neg (kk 5 (by omega) d5)]
      by_cases d6 : w = 6
      · subst d6
        rw [if_pos rfl, qX0_crowdOf (by omega), ob, if_neg (e7 (by omega) (by omega)), qX8_told (by omega), ob]
        exact ⟨_, rfl, rfl⟩
      rw [if_neg (kk 6 (by omega) d6)]
      have cast : ∀ sm : Bool, (pX0_castOf (nI (N 1)) (rI (scR N)) (nI s) (nI (if sm then 1 else 0))).bind (fun v3 => (pX0_facesOf (nI (N 0)) (rI (exR N)) v3).bind fun v4 => some v4) = some (nI (seenU N s sm (N 1))) := by
        intro sm
        rw [qX0_castOf hS (by omega), ob, qX0_facesN _ hS.2.1 hS.2.2.2.1, ob, fcsU_cast h _ h.sn]
      have seen : ∀ sm : Bool, pX8_seen (rI N) (nI s) (nI (if sm then 1 else 0)) = some (nI (seenU N s sm (N 1))) := fun sm => qX8_seen hS (by omega)
      by_cases d7 : w = 7
      · subst d7
        have a1 := cast true
        have a2 := seen true
        rw [if_pos (c := true = true) rfl] at a1 a2
        rw [if_pos (c := nI 7 = nI 7) rfl, a1, ob, if_pos (by decide), if_pos (c := nI 7 = nI 7) rfl, a2, ob]
        exact ⟨_, rfl, rfl⟩
      rw [if_neg (kk 7 (by omega) d7)]
      by_cases d8 : w = 8
      · subst d8
        have a1 := cast false
        have a2 := seen false
        rw [if_neg (c := false = true) (by decide)] at a1 a2
        rw [if_pos (c := nI 8 = nI 8) rfl, a1, ob, if_pos (by decide), if_neg (c := nI 8 = nI 7) (by decide), a2, ob]
        exact ⟨_, rfl, rfl⟩
      rw [if_neg (kk 8 (by omega) d8), gS (by omega) (by omega), ob, ob, if_neg (e7 d7 d8), qX8_told (by omega), ob]
      exact ⟨_, rfl, rfl⟩
    · right; left
      have ⟨c1, c2⟩ := inC0 (A := 0) (B := 8) (by omega) (by omega) (by decide) (by decide) hy
      refine ⟨?_, ?_⟩
      · simp only [c1, ob, rA0, eL]
      · simp only [c2, ob, if_pos nI0, rf2, if_neg nI1]
  · left
    refine ⟨?_, ?_⟩
    · simp only [qX7_reqS0 h1 hx, ob, eL]
    · simp only [qX8_isS0 h1 hx, ob, if_pos nI0, rf1, if_neg nI1]
/-- what shooting costs -/
def coN (N : Nat → Nat) (s : Nat) : Nat := bcN (chN N s) 14 * wageN N (N (94 + 7 * s + 4)) + N 9 * pnU N (chN N s) (N (94 + 7 * s + 4)) (N 0)
theorem shN_3' {N : Nat → Nat} {s : Nat} (h0 : N 0 ≤ 14) : shN N s 3 = N 3 + bcN (chN N s) 14 * wageN N (N (94 + 7 * s + 4)) := by
  have hP := (chN_P (s := s) h0).2
  rw [shN_3, bcN_top h0 (fun e he => (hP e he).1)]
theorem sh_spent {N : Nat → Nat} {s : Nat} (h0 : N 0 ≤ 14) : shN N s 3 + shN N s 4 = N 3 + N 4 + coN N s := by
  rw [shN_3' h0, shN_4]
  unfold coN
  omega
theorem c_would (rf x y : Int32) {t : Nat} {N M : Nat → Nat} (h : Inv t N) (ht : t < 10000) (hM : Z164 M) :
    (pX7_would (nI (N 0)) (nI (N 1)) (rI (exR N)) (rI (scR N)) (rI (seR N)) x y = some (.inl 2) ∧ pX8_would rf (rI N) (rI M) x y = some (nI 0, nI 1, rI M)) ∨
    (pX7_would (nI (N 0)) (nI (N 1)) (rI (exR N)) (rI (scR N)) (rI (seR N)) x y = some (.inl 0) ∧ pX8_would rf (rI N) (rI M) x y = some (nI 0, nI 2, rI M)) ∨
    ∃ v M2, Z164 M2 ∧ pX7_would (nI (N 0)) (nI (N 1)) (rI (exR N)) (rI (scR N)) (rI (seR N)) x y = some (.inr v) ∧ pX8_would rf (rI N) (rI M) x y = some (v, nI 0, rI M2) := by
  have h0 := h.ec
  have h1 := h.sn
  have hS := h.sm (show t ≤ 10000 by omega)
  unfold pX7_would pX8_would pX8_would_33 pX8_would_141
  by_cases hx : isS N x
  · obtain ⟨s, hs, hs2⟩ := isS_nat hx
    simp only [qX7_reqS1 h1 hx, qX8_isS1 h1 hx, ob, eR, if_neg nI1]
    by_cases hy : ((0 : Nat) : Int) ≤ y.toInt ∧ y.toInt ≤ ((3 : Nat) : Int)
    · right; right
      have ⟨c1, c2⟩ := inC1 (A := 0) (B := 3) (by omega) (by omega) (by decide) (by decide) hy
      obtain ⟨w, hw, _, hw2⟩ := in_nat hy
      rw [hw] at c1 c2
      have hl := cwN_lt (s := s) h (show t ≤ 10000 by omega)
      have w1 := qX0_crowdNow h (show t ≤ 10000 by omega) (show s < 10 by omega)
      have w2 := qX8_canShootW h (show t ≤ 10000 by omega) (show s < 10 by omega)
      simp only [c1, c2, ob, rA1, eR, if_neg nI1, rf0, if_pos nI0, hs, hw, w1, w2]
      by_cases hc : cwN N s = 0
      · rw [if_pos ((zeq0 (by omega)).mpr hc), if_pos hc, if_pos nI0]
        exact ⟨-1, M, hM, rfl, rfl⟩
      · have hm := (h.sc s (by omega)).2.2.2.2.1
        have es : siN N s = shN N s := by unfold siN; rw [if_neg hc]
        have hI := Inv_si (s := s) h (show t ≤ 10000 by omega)
        rw [es] at hI
        have hcc := cwN_ch hc
        have ht3 := hI.tot
        have htn := h.tot
        have s3 := shN_3' (s := s) h0
        have s4 := shN_4 N s
        have s6 := shN_6 N s
        rw [if_neg (fun h => hc ((zeq0 (by omega)).mp h)), if_neg hc, if_neg nI1, qX8_copyAll h.bz hM, ob, qX8_shootOn h (by omega) (by omega), ob]
        have kk : ∀ n, n < 1000 → w ≠ n → ¬ (nI w = nI n) := fun n hn h1 h2 => h1 ((zeq (by omega) (by omega)).mp h2)
        by_cases d0 : w = 0
        · subst d0
          rw [if_pos rfl, if_pos nI0, hcc]
          exact ⟨_, _, hI.bz, rfl, rfl⟩
        rw [if_neg (kk 0 (by omega) d0), if_neg (fun h => d0 ((zeq0 (by omega)).mp h))]
        by_cases d1 : w = 1
        · subst d1
          rw [if_pos rfl, qX0_wagesOf (by omega) hm hl, ob, if_pos (c := nI 1 = nI 1) rfl, if_pos (by decide), if_pos (by decide), show (nI 3).toNatClampNeg = 3 from by decide]
          dsimp only
          rw [rI_at, rI_at, s3, zsub (by omega), Nat.add_sub_cancel_left, hcc]
          exact ⟨_, _, hI.bz, rfl, rfl⟩
        rw [if_neg (kk 1 (by omega) d1), if_neg (kk 1 (by omega) d1)]
        by_cases d2 : w = 2
        · subst d2
          rw [if_pos rfl, qX0_penaltyCostsOf h (by omega) (by omega), ob, if_pos (c := nI 2 = nI 2) rfl, if_pos (by decide), if_pos (by decide), show (nI 4).toNatClampNeg = 4 from by decide]
          dsimp only
          rw [rI_at, rI_at, s4, zsub (by omega), Nat.add_sub_cancel_left, hcc]
          exact ⟨_, _, hI.bz, rfl, rfl⟩
        rw [if_neg (kk 2 (by omega) d2), if_neg (kk 2 (by omega) d2), qX0_breaksOf h (by omega) (by omega), ob, if_pos (by decide), if_pos (by decide), show (nI 6).toNatClampNeg = 6 from by decide]
        dsimp only
        rw [rI_at, rI_at, s6, zsub (by omega), Nat.add_sub_cancel_left, hcc]
        exact ⟨_, _, hI.bz, rfl, rfl⟩
    · right; left
      have ⟨c1, c2⟩ := inC0 (A := 0) (B := 3) (by omega) (by omega) (by decide) (by decide) hy
      refine ⟨?_, ?_⟩
      · simp only [c1, ob, rA0, eL]
      · simp only [c2, ob, if_pos nI0, rf2, if_neg nI1]
  · left
    refine ⟨?_, ?_⟩
    · simp only [qX7_reqS0 h1 hx, ob, eL]
    · simp only [qX8_isS0 h1 hx, ob, if_pos nI0, rf1, if_neg nI1]
theorem andpow {a f : Nat} (ha : a < 16384) (hf : f < 14) : (nI a &&& nI (2 ^ f) = 0) ↔ a.testBit f = false := by
  have hl : a &&& 2 ^ f ≤ a := Nat.and_le_left
  rw [zand, zeq0 (by omega)]
  constructor
  · intro h
    have h2 := Nat.testBit_and a (2 ^ f) f
    rw [h, Nat.zero_testBit, Nat.testBit_two_pow, decide_eq_true rfl, Bool.and_true] at h2
    exact h2.symm
  · intro h
    apply Nat.eq_of_testBit_eq
    intro k
    rw [Nat.testBit_and, Nat.testBit_two_pow, Nat.zero_testBit]
    by_cases hk : f = k
    · subst hk; rw [h]; rfl
    · rw [decide_eq_false hk, Bool.and_false]
theorem c_why (rf x y : Int32) {t : Nat} {N : Nat → Nat} (h : Inv t N) (ht : t ≤ 10000) :
    (pX7_why (nI (N 0)) (nI (N 1)) (rI (exR N)) (rI (scR N)) (rI (seR N)) x y = some (.inl 2) ∧ pX8_why rf (rI N) x y = some (nI 0, nI 1)) ∨
    ∃ v, pX7_why (nI (N 0)) (nI (N 1)) (rI (exR N)) (rI (scR N)) (rI (seR N)) x y = some (.inr v) ∧ pX8_why rf (rI N) x y = some (v, nI 0) := by
  have h0 := h.ec
  have h1 := h.sn
  have hS := h.sm ht
  unfold pX7_why pX8_why pX8_why_27 pX8_why_28 pX8_why_153
  by_cases hx : isS N x
  · obtain ⟨s, hs, hs2⟩ := isS_nat hx
    simp only [qX7_reqS1 h1 hx, qX8_isS1 h1 hx, ob, eR, if_neg nI1]
    by_cases hy : isE N y
    · right
      obtain ⟨e, he, he2⟩ := isE_nat hy
      simp only [qX7_reqE1 h0 hy, qX8_isE1 h0 hy, ob, eR, if_neg nI1, rf0, if_pos nI0]
      rw [hs, he]
      have hsc := h.sc s (by omega)
      have hex := h.ex e (by omega)
      have hse := seenU_lt (s := s) (sm := false) hS (N 1)
      have hl := cwN_lt (s := s) h ht
      have hfc := fcsU_lt (c := cwN N s) hS.2.2.2.1 (N 0) hS.2.1
      unfold pX0_reason pX0_reason_99
      rw [gE (by omega) (by omega), ob, qX0_withRightLook hS (by omega), ob, qX7_has _ (by omega), ob, nIbit _ (by omega), setU_bit, decide_eq_true he2, Bool.true_and, qX8_fits hS.1 (by omega) (by omega), ob]
      by_cases c1 : N (10 + 6 * e + 0) = N (94 + 7 * s + 0)
      rotate_left
      · rw [decide_eq_false c1, if_neg (c := false = true) (by decide), if_pos nI0, if_neg c1, if_pos nI0]
        exact ⟨_, rfl, rfl⟩
      rw [decide_eq_true c1, if_pos (c := true = true) rfl, if_neg nI1, if_pos c1, if_neg nI1, qX0_withTime hS (by omega), ob, qX7_has _ (by omega), ob, nIbit _ (by omega), setU_bit, decide_eq_true he2, Bool.true_and, qX8_hasTime (by omega) (by omega) (by have := h.set; omega) (by omega) (by omega), ob]
      by_cases c2 : N (10 + 6 * e + 2) + N (94 + 7 * s + 4) ≤ N 7
      rotate_left
      · rw [decide_eq_false c2, if_neg (c := false = true) (by decide), if_pos nI0, if_neg c2, if_pos nI0]
        exact ⟨_, rfl, rfl⟩
      have a1 : pX0_castOf (nI (N 1)) (rI (scR N)) (nI s) (nI 0) = some (nI (castU N s false (N 1))) := qX0_castOf (sm := false) hS (by omega)
      have a2 : pX8_seen (rI N) (nI s) (nI 0) = some (nI (seenU N s false (N 1))) := qX8_seen (sm := false) hS (by omega)
      rw [decide_eq_true c2, if_pos (c := true = true) rfl, if_neg nI1, if_pos c2, if_neg nI1, a1, ob, qX0_facesN _ hS.2.1 hS.2.2.2.1, ob, fcsU_cast h _ h.sn, zshl (by omega), Nat.one_mul, a2, ob, qX8_of (by omega), ob, qX8_has (by omega) (by omega), ob]
      by_cases c3 : (seenU N s false (N 1)).testBit (N (10 + 6 * e + 1)) = true
      · rw [if_neg (c := nI (seenU N s false (N 1)) &&& nI (2 ^ N (10 + 6 * e + 1)) = 0) (fun q => by rw [(andpow hse (by omega)).mp q] at c3; cases c3), if_pos c3, if_neg nI1]
        exact ⟨_, rfl, rfl⟩
      have c3' : (seenU N s false (N 1)).testBit (N (10 + 6 * e + 1)) = false := by simpa using c3
      rw [if_pos (c := nI (seenU N s false (N 1)) &&& nI (2 ^ N (10 + 6 * e + 1)) = 0) ((andpow hse (by omega)).mpr c3'), if_neg c3, if_pos nI0, qX0_crowdNow h ht (by omega), ob, qX8_canShootW h ht (by omega), ob]
      by_cases c4 : cwN N s = 0
      · rw [if_pos ((zeq0 (by omega)).mpr c4), if_pos c4, if_pos nI0]
        exact ⟨_, rfl, rfl⟩
      rw [if_neg (fun q => c4 ((zeq0 (by omega)).mp q)), if_neg c4, if_neg nI1, qX7_has _ (by omega), ob, nIbit _ (by omega), qX8_choose hS (by omega) (by omega), ob, ← cwN_ch c4, qX8_has (by omega) (by omega), ob]
      by_cases c5 : (cwN N s).testBit e = true
      · rw [if_pos c5, if_neg nI1, if_neg nI1]
        exact ⟨_, rfl, rfl⟩
      rw [if_neg c5, if_pos nI0, if_pos nI0, qX0_facesN _ hS.2.1 hS.2.2.2.1, ob, qX8_facesOf hS.2.1 hS.2.2.2.1 (by omega), ob, ob, qX8_has (by omega) (by omega), ob]
      by_cases c6 : (fcsU N (cwN N s) (N 0)).testBit (N (10 + 6 * e + 1)) = true
      · rw [if_neg (c := nI (fcsU N (cwN N s) (N 0)) &&& nI (2 ^ N (10 + 6 * e + 1)) = 0) (fun q => by rw [(andpow hfc (by omega)).mp q] at c6; cases c6), if_pos c6, if_neg nI1]
        exact ⟨_, rfl, rfl⟩
      have c6' : (fcsU N (cwN N s) (N 0)).testBit (N (10 + 6 * e + 1)) = false := by simpa using c6
      rw [if_pos (c := nI (fcsU N (cwN N s) (N 0)) &&& nI (2 ^ N (10 + 6 * e + 1)) = 0) ((andpow hfc (by omega)).mpr c6'), if_neg c6, if_pos nI0]
      exact ⟨_, rfl, rfl⟩
    · left
      refine ⟨?_, ?_⟩
      · simp only [qX7_reqE0 h0 hy, ob, eL]
      · simp only [qX8_isE0 h0 hy, ob, if_pos nI0, rf1, if_neg nI1]
  · left
    refine ⟨?_, ?_⟩
    · simp only [qX7_reqS0 h1 hx, ob, eL]
    · simp only [qX8_isS0 h1 hx, ob, if_pos nI0, rf1, if_neg nI1]

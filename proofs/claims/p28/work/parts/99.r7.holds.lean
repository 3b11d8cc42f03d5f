/-! ===== the law: what holds in each film ===== -/
theorem fcsU_n {N : Nat → Nat} {c f : Nat} : ∀ n, (fcsU N c n).testBit f = true ↔ ∃ e, e < n ∧ c.testBit e = true ∧ N (10 + 6 * e + 1) = f := by
  intro n
  induction n with
  | zero =>
    rw [fcsU, Nat.zero_testBit]
    constructor
    · intro h; cases h
    · rintro ⟨e, he, _⟩; omega
  | succ n ih =>
    rw [fcsU, Nat.testBit_or, Bool.or_eq_true, ih]
    constructor
    · rintro (⟨e, he, h⟩ | h)
      · exact ⟨e, by omega, h⟩
      · by_cases hb : c.testBit n = true
        · rw [if_pos hb, Nat.testBit_two_pow] at h
          exact ⟨n, by omega, hb, of_decide_eq_true h⟩
        · rw [if_neg hb, Nat.zero_testBit] at h
          cases h
    · rintro ⟨e, he, hb, hf⟩
      by_cases hen : e = n
      · subst hen
        refine Or.inr ?_
        rw [if_pos hb, Nat.testBit_two_pow]
        exact decide_eq_true hf
      · exact Or.inl ⟨e, by omega, hb, hf⟩
theorem bc_faces {N : Nat → Nat} {c : Nat} (hf : ∀ e, e < 14 → N (10 + 6 * e + 1) < 14) (hd : dsF N c) : ∀ n, n ≤ 14 → bcN (fcsU N c n) 14 = bcN c n := by
  intro n
  induction n with
  | zero => intro _; rw [fcsU, bcN, bcN_zero]
  | succ n ih =>
    intro hn
    rw [fcsU, show bcN c (n + 1) = bcN c n + (if c.testBit n = true then 1 else 0) from rfl]
    by_cases hb : c.testBit n = true
    · rw [if_pos hb, if_pos hb]
      have hno : (fcsU N c n).testBit (N (10 + 6 * n + 1)) = false := by
        cases hx : (fcsU N c n).testBit (N (10 + 6 * n + 1)) with
        | false => rfl
        | true =>
          obtain ⟨e, he, hbe, hfe⟩ := (fcsU_n n).mp hx
          have := hd e n hbe hb hfe
          omega
      rw [bcN_or hno, ih (by omega), if_pos (hf n (by omega))]
    · rw [if_neg hb, if_neg hb, Nat.or_zero, ih (by omega)]
      omega
theorem and0 {a b : Nat} (h : ∀ k, a.testBit k = true → b.testBit k = false) : a &&& b = 0 := by
  apply Nat.eq_of_testBit_eq
  intro k
  rw [Nat.testBit_and, Nat.zero_testBit]
  cases ha : a.testBit k with
  | false => rfl
  | true => rw [h k ha]; rfl
theorem bars0 {N : Nat → Nat} {s c : Nat} (hn : nbF N (seenU N s false (N 1)) c) : fcsU N c (N 0) &&& seenU N s false (N 1) = 0 := by
  refine and0 (fun k hk => ?_)
  obtain ⟨e, he, hb, hf⟩ := (fcsU_n (N 0)).mp hk
  rw [← hf]
  exact hn e hb
theorem CR_nb {N : Nat → Nat} {s : Nat} (h : GC N) (hc : CR N s) : nbF N (seenU N s false (N 1)) (N (94 + 7 * s + 6)) := by
  intro e he
  cases hx : (seenU N s false (N 1)).testBit (N (10 + 6 * e + 1)) with
  | false => rfl
  | true =>
    obtain ⟨k, hk, hcn, f, hf, hfb, hff⟩ := (seen_bit (N 1)).mp hx
    have ⟨r1, r2, r3, r4⟩ := cnt_no.mp hcn
    exact absurd hff.symm (hc.2.2.2 k hk r1 r2 r3 r4 e f he hfb)
theorem holds_240 {N : Nat → Nat} {kk : Int32 → Int32 → Int32 → Int32 → Int32 → Int32 → Int32 → Option Int32} {s c : Nat} {y1 y3 y4 y5 : Int32} (hN : N 0 ≤ 14) (hM : N 1 ≤ 10) (hs : s < N 1) (hc : c < 16384) (hl : ∀ e, c.testBit e = true → N (10 + 6 * e + 0) = N (94 + 7 * s + 0)) : ∀ (k e : Nat), e ≤ N 0 → N 0 - e < k → pL_holds_240 N kk k y1 (nI (N 0)) y3 y4 y5 (nI 1) (nI s) (nI c) (nI e) = kk y1 (nI (N 0)) y3 y4 y5 (nI 1) (nI (s + 1)) := by
  intro k
  induction k with
  | zero => intro e h1 h2; omega
  | succ k ih =>
    intro e h1 h2
    rw [pL_holds_240_s]
    by_cases he : N 0 ≤ e
    · rw [if_pos ((zle (by omega) (by omega)).mpr he)]
      unfold pL_holds_295
      rw [zadd]
    · have h3 := ih (e + 1) (by omega) (by omega)
      rw [if_neg (fun q => he ((zle (by omega) (by omega)).mp q)), if_neg nI1, zbit (by omega) (by omega)]
      unfold pL_holds_282 pL_holds_287
      rw [zadd]
      by_cases hb : c.testBit e = true
      · rw [if_pos hb, if_neg nI1, aEx_n (by omega) hN (by omega), aSc_n hs hM (by omega), if_pos (c := nI (exV N e 0) = nI (scV N s 0)) (congrArg nI (hl e hb))]
        exact h3
      · rw [if_neg hb, if_pos nI0]
        exact h3
/-- what holds of a scene -/
theorem holds_body {t : Nat} {N : Nat → Nat} {kk : Int32 → Int32 → Int32 → Int32 → Int32 → Int32 → Int32 → Option Int32} {s : Nat} {y1 y3 y5 : Int32} (h : FG t N) (ht : t ≤ 9000) (hs : s < N 1) :
    ((pL_facesOf N (aSc N (nI s) (nI 6))).bind fun v3 => if (aSc N (nI s) (nI 5)) = (nI 1) then pL_holds_95 N kk y1 (nI (N 0)) y3 (nI (shU N s)) y5 (nI s) (aSc N (nI s) (nI 6)) v3 (nI 1) else pL_holds_95 N kk y1 (nI (N 0)) y3 (nI (shU N s)) y5 (nI s) (aSc N (nI s) (nI 6)) v3 (nI 0)) = kk y1 (nI (N 0)) y3 (nI (shU N (s + 1))) y5 (nI 1) (nI (s + 1)) := by
  have hI := h.1
  have hN := hI.ec
  have hM := hI.sn
  have hS := hI.sm (show t ≤ 10000 by omega)
  have hsc := hI.sc s (by omega)
  have hc := hsc.2.2.2.2.2.2.1
  have hfc := fcsU_lt (c := N (94 + 7 * s + 6)) hS.2.2.2.1 (N 0) hN
  have e6 : aSc N (nI s) (nI 6) = nI (N (94 + 7 * s + 6)) := aSc_n hs hM (by omega)
  have e5 : aSc N (nI s) (nI 5) = nI (N (94 + 7 * s + 5)) := aSc_n hs hM (by omega)
  have e1 : aSc N (nI s) (nI 1) = nI (N (94 + 7 * s + 1)) := aSc_n hs hM (by omega)
  have e8 : aSc N (nI s) (nI 8) = nI (seenU N s false (N 1)) := aSc_n hs hM (by omega)
  have hse := seenU_lt (s := s) (sm := false) hS (N 1)
  have w0 := aWo_n (N := N) (w := 0) hs hM (by omega)
  rw [e6, e5, facesOf_ok hN hS.2.2.2.1 (by omega), ob]
  unfold pL_holds_95
  by_cases h5 : N (94 + 7 * s + 5) = 1
  · have hCR := h.2.1 s hs h5
    have hno : cwN N s = 0 := by
      refine cwN_no (fun q => ?_)
      have q2 := q.2
      unfold canN at q2
      rw [Bool.and_eq_true, decide_eq_true_eq] at q2
      omega
    rw [if_pos hno] at w0
    rw [h5, if_pos rfl, if_neg nI1]
    unfold pL_holds_109
    have hm : bcN (N (94 + 7 * s + 6)) 14 = N (94 + 7 * s + 1) := hCR.1
    have hff : bcN (fcsU N (N (94 + 7 * s + 6)) (N 0)) 14 = bcN (N (94 + 7 * s + 6)) 14 := by
      rw [bc_faces hS.2.2.2.1 hCR.2.2.1 _ hN, ← bcN_top hN (fun e he => (hCR.2.1 e he).1)]
    have hb0 := bars0 (CR_nb h.2.1 hCR)
    rw [if_neg nI1, bits_ok (by omega), ob, e1, if_pos (congrArg nI hm), bits_ok (by omega), ob, ob, if_pos (congrArg nI hff), e8, zand, hb0, if_pos nI0, w0, if_pos rfl, zadd]
    unfold pL_holds_235
    have hsh : shU N (s + 1) = shU N s + 1 := by rw [shU, h5]
    rw [hsh]
    exact holds_240 hN hM hs hc (fun e he => (hCR.2.1 e he).2) 16 0 (by omega) (by omega)
  · have h50 : N (94 + 7 * s + 5) = 0 := by have := hsc.2.2.2.2.2.1; omega
    have h60 : N (94 + 7 * s + 6) = 0 := hsc.2.2.2.2.2.2.2.1.mp h50
    have hle := (chN_P (s := s) hN).1
    have hl := chN_lt (s := s) hS
    rw [h50, if_neg (by decide), if_pos nI0]
    unfold pL_holds_109
    rw [if_pos nI0, h60, if_pos nI0, zadd]
    have hsh : shU N (s + 1) = shU N s + 0 := by rw [shU, h50]
    rw [hsh, w0]
    unfold pL_holds_209
    rw [aLa_n hs hM]
    unfold pL_holds_227 pL_holds_235
    have hin := holds_240 (kk := kk) (y1 := y1) (y3 := y3) (y4 := nI (shU N s + 0)) (y5 := y5) (c := 0) hN hM hs (by omega) (fun e he => by rw [Nat.zero_testBit] at he; cases he) 16 0 (by omega) (by omega)
    by_cases hcan : canN N s = true
    · obtain ⟨hcw, hpos⟩ := cwN_pos hI hs hcan
      have hm : bcN (chN N s) 14 = N (94 + 7 * s + 1) := by
        unfold canN at hcan
        rw [Bool.and_eq_true, decide_eq_true_eq, decide_eq_true_eq] at hcan
        exact hcan.2.symm
      rw [if_neg (c := cwN N s = 0) (by omega), if_neg (c := nI (woV N s 0) = -1) (fun q => by
        have e : woV N s 0 = cwN N s := rfl
        rw [e] at q
        exact (zm1 (by omega)).mp q), hm, Nat.sub_self, if_pos (by decide), if_pos rfl]
      exact hin
    · have hcw : cwN N s = 0 := cwN_no (fun q => hcan q.2)
      have hm : bcN (chN N s) 14 ≠ N (94 + 7 * s + 1) := fun q => hcan (by
        unfold canN
        rw [decide_eq_true h50, decide_eq_true q.symm]
        rfl)
      have hmany := hsc.2.1
      rw [if_pos hcw, if_pos rfl, if_neg (c := nI (N (94 + 7 * s + 1) - bcN (chN N s) 14) ≤ 0) (fun q => by have := (zle0 (by omega)).mp q; omega), if_pos rfl]
      exact hin
theorem holds_46 {t : Nat} {N : Nat → Nat} {y1 y5 : Int32} (h : FG t N) (ht : t ≤ 9000) : ∀ (k s : Nat), s ≤ N 1 → N 1 - s < k → pL_holds_46 N k y1 (nI (N 0)) (nI (N 1)) (nI (shU N s)) y5 (nI 1) (nI s) = pL_holds_301 N y1 (nI (N 0)) (nI (N 1)) (nI (shU N (N 1))) y5 (nI 1) := by
  have hM := h.1.sn
  intro k
  induction k with
  | zero => intro s h1 h2; omega
  | succ k ih =>
    intro s h1 h2
    rw [pL_holds_46_s]
    by_cases he : N 1 ≤ s
    · have e : s = N 1 := by omega
      rw [if_pos ((zle (by omega) (by omega)).mpr he), e]
    · rw [if_neg (fun q => he ((zle (by omega) (by omega)).mp q)), if_neg nI1, holds_body h ht (by omega)]
      exact ih (s + 1) (by omega) (by omega)
theorem holds_304 {t : Nat} {N : Nat → Nat} {X : Nat} {y4 : Int32} (h : FG t N) (ht : t ≤ 9000) (hX : X < 2147483648) (h1 : 1 ≤ N 1) : ∀ (k e : Nat), e ≤ N 0 → N 0 - e < k → pL_holds_304 N k (nI X) (nI (N 0)) (nI (N 1)) y4 (nI (suE N e)) (nI 1) (nI e) = pL_holds_399 N 16 (nI (N 0)) y4 (nI (suE N (N 0))) (nI 1) (nI (X % N 1)) (aWo N (nI (X % N 1)) (nI 0)) (nI 0) := by
  have hN := h.1.ec
  have hM := h.1.sn
  intro k
  induction k with
  | zero => intro e h1 h2; omega
  | succ k ih =>
    intro e h3 h2
    rw [pL_holds_304_s]
    by_cases he : N 0 ≤ e
    · have e9 : e = N 0 := by omega
      have er : nI X - nI X / nI (N 1) * nI (N 1) = nI (X % N 1) := zrem hX (by omega) (by omega)
      have en : ¬ nI (N 1) = 0 := fun q => by have := (zeq0 (by omega)).mp q; omega
      rw [if_pos ((zle (by omega) (by omega)).mpr he), if_pos en, er, e9]
    · have hx := h.1.ex e (by omega)
      have e2 : aEx N (nI e) (nI 2) = nI (N (10 + 6 * e + 2)) := aEx_n (by omega) hN (by omega)
      have e3 : aEx N (nI e) (nI 3) = nI (N (10 + 6 * e + 3)) := aEx_n (by omega) hN (by omega)
      have e6 : aEx N (nI e) (nI 6) = nI (N (10 + 6 * e + 5)) := aEx_n (by omega) hN (by omega)
      rw [if_neg (fun q => he ((zle (by omega) (by omega)).mp q)), if_neg nI1, e2, e3, e6, if_neg (c := nI (N (10 + 6 * e + 2)) < nI (N (10 + 6 * e + 3))) (fun q => by have := (zlt (by omega) (by omega)).mp q; omega), if_neg (c := nI 960 < nI (N (10 + 6 * e + 2))) (fun q => by have := (zlt (by omega) (by omega)).mp q; omega)]
      unfold pL_holds_371
      rw [zadd, zadd]
      exact ih (e + 1) (by omega) (by omega)
/-- why, against would -/
theorem wh_no {N : Nat → Nat} {s e : Nat} (hc : cwN N s = 0) : 0 < whV N s e ∧ whV N s e < 5 := by
  unfold whV
  rw [if_pos hc]
  split
  · omega
  · split
    · omega
    · split <;> omega
theorem wh_in {N : Nat → Nat} {s e : Nat} (hN : N 0 ≤ 14) (hc : cwN N s ≠ 0) (hb : (cwN N s).testBit e = true) : whV N s e = 0 := by
  have hcw := cwN_ch hc
  rw [hcw] at hb
  have hP := (chN_P (s := s) hN).2 e hb
  have hQ := (chN_Q (N := N) (s := s)).2 e hb
  have hfr := hP.2
  unfold frB at hfr
  rw [Bool.and_eq_true, decide_eq_true_eq, decide_eq_true_eq] at hfr
  unfold whV
  rw [if_neg (fun q => q hfr.1), if_neg (fun q => q hfr.2), if_neg (fun q => by rw [hQ] at q; cases q), if_neg hc, hcw, if_pos hb]
theorem wh_out {N : Nat → Nat} {s e : Nat} (hc : cwN N s ≠ 0) (hb : ¬ (cwN N s).testBit e = true) : 0 < whV N s e := by
  unfold whV
  rw [if_neg hc, if_neg hb]
  split
  · omega
  · split
    · omega
    · split
      · omega
      · split <;> omega
theorem whV_le (N : Nat → Nat) (s e : Nat) : whV N s e ≤ 6 := by
  unfold whV
  repeat (first | omega | split)
theorem holds_399 {t : Nat} {N : Nat → Nat} {s : Nat} {y4 y5 : Int32} (h : FG t N) (ht : t ≤ 9000) (hs : s < N 1) : ∀ (k e : Nat), e ≤ N 0 → N 0 - e < k → pL_holds_399 N k (nI (N 0)) y4 y5 (nI 1) (nI s) (aWo N (nI s) (nI 0)) (nI e) = pL_holds_483 N y4 y5 (nI 1) (nI s) (aWo N (nI s) (nI 0)) := by
  have hN := h.1.ec
  have hM := h.1.sn
  have hl := cwN_lt (s := s) h.1 (show t ≤ 10000 by omega)
  have w0 := aWo_n (N := N) (w := 0) hs hM (by omega)
  intro k
  induction k with
  | zero => intro e h1 h2; omega
  | succ k ih =>
    intro e h3 h2
    rw [pL_holds_399_s]
    by_cases he : N 0 ≤ e
    · rw [if_pos ((zle (by omega) (by omega)).mpr he)]
    · have h9 := ih (e + 1) (by omega) (by omega)
      have hle := whV_le N s e
      rw [if_neg (fun q => he ((zle (by omega) (by omega)).mp q)), if_neg nI1, aWh_n hs hM (by omega) hN]
      unfold pL_holds_433 pL_holds_454 pL_holds_455 pL_holds_470 pL_holds_475
      rw [zadd]
      by_cases hc : cwN N s = 0
      · have ⟨q1, q2⟩ := wh_no (e := e) hc
        rw [if_pos hc] at w0
        rw [w0] at h9 ⊢
        rw [if_neg (c := nI (whV N s e) = 0) (fun q => by have := (zeq0 (by omega)).mp q; omega), if_pos rfl, if_pos rfl, if_pos (c := nI (whV N s e) < nI 5) ((zlt (by omega) (by omega)).mpr q2)]
        exact h9
      · have e0 : woV N s 0 = cwN N s := rfl
        rw [if_neg hc, e0] at w0
        rw [w0] at h9 ⊢
        have n1 : ¬ (nI (cwN N s) = -1) := fun q => (zm1 (by omega)).mp q
        rw [zbit (by omega) (by omega)]
        by_cases hb : (cwN N s).testBit e = true
        · have hw := wh_in (e := e) hN hc hb
          rw [hw, if_pos nI0, if_neg n1, if_pos hb, if_pos rfl, if_pos rfl, if_pos (by decide)]
          exact h9
        · have hw := wh_out (e := e) hc hb
          rw [if_neg (c := nI (whV N s e) = 0) (fun q => by have := (zeq0 (by omega)).mp q; omega), if_neg n1, if_neg hb, if_neg (c := nI 0 = nI 1) (by decide), if_pos (c := nI 0 = nI 0) rfl, if_neg n1, ite_self]
          exact h9
theorem bs_ok {N : Nat → Nat} : ∀ n, (∀ b, (bsN N n).1 = some b → b < n ∧ cwN N b ≠ 0 ∧ (bsN N n).2 = coN N b ∧ ∀ k, k < n → cwN N k ≠ 0 → coN N b ≤ coN N k ∧ (coN N k = coN N b → b ≤ k)) ∧ ((bsN N n).1 = none → ∀ k, k < n → cwN N k = 0) := by
  intro n
  induction n with
  | zero => exact ⟨fun b h => (by cases h), fun _ k hk => absurd hk (Nat.not_lt_zero k)⟩
  | succ n ih =>
    obtain ⟨i1, i2⟩ := ih
    rw [bsN]
    by_cases hc : cwN N n = 0
    · rw [if_pos hc]
      refine ⟨fun b hb => ?_, fun hb k hk => ?_⟩
      · obtain ⟨a1, a2, a3, a4⟩ := i1 b hb
        refine ⟨by omega, a2, a3, fun k hk hk2 => ?_⟩
        by_cases hkn : k = n
        · rw [hkn] at hk2
          exact absurd hc hk2
        · exact a4 k (by omega) hk2
      · by_cases hkn : k = n
        · rw [hkn]; exact hc
        · exact i2 hb k (by omega)
    · rw [if_neg hc]
      cases hq : (bsN N n).1 with
      | none =>
        dsimp only
        refine ⟨fun b hb => ?_, fun hb => (by cases hb)⟩
        cases hb
        refine ⟨by omega, hc, rfl, fun k hk hk2 => ?_⟩
        by_cases hkn : k = n
        · subst hkn; exact ⟨Nat.le_refl _, fun _ => Nat.le_refl _⟩
        · exact absurd (i2 hq k (by omega)) hk2
      | some b0 =>
        obtain ⟨a1, a2, a3, a4⟩ := i1 b0 hq
        dsimp only
        by_cases hlt : coN N n < (bsN N n).2
        · rw [if_pos hlt]
          refine ⟨fun b hb => ?_, fun hb => (by cases hb)⟩
          cases hb
          refine ⟨by omega, hc, rfl, fun k hk hk2 => ?_⟩
          by_cases hkn : k = n
          · subst hkn; exact ⟨Nat.le_refl _, fun _ => Nat.le_refl _⟩
          · have := (a4 k (by omega) hk2).1
            exact ⟨by omega, fun q => by omega⟩
        · rw [if_neg hlt]
          refine ⟨fun b hb => ?_, fun hb => (by rw [hq] at hb; cases hb)⟩
          rw [hq] at hb
          cases hb
          refine ⟨by omega, a2, a3, fun k hk hk2 => ?_⟩
          by_cases hkn : k = n
          · subst hkn; exact ⟨by omega, fun _ => by omega⟩
          · exact a4 k (by omega) hk2
theorem holds_648 {t : Nat} {N : Nat → Nat} {s : Nat} (h : FG t N) (ht : t ≤ 9000) (hs : s < N 1) (hc : cwN N s ≠ 0) : pL_holds_648 N (nI s) (nI (cwN N s)) (aSc N (nI s) (nI 7)) = some (nI 1) := by
  have hI := h.1
  have hN := hI.ec
  have hM := hI.sn
  have hS := hI.sm (show t ≤ 10000 by omega)
  have hl := cwN_lt (s := s) hI (by omega)
  have hfc := fcsU_lt (c := cwN N s) hS.2.2.2.1 (N 0) hN
  have hse := seenU_lt (s := s) (sm := true) hS (N 1)
  have e1 : aSc N (nI s) (nI 1) = nI (N (94 + 7 * s + 1)) := aSc_n hs hM (by omega)
  have e7 : aSc N (nI s) (nI 7) = nI (seenU N s true (N 1)) := aSc_n hs hM (by omega)
  have e8 : aSc N (nI s) (nI 8) = nI (seenU N s false (N 1)) := aSc_n hs hM (by omega)
  have w3 := aWo_n (N := N) (w := 3) hs hM (by omega)
  rw [if_neg hc] at w3
  have hcan : canN N s = true := by
    by_cases c : s < N 1 ∧ canN N s = true
    · exact c.2
    · exact absurd (cwN_no c) hc
  have hm : bcN (cwN N s) 14 = N (94 + 7 * s + 1) := by
    rw [cwN_ch hc]
    unfold canN at hcan
    rw [Bool.and_eq_true, decide_eq_true_eq, decide_eq_true_eq] at hcan
    exact hcan.2.symm
  have hb0 : fcsU N (cwN N s) (N 0) &&& seenU N s false (N 1) = 0 := by
    rw [cwN_ch hc]
    exact bars0 (chN_Q (N := N) (s := s)).2
  have hdl := dif_lt (seenU N s true (N 1)) (fcsU N (cwN N s) (N 0))
  have hbr : woV N s 3 = bcN (dif (seenU N s true (N 1)) (fcsU N (cwN N s) (N 0))) 14 := rfl
  unfold pL_holds_648
  rw [bits_ok (by omega), ob, e1, if_pos (congrArg nI hm), facesOf_ok hN hS.2.2.2.1 (by omega), ob, e8, zand, hb0, if_pos nI0, ob, e7, zdif hse, bits_ok (by omega), ob, w3, hbr, if_pos rfl]
  rfl
theorem holds_483 {t : Nat} {N : Nat → Nat} {s : Nat} (h : FG t N) (ht : t ≤ 9000) (hs : s < N 1) : pL_holds_483 N (nI (shU N (N 1))) (nI (suE N (N 0))) (nI 1) (nI s) (aWo N (nI s) (nI 0)) = some (nI 1) := by
  have hI := h.1
  have hN := hI.ec
  have hM := hI.sn
  have e2 : aAb N (nI 2) = nI (shU N (N 1)) := aAb_n (by omega)
  have e4 : aAb N (nI 4) = nI (N 3) := aAb_n (by omega)
  have e5 : aAb N (nI 5) = nI (N 4) := aAb_n (by omega)
  have hl := cwN_lt (s := s) hI (show t ≤ 10000 by omega)
  have w0 := aWo_n (N := N) (w := 0) hs hM (by omega)
  obtain ⟨b1, b2⟩ := bs_ok (N := N) (N 1)
  unfold pL_holds_483 pL_holds_548 pL_holds_553 pL_holds_566
  rw [if_neg nI1, e2, if_pos rfl, e4, e5, zadd, h.2.2, if_pos rfl]
  unfold aCh
  cases hq : (bsN N (N 1)).1 with
  | none =>
    have hc := b2 hq s hs
    rw [if_pos hc] at w0
    rw [oI_none, if_pos rfl, if_neg nI1, w0, if_pos rfl]
    rfl
  | some b =>
    obtain ⟨c1, c2, c3, c4⟩ := b1 b hq
    have hlb := cwN_lt (s := b) hI (show t ≤ 10000 by omega)
    have v0 := aWo_n (N := N) (s := b) (w := 0) c1 hM (by omega)
    have v1 := aWo_n (N := N) (s := b) (w := 1) c1 hM (by omega)
    have v2 := aWo_n (N := N) (s := b) (w := 2) c1 hM (by omega)
    rw [if_neg c2] at v0 v1 v2
    have e0 : woV N b 0 = cwN N b := rfl
    rw [oI_some, if_neg (fun q => (zm1 (by omega)).mp q), v0, e0, if_neg (c := nI (cwN N b) ≤ 0) (fun q => c2 ((zle0 (by omega)).mp q)), if_neg nI1]
    by_cases hc : cwN N s = 0
    · rw [if_pos hc] at w0
      rw [w0, if_pos rfl]
      rfl
    · have e0s : woV N s 0 = cwN N s := rfl
      rw [if_neg hc, e0s] at w0
      have w1 := aWo_n (N := N) (w := 1) hs hM (by omega)
      have w2 := aWo_n (N := N) (w := 2) hs hM (by omega)
      rw [if_neg hc] at w1 w2
      obtain ⟨d1, d2⟩ := c4 s hs hc
      have k1 := coN_cw hc
      have k2 := coN_cw c2
      have lts := coN_lt hI (show t < 10000 by omega) (show s < 10 by omega) hc
      have ltb := coN_lt hI (show t < 10000 by omega) (show b < 10 by omega) c2
      rw [w0, if_neg (fun q => (zm1 (by omega)).mp q), v1, v2, w1, w2, zadd, zadd, k1, k2, if_neg (c := nI (coN N s) < nI (coN N b)) (fun q => by have := (zlt (by omega) (by omega)).mp q; omega), holds_648 h ht hs hc]
      by_cases d3 : nI (coN N b) < nI (coN N s)
      · rw [if_pos d3]
      · rw [if_neg d3, if_neg (c := nI s < nI b) (fun q => by
          have q2 := (zlt (by omega) (by omega)).mp q
          have d4 : ¬ coN N b < coN N s := fun q => d3 ((zlt (by omega) (by omega)).mpr q)
          have := d2 (by omega)
          omega)]
theorem holds_ok {t : Nat} {N : Nat → Nat} {X : Nat} (h : FG t N) (ht : t ≤ 9000) (hX : X < 2147483648) (h1 : 1 ≤ N 1) : pL_holds N (nI X) = some (nI 1) := by
  have hN := h.1.ec
  have hM := h.1.sn
  have e0 : aAb N (nI 0) = nI (N 0) := aAb_n (by omega)
  have e1 : aAb N (nI 1) = nI (N 1) := aAb_n (by omega)
  unfold pL_holds
  rw [e0, e1, if_neg (c := nI 14 < nI (N 0)) (fun q => by have := (zlt (by omega) (by omega)).mp q; omega), if_neg (c := nI 10 < nI (N 1)) (fun q => by have := (zlt (by omega) (by omega)).mp q; omega)]
  unfold pL_holds_41
  have a1 := holds_46 (y1 := nI X) (y5 := nI 0) h ht 16 0 (by omega) (by omega)
  rw [shU] at a1
  rw [a1]
  unfold pL_holds_301
  have a2 := holds_304 (y4 := nI (shU N (N 1))) h ht hX h1 16 0 (by omega) (by omega)
  rw [suE] at a2
  rw [a2, holds_399 h ht (Nat.mod_lt _ (by omega)) 16 0 (by omega) (by omega)]
  exact holds_483 h ht (Nat.mod_lt _ (by omega))

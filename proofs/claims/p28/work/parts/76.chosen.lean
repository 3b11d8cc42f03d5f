/-! ===== the chosen crowd ===== -/
/-- the extras free for a scene, their faces none of some -/
def reR (N : Nat → Nat) (s fs : Nat) : Nat := setU (fun e => frB N s e && !fs.testBit (N (10 + 6 * e + 1))) (N 0)
theorem reR_bit {N : Nat → Nat} {s fs e : Nat} (he : e < N 0) : (reR N s fs).testBit e = (frB N s e && !fs.testBit (N (10 + 6 * e + 1))) := by
  unfold reR
  rw [setU_bit, decide_eq_true he, Bool.true_and]
theorem reR_or {N : Nat → Nat} {s fs g : Nat} : setU (fun e => (reR N s fs).testBit e && !g.testBit (N (10 + 6 * e + 1))) (N 0) = reR N s (fs ||| g) := by
  show _ = setU (fun e => frB N s e && !(fs ||| g).testBit (N (10 + 6 * e + 1))) (N 0)
  apply setU_congr
  intro k hk
  rw [reR_bit hk, Nat.testBit_or]
  cases frB N s k <;> cases fs.testBit (N (10 + 6 * k + 1)) <;> cases g.testBit (N (10 + 6 * k + 1)) <;> rfl
theorem reR_zero {N : Nat → Nat} {s fs : Nat} : reR N s fs = 0 ↔ lwP N (fun e => frB N s e && !fs.testBit (N (10 + 6 * e + 1))) (N 0) = none := by
  constructor
  · intro h
    cases hq : lwP N (fun e => frB N s e && !fs.testBit (N (10 + 6 * e + 1))) (N 0) with
    | none => rfl
    | some b =>
      have ⟨h1, h2⟩ := lwP_some hq
      have := reR_bit (N := N) (s := s) (fs := fs) h1
      rw [h, Nat.zero_testBit] at this
      rw [h2] at this
      cases this
  · intro h
    apply Nat.eq_of_testBit_eq
    intro k
    rw [Nat.zero_testBit]
    unfold reR
    rw [setU_bit]
    by_cases hk : k < N 0
    · have := lwP_none h k hk
      rw [this, Bool.and_false]
    · rw [decide_eq_false hk, Bool.false_and]
theorem fcsU_in {N : Nat → Nat} {c e : Nat} (he : e < N 0) (hc : c.testBit e = true) : (fcsU N c (N 0)).testBit (N (10 + 6 * e + 1)) = true := by
  rw [← fcsP_U]
  exact (fcsP_bit N _ _ _).mpr ⟨e, he, hc, rfl⟩
theorem fcsU_out {N : Nat → Nat} {c f : Nat} (h : (fcsU N c (N 0)).testBit f = true) : ∃ e, e < N 0 ∧ c.testBit e = true ∧ N (10 + 6 * e + 1) = f := by
  rw [← fcsP_U] at h
  exact (fcsP_bit N _ _ _).mp h
theorem qX0_chosen2 {N : Nat → Nat} {s w kb : Nat} (hS : Sm N) (hw : w < 100) (hkb : kb < 16384) : ∀ (k i j c : Nat), bcN c 14 + j = w → i + j ≤ 14 → 15 - i ≤ k → i ≤ 14 → c < 16384 → pX0_chosenCrowd_121 k (nI (N 0)) (nI (N 1)) (rI (exR N)) (rI (scR N)) (rI (seR N)) (nI w) (nI c) (nI (reR N s (kb ||| fcsU N c (N 0)))) (nI i) = some (nI (ch2 N s kb j c)) := by
  have hN := hS.2.1
  intro k
  induction k with
  | zero => intro i j c h1 h2 h3 h4 hc; omega
  | succ k ih =>
    intro i j c h1 h2 h3 h4 hc
    have hbc := bcN_le c 14
    have hfc := fcsU_lt (c := c) hS.2.2.2.1 (N 0) hN
    have hr : reR N s (kb ||| fcsU N c (N 0)) < 16384 := setU_lt _ _ hN
    rw [pX0_chosenCrowd_121_s]
    unfold pX0_chosenCrowd_179
    cases j with
    | zero =>
      rw [show ch2 N s kb 0 c = c from rfl, qJ6_bitCount hc, ob, if_pos (c := nI w ≤ nI (bcN c 14)) ((zle (by omega) (by omega)).mpr (by omega))]
      split
      · rfl
      · split <;> rfl
    | succ j =>
      rw [if_neg (fun h => by have := (zle (by omega) (by omega)).mp h; omega)]
      rw [ch2, frsN_lw]
      cases hq : lwP N (fun e => frB N s e && !(kb ||| fcsU N c (N 0)).testBit (N (10 + 6 * e + 1))) (N 0) with
      | none =>
        rw [if_pos (by rw [reR_zero.mpr hq]; rfl)]
      | some e =>
        have ⟨he, hpe⟩ := lwP_some hq
        rw [if_neg (fun h => by
          have h5 := (zeq0 (by omega)).mp h
          rw [reR_zero.mp h5] at hq
          cases hq), qJ6_bitCount hc, ob, if_neg (fun h => by have := (zle (by omega) (by omega)).mp h; omega)]
        rw [qX0_leastWorked (fun e => (reR N s (kb ||| fcsU N c (N 0))).testBit e) hS (fun e he => nIbit _ (by omega)), ob]
        rw [lwP_congr (Q := fun e => frB N s e && !(kb ||| fcsU N c (N 0)).testBit (N (10 + 6 * e + 1))) (fun e he => reR_bit he), hq]
        have hp := pw14 (show e < 14 by omega)
        have hg := fcsU_lt (c := 2 ^ e) hS.2.2.2.1 (N 0) hN
        rw [show oP (some e) = 2 ^ e from rfl, qX0_facesN _ hN hS.2.2.2.1, ob]
        rw [qX0_withFaces (fun e => (reR N s (kb ||| fcsU N c (N 0))).testBit e) (fun f => !(fcsU N (2 ^ e) (N 0)).testBit f) hN hS.2.2.2.1 (fun e he => nIbit _ (by omega)) (fun f hf => by rw [notbit _ (by omega), nIbit _ (by omega)]), ob, zor, zadd]
        rw [reR_or, Nat.or_assoc, ← fcsU_or]
        have hce : c.testBit e = false := by
          cases hcc : c.testBit e with
          | false => rfl
          | true =>
            have := fcsU_in he hcc
            rw [Nat.testBit_or, this, Bool.or_true, Bool.not_true, Bool.and_false] at hpe
            cases hpe
        have hbo := bcN_or hce 14
        rw [if_pos (by omega)] at hbo
        exact ih (i + 1) j (c ||| 2 ^ e) (by omega) (by omega) (by omega) (by omega) (or14 hc hp)
/-- what stands fast of a crowd while the faces below f are gone through -/
def c1P (N : Nat → Nat) (s kn ba f c : Nat) : Prop := ∀ e, c.testBit e = true → e < N 0 ∧ frB N s e = true ∧ N (10 + 6 * e + 1) < f ∧ kn.testBit (N (10 + 6 * e + 1)) = true ∧ ba.testBit (N (10 + 6 * e + 1)) = false
theorem reR_c1 {N : Nat → Nat} {s kn ba f c : Nat} (hc : c1P N s kn ba f c) : reR N s (kn ||| ba) = reR N s (kn ||| ba ||| fcsU N c (N 0)) := by
  unfold reR
  apply setU_congr
  intro k hk
  rw [Nat.testBit_or (kn ||| ba)]
  cases h1 : (kn ||| ba).testBit (N (10 + 6 * k + 1)) with
  | true => rfl
  | false =>
    cases h2 : (fcsU N c (N 0)).testBit (N (10 + 6 * k + 1)) with
    | false => rfl
    | true =>
      obtain ⟨e, he, hce, hf⟩ := fcsU_out h2
      have := (hc e hce).2.2.2.1
      rw [hf] at this
      rw [Nat.testBit_or, this, Bool.true_or] at h1
      cases h1
theorem c1P_step {N : Nat → Nat} {s kn ba f c e : Nat} (hc : c1P N s kn ba f c) (hk : kn.testBit f = true) (hb : ba.testBit f = false) (he : lowN N s f (N 0) 0 = some e) : c1P N s kn ba (f + 1) (c ||| 2 ^ e) ∧ c.testBit e = false := by
  rw [lowN_fs] at he
  have ⟨_, h2, h3, _⟩ := fsP_some he
  rw [Bool.and_eq_true, decide_eq_true_eq] at h3
  constructor
  · intro x hx
    rw [Nat.testBit_or, Bool.or_eq_true] at hx
    rcases hx with hx | hx
    · have ⟨a1, a2, a3, a4, a5⟩ := hc x hx
      exact ⟨a1, a2, by omega, a4, a5⟩
    · rw [Nat.testBit_two_pow] at hx
      have hxe := of_decide_eq_true hx
      subst hxe
      rw [h3.1]
      exact ⟨by omega, h3.2, by omega, hk, hb⟩
  · cases hx : c.testBit e with
    | false => rfl
    | true =>
      have := (hc e hx).2.2.1
      omega
theorem c1P_mono {N : Nat → Nat} {s kn ba f c : Nat} (hc : c1P N s kn ba f c) : c1P N s kn ba (f + 1) c := by
  intro e he
  have ⟨a1, a2, a3, a4, a5⟩ := hc e he
  exact ⟨a1, a2, by omega, a4, a5⟩
theorem qX0_chosen1 {N : Nat → Nat} {s kn ba w : Nat} {x : Int32} (hS : Sm N) (hkn : kn < 16384) (hba : ba < 16384) (hw : w ≤ 14) (hx : ∀ e, e < 14 → x.toBitVec.getLsbD e = (decide (e < N 0) && frB N s e)) : ∀ (k j f c n : Nat), f + j = 14 → j < k → n = bcN c 14 → n ≤ w → c < 16384 → c1P N s kn ba f c → pX0_chosenCrowd_52 k (nI (N 0)) (nI (N 1)) (rI (exR N)) (rI (scR N)) (rI (seR N)) (nI w) x (nI kn) (nI ba) (nI c) (nI f) = some (nI (ch12 N s kn ba w (ch1 N s kn ba w j f c n))) := by
  have hN := hS.2.1
  intro k
  induction k with
  | zero => intro j f c n h1 h2; omega
  | succ k ih =>
    intro j f c n h1 h2 hn hnw hc hcP
    have hbc := bcN_le c 14
    have hend : pX0_chosenCrowd_104 (nI (N 0)) (nI (N 1)) (rI (exR N)) (rI (scR N)) (rI (seR N)) (nI w) x (nI kn) (nI ba) (nI c) = some (nI (ch12 N s kn ba w (c, n))) := by
      unfold pX0_chosenCrowd_104
      rw [zor, qX0_withFaces (fun e => decide (e < N 0) && frB N s e) (fun f => !(kn ||| ba).testBit f) hN hS.2.2.2.1 hx (fun f hf => by rw [notbit _ (by omega), nIbit _ (by omega)]), ob]
      rw [setU_congr (Q := fun e => frB N s e && !(kn ||| ba).testBit (N (10 + 6 * e + 1))) (N 0) (fun k hk => by rw [decide_eq_true hk, Bool.true_and])]
      have hr := reR_c1 hcP
      unfold reR at hr
      rw [hr]
      exact qX0_chosen2 hS (by omega) (or14 hkn hba) FU 0 (w - n) c (by omega) (by omega) (by unfold FU; omega) (by omega) hc
    rw [pX0_chosenCrowd_52_s]
    cases j with
    | zero =>
      rw [if_pos ((zlt (by omega) (by omega)).mpr (by omega))]
      exact hend
    | succ j =>
      rw [if_neg (fun h => by have := (zlt (by omega) (by omega)).mp h; omega), qJ6_bitCount hc, ob]
      by_cases hwn : w ≤ n
      · rw [if_pos ((zle (by omega) (by omega)).mpr (by omega))]
        rw [show ch1 N s kn ba w (j + 1) f c n = (c, n) from by unfold ch1; rw [if_neg (by omega)]]
        exact hend
      · rw [if_neg (fun h => by have := (zle (by omega) (by omega)).mp h; omega)]
        rw [qX0_withFaces (fun e => decide (e < N 0) && frB N s e) (fun g => kn.testBit g && !ba.testBit g && decide (f = g)) hN hS.2.2.2.1 hx (fun g hg => by rw [andbit, andbit, notbit _ (by omega), zshl (by omega), Nat.one_mul, nIbit _ (by omega), nIbit _ (by omega), nIbit _ (by omega), Nat.testBit_two_pow]), ob]
        rw [lowbit hN]
        have hfs : fsP (fun e => decide (e < N 0) && frB N s e && (kn.testBit (N (10 + 6 * e + 1)) && !ba.testBit (N (10 + 6 * e + 1)) && decide (f = N (10 + 6 * e + 1)))) (N 0) 0 = (if kn.testBit f = true ∧ ba.testBit f = false then lowN N s f (N 0) 0 else none) := by
          have hg : ∀ r e, e + r ≤ N 0 → fsP (fun e => decide (e < N 0) && frB N s e && (kn.testBit (N (10 + 6 * e + 1)) && !ba.testBit (N (10 + 6 * e + 1)) && decide (f = N (10 + 6 * e + 1)))) r e = (if kn.testBit f = true ∧ ba.testBit f = false then lowN N s f r e else none) := by
            intro r
            induction r with
            | zero =>
              intro e _
              split <;> rfl
            | succ r ihr =>
              intro e he
              rw [fsP, ihr (e + 1) (by omega), lowN]
              rw [decide_eq_true (show e < N 0 by omega), Bool.true_and]
              by_cases h1 : N (10 + 6 * e + 1) = f
              · rw [h1, decide_eq_true rfl, Bool.and_true]
                cases frB N s e <;> cases kn.testBit f <;> cases ba.testBit f <;> simp
              · rw [decide_eq_false (fun h => h1 h.symm), Bool.and_false, Bool.and_false, if_neg (by decide), if_neg (c := N (10 + 6 * e + 1) = f ∧ frB N s e = true) (fun h => h1 h.1)]
          exact hg (N 0) 0 (by omega)
        rw [hfs, zor, zadd, ch1, if_pos (c := n < w) (by omega)]
        by_cases hkb : kn.testBit f = true ∧ ba.testBit f = false
        · rw [if_pos hkb]
          cases hq : lowN N s f (N 0) 0 with
          | none =>
            rw [show oP none = 0 from rfl, Nat.or_zero]
            exact ih j (f + 1) c n (by omega) (by omega) hn hnw hc (c1P_mono hcP)
          | some e =>
            have he : e < 14 := by have := lowN_lt hq; omega
            have ⟨hs1, hs2⟩ := c1P_step hcP hkb.1 hkb.2 hq
            have hbo := bcN_or hs2 14
            rw [if_pos (by omega)] at hbo
            exact ih j (f + 1) (c ||| 2 ^ e) (n + 1) (by omega) (by omega) (by omega) (by omega) (or14 hc (pw14 he)) hs1
        · rw [if_neg hkb, show oP none = 0 from rfl, Nat.or_zero]
          exact ih j (f + 1) c n (by omega) (by omega) hn hnw hc (c1P_mono hcP)
theorem frB_bit {N : Nat → Nat} {s e : Nat} (hN : N 0 ≤ 14) (he : e < 14) : (nI (setU (fun e => decide (N (10 + 6 * e + 0) = N (94 + 7 * s + 0))) (N 0)) &&& nI (setU (fun e => decide (N (10 + 6 * e + 2) + N (94 + 7 * s + 4) ≤ N 7)) (N 0))).toBitVec.getLsbD e = (decide (e < N 0) && frB N s e) := by
  rw [andbit, nIbit _ (by omega), nIbit _ (by omega), setU_bit, setU_bit]
  unfold frB
  cases decide (e < N 0) <;> rfl
theorem qX0_chosenCrowd {t : Nat} {N : Nat → Nat} {s : Nat} (h : Inv t N) (ht : t ≤ 10000) (hs : s < 10) : pX0_chosenCrowd (nI (N 0)) (nI (N 1)) (rI (exR N)) (rI (scR N)) (rI (seR N)) (nI s) = some (nI (chN N s)) := by
  have hS := h.sm ht
  have hw := (h.sc s hs).2.1
  unfold pX0_chosenCrowd
  rw [gS (by omega) hs, ob, qX0_withRightLook hS hs, ob, qX0_withTime hS hs, ob, show nI 1 = nI (if true then 1 else 0) from rfl, qX0_castOf hS hs, ob, qX0_facesN _ hS.2.1 hS.2.2.2.1, ob, fcsU_cast h _ h.sn, show nI 0 = nI (if false then 1 else 0) from rfl, qX0_castOf hS hs, ob, qX0_facesN _ hS.2.1 hS.2.2.2.1, ob, fcsU_cast h _ h.sn]
  exact qX0_chosen1 hS (seenU_lt hS _) (seenU_lt hS _) (by omega) (fun e he => frB_bit hS.2.1 he) FU 14 0 0 0 (by omega) (by unfold FU; omega) (by decide) (by omega) (by omega) (fun e he => by rw [Nat.zero_testBit] at he; cases he)
/-- what a chosen crowd is: as many as wanted at most, all of them free, each with a face of its own -/
def chP (N : Nat → Nat) (s c : Nat) : Prop := ∀ e, c.testBit e = true → e < N 0 ∧ frB N s e = true
theorem ch2_P {N : Nat → Nat} {s kb w : Nat} : ∀ (j c : Nat), bcN c 14 + j ≤ w → N 0 ≤ 14 → chP N s c → bcN (ch2 N s kb j c) 14 ≤ w ∧ chP N s (ch2 N s kb j c) := by
  intro j
  induction j with
  | zero => intro c h1 _ h2; exact ⟨by rw [ch2]; omega, by rw [ch2]; exact h2⟩
  | succ j ih =>
    intro c h1 hN h2
    rw [ch2, frsN_lw]
    cases hq : lwP N (fun e => frB N s e && !(kb ||| fcsU N c (N 0)).testBit (N (10 + 6 * e + 1))) (N 0) with
    | none => exact ⟨by dsimp only; omega, h2⟩
    | some e =>
      have ⟨he, hpe⟩ := lwP_some hq
      rw [Bool.and_eq_true] at hpe
      dsimp only
      have hce : c.testBit e = false := by
        cases hcc : c.testBit e with
        | false => rfl
        | true =>
          have := fcsU_in he hcc
          rw [Nat.testBit_or, this, Bool.or_true, Bool.not_true] at hpe
          cases hpe.2
      have hbo := bcN_or hce 14
      rw [if_pos (by omega)] at hbo
      refine ih _ (by omega) hN ?_
      intro x hx
      rw [Nat.testBit_or, Bool.or_eq_true] at hx
      rcases hx with hx | hx
      · exact h2 x hx
      · rw [Nat.testBit_two_pow] at hx
        have := of_decide_eq_true hx
        subst this
        exact ⟨he, hpe.1⟩
theorem ch1_P {N : Nat → Nat} {s kn ba w : Nat} (hN : N 0 ≤ 14) : ∀ (j f c n : Nat), n = bcN c 14 → n ≤ w → c1P N s kn ba f c → (ch1 N s kn ba w j f c n).2 = bcN (ch1 N s kn ba w j f c n).1 14 ∧ (ch1 N s kn ba w j f c n).2 ≤ w ∧ chP N s (ch1 N s kn ba w j f c n).1 := by
  intro j
  induction j with
  | zero => intro f c n h1 h2 h3; rw [ch1]; exact ⟨h1, h2, fun e he => ⟨(h3 e he).1, (h3 e he).2.1⟩⟩
  | succ j ih =>
    intro f c n h1 h2 h3
    rw [ch1]
    by_cases hnw : n < w
    · rw [if_pos hnw]
      by_cases hkb : kn.testBit f = true ∧ ba.testBit f = false
      · rw [if_pos hkb]
        cases hq : lowN N s f (N 0) 0 with
        | none => exact ih (f + 1) c n h1 h2 (c1P_mono h3)
        | some e =>
          have he : e < 14 := by have := lowN_lt hq; omega
          have ⟨hs1, hs2⟩ := c1P_step h3 hkb.1 hkb.2 hq
          have hbo := bcN_or hs2 14
          rw [if_pos (by omega)] at hbo
          exact ih (f + 1) (c ||| 2 ^ e) (n + 1) (by omega) (by omega) hs1
      · rw [if_neg hkb]
        exact ih (f + 1) c n h1 h2 (c1P_mono h3)
    · rw [if_neg hnw]
      exact ⟨h1, h2, fun e he => ⟨(h3 e he).1, (h3 e he).2.1⟩⟩
theorem chN_P {N : Nat → Nat} {s : Nat} (hN : N 0 ≤ 14) : bcN (chN N s) 14 ≤ N (94 + 7 * s + 1) ∧ chP N s (chN N s) := by
  have h := ch1_P (s := s) (kn := seenU N s true (N 1)) (ba := seenU N s false (N 1)) (w := N (94 + 7 * s + 1)) hN 14 0 0 0 (by decide) (by omega) (fun e he => by rw [Nat.zero_testBit] at he; cases he)
  exact ch2_P _ _ (by omega) hN h.2.2
theorem bcN_zero : ∀ n, bcN 0 n = 0 := by
  intro n
  induction n with
  | zero => rfl
  | succ n ih => rw [bcN, ih, Nat.zero_testBit]; rfl
/-- the crowd if the scene was shot now; 0: it cannot be -/
def cwN (N : Nat → Nat) (s : Nat) : Nat := if s < N 1 ∧ canN N s = true then chN N s else 0
theorem qX0_isScene {N : Nat → Nat} (x : Int32) (hN : N 1 ≤ 10) : pX0_isScene (nI (N 1)) x = some (nI (if 0 ≤ x.toInt ∧ x.toInt < (N 1 : Int) then 1 else 0)) := by
  unfold pX0_isScene pX0_isScene_16 pX0_isScene_17
  have h1 : (x < 0) ↔ x.toInt < 0 := by rw [Int32.lt_iff_toInt_lt, Int32.toInt_zero]
  have h2 : (nI (N 1) ≤ x) ↔ (N 1 : Int) ≤ x.toInt := by rw [Int32.le_iff_toInt_le, nI_toInt (by omega)]
  simp only [h1, h2]
  by_cases c1 : x.toInt < 0
  · rw [if_pos c1, if_neg (by omega)]; rfl
  · rw [if_neg c1]
    by_cases c2 : (N 1 : Int) ≤ x.toInt
    · rw [if_pos c2, if_neg (by omega)]; rfl
    · rw [if_neg c2, if_pos (by omega)]; rfl
theorem qX0_isExtra {N : Nat → Nat} (x : Int32) (hN : N 0 ≤ 14) : pX0_isExtra (nI (N 0)) x = some (nI (if 0 ≤ x.toInt ∧ x.toInt < (N 0 : Int) then 1 else 0)) := by
  unfold pX0_isExtra pX0_isExtra_16 pX0_isExtra_17
  have h1 : (x < 0) ↔ x.toInt < 0 := by rw [Int32.lt_iff_toInt_lt, Int32.toInt_zero]
  have h2 : (nI (N 0) ≤ x) ↔ (N 0 : Int) ≤ x.toInt := by rw [Int32.le_iff_toInt_le, nI_toInt (by omega)]
  simp only [h1, h2]
  by_cases c1 : x.toInt < 0
  · rw [if_pos c1, if_neg (by omega)]; rfl
  · rw [if_neg c1]
    by_cases c2 : (N 0 : Int) ≤ x.toInt
    · rw [if_pos c2, if_neg (by omega)]; rfl
    · rw [if_neg c2, if_pos (by omega)]; rfl
theorem qX0_crowdNow {t : Nat} {N : Nat → Nat} {s : Nat} (h : Inv t N) (ht : t ≤ 10000) (hs : s < 10) : pX0_crowdNow (nI (N 0)) (nI (N 1)) (rI (exR N)) (rI (scR N)) (rI (seR N)) (nI s) = some (nI (cwN N s)) := by
  have hS := h.sm ht
  have hx := h.sc s hs
  have hc := chN_lt (s := s) hS
  have hb := bcN_le (chN N s) 14
  have hP := (chN_P (s := s) hS.2.1).1
  have hyes : s < N 1 → N (94 + 7 * s + 6) = 0 → N (94 + 7 * s + 1) ≤ bcN (chN N s) 14 → cwN N s = chN N s := by
    intro c1 c2 c3
    unfold cwN canN
    rw [if_pos ⟨c1, by rw [decide_eq_true (hx.2.2.2.2.2.2.2.1.mpr c2), decide_eq_true (by omega)]; rfl⟩]
  have hno : ¬ (s < N 1 ∧ N (94 + 7 * s + 6) = 0 ∧ N (94 + 7 * s + 1) ≤ bcN (chN N s) 14) → cwN N s = 0 := by
    intro c
    unfold cwN canN
    rw [if_neg]
    rintro ⟨c1, c2⟩
    rw [Bool.and_eq_true, decide_eq_true_eq, decide_eq_true_eq] at c2
    exact c ⟨c1, hx.2.2.2.2.2.2.2.1.mp c2.1, by omega⟩
  unfold pX0_crowdNow pX0_crowdNow_16 pX0_crowdNow_45
  rw [qX0_isScene _ h.sn, nI_toInt (by omega), ob]
  by_cases c1 : s < N 1
  · rw [if_pos (c := 0 ≤ (s : Int) ∧ (s : Int) < (N 1 : Int)) (by omega), if_neg (by rw [zeq0 (by decide)]; decide), qX0_crowdOf hs, ob]
    by_cases c2 : N (94 + 7 * s + 6) = 0
    · rw [if_pos ((zeq0 (by omega)).mpr c2), qX0_chosenCrowd h ht hs, ob, qJ6_bitCount hc, ob, gS (by omega) hs, ob]
      by_cases c3 : N (94 + 7 * s + 1) ≤ bcN (chN N s) 14
      · rw [if_pos ((zle (by omega) (by omega)).mpr c3), hyes c1 c2 c3]
      · rw [if_neg (fun h => c3 ((zle (by omega) (by omega)).mp h)), hno (fun h => c3 h.2.2)]
    · rw [if_neg (fun h => c2 ((zeq0 (by omega)).mp h)), hno (fun h => c2 h.2.1)]
  · rw [if_neg (c := 0 ≤ (s : Int) ∧ (s : Int) < (N 1 : Int)) (by omega), if_pos (by rw [zeq0 (by decide)]), hno (fun h => c1 h.1)]
theorem cwN_pos {t : Nat} {N : Nat → Nat} {s : Nat} (h : Inv t N) (hs : s < N 1) (hc : canN N s = true) : cwN N s = chN N s ∧ 0 < chN N s := by
  have hn := h.sn
  have hx := (h.sc s (by omega)).2.2.2.2.2.2.2.2 hs
  refine ⟨by unfold cwN; rw [if_pos ⟨hs, hc⟩], ?_⟩
  unfold canN at hc
  rw [Bool.and_eq_true, decide_eq_true_eq, decide_eq_true_eq] at hc
  rcases Nat.eq_zero_or_pos (chN N s) with h0 | h0
  · rw [h0, bcN_zero] at hc; omega
  · exact h0
theorem cwN_no {N : Nat → Nat} {s : Nat} (hc : ¬ (s < N 1 ∧ canN N s = true)) : cwN N s = 0 := by
  unfold cwN; rw [if_neg hc]

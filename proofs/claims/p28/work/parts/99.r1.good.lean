/-! ===== what holds in each film: faces of a crowd of their own, none seen elsewhere, sums ===== -/
/-- faces of their own -/
def dsF (N : Nat → Nat) (c : Nat) : Prop := ∀ e f, c.testBit e = true → c.testBit f = true → N (10 + 6 * e + 1) = N (10 + 6 * f + 1) → e = f
def nbF (N : Nat → Nat) (ba c : Nat) : Prop := ∀ e, c.testBit e = true → ba.testBit (N (10 + 6 * e + 1)) = false
theorem bit_or {c e x : Nat} (h : (c ||| 2 ^ e).testBit x = true) : c.testBit x = true ∨ x = e := by
  rw [Nat.testBit_or, Bool.or_eq_true] at h
  rcases h with h | h
  · exact Or.inl h
  · rw [Nat.testBit_two_pow] at h
    exact Or.inr (of_decide_eq_true h).symm
theorem dsF_or {N : Nat → Nat} {c e : Nat} (h : dsF N c) (hn : ∀ x, c.testBit x = true → N (10 + 6 * x + 1) ≠ N (10 + 6 * e + 1)) : dsF N (c ||| 2 ^ e) := by
  intro x y hx hy hf
  rcases bit_or hx with hx2 | hx2
  · rcases bit_or hy with hy2 | hy2
    · exact h x y hx2 hy2 hf
    · rw [hy2] at hf
      exact absurd hf (hn x hx2)
  · rcases bit_or hy with hy2 | hy2
    · rw [hx2] at hf
      exact absurd hf.symm (hn y hy2)
    · rw [hx2, hy2]
theorem nbF_or {N : Nat → Nat} {ba c e : Nat} (h : nbF N ba c) (hn : ba.testBit (N (10 + 6 * e + 1)) = false) : nbF N ba (c ||| 2 ^ e) := by
  intro x hx
  rcases bit_or hx with hx | hx
  · exact h x hx
  · rw [hx]
    exact hn
theorem ch2_Q {N : Nat → Nat} {s kn ba : Nat} : ∀ (j c : Nat), (∀ e, c.testBit e = true → e < N 0) → dsF N c → nbF N ba c → dsF N (ch2 N s (kn ||| ba) j c) ∧ nbF N ba (ch2 N s (kn ||| ba) j c) := by
  intro j
  induction j with
  | zero => intro c _ h1 h2; rw [ch2]; exact ⟨h1, h2⟩
  | succ j ih =>
    intro c h0 h1 h2
    rw [ch2, frsN_lw]
    cases hq : lwP N (fun e => frB N s e && !(kn ||| ba ||| fcsU N c (N 0)).testBit (N (10 + 6 * e + 1))) (N 0) with
    | none => exact ⟨h1, h2⟩
    | some e =>
      have ⟨he, hpe⟩ := lwP_some hq
      rw [Bool.and_eq_true, Bool.not_eq_true', Nat.testBit_or, Nat.testBit_or, Bool.or_eq_false_iff, Bool.or_eq_false_iff] at hpe
      obtain ⟨_, ⟨_, hb⟩, hf⟩ := hpe
      dsimp only
      refine ih _ (fun x hx => ?_) (dsF_or h1 (fun x hx heq => ?_)) (nbF_or h2 hb)
      · rcases bit_or hx with hx | hx
        · exact h0 x hx
        · rw [hx]; exact he
      · have := fcsU_in (h0 x hx) hx
        rw [heq, hf] at this
        cases this
theorem ch1_Q {N : Nat → Nat} {s kn ba w : Nat} : ∀ (j f c n : Nat), c1P N s kn ba f c → dsF N c → dsF N (ch1 N s kn ba w j f c n).1 ∧ nbF N ba (ch1 N s kn ba w j f c n).1 ∧ ∀ e, (ch1 N s kn ba w j f c n).1.testBit e = true → e < N 0 := by
  intro j
  induction j with
  | zero => intro f c n h1 h2; rw [ch1]; exact ⟨h2, fun e he => (h1 e he).2.2.2.2, fun e he => (h1 e he).1⟩
  | succ j ih =>
    intro f c n h1 h2
    rw [ch1]
    by_cases hnw : n < w
    · rw [if_pos hnw]
      by_cases hkb : kn.testBit f = true ∧ ba.testBit f = false
      · rw [if_pos hkb]
        cases hq : lowN N s f (N 0) 0 with
        | none => exact ih (f + 1) c n (c1P_mono h1) h2
        | some e =>
          have ⟨hs1, _⟩ := c1P_step h1 hkb.1 hkb.2 hq
          refine ih (f + 1) (c ||| 2 ^ e) (n + 1) hs1 (dsF_or h2 (fun x hx heq => ?_))
          have hx2 := (h1 x hx).2.2.1
          rw [lowN_fs] at hq
          have ⟨_, _, h3, _⟩ := fsP_some hq
          rw [Bool.and_eq_true, decide_eq_true_eq] at h3
          omega
      · rw [if_neg hkb]
        exact ih (f + 1) c n (c1P_mono h1) h2
    · rw [if_neg hnw]
      exact ⟨h2, fun e he => (h1 e he).2.2.2.2, fun e he => (h1 e he).1⟩
theorem chN_Q {N : Nat → Nat} {s : Nat} : dsF N (chN N s) ∧ nbF N (seenU N s false (N 1)) (chN N s) := by
  have h := ch1_Q (N := N) (s := s) (kn := seenU N s true (N 1)) (ba := seenU N s false (N 1)) (w := N (94 + 7 * s + 1)) 14 0 0 0 (fun e he => by rw [Nat.zero_testBit] at he; cases he) (fun e f he => by rw [Nat.zero_testBit] at he; cases he)
  exact ch2_Q _ _ h.2.2 h.1 h.2.1
/-- a face seen -/
theorem seen_bit {N : Nat → Nat} {s f : Nat} {sm : Bool} : ∀ n, (seenU N s sm n).testBit f = true ↔ ∃ k, k < n ∧ cntB N s sm k = true ∧ ∃ e, e < N 0 ∧ (N (94 + 7 * k + 6)).testBit e = true ∧ N (10 + 6 * e + 1) = f := by
  intro n
  induction n with
  | zero =>
    rw [seenU, Nat.zero_testBit]
    constructor
    · intro h; cases h
    · rintro ⟨k, hk, _⟩; omega
  | succ n ih =>
    rw [seenU, Nat.testBit_or, Bool.or_eq_true, ih]
    constructor
    · rintro (⟨k, hk, h⟩ | h)
      · exact ⟨k, by omega, h⟩
      · by_cases hc : cntB N s sm n = true
        · rw [if_pos hc] at h
          exact ⟨n, by omega, hc, fcsU_out h⟩
        · rw [if_neg hc, Nat.zero_testBit] at h
          cases h
    · rintro ⟨k, hk, hc, e, he, hb, hf⟩
      by_cases hkn : k = n
      · subst hkn
        refine Or.inr ?_
        rw [if_pos hc, ← hf]
        exact fcsU_in he hb
      · exact Or.inl ⟨k, by omega, hc, e, he, hb, hf⟩
theorem cnt_no {N : Nat → Nat} {s k : Nat} : cntB N s false k = true ↔ k ≠ s ∧ N (94 + 7 * k + 5) = 1 ∧ N (94 + 7 * k + 2) = N (94 + 7 * s + 2) ∧ N (94 + 7 * k + 3) ≠ N (94 + 7 * s + 3) := by
  unfold cntB
  rw [Bool.and_eq_true, Bool.and_eq_true, Bool.and_eq_true, decide_eq_true_eq, decide_eq_true_eq, decide_eq_true_eq, beq_iff_eq, decide_eq_false_iff_not]
  exact ⟨fun h => ⟨h.1.1.1, h.1.1.2, h.1.2, h.2⟩, fun h => ⟨⟨⟨h.1, h.2.1⟩, h.2.2.1⟩, h.2.2.2⟩⟩
/-- a scene that has been shot: as many as it wants, who fit, each with a face of its own, none seen elsewhere -/
def CR (N : Nat → Nat) (s : Nat) : Prop := bcN (N (94 + 7 * s + 6)) 14 = N (94 + 7 * s + 1) ∧ (∀ e, (N (94 + 7 * s + 6)).testBit e = true → e < N 0 ∧ N (10 + 6 * e + 0) = N (94 + 7 * s + 0)) ∧ dsF N (N (94 + 7 * s + 6)) ∧
  ∀ k, k < N 1 → k ≠ s → N (94 + 7 * k + 5) = 1 → N (94 + 7 * k + 2) = N (94 + 7 * s + 2) → N (94 + 7 * k + 3) ≠ N (94 + 7 * s + 3) → ∀ e f, (N (94 + 7 * s + 6)).testBit e = true → (N (94 + 7 * k + 6)).testBit f = true → N (10 + 6 * e + 1) ≠ N (10 + 6 * f + 1)
def GC (N : Nat → Nat) : Prop := ∀ s, s < N 1 → N (94 + 7 * s + 5) = 1 → CR N s
theorem GC_frame {N N2 : Nat → Nat} (h : GC N) (h0 : N 0 ≤ N2 0) (h1 : N 1 ≤ N2 1) (hn : ∀ s, N 1 ≤ s → s < N2 1 → N2 (94 + 7 * s + 5) ≠ 1) (hs : ∀ s k, s < N 1 → k < 7 → N2 (94 + 7 * s + k) = N (94 + 7 * s + k)) (he : ∀ e k, e < N 0 → k < 2 → N2 (10 + 6 * e + k) = N (10 + 6 * e + k)) : GC N2 := by
  intro s hs2 h5
  have hsN : s < N 1 := by
    by_cases c : s < N 1
    · exact c
    · exact absurd h5 (hn s (by omega) hs2)
  rw [hs s 5 hsN (by omega)] at h5
  obtain ⟨a1, a2, a3, a4⟩ := h s hsN h5
  have e6 := hs s 6 hsN (by omega)
  have e0 := hs s 0 hsN (by omega)
  have e1 := hs s 1 hsN (by omega)
  have e2 := hs s 2 hsN (by omega)
  have e3 := hs s 3 hsN (by omega)
  unfold CR dsF
  rw [e6, e0, e1, e2, e3]
  refine ⟨a1, fun e hb => ⟨by have := (a2 e hb).1; omega, by rw [he e 0 (a2 e hb).1 (by omega)]; exact (a2 e hb).2⟩, fun e f hb hb2 hf => ?_, fun k hk hks h5k h2k h3k e f hb hb2 => ?_⟩
  · rw [he e 1 (a2 e hb).1 (by omega), he f 1 (a2 f hb2).1 (by omega)] at hf
    exact a3 e f hb hb2 hf
  · have hkN : k < N 1 := by
      by_cases c : k < N 1
      · exact c
      · exact absurd h5k (hn k (by omega) hk)
    rw [hs k 5 hkN (by omega)] at h5k
    rw [hs k 2 hkN (by omega)] at h2k
    rw [hs k 3 hkN (by omega)] at h3k
    rw [hs k 6 hkN (by omega)] at hb2
    rw [he e 1 (a2 e hb).1 (by omega), he f 1 ((h k hkN h5k).2.1 f hb2).1 (by omega)]
    exact a4 k hkN hks h5k h2k h3k e f hb hb2
/-- a crowd is put -/
theorem GC_put {N N2 : Nat → Nat} {s c : Nat} (h : GC N) (hs : s < N 1) (h0 : N2 0 = N 0) (h1 : N2 1 = N 1) (hk : ∀ k j, k < N 1 → k ≠ s → j < 7 → N2 (94 + 7 * k + j) = N (94 + 7 * k + j)) (hj : ∀ j, j < 5 → N2 (94 + 7 * s + j) = N (94 + 7 * s + j)) (h5 : N2 (94 + 7 * s + 5) = 1) (h6 : N2 (94 + 7 * s + 6) = c) (he : ∀ e k, e < N 0 → k < 2 → N2 (10 + 6 * e + k) = N (10 + 6 * e + k))
    (c1 : bcN c 14 = N (94 + 7 * s + 1)) (c2 : ∀ e, c.testBit e = true → e < N 0 ∧ N (10 + 6 * e + 0) = N (94 + 7 * s + 0)) (c3 : dsF N c) (c4 : nbF N (seenU N s false (N 1)) c) : GC N2 := by
  have key : ∀ k, k < N 1 → k ≠ s → N (94 + 7 * k + 5) = 1 → N (94 + 7 * k + 2) = N (94 + 7 * s + 2) → N (94 + 7 * k + 3) ≠ N (94 + 7 * s + 3) → ∀ e f, c.testBit e = true → (N (94 + 7 * k + 6)).testBit f = true → N (10 + 6 * e + 1) ≠ N (10 + 6 * f + 1) := by
    intro k hkN hks q5 q2 q3 e f hb hb2 heq
    have hf := ((h k hkN q5).2.1 f hb2).1
    have hbit : (seenU N s false (N 1)).testBit (N (10 + 6 * e + 1)) = true := (seen_bit (N 1)).mpr ⟨k, hkN, cnt_no.mpr ⟨hks, q5, q2, q3⟩, f, hf, hb2, heq.symm⟩
    rw [c4 e hb] at hbit
    cases hbit
  intro s2 hs2 q5
  rw [h1] at hs2
  by_cases hss : s2 = s
  · subst hss
    unfold CR dsF
    rw [h6, hj 0 (by omega), hj 1 (by omega), hj 2 (by omega), hj 3 (by omega)]
    refine ⟨c1, fun e hb => ⟨by rw [h0]; exact (c2 e hb).1, by rw [he e 0 (c2 e hb).1 (by omega)]; exact (c2 e hb).2⟩, fun e f hb hb2 hf => ?_, fun k hkN hks r5 r2 r3 e f hb hb2 => ?_⟩
    · rw [he e 1 (c2 e hb).1 (by omega), he f 1 (c2 f hb2).1 (by omega)] at hf
      exact c3 e f hb hb2 hf
    · rw [h1] at hkN
      rw [hk k 5 hkN hks (by omega)] at r5
      rw [hk k 2 hkN hks (by omega)] at r2
      rw [hk k 3 hkN hks (by omega)] at r3
      rw [hk k 6 hkN hks (by omega)] at hb2
      rw [he e 1 (c2 e hb).1 (by omega), he f 1 ((h k hkN r5).2.1 f hb2).1 (by omega)]
      exact key k hkN hks r5 r2 r3 e f hb hb2
  · rw [hk s2 5 hs2 hss (by omega)] at q5
    obtain ⟨a1, a2, a3, a4⟩ := h s2 hs2 q5
    unfold CR dsF
    rw [hk s2 6 hs2 hss (by omega), hk s2 0 hs2 hss (by omega), hk s2 1 hs2 hss (by omega), hk s2 2 hs2 hss (by omega), hk s2 3 hs2 hss (by omega)]
    refine ⟨a1, fun e hb => ⟨by rw [h0]; exact (a2 e hb).1, by rw [he e 0 (a2 e hb).1 (by omega)]; exact (a2 e hb).2⟩, fun e f hb hb2 hf => ?_, fun k hkN hks r5 r2 r3 e f hb hb2 => ?_⟩
    · rw [he e 1 (a2 e hb).1 (by omega), he f 1 (a2 f hb2).1 (by omega)] at hf
      exact a3 e f hb hb2 hf
    · rw [h1] at hkN
      by_cases hks2 : k = s
      · subst hks2
        rw [h6] at hb2
        rw [hj 2 (by omega)] at r2
        rw [hj 3 (by omega)] at r3
        rw [he e 1 (a2 e hb).1 (by omega), he f 1 (c2 f hb2).1 (by omega)]
        exact fun heq => key s2 hs2 hss q5 r2.symm (fun q => r3 q.symm) f e hb2 hb heq.symm
      · rw [hk k 5 hkN hks2 (by omega)] at r5
        rw [hk k 2 hkN hks2 (by omega)] at r2
        rw [hk k 3 hkN hks2 (by omega)] at r3
        rw [hk k 6 hkN hks2 (by omega)] at hb2
        rw [he e 1 (a2 e hb).1 (by omega), he f 1 ((h k hkN r5).2.1 f hb2).1 (by omega)]
        exact a4 k hkN hks r5 r2 r3 e f hb hb2
/-- what the extras below n earned -/
def suE (N : Nat → Nat) : Nat → Nat
  | 0 => 0
  | n + 1 => suE N n + N (10 + 6 * n + 5)
theorem suE_congr {N N2 : Nat → Nat} : ∀ n, (∀ e, e < n → N2 (10 + 6 * e + 5) = N (10 + 6 * e + 5)) → suE N2 n = suE N n := by
  intro n
  induction n with
  | zero => intro _; rfl
  | succ n ih =>
    intro h
    rw [suE, suE, ih (fun e he => h e (by omega)), h n (by omega)]
def GW (N : Nat → Nat) : Prop := GC N ∧ N 3 + N 4 = suE N (N 0)
theorem GW_new : GW N0 := by
  refine ⟨fun s hs => ?_, ?_⟩
  · have : N0 1 = 0 := by decide
    omega
  · decide
theorem GW_ex {t : Nat} {N : Nat → Nat} {look face : Nat} (h : Inv t N) (hn : N 0 < 14) (hg : GW N) : GW (exN N look face) := by
  have h1 := h.sn
  have z5 := h.ez (N 0) 5 (by omega) (by omega) (by omega)
  refine ⟨GC_frame hg.1 (by rw [exN_0]; omega) (by rw [exN_lo (by omega) (by omega)]; omega) (fun s q1 q2 => ?_) (fun s k q1 q2 => ?_) (fun e k q1 q2 => ?_), ?_⟩
  · rw [exN_lo (by omega) (by omega)] at q2
    omega
  · unfold exN
    simp (disch := omega) only [nset_ne]
  · unfold exN
    simp (disch := omega) only [nset_ne]
  · rw [exN_0, exN_lo (by omega) (by omega), exN_lo (by omega) (by omega), suE, suE_congr (N := N) (N 0) (fun e he => by unfold exN; simp (disch := omega) only [nset_ne]), hg.2]
    have : exN N look face (10 + 6 * N 0 + 5) = 0 := by
      unfold exN
      simp (disch := omega) only [nset_ne]
      exact z5
    omega
theorem GW_sc {t : Nat} {N : Nat → Nat} {a b c d e : Nat} (h : Inv t N) (hn : N 1 < 10) (hg : GW N) : GW (scN N a b c d e) := by
  have h0 := h.ec
  have z5 := h.sz (N 1) 5 (by omega) (by omega) (by omega)
  have e0 : scN N a b c d e 0 = N 0 := scN_lo (by omega) (by omega)
  refine ⟨GC_frame hg.1 (by rw [e0]; omega) (by rw [scN_1]; omega) (fun s q1 q2 => ?_) (fun s k q1 q2 => ?_) (fun e k q1 q2 => scN_lo (by omega) (by omega)), ?_⟩
  · rw [scN_1] at q2
    have : s = N 1 := by omega
    subst this
    unfold scN
    simp (disch := omega) only [nset_ne]
    omega
  · unfold scN
    simp (disch := omega) only [nset_ne]
  · rw [e0, scN_lo (by omega) (by omega), scN_lo (by omega) (by omega), suE_congr (N := N) (N 0) (fun e he => scN_lo (by omega) (by omega)), hg.2]
theorem mlC_lo {N : Nat → Nat} {n j : Nat} (h : j < 10 ∨ 94 ≤ j) (hn : n ≤ 14) : mlC N n j = N j := mlC_out N n (by omega)
theorem GW_meal {t : Nat} {N : Nat → Nat} (h : Inv t N) (hg : GW N) : GW (mlC N (N 0)) := by
  have h0 := h.ec
  have h1 := h.sn
  have e0 : mlC N (N 0) 0 = N 0 := mlC_lo (by omega) h0
  have e1 : mlC N (N 0) 1 = N 1 := mlC_lo (by omega) h0
  refine ⟨GC_frame hg.1 (by omega) (by omega) (fun s q1 q2 => by omega) (fun s k q1 q2 => mlC_lo (by omega) h0) (fun e k q1 q2 => ?_), ?_⟩
  · rw [mlC_at _ _ (by omega), if_neg (by omega)]
  · rw [e0, mlC_lo (by omega) h0, mlC_lo (by omega) h0, suE_congr (N := N) (N 0) (fun e he => by rw [mlC_at _ _ (by omega), if_neg (by omega)]), hg.2]
theorem GW_next {t : Nat} {N : Nat → Nat} (h : Inv t N) (hg : GW N) : GW (nxN N) := by
  have h0 := h.ec
  have h1 := h.sn
  have e0 : nxN N 0 = N 0 := nxN_out h0 (by omega) (by omega)
  have e1 : nxN N 1 = N 1 := nxN_out h0 (by omega) (by omega)
  have hat : ∀ e k, e < N 0 → k < 6 → k ≠ 2 → k ≠ 3 → k ≠ 4 → nxN N (10 + 6 * e + k) = N (10 + 6 * e + k) := by
    intro e k he hk k2 k3 k4
    unfold nxN
    rw [nset_ne _ _ (by omega), nxC_at _ _ hk, if_neg (by omega), mlC_at _ _ hk, if_neg (by omega)]
  refine ⟨GC_frame hg.1 (by omega) (by omega) (fun s q1 q2 => by omega) (fun s k q1 q2 => nxN_out h0 (by omega) (by omega)) (fun e k q1 q2 => hat e k q1 (by omega) (by omega) (by omega) (by omega)), ?_⟩
  rw [e0, nxN_out h0 (by omega) (by omega), nxN_out h0 (by omega) (by omega), suE_congr (N := N) (N 0) (fun e he => hat e 5 he (by omega) (by omega) (by omega) (by omega)), hg.2]
theorem GW_set {t : Nat} {N : Nat → Nat} {k v : Nat} (h : Inv t N) (hk : k < 3) (hg : GW N) : GW (seN N k v) := by
  have h0 := h.ec
  have h1 := h.sn
  have out : ∀ j, j < 7 ∨ 10 ≤ j → seN N k v j = N j := fun j hj => nset_ne _ _ (by omega)
  refine ⟨GC_frame hg.1 (by rw [out 0 (by omega)]; omega) (by rw [out 1 (by omega)]; omega) (fun s q1 q2 => ?_) (fun s k q1 q2 => out _ (by omega)) (fun e k q1 q2 => out _ (by omega)), ?_⟩
  · rw [out 1 (by omega)] at q2
    omega
  · rw [out 0 (by omega), out 3 (by omega), out 4 (by omega), suE_congr (N := N) (N 0) (fun e he => out _ (by omega)), hg.2]
theorem bc_swap {c a b : Nat} (hc : c < 16384) (ha : c.testBit a = true) (hb : c.testBit b = false) (ha2 : a < 14) (hb2 : b < 14) : bcN (dif c (2 ^ a) ||| 2 ^ b) 14 = bcN c 14 := by
  have hd : (dif c (2 ^ a)).testBit b = false := by rw [dif_bit hc, hb]; rfl
  have hd2 : (dif c (2 ^ a)).testBit a = false := by rw [dif_bit hc, Nat.testBit_two_pow, decide_eq_true rfl, Bool.not_true, Bool.and_false]
  rw [bcN_or hd, if_pos hb2]
  have h3 := bcN_or hd2 14
  rw [if_pos ha2] at h3
  have h4 : dif c (2 ^ a) ||| 2 ^ a = c := by
    apply Nat.eq_of_testBit_eq
    intro k
    rw [Nat.testBit_or, dif_bit hc, Nat.testBit_two_pow]
    by_cases hk : a = k
    · subst hk
      rw [ha, decide_eq_true rfl]
      rfl
    · rw [decide_eq_false hk, Bool.not_false, Bool.and_true, Bool.or_false]
  rw [h4] at h3
  omega
theorem GW_rep {t : Nat} {N : Nat → Nat} {s a b : Nat} (h : Inv t N) (hs : s < N 1) (ha : a < N 0) (hb : b < N 0) (hc : crB N s a b = true) (hg : GW N) : GW (reN N s a b) := by
  have h0 := h.ec
  have h1 := h.sn
  have hsc := h.sc s (by omega)
  unfold crB at hc
  simp only [Bool.and_eq_true, decide_eq_true_eq, Bool.not_eq_true'] at hc
  obtain ⟨⟨⟨⟨⟨q1, q2⟩, q3⟩, q4⟩, q5⟩, q6⟩ := hc
  have h5 : N (94 + 7 * s + 5) = 1 := by have := hsc.2.2.2.2.2.1; omega
  have hc14 := hsc.2.2.2.2.2.2.1
  obtain ⟨a1, a2, a3, a4⟩ := hg.1 s hs h5
  have out : ∀ j, j ≠ 94 + 7 * s + 6 → reN N s a b j = N j := fun j hj => nset_ne _ _ hj
  have hnb : nbF N (seenU N s false (N 1)) (N (94 + 7 * s + 6)) := by
    intro e he
    cases hx : (seenU N s false (N 1)).testBit (N (10 + 6 * e + 1)) with
    | false => rfl
    | true =>
      obtain ⟨k, hk, hcn, f, hf, hfb, hff⟩ := (seen_bit (N 1)).mp hx
      have ⟨r1, r2, r3, r4⟩ := cnt_no.mp hcn
      exact absurd hff.symm (a4 k hk r1 r2 r3 r4 e f he hfb)
  have hmem : ∀ x, (dif (N (94 + 7 * s + 6)) (2 ^ a)).testBit x = true → (N (94 + 7 * s + 6)).testBit x = true := by
    intro x hx
    rw [dif_bit hc14, Bool.and_eq_true] at hx
    exact hx.1
  refine ⟨GC_put (c := reC N s a b) hg.1 hs (out _ (by omega)) (out _ (by omega)) (fun k j q1 q2 q3 => out _ (by omega)) (fun j q => out _ (by omega)) (by rw [out _ (by omega)]; exact h5) (nset_eq _ _ _) (fun e k q1 q2 => out _ (by omega)) ?_ (fun e he => ?_) ?_ ?_, ?_⟩
  · unfold reC
    rw [bc_swap hc14 q2 q3 (by omega) (by omega)]
    exact a1
  · unfold reC at he
    rcases bit_or he with he | he
    · exact a2 e (hmem e he)
    · rw [he]
      exact ⟨hb, q4⟩
  · unfold reC
    refine dsF_or (fun e f he hf => a3 e f (hmem e he) (hmem f hf)) (fun x hx heq => ?_)
    have := fcsU_in (a2 x (hmem x hx)).1 hx
    rw [heq, q5] at this
    cases this
  · unfold reC
    exact nbF_or (fun e he => hnb e (hmem e he)) q6
  · rw [out 0 (by omega), out 3 (by omega), out 4 (by omega), suE_congr (N := N) (N 0) (fun e he => out _ (by omega)), hg.2]
theorem suE_sh {N : Nat → Nat} {c m : Nat} {N2 : Nat → Nat} : ∀ n, (∀ e, e < n → c.testBit e = true → N2 (10 + 6 * e + 5) = N (10 + 6 * e + 5) + wageN N m + N 9 * moreN N m e) → (∀ e, e < n → c.testBit e = false → N2 (10 + 6 * e + 5) = N (10 + 6 * e + 5)) → suE N2 n = suE N n + bcN c n * wageN N m + N 9 * pnU N c m n := by
  intro n
  induction n with
  | zero => intro _ _; rw [suE, suE, bcN, pnU]; omega
  | succ n ih =>
    intro hin hout
    rw [suE, suE, bcN, pnU, ih (fun e he => hin e (by omega)) (fun e he => hout e (by omega))]
    cases hb : c.testBit n with
    | true =>
      rw [hin n (by omega) hb, if_pos rfl, if_pos rfl, Nat.add_mul, Nat.mul_add, Nat.one_mul]
      omega
    | false =>
      rw [hout n (by omega) hb, if_neg (by decide), if_neg (by decide)]
      simp only [Nat.add_zero]
      omega
theorem GW_shoot {t : Nat} {N : Nat → Nat} {s : Nat} (h : Inv t N) (hs : s < N 1) (hc : canN N s = true) (hg : GW N) : GW (shN N s) := by
  have h0 := h.ec
  have h1 := h.sn
  have hP := (chN_P (s := s) h0).2
  have hQ := chN_Q (N := N) (s := s)
  have e0 : shN N s 0 = N 0 := shN_lo N s (by omega) (by omega) (by omega) (by omega) (by omega)
  have e1 : shN N s 1 = N 1 := shN_lo N s (by omega) (by omega) (by omega) (by omega) (by omega)
  have hfr : ∀ e, (chN N s).testBit e = true → e < N 0 ∧ N (10 + 6 * e + 0) = N (94 + 7 * s + 0) := by
    intro e he
    have ⟨g1, g2⟩ := hP e he
    unfold frB at g2
    rw [Bool.and_eq_true, decide_eq_true_eq] at g2
    exact ⟨g1, g2.1⟩
  have hat : ∀ e k, e < N 0 → k < 2 → shN N s (10 + 6 * e + k) = N (10 + 6 * e + k) := by
    intro e k he hk
    cases hb : (chN N s).testBit e with
    | true =>
      rw [shN_in he (by omega) (by omega) hb]
      unfold exW
      rw [if_neg (by omega), if_neg (by omega), if_neg (by omega), if_neg (by omega)]
    | false => exact shN_out (by omega) (by omega) hb
  have hcan : bcN (chN N s) 14 = N (94 + 7 * s + 1) := by
    unfold canN at hc
    rw [Bool.and_eq_true, decide_eq_true_eq, decide_eq_true_eq] at hc
    exact hc.2.symm
  refine ⟨GC_put (c := chN N s) hg.1 hs e0 e1 (fun k j q1 q2 q3 => shN_hi h0 (by omega) (by omega) (by omega)) (fun j q => shN_hi h0 (by omega) (by omega) (by omega)) (shN_s5 N s) (shN_s6 N s) hat hcan hfr hQ.1 hQ.2, ?_⟩
  rw [e0, shN_3, shN_4, suE_sh (N := N) (c := chN N s) (m := N (94 + 7 * s + 4)) (N 0) (fun e he hb => ?_) (fun e he hb => shN_out (by omega) (by omega) hb)]
  · rw [← hg.2]
    omega
  · rw [shN_in he (by omega) (by omega) hb]
    unfold exW
    rw [if_neg (by omega), if_neg (by omega), if_neg (by omega), if_pos rfl]

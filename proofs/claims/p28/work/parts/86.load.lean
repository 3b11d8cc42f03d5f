/-! ===== readText, load ===== -/
def rdL (T : Nat → Nat) (L : Nat) : Nat → Nat → Nat → (Nat → Nat) → Option Nat × Nat × (Nat → Nat)
  | 0, _, o, N => (none, o, N)
  | k + 1, sp, o, N => if L ≤ sp then (none, o, N) else match cmdP T L sp with
    | (none, q) => (some q, o, N)
    | (some vs, q) => rdL T L k q (o + (if (exT N (T sp) vs).1 = true then 0 else 1)) (exT N (T sp) vs).2
theorem rdL_er {T : Nat → Nat} {L : Nat} : ∀ (k sp o : Nat) (N : Nat → Nat), (rdL T L k sp o N).1 = erL T L k sp := by
  intro k
  induction k with
  | zero => intro sp o N; rfl
  | succ k ih =>
    intro sp o N
    rw [rdL, erL]
    by_cases c : L ≤ sp
    · rw [if_pos c, if_pos c]
    · rw [if_neg c, if_neg c]
      cases hq : cmdP T L sp with
      | mk a q =>
        cases a with
        | none => rfl
        | some vs => exact ih _ _ _
theorem rdL_inv {T : Nat → Nat} {L : Nat} : ∀ (k t sp o : Nat) (N : Nat → Nat), Inv t N → t + k ≤ 10000 → Inv (t + k) (rdL T L k sp o N).2.2 ∧ (rdL T L k sp o N).2.1 ≤ o + k := by
  intro k
  induction k with
  | zero => intro t sp o N h _; exact ⟨h, by show o ≤ o + 0; omega⟩
  | succ k ih =>
    intro t sp o N h ht
    rw [rdL]
    by_cases c : L ≤ sp
    · rw [if_pos c]; exact ⟨h.mono (by omega), by show o ≤ o + (k + 1); omega⟩
    · rw [if_neg c]
      cases hq : cmdP T L sp with
      | mk a q =>
        cases a with
        | none => exact ⟨h.mono (by omega), by show o ≤ o + (k + 1); omega⟩
        | some vs =>
          have h2 := ih (t + 1) q (o + (if (exT N (T sp) vs).1 = true then 0 else 1)) (exT N (T sp) vs).2 (Inv_exT h (by omega) hq) (by omega)
          refine ⟨h2.1.mono (by omega), Nat.le_trans h2.2 ?_⟩
          split <;> omega
theorem qX8_readText_39 {T : Nat → Nat} {L : Nat} (hT : ∀ j, T j < 1000) (hL : L ≤ 120) : ∀ (K k t sp o : Nat) (N : Nat → Nat), Inv t N → t + k ≤ 10000 → k < K → L + 1 ≤ k + sp → sp ≤ L + 10 → ∃ u, pX8_readText_39 K (nI L) (nI sp) (nI o) (rI T) (rI N) = some (oI (rdL T L k sp o N).1, u, nI (rdL T L k sp o N).2.1, rI (rdL T L k sp o N).2.2) := by
  intro K
  induction K with
  | zero =>
    intro k t sp o N h ht hk hks hsp
    omega
  | succ K ih =>
    intro k t sp o N h ht hk hks hsp
    rw [pX8_readText_39]
    by_cases c : L ≤ sp
    · rw [if_pos ((zle (by omega) (by omega)).mpr c)]
      cases k with
      | zero => exact ⟨_, rfl⟩
      | succ k => rw [rdL, if_pos c]; exact ⟨_, rfl⟩
    · rw [if_neg (fun h => c ((zle (by omega) (by omega)).mp h)), qX8_readCommand h (by omega) hT hL (by omega), ob]
      cases k with
      | zero => omega
      | succ k =>
        rw [rdL, if_neg c]
        cases hq : cmdP T L sp with
        | mk a q =>
          have ⟨g1, g2⟩ := cmdP_le (by omega) hq
          cases a with
          | none =>
            unfold RC
            dsimp only
            rw [if_pos nI0]
            exact ⟨_, rfl⟩
          | some vs =>
            have g3 := g2 (fun h => by cases h)
            unfold RC
            dsimp only
            rw [if_neg nI1]
            exact ih k (t + 1) q _ _ (Inv_exT h (by omega) hq) (by omega) (by omega) (by omega) (by omega)
/-- reading the whole text: where it is wrong; how many were left out; the film -/
def rdT (T : Nat → Nat) (L : Nat) : Option Nat × Nat × (Nat → Nat) := if L = 0 then (some 0, 0, N0) else if T 0 = 70 then rdL T L 121 1 0 N0 else (some 0, 0, N0)
theorem rdT_er (T : Nat → Nat) (L : Nat) : (rdT T L).1 = erT T L := by
  unfold rdT erT
  split
  · rfl
  · split
    · exact rdL_er _ _ _ _
    · rfl
theorem rdT_inv (T : Nat → Nat) (L : Nat) : Inv 121 (rdT T L).2.2 ∧ (rdT T L).2.1 ≤ 121 := by
  have h0 := Inv_new
  unfold rdT
  split
  · exact ⟨h0.mono (by omega), by show 0 ≤ 121; omega⟩
  · split
    · have := rdL_inv (T := T) (L := L) 121 0 1 0 N0 h0 (by omega)
      rw [Nat.zero_add] at this
      exact this
    · exact ⟨h0.mono (by omega), by show 0 ≤ 121; omega⟩
theorem qX8_readText {T M : Nat → Nat} {L : Nat} (sp ou : Int32) (hT : ∀ j, T j < 1000) (hL : L ≤ 120) (hM : Z164 M) : ∃ u, pX8_readText (nI L) sp ou (rI T) (rI M) = some (oI (rdT T L).1, u, nI (rdT T L).2.1, rI (rdT T L).2.2) := by
  unfold pX8_readText pX8_readText_32 rdT
  rw [qX8_clear hM, ob]
  by_cases c : L = 0
  · rw [if_pos ((zeq0 (by omega)).mpr c), if_pos c]; exact ⟨_, rfl⟩
  · rw [if_neg (fun h => c ((zeq0 (by omega)).mp h)), if_neg c, if_pos ((znb (by omega)).mpr (by omega)), zcl (by omega), rI_at]
    have := hT 0
    by_cases c2 : T 0 = 70
    · rw [if_pos ((zeq (by omega) (by omega)).mpr c2), if_pos c2]
      exact qX8_readText_39 hT hL FU 121 0 1 0 N0 Inv_new (by omega) (by unfold FU; omega) (by omega) (by omega)
    · rw [if_neg (fun h => c2 ((zeq (by omega) (by omega)).mp h)), if_neg c2]; exact ⟨_, rfl⟩
/-! ===== the class's ===== -/
def FT9 (N : Nat → Nat) : Int32 × Int32 × Int32 × Int32 × Int32 × Int32 × Int32 × (Nat → Int32) × (Nat → Int32) := (nI (N 0), nI (N 1), nI (N 2), nI (N 3), nI (N 4), nI (N 5), nI (N 6), rI (exR N), rI (scR N))
theorem FT9_of {N : Nat → Nat} {a0 a1 a2 a3 a4 a5 a6 : Int32} {b0 b1 b2 : Nat → Int32} (h : FT N = (a0, a1, a2, a3, a4, a5, a6, b0, b1, b2)) : FT9 N = (a0, a1, a2, a3, a4, a5, a6, b0, b1) := by
  unfold FT at h
  unfold FT9
  simp only [Prod.mk.injEq] at h ⊢
  obtain ⟨h0, h1, h2, h3, h4, h5, h6, h7, h8, _⟩ := h
  exact ⟨h0, h1, h2, h3, h4, h5, h6, h7, h8⟩
theorem exT_se {N : Nat → Nat} {c : Nat} {vs : List Nat} (h0 : N 0 ≤ 14) : seR (exT N c vs).2 = seR N := by
  have sh : ∀ s, seR (siN N s) = seR N := by
    intro s
    unfold siN
    split
    · rfl
    · exact seR_congr (fun j h1 h2 => shN_lo N s (by omega) (by omega) (by omega) (by omega) (by omega))
  unfold exT
  split
  · split
    · exact exN_se
    · rfl
  · split
    · exact sh _
    · split
      · have g : ∀ n, n ≤ 14 → seR (mlC N n) = seR N := fun n hn => seR_congr (fun j h1 h2 => mlC_out N n (by omega))
        exact g _ h0
      · split
        · exact seR_congr (fun j h1 h2 => nxN_out h0 (by omega) (by omega))
        · split
          · exact scN_se
          · rfl
theorem qX7_doTextCommand {t : Nat} {N T : Nat → Nat} {L sp q : Nat} {vs : List Nat} (h : Inv t N) (ht : t ≤ 10000) (hT : ∀ j, T j < 1000) (hL : L ≤ 120) (hs : sp < L) (hq : cmdP T L sp = (some vs, q)) : pX7_doTextCommand (nI (N 0)) (nI (N 1)) (nI (N 2)) (nI (N 3)) (nI (N 4)) (nI (N 5)) (nI (N 6)) (rI (exR N)) (rI (scR N)) (rI (seR N)) (rI T) (nI sp) = some (nI (if (exT N (T sp) vs).1 = true then 1 else 0), FT9 (exT N (T sp) vs).2) := by
  have h0 := h.ec
  have h1 := h.sn
  have htsp := hT sp
  have kk : ∀ n, n < 1000 → T sp ≠ n → ¬ (nI (T sp) = nI n) := fun n hn h1 h2 => h1 ((zeq (by omega) (by omega)).mp h2)
  unfold pX7_doTextCommand pX7_doTextCommand_122 pX7_doTextCommand_194
  rw [qX6_characterAt (by omega), ob, bz0, bz1]
  rcases isC_cases (cmdP_isC hq) with hc | hc | hc | hc | hc
  · obtain ⟨a, b, p, f1, f2, f3⟩ := cmdP_e hc hq
    have e1 := (figL_good _ _ _ _ _ f1).1
    subst e1
    rw [hc, if_pos rfl, zadd, qX6_number hT hL (by omega) f1, ob, zadd, qX6_number hT hL (by omega) f2, ob]
    subst f3
    unfold exT
    rw [if_pos (c := 101 = 101) rfl]
    by_cases hn : N 0 < 14
    · rw [if_pos hn, qX0_addExtra hn, ob, if_neg (fun h => (zm1 (by omega)).mp h), ob, FT9_of (FT_ex hn)]; rfl
    · rw [if_neg hn, qX0_addExtra_no (by omega), ob, if_pos rfl, ob]; rfl
  · obtain ⟨a, f1, f3⟩ := cmdP_g hc hq
    have e1 := (figL_good _ _ _ _ _ f1).2 (by omega)
    rw [hc, if_neg (c := nI 103 = nI 101) (by decide), if_pos rfl, zadd, qX6_number hT hL (by omega) f1, ob, qX0_shootIfPossible h ht (by omega), ob]
    subst f3
    unfold exT
    rw [if_neg (c := 103 = 101) (by omega), if_pos (c := 103 = 103) rfl]
    dsimp only
    show _ = some (nI (if decide (cwN N a ≠ 0) = true then 1 else 0), FT9 (siN N a))
    rw [FT9_of FT_si]
    by_cases hw : cwN N a = 0
    · rw [if_pos hw, bz0, ob, decide_eq_false (not_not_intro hw), if_neg (c := false = true) (by decide)]
    · rw [if_neg hw, bz1, ob, decide_eq_true hw, if_pos rfl]
  · rw [hc, if_neg (c := nI 109 = nI 101) (by decide), if_neg (c := nI 109 = nI 103) (by decide), if_pos rfl, qX0_eat h ht, ob]
    unfold exT
    rw [if_neg (c := 109 = 101) (by omega), if_neg (c := 109 = 103) (by omega), if_pos (c := 109 = 109) rfl, FT9_of (FT_ml h0)]
    rfl
  · rw [hc, if_neg (c := nI 110 = nI 101) (by decide), if_neg (c := nI 110 = nI 103) (by decide), if_neg (c := nI 110 = nI 109) (by decide), if_pos rfl, qX0_beginDay h, ob]
    unfold exT
    rw [if_neg (c := 110 = 101) (by omega), if_neg (c := 110 = 103) (by omega), if_neg (c := 110 = 109) (by omega), if_pos (c := 110 = 110) rfl, FT9_of (FT_nx h0)]
    rfl
  · obtain ⟨a, b, c, d, e, p1, p2, p3, p4, f1, f2, f3, f4, f5, f6⟩ := cmdP_s hc hq
    have e1 := (figL_good _ _ _ _ _ f1).1
    have e2 := (figL_good _ _ _ _ _ f2).1
    have e3 := (figL_good _ _ _ _ _ f3).1
    have e4 := (figL_good _ _ _ _ _ f4).1
    subst e1
    subst e2
    subst e3
    subst e4
    rw [hc, if_neg (c := nI 115 = nI 101) (by decide), if_neg (c := nI 115 = nI 103) (by decide), if_neg (c := nI 115 = nI 109) (by decide), if_neg (c := nI 115 = nI 110) (by decide), if_pos rfl, zadd, qX6_number hT hL (by omega) f1, ob, zadd, qX6_number hT hL (by omega) f2, ob, zadd, qX6_number hT hL (by omega) f3, ob, zadd, qX6_number hT hL (by omega) f4, ob, zadd, qX6_number hT hL (by omega) f5, ob]
    subst f6
    unfold exT
    rw [if_neg (c := 115 = 101) (by omega), if_neg (c := 115 = 103) (by omega), if_neg (c := 115 = 109) (by omega), if_neg (c := 115 = 110) (by omega)]
    by_cases hn : N 1 < 10
    · rw [if_pos hn, qX0_addScene hn, ob, if_neg (fun h => (zm1 (by omega)).mp h), ob, FT9_of FT_sc]; rfl
    · rw [if_neg hn, qX0_addScene_no (by omega), ob, if_pos rfl, ob]; rfl
def LR (hc f1 f2 : Int32) (o : Nat) (N : Nat → Nat) : Int32 × Int32 × Int32 × Int32 × FTy := (nI o, hc, f1, f2, FT N)
theorem qX7_load_53 {T : Nat → Nat} {L : Nat} {hc f1 f2 : Int32} (hT : ∀ j, T j < 1000) (hL : L ≤ 120) : ∀ (K i t sp o : Nat) (N : Nat → Nat), Inv t N → t + (121 - i) ≤ 10000 → 121 - i ≤ K → i < sp → i ≤ 120 → sp ≤ L + 10 → (rdL T L (121 - i) sp o N).1 = none → pX7_load_53 K hc f1 f2 (nI (N 0)) (nI (N 1)) (nI (N 2)) (nI (N 3)) (nI (N 4)) (nI (N 5)) (nI (N 6)) (rI (exR N)) (rI (scR N)) (rI (seR N)) (nI L) (rI T) (nI o) (nI sp) (nI i) = some (.inr (LR hc f1 f2 (rdL T L (121 - i) sp o N).2.1 (rdL T L (121 - i) sp o N).2.2)) := by
  intro K
  induction K with
  | zero => intro i t sp o N h ht hk; omega
  | succ K ih =>
    intro i t sp o N h ht hk his hi hsp hno
    rw [pX7_load_53_s]
    unfold pX7_load_98 pX6_size
    rw [show 121 - i = (120 - i) + 1 from by omega, rdL] at hno ⊢
    by_cases c : L ≤ sp
    · rw [if_pos c, ob, if_pos (c := nI L ≤ nI sp) ((zle (by omega) (by omega)).mpr c)]
      split <;> rfl
    · rw [if_neg (c := nI 120 ≤ nI i) (fun h => by have := (zle (by omega) (by omega)).mp h; omega), ob, if_neg (c := nI L ≤ nI sp) (fun h => c ((zle (by omega) (by omega)).mp h))]
      rw [if_neg c] at hno ⊢
      cases hq : cmdP T L sp with
      | mk a q =>
        rw [hq] at hno
        have ⟨g1, g2⟩ := cmdP_le (by omega) hq
        cases a with
        | none => cases hno
        | some vs =>
          have g3 := g2 (fun h => by cases h)
          dsimp only at hno ⊢
          rw [qX7_doTextCommand h (by omega) hT hL (by omega) hq, ob]
          unfold pX7_load_81 FT9
          dsimp only
          have hcl := qX6_commandLength (sp := sp) hT (by omega)
          have hsq : sp + (1 + sumT (yOf (T sp)) (nT (yOf (T sp))) 0) = q := by omega
          have h6 := ih (i + 1) (t + 1) q (o + (if (exT N (T sp) vs).1 = true then 0 else 1)) (exT N (T sp) vs).2 (Inv_exT h (by omega) hq) (by omega) (by omega) (by omega) (by omega) (by omega)
          rw [show 121 - (i + 1) = 120 - i from by omega] at h6
          have h7 := h6 hno
          rw [exT_se h.ec] at h7
          cases hok : (exT N (T sp) vs).1 with
          | true =>
            rw [hok, if_pos rfl] at h7
            rw [if_pos (c := true = true) rfl, if_neg nI1, if_pos (c := true = true) rfl, hcl, ob, zadd, zadd, hsq]
            exact h7
          | false =>
            rw [hok, if_neg (by decide)] at h7
            rw [if_neg (c := false = true) (by decide), if_pos nI0, if_neg (c := false = true) (by decide), hcl, ob, zadd, zadd, zadd, hsq]
            exact h7

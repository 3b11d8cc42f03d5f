/-! ===== outcomes of the calls: cheapest, order ===== -/
theorem coN_lt {t : Nat} {N : Nat → Nat} {s : Nat} (h : Inv t N) (ht : t < 10000) (hs : s < 10) (hc : cwN N s ≠ 0) : coN N s < 1000000000 := by
  have hI := Inv_si (s := s) h (show t ≤ 10000 by omega)
  have es : siN N s = shN N s := by unfold siN; rw [if_neg hc]
  rw [es] at hI
  have h1 := hI.tot
  have h2 := sh_spent (s := s) h.ec
  omega
theorem qX8_price {t : Nat} {N : Nat → Nat} {s : Nat} (h : Inv t N) (ht : t < 10000) (hs : s < 10) : pX8_price (rI N) (nI s) = some (if cwN N s = 0 then (-1, rI N) else (nI (coN N s), rI (siN N s))) := by
  unfold pX8_price
  rw [qX8_canShootW h (by omega) hs, ob]
  by_cases hc : cwN N s = 0
  · rw [if_pos hc, if_pos nI0, if_pos hc]
  · have es : siN N s = shN N s := by unfold siN; rw [if_neg hc]
    rw [if_neg hc, if_neg nI1, if_neg hc, qX8_spent, ob, qX8_shootW h (by omega) hs hc, ob]
    dsimp only
    rw [qX8_spent, ob, es, sh_spent h.ec, zsub (by omega), Nat.add_sub_cancel_left]
/-- the cheapest of the scenes below n, and its cost -/
def bsN (N : Nat → Nat) : Nat → Option Nat × Nat
  | 0 => (none, 0)
  | n + 1 => if cwN N n = 0 then bsN N n else match (bsN N n).1 with
    | none => (some n, coN N n)
    | some _ => if coN N n < (bsN N n).2 then (some n, coN N n) else bsN N n
theorem bsN_lt {t : Nat} {N : Nat → Nat} (h : Inv t N) (ht : t < 10000) : ∀ n, n ≤ 10 → (bsN N n).2 < 1000000000 ∧ ∀ b, (bsN N n).1 = some b → b < n := by
  intro n
  induction n with
  | zero => intro _; exact ⟨by show 0 < 1000000000; omega, fun b hb => by cases hb⟩
  | succ n ih =>
    intro hn
    have hi := ih (by omega)
    rw [bsN]
    by_cases hc : cwN N n = 0
    · rw [if_pos hc]; exact ⟨hi.1, fun b hb => by have := hi.2 b hb; omega⟩
    · have hk := coN_lt h ht (show n < 10 by omega) hc
      rw [if_neg hc]
      split
      · exact ⟨hk, fun b hb => by cases hb; omega⟩
      · split
        · exact ⟨hk, fun b hb => by cases hb; omega⟩
        · exact ⟨hi.1, fun b hb => by have := hi.2 b hb; omega⟩
theorem bsN_top {N : Nat → Nat} : ∀ d, bsN N (N 1 + d) = bsN N (N 1) := by
  intro d
  induction d with
  | zero => rfl
  | succ d ih =>
    rw [← Nat.add_assoc, bsN, if_pos (cwN_no (fun h => by have := h.1; omega)), ih]
theorem qX7_cheapest_6 {t : Nat} {N : Nat → Nat} (h : Inv t N) (ht : t < 10000) : ∀ (k s : Nat), s ≤ 10 → 10 - s < k → pX7_cheapest_6 k (nI (N 0)) (nI (N 1)) (rI (exR N)) (rI (scR N)) (rI (seR N)) (oI (bsN N s).1) (nI (bsN N s).2) (nI s) = some (oI (bsN N 10).1) := by
  intro k
  induction k with
  | zero => intro s h1 h2; omega
  | succ k ih =>
    intro s h1 h2
    rw [pX7_cheapest_6_s]
    by_cases hs : 10 ≤ s
    · rw [if_pos ((zle (by omega) (by omega)).mpr hs), show s = 10 from by omega]
    · have h3 := ih (s + 1) (by omega) (by omega)
      have hl := cwN_lt (s := s) h (show t ≤ 10000 by omega)
      have hb := bsN_lt h ht s (by omega)
      rw [if_neg (fun h => hs ((zle (by omega) (by omega)).mp h)), qX0_crowdNow h (by omega) (by omega), ob]
      unfold pX7_cheapest_50 pX7_cheapest_55
      rw [bsN] at h3
      by_cases hc : cwN N s = 0
      · rw [if_pos ((zeq0 (by omega)).mpr hc), zadd]
        rw [if_pos hc] at h3
        exact h3
      · have hk := coN_lt h ht (show s < 10 by omega) hc
        have ec : bcN (cwN N s) 14 * wageN N (N (94 + 7 * s + 4)) + N 9 * pnU N (cwN N s) (N (94 + 7 * s + 4)) (N 0) = coN N s := by rw [cwN_ch hc]; rfl
        rw [if_neg (fun h => hc ((zeq0 (by omega)).mp h)), qX0_costOf h (by omega) (by omega) hl, ob, ec, zadd]
        rw [if_neg hc] at h3
        cases hq : (bsN N s).1 with
        | none =>
          rw [hq] at h3
          rw [oI_none, if_pos rfl]
          exact h3
        | some b =>
          have hb2 := hb.2 b hq
          rw [hq] at h3
          dsimp only at h3
          rw [oI_some, if_neg (fun h => (zm1 (by omega)).mp h)]
          by_cases hlt : coN N s < (bsN N s).2
          · rw [if_neg (fun h => by have := (zle (by omega) (by omega)).mp h; omega)]
            rw [if_pos hlt] at h3
            exact h3
          · rw [if_pos ((zle (by omega) (by omega)).mpr (by omega))]
            rw [if_neg hlt, hq, oI_some] at h3
            exact h3
theorem qX8_cheapest_11 {t : Nat} {N : Nat → Nat} (h : Inv t N) (ht : t < 10000) : ∀ (k s : Nat) (M : Nat → Nat), s ≤ N 1 → N 1 - s < k → Z164 M → ∃ M2, Z164 M2 ∧ pX8_cheapest_11 k (nI 0) (rI N) (rI M) (oI (bsN N s).1) (nI (bsN N s).2) (nI s) = some (oI (bsN N (N 1)).1, nI 0, rI M2) := by
  have h1' := h.sn
  intro k
  induction k with
  | zero => intro s M h1 h2; omega
  | succ k ih =>
    intro s M h1 h2 hM
    rw [pX8_cheapest_11, if_pos ((znb (by omega)).mpr (by omega)), zcl (by omega), rI_at]
    by_cases hs : N 1 ≤ s
    · rw [if_pos ((zle (by omega) (by omega)).mpr hs), show s = N 1 from by omega]
      exact ⟨M, hM, rfl⟩
    · have hb := bsN_lt h ht s (by omega)
      rw [if_neg (fun h => hs ((zle (by omega) (by omega)).mp h)), qX8_copyAll h.bz hM, ob, qX8_price h ht (by omega), ob]
      unfold pX8_cheapest_61 pX8_cheapest_65 pX8_cheapest_66 pX8_cheapest_78 pX8_cheapest_90
      by_cases hc : cwN N s = 0
      · rw [if_pos hc]
        dsimp only
        rw [if_pos rfl, if_pos nI0, if_pos nI0, zadd]
        have h3 := ih (s + 1) N (by omega) (by omega) h.bz
        rw [bsN, if_pos hc] at h3
        exact h3
      · have hk := coN_lt h ht (show s < 10 by omega) hc
        have hI := Inv_si (s := s) h (show t ≤ 10000 by omega)
        have h3 := ih (s + 1) (siN N s) (by omega) (by omega) hI.bz
        rw [bsN, if_neg hc] at h3
        rw [if_neg hc]
        dsimp only
        rw [if_neg (c := nI (coN N s) = -1) (fun h => (zm1 (by omega)).mp h), if_pos nI0, if_pos nI0, if_neg nI1, if_neg nI1, zadd]
        cases hq : (bsN N s).1 with
        | none =>
          rw [hq] at h3
          rw [oI_none, if_pos rfl]
          exact h3
        | some b =>
          have hb2 := hb.2 b hq
          rw [hq] at h3
          dsimp only at h3
          rw [oI_some, if_neg (fun h => (zm1 (by omega)).mp h)]
          by_cases hlt : coN N s < (bsN N s).2
          · rw [if_neg (fun h => by have := (zle (by omega) (by omega)).mp h; omega)]
            rw [if_pos hlt] at h3
            exact h3
          · rw [if_pos ((zle (by omega) (by omega)).mpr (by omega))]
            rw [if_neg hlt, hq, oI_some] at h3
            exact h3
theorem c_cheapest (rf : Int32) {t : Nat} {N M : Nat → Nat} (h : Inv t N) (ht : t < 10000) (hM : Z164 M) :
    ∃ v M2, Z164 M2 ∧ pX7_cheapest (nI (N 0)) (nI (N 1)) (rI (exR N)) (rI (scR N)) (rI (seR N)) = some v ∧ pX8_cheapest rf (rI N) (rI M) = some (v, nI 0, rI M2) := by
  have h1' := h.sn
  obtain ⟨M2, hM2, e2⟩ := qX8_cheapest_11 h ht FU 0 M (by omega) (by unfold FU; omega) hM
  have e1 := qX7_cheapest_6 h ht FU 0 (by omega) (by unfold FU; omega)
  have e3 := bsN_top (N := N) (10 - N 1)
  rw [show N 1 + (10 - N 1) = 10 from by omega] at e3
  rw [e3] at e1
  exact ⟨_, M2, hM2, e1, e2⟩
/-- what two scenes cost, one behind the other -/
def orN (N : Nat → Nat) (a b : Nat) : Option Nat := if cwN N a = 0 then none else if cwN (siN N a) b = 0 then none else some (coN N a + coN (siN N a) b)
def orT (N : Nat → Nat) (a b : Nat) : Nat → Nat := if cwN N a = 0 then N else siN (siN N a) b
theorem orT_inv {t : Nat} {N : Nat → Nat} {a b : Nat} (h : Inv t N) (ht : t < 10000) : Inv (t + 2) (orT N a b) := by
  unfold orT
  split
  · exact h.mono (by omega)
  · exact Inv_si (Inv_si h (by omega)) (by omega)
theorem orN_lt {t : Nat} {N : Nat → Nat} {a b x : Nat} (h : Inv t N) (ht : t < 9999) (ha : a < 10) (hb : b < 10) (hx : orN N a b = some x) : x < 2147483648 := by
  unfold orN at hx
  split at hx
  · cases hx
  · rename_i h1
    split at hx
    · cases hx
    · rename_i h2
      cases hx
      have q1 := coN_lt h (by omega) ha h1
      have q2 := coN_lt (Inv_si (s := a) h (by omega)) (by omega) hb h2
      omega
theorem qX7_costInTurn {t : Nat} {N : Nat → Nat} {M : Nat → Nat} {a b : Nat} (h : Inv t N) (ht : t < 9999) (ha : a < 10) (hb : b < 10) : pX7_costInTurn (nI (N 0)) (nI (N 1)) (nI (N 2)) (nI (N 3)) (nI (N 4)) (nI (N 5)) (nI (N 6)) (rI (exR N)) (rI (scR N)) (rI (seR N)) (nI (M 0)) (nI (M 1)) (nI (M 2)) (nI (M 3)) (nI (M 4)) (nI (M 5)) (nI (M 6)) (rI (exR M)) (rI (scR M)) (rI (seR M)) (nI a) (nI b) = some (oI (orN N a b), FT (orT N a b)) := by
  unfold pX7_costInTurn pX7_costInTurn_33
  rw [qX0_copy, ob]
  dsimp only
  rw [qX0_shootIfPossible h (by omega) ha, ob]
  unfold orN orT
  by_cases h1 : cwN N a = 0
  · rw [if_pos h1, if_pos h1, if_pos h1, siN_no h1]
    dsimp only
    rw [if_pos nI0]
    rfl
  · have hI := Inv_si (s := a) h (show t ≤ 10000 by omega)
    have e0 : siN N a 0 = N 0 := by
      unfold siN; rw [if_neg h1]; exact shN_lo _ _ (by omega) (by omega) (by omega) (by omega) (by omega)
    have e1 : siN N a 1 = N 1 := by
      unfold siN; rw [if_neg h1]; exact shN_lo _ _ (by omega) (by omega) (by omega) (by omega) (by omega)
    have e2 : siN N a 2 = N 2 := by
      unfold siN; rw [if_neg h1]; exact shN_lo _ _ (by omega) (by omega) (by omega) (by omega) (by omega)
    have es : seR (siN N a) = seR N := by
      unfold siN; rw [if_neg h1]; exact seR_congr (fun j h1 h2 => shN_lo N a (by omega) (by omega) (by omega) (by omega) (by omega))
    have w := qX0_shootIfPossible (s := b) hI (by omega) hb
    rw [e0, e1, es] at w
    rw [if_neg h1, if_neg h1, if_neg h1]
    dsimp only
    rw [if_neg nI1, w, ob, FT_si, e0, e1, e2, es]
    by_cases h2 : cwN (siN N a) b = 0
    · rw [if_pos h2, if_pos h2]
      dsimp only
      rw [if_pos nI0]
      rfl
    · rw [if_neg h2, if_neg h2]
      dsimp only
      rw [if_neg nI1]
      unfold pX0_allCosts
      have s1 : siN N a 3 + siN N a 4 = N 3 + N 4 + coN N a := by unfold siN; rw [if_neg h1]; exact sh_spent h.ec
      have s2 : siN (siN N a) b 3 + siN (siN N a) b 4 = siN N a 3 + siN N a 4 + coN (siN N a) b := by
        have : siN (siN N a) b = shN (siN N a) b := by
          show (if cwN (siN N a) b = 0 then siN N a else shN (siN N a) b) = _
          rw [if_neg h2]
        rw [this]; exact sh_spent hI.ec
      rw [ob, ob, zadd, zadd, zsub (by omega), show siN (siN N a) b 3 + siN (siN N a) b 4 - (N 3 + N 4) = coN N a + coN (siN N a) b from by omega]
      rfl
theorem qX8_both {t : Nat} {N M : Nat → Nat} {a b : Nat} (h : Inv t N) (ht : t < 9999) (ha : a < 10) (hb : b < 10) (hM : Z164 M) : pX8_both (rI N) (rI M) (nI a) (nI b) = some (oI (orN N a b), rI (orT N a b)) := by
  unfold pX8_both pX8_both_39 pX8_both_55
  rw [qX8_copyAll h.bz hM, ob, qX8_price h (by omega) ha, ob]
  unfold orN orT
  by_cases h1 : cwN N a = 0
  · rw [if_pos h1, if_pos h1, if_pos h1]
    dsimp only
    rw [if_pos rfl, if_pos rfl]
    rfl
  · have hI := Inv_si (s := a) h (show t ≤ 10000 by omega)
    have k1 := coN_lt h (by omega) ha h1
    rw [if_neg h1, if_neg h1, if_neg h1]
    dsimp only
    rw [if_neg (fun h => (zm1 (by omega)).mp h), qX8_price hI (by omega) hb, ob]
    by_cases h2 : cwN (siN N a) b = 0
    · rw [if_pos h2, if_pos h2]
      dsimp only
      rw [if_pos rfl, siN_no h2]
      rfl
    · have k2 := coN_lt hI (by omega) hb h2
      rw [if_neg h2, if_neg h2]
      dsimp only
      rw [if_neg (fun h => (zm1 (by omega)).mp h), zadd]
      rfl
theorem c_order (rf x y : Int32) {t : Nat} {N M M' : Nat → Nat} (h : Inv t N) (ht : t < 9999) (hM : Z164 M) :
    (pX7_order (nI (N 0)) (nI (N 1)) (nI (N 2)) (nI (N 3)) (nI (N 4)) (nI (N 5)) (nI (N 6)) (rI (exR N)) (rI (scR N)) (rI (seR N)) (nI (M' 0)) (nI (M' 1)) (nI (M' 2)) (nI (M' 3)) (nI (M' 4)) (nI (M' 5)) (nI (M' 6)) (rI (exR M')) (rI (scR M')) (rI (seR M')) x y = some (.inl 2) ∧ pX8_order rf (rI N) (rI M) x y = some (nI 0, nI 1, rI M)) ∨
    (pX7_order (nI (N 0)) (nI (N 1)) (nI (N 2)) (nI (N 3)) (nI (N 4)) (nI (N 5)) (nI (N 6)) (rI (exR N)) (rI (scR N)) (rI (seR N)) (nI (M' 0)) (nI (M' 1)) (nI (M' 2)) (nI (M' 3)) (nI (M' 4)) (nI (M' 5)) (nI (M' 6)) (rI (exR M')) (rI (scR M')) (rI (seR M')) x y = some (.inl 0) ∧ pX8_order rf (rI N) (rI M) x y = some (nI 0, nI 2, rI M)) ∨
    ∃ v M2, Z164 M2 ∧ pX7_order (nI (N 0)) (nI (N 1)) (nI (N 2)) (nI (N 3)) (nI (N 4)) (nI (N 5)) (nI (N 6)) (rI (exR N)) (rI (scR N)) (rI (seR N)) (nI (M' 0)) (nI (M' 1)) (nI (M' 2)) (nI (M' 3)) (nI (M' 4)) (nI (M' 5)) (nI (M' 6)) (rI (exR M')) (rI (scR M')) (rI (seR M')) x y = some (.inr (v, FT M2)) ∧ pX8_order rf (rI N) (rI M) x y = some (v, nI 0, rI M2) := by
  have h1 := h.sn
  unfold pX7_order pX7_order_20 pX7_order_49 pX7_order_70 pX8_order pX8_order_23 pX8_order_37 pX8_order_71 pX8_order_96
  by_cases hx : isS N x
  · simp only [qX7_reqS1 h1 hx, qX8_isS1 h1 hx, ob, eR, if_neg nI1]
    by_cases hy : isS N y
    · simp only [qX7_reqS1 h1 hy, qX8_isS1 h1 hy, ob, eR, if_neg nI1]
      by_cases hxy : x = y
      · right; left
        rw [if_pos hxy, if_pos hxy]
        refine ⟨?_, ?_⟩
        · simp only [rA0, ob, eL]
        · simp only [rf2, ob, if_neg nI1]
      · right; right
        rw [if_neg hxy, if_neg hxy]
        obtain ⟨a, ha, ha2⟩ := isS_nat hx
        obtain ⟨b, hb, hb2⟩ := isS_nat hy
        rw [ha, hb]
        have f1 := qX7_costInTurn (M := M') h ht (show a < 10 by omega) (show b < 10 by omega)
        have f2 := qX7_costInTurn (M := orT N a b) h ht (show b < 10 by omega) (show a < 10 by omega)
        have g1 := qX8_both h ht (show a < 10 by omega) (show b < 10 by omega) hM
        have g2 := qX8_both h ht (show b < 10 by omega) (show a < 10 by omega) (orT_inv (a := a) (b := b) h (by omega)).bz
        have hz := (orT_inv (a := b) (b := a) h (show t < 10000 by omega)).bz
        simp only [rA1, rf0, ob, eR, if_pos nI0, f1, g1, g2]
        unfold FT at f2 ⊢
        simp only [f2, ob]
        cases q1 : orN N a b with
        | none =>
          rw [oI_none, if_pos rfl, if_pos rfl]
          exact ⟨_, _, hz, rfl, rfl⟩
        | some u =>
          have hu := orN_lt h ht (by omega) (by omega) q1
          rw [oI_some, if_neg (fun h => (zm1 hu).mp h), if_neg (fun h => (zm1 hu).mp h)]
          cases q2 : orN N b a with
          | none =>
            rw [oI_none, if_pos rfl, if_pos rfl]
            exact ⟨_, _, hz, rfl, rfl⟩
          | some w =>
            have hw := orN_lt h ht (by omega) (by omega) q2
            rw [oI_some, if_neg (fun h => (zm1 hw).mp h), if_neg (fun h => (zm1 hw).mp h)]
            by_cases e1 : u = w
            · subst e1
              rw [if_pos rfl, if_pos ((zle hu hu).mpr (Nat.le_refl _)), if_pos ((zle hu hu).mpr (Nat.le_refl _))]
              exact ⟨_, _, hz, rfl, rfl⟩
            · rw [if_neg (fun h => e1 ((zeq hu hw).mp h))]
              by_cases e2 : u < w
              · rw [if_neg (c := nI w ≤ nI u) (fun h => by have := (zle hw hu).mp h; omega), if_neg (c := nI w ≤ nI u) (fun h => by have := (zle hw hu).mp h; omega)]
                exact ⟨_, _, hz, rfl, rfl⟩
              · rw [if_pos (c := nI w ≤ nI u) ((zle hw hu).mpr (by omega)), if_pos (c := nI w ≤ nI u) ((zle hw hu).mpr (by omega)), if_neg (fun h => by have := (zle hu hw).mp h; omega)]
                exact ⟨_, _, hz, rfl, rfl⟩
    · left
      refine ⟨?_, ?_⟩
      · simp only [qX7_reqS0 h1 hy, ob, eL]
      · simp only [qX8_isS0 h1 hy, ob, if_pos nI0, rf1, if_neg nI1]
  · left
    refine ⟨?_, ?_⟩
    · simp only [qX7_reqS0 h1 hx, ob, eL]
    · simp only [qX8_isS0 h1 hx, ob, if_pos nI0, rf1, if_neg nI1]

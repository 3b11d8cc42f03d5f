/-! ===== a film's contents as the class holds them ===== -/
theorem natmod (r d : Nat) : r - r / d * d = r % d := by
  have h := Nat.div_add_mod r d
  rw [Nat.mul_comm] at h
  omega
theorem nI0 : nI 0 = 0 := rfl
theorem nI1 : ¬ (nI 1 = 0) := by decide
abbrev FTy := Int32 × Int32 × Int32 × Int32 × Int32 × Int32 × Int32 × (Nat → Int32) × (Nat → Int32) × (Nat → Int32)
def FT (N : Nat → Nat) : FTy := (nI (N 0), nI (N 1), nI (N 2), nI (N 3), nI (N 4), nI (N 5), nI (N 6), rI (exR N), rI (scR N), rI (seR N))
theorem exN_lo {N : Nat → Nat} {a b j : Nat} (h : j < 10) (h0 : j ≠ 0) : exN N a b j = N j := by
  unfold exN
  simp (disch := omega) only [nset_ne]
theorem exN_0 {N : Nat → Nat} {a b : Nat} : exN N a b 0 = N 0 + 1 := by
  unfold exN
  rw [nset_eq]
theorem exN_sc {N : Nat → Nat} {a b : Nat} (hn : N 0 < 14) : scR (exN N a b) = scR N := scR_congr (fun j h1 h2 => by unfold exN; simp (disch := omega) only [nset_ne])
theorem exN_se {N : Nat → Nat} {a b : Nat} : seR (exN N a b) = seR N := seR_congr (fun j h1 h2 => exN_lo (by omega) (by omega))
theorem FT_ex {N : Nat → Nat} {a b : Nat} (hn : N 0 < 14) : FT (exN N a b) = (nI (N 0 + 1), nI (N 1), nI (N 2), nI (N 3), nI (N 4), nI (N 5), nI (N 6), rI (exR (exN N a b)), rI (scR N), rI (seR N)) := by
  unfold FT
  rw [exN_0, exN_lo (j := 1) (by omega) (by omega), exN_lo (j := 2) (by omega) (by omega), exN_lo (j := 3) (by omega) (by omega), exN_lo (j := 4) (by omega) (by omega), exN_lo (j := 5) (by omega) (by omega), exN_lo (j := 6) (by omega) (by omega), exN_sc hn, exN_se]
theorem scN_lo {N : Nat → Nat} {a b c d e j : Nat} (h : j < 94) (h0 : j ≠ 1) : scN N a b c d e j = N j := by
  unfold scN
  simp (disch := omega) only [nset_ne]
theorem scN_1 {N : Nat → Nat} {a b c d e : Nat} : scN N a b c d e 1 = N 1 + 1 := by
  unfold scN
  rw [nset_eq]
theorem scN_ex {N : Nat → Nat} {a b c d e : Nat} : exR (scN N a b c d e) = exR N := exR_congr (fun j h1 h2 => scN_lo (by omega) (by omega))
theorem scN_se {N : Nat → Nat} {a b c d e : Nat} : seR (scN N a b c d e) = seR N := seR_congr (fun j h1 h2 => scN_lo (by omega) (by omega))
theorem FT_sc {N : Nat → Nat} {a b c d e : Nat} : FT (scN N a b c d e) = (nI (N 0), nI (N 1 + 1), nI (N 2), nI (N 3), nI (N 4), nI (N 5), nI (N 6), rI (exR N), rI (scR (scN N a b c d e)), rI (seR N)) := by
  unfold FT
  rw [scN_1, scN_lo (j := 0) (by omega) (by omega), scN_lo (j := 2) (by omega) (by omega), scN_lo (j := 3) (by omega) (by omega), scN_lo (j := 4) (by omega) (by omega), scN_lo (j := 5) (by omega) (by omega), scN_lo (j := 6) (by omega) (by omega), scN_ex, scN_se]
theorem FT_ml {N : Nat → Nat} (h0 : N 0 ≤ 14) : FT (mlC N (N 0)) = (nI (N 0), nI (N 1), nI (N 2), nI (N 3), nI (N 4), nI (N 5), nI (N 6), rI (exR (mlC N (N 0))), rI (scR N), rI (seR N)) := by
  have g : ∀ n, n ≤ 14 → FT (mlC N n) = (nI (N 0), nI (N 1), nI (N 2), nI (N 3), nI (N 4), nI (N 5), nI (N 6), rI (exR (mlC N n)), rI (scR N), rI (seR N)) := by
    intro n hn
    unfold FT
    rw [mlC_out N n (j := 0) (by omega), mlC_out N n (j := 1) (by omega), mlC_out N n (j := 2) (by omega), mlC_out N n (j := 3) (by omega), mlC_out N n (j := 4) (by omega), mlC_out N n (j := 5) (by omega), mlC_out N n (j := 6) (by omega), scR_congr (N := mlC N n) (M := N) (fun j h1 h2 => mlC_out N n (by omega)), seR_congr (N := mlC N n) (M := N) (fun j h1 h2 => mlC_out N n (by omega))]
  exact g (N 0) h0
theorem nxN_out {N : Nat → Nat} {j : Nat} (h0 : N 0 ≤ 14) (h : j < 10 ∨ 94 ≤ j) (h2 : j ≠ 2) : nxN N j = N j := by
  unfold nxN
  rw [nset_ne _ _ h2, nxC_out _ _ (by omega), mlC_out _ _ (by omega)]
theorem nxN_2 {N : Nat → Nat} : nxN N 2 = N 2 + 1 := by
  unfold nxN
  rw [nset_eq]
theorem FT_nx {N : Nat → Nat} (h0 : N 0 ≤ 14) : FT (nxN N) = (nI (N 0), nI (N 1), nI (N 2 + 1), nI (N 3), nI (N 4), nI (N 5), nI (N 6), rI (exR (nxN N)), rI (scR N), rI (seR N)) := by
  unfold FT
  rw [nxN_2, nxN_out h0 (j := 0) (by omega) (by omega), nxN_out h0 (j := 1) (by omega) (by omega), nxN_out h0 (j := 3) (by omega) (by omega), nxN_out h0 (j := 4) (by omega) (by omega), nxN_out h0 (j := 5) (by omega) (by omega), nxN_out h0 (j := 6) (by omega) (by omega), scR_congr (N := nxN N) (M := N) (fun j h1 h2 => nxN_out h0 (by omega) (by omega)), seR_congr (N := nxN N) (M := N) (fun j h1 h2 => nxN_out h0 (by omega) (by omega))]
theorem FT_se {N : Nat → Nat} {k v : Nat} (hk : k < 3) : FT (seN N k v) = (nI (N 0), nI (N 1), nI (N 2), nI (N 3), nI (N 4), nI (N 5), nI (N 6), rI (exR N), rI (scR N), rI (seR (seN N k v))) := by
  have g : ∀ j, j ≠ 7 + k → seN N k v j = N j := fun j hj => nset_ne _ _ hj
  unfold FT
  rw [g 0 (by omega), g 1 (by omega), g 2 (by omega), g 3 (by omega), g 4 (by omega), g 5 (by omega), g 6 (by omega), exR_congr (N := seN N k v) (M := N) (fun j h1 h2 => g j (by omega)), scR_congr (N := seN N k v) (M := N) (fun j h1 h2 => g j (by omega))]
theorem FT_re {N : Nat → Nat} {s a b : Nat} : FT (reN N s a b) = (nI (N 0), nI (N 1), nI (N 2), nI (N 3), nI (N 4), nI (N 5), nI (N 6), rI (exR N), rI (scR (reN N s a b)), rI (seR N)) := by
  have g : ∀ j, j < 94 → reN N s a b j = N j := fun j hj => nset_ne _ _ (by omega)
  unfold FT
  rw [g 0 (by omega), g 1 (by omega), g 2 (by omega), g 3 (by omega), g 4 (by omega), g 5 (by omega), g 6 (by omega), exR_congr (N := reN N s a b) (M := N) (fun j h1 h2 => g j (by omega)), seR_congr (N := reN N s a b) (M := N) (fun j h1 h2 => g j (by omega))]
theorem FT_sh {N : Nat → Nat} {s : Nat} : FT (shN N s) = (nI (N 0), nI (N 1), nI (N 2), nI (shN N s 3), nI (shN N s 4), nI (shN N s 5), nI (shN N s 6), rI (exR (shN N s)), rI (scR (shN N s)), rI (seR N)) := by
  unfold FT
  rw [shN_lo N s (j := 0) (by omega) (by omega) (by omega) (by omega) (by omega), shN_lo N s (j := 1) (by omega) (by omega) (by omega) (by omega) (by omega), shN_lo N s (j := 2) (by omega) (by omega) (by omega) (by omega) (by omega), seR_congr (N := shN N s) (M := N) (fun j h1 h2 => shN_lo N s (by omega) (by omega) (by omega) (by omega) (by omega))]
theorem FT_si {N : Nat → Nat} {s : Nat} : FT (siN N s) = (nI (N 0), nI (N 1), nI (N 2), nI (siN N s 3), nI (siN N s 4), nI (siN N s 5), nI (siN N s 6), rI (exR (siN N s)), rI (scR (siN N s)), rI (seR N)) := by
  unfold siN
  by_cases h : cwN N s = 0
  · simp only [if_pos h]; rfl
  · simp only [if_neg h]; exact FT_sh
theorem qX8_canShootW {t : Nat} {N : Nat → Nat} {s : Nat} (h : Inv t N) (ht : t ≤ 10000) (hs : s < 10) : pX8_canShoot (rI N) (nI s) = some (nI (if cwN N s = 0 then 0 else 1)) := by
  have hS := h.sm ht
  have hn := h.sn
  have hw := (h.sc s hs).2.1
  by_cases hs1 : s < N 1
  · rw [qX8_canShoot hS hs1 (by omega)]
    by_cases hc : canN N s = true
    · have hp := cwN_pos h hs1 hc
      rw [if_pos hc, if_neg (by omega)]
    · rw [if_neg hc, if_pos (cwN_no (fun h => hc h.2))]
  · rw [qX8_canShoot_no hn (by rw [nI_toInt (by omega)]; omega), if_pos (cwN_no (fun h => hs1 h.1))]
theorem qX8_shootW {t : Nat} {N : Nat → Nat} {s : Nat} (h : Inv t N) (ht : t ≤ 10000) (hs : s < 10) (hc : cwN N s ≠ 0) : pX8_shootOn (rI N) (nI s) = some (nI (cwN N s), rI (siN N s)) := by
  rw [qX8_shootOn h ht hs, cwN_ch hc]
  unfold siN
  rw [if_neg hc]
/-! ===== a turn of a simulation ===== -/
def turnN (N : Nat → Nat) (r : Nat) : Nat → Nat :=
  if r % 8 = 0 ∨ r % 8 = 1 then (if N 0 < 14 then exN N (r / 8 % 3) (r / 8 / 4 % 14) else N)
  else if r % 8 = 2 then (if N 1 < 10 then scN N (r / 8 % 3) (1 + r / 8 / 4 % 4) (r / 8 / 16 % 3) (r / 8 / 64 % 2) (10 + r / 8 / 128 % 231) else N)
  else if r % 8 = 3 then mlC N (N 0)
  else if r % 8 = 4 then (if r / 8 % 4 = 0 then nxN N else seN N 0 (240 + r / 8 / 4 % 721))
  else siN N (r / 8 % 10)
theorem Inv_turn {t : Nat} {N : Nat → Nat} {r : Nat} (h : Inv t N) (ht : t ≤ 10000) : Inv (t + 1) (turnN N r) := by
  unfold turnN
  split
  · split
    · rename_i h2; exact (Inv_ex h h2 (by omega) (by omega)).mono (by omega)
    · exact h.mono (by omega)
  · split
    · split
      · rename_i h2; exact (Inv_sc h h2 (by omega) (by omega) (by omega) (by omega) (by omega)).mono (by omega)
      · exact h.mono (by omega)
    · split
      · exact (Inv_meal h).mono (by omega)
      · split
        · split
          · exact Inv_next h
          · exact (Inv_set h (by omega)).mono (by omega)
        · exact Inv_si h ht
theorem qX8_turn {t : Nat} {N : Nat → Nat} {r : Nat} (h : Inv t N) (ht : t ≤ 10000) (hr : r < 2147483648) : pX8_turn (rI N) (nI r) = some (rI (turnN N r)) := by
  have h0 := h.ec
  have h1 := h.sn
  have hB := h.sm0 ht
  unfold pX8_turn pX8_turn_44 pX8_turn_179 turnN
  simp (disch := omega) only [zdiv, zmul, zsub, natmod, zadd, zeq, zeq0, znb, zcl, if_pos, rI_at, zle, rI_upd]
  by_cases c0 : r % 8 = 0
  · rw [if_pos c0, if_pos (Or.inl c0)]
    by_cases hn : N 0 < 14
    · rw [if_neg (by omega), if_pos hn, qX8_extraOn h hn, ob]
    · rw [if_pos (by omega), if_neg hn]
  by_cases c1 : r % 8 = 1
  · rw [if_neg c0, if_pos c1, if_pos (Or.inr c1)]
    by_cases hn : N 0 < 14
    · rw [if_neg (by omega), if_pos hn, qX8_extraOn h hn, ob]
    · rw [if_pos (by omega), if_neg hn]
  rw [if_neg c0, if_neg c1, if_neg (c := r % 8 = 0 ∨ r % 8 = 1) (by omega)]
  by_cases c2 : r % 8 = 2
  · rw [if_pos c2, if_pos c2]
    by_cases hn : N 1 < 10
    · rw [if_neg (by omega), if_pos hn, qX8_sceneOn h hn, ob]
    · rw [if_pos (by omega), if_neg hn]
  rw [if_neg c2, if_neg c2]
  by_cases c3 : r % 8 = 3
  · rw [if_pos c3, if_pos c3, qX8_mealOn h0 (fun j => by have := hB j; omega), ob]
  rw [if_neg c3, if_neg c3]
  by_cases c4 : r % 8 = 4
  · rw [if_pos c4, if_pos c4]
    by_cases hq : r / 8 % 4 = 0
    · rw [if_pos hq, if_pos hq, qX8_nextOn h0 (fun j => by have := hB j; omega), ob]
    · rw [if_neg hq, if_neg hq]
      rfl
  rw [if_neg c4, if_neg c4, qX8_canShootW h ht (by omega), ob]
  by_cases hc : cwN N (r / 8 % 10) = 0
  · rw [if_pos hc, if_pos nI0]
    unfold siN
    rw [if_pos hc]
  · rw [if_neg hc, if_neg nI1, qX8_shootW h ht (by omega) hc, ob]
theorem qX3_turn {t : Nat} {N : Nat → Nat} {r : Nat} (h : Inv t N) (ht : t ≤ 10000) (hr : r < 2147483648) : pX3_turn (nI (N 0)) (nI (N 1)) (nI (N 2)) (nI (N 3)) (nI (N 4)) (nI (N 5)) (nI (N 6)) (rI (exR N)) (rI (scR N)) (rI (seR N)) (nI r) = some (FT (turnN N r)) := by
  have h0 := h.ec
  have h1 := h.sn
  unfold pX3_turn pX3_turn_44 pX3_turn_154 turnN
  simp (disch := omega) only [zdiv, zmul, zsub, natmod, zadd, zeq, zeq0]
  have add : (pX0_addExtra (nI (N 0)) (rI (exR N)) (nI (r / 8 % 3)) (nI (r / 8 / 4 % 14))).bind (fun v1 => some (v1.2.1, nI (N 1), nI (N 2), nI (N 3), nI (N 4), nI (N 5), nI (N 6), v1.2.2, rI (scR N), rI (seR N))) = some (FT (if N 0 < 14 then exN N (r / 8 % 3) (r / 8 / 4 % 14) else N)) := by
    by_cases hn : N 0 < 14
    · rw [if_pos hn, FT_ex hn, qX0_addExtra hn, ob]
    · rw [if_neg hn, qX0_addExtra_no (by omega), ob]; rfl
  by_cases c0 : r % 8 = 0
  · rw [if_pos c0, if_pos (Or.inl c0)]
    exact add
  by_cases c1 : r % 8 = 1
  · rw [if_neg c0, if_pos c1, if_pos (Or.inr c1)]
    exact add
  rw [if_neg c0, if_neg c1, if_neg (c := r % 8 = 0 ∨ r % 8 = 1) (by omega)]
  by_cases c2 : r % 8 = 2
  · rw [if_pos c2, if_pos c2]
    by_cases hn : N 1 < 10
    · rw [if_pos hn, FT_sc, qX0_addScene hn, ob]
    · rw [if_neg hn, qX0_addScene_no (by omega), ob]; rfl
  rw [if_neg c2, if_neg c2]
  by_cases c3 : r % 8 = 3
  · rw [if_pos c3, if_pos c3, FT_ml h0, qX0_eat h ht, ob]
  rw [if_neg c3, if_neg c3]
  by_cases c4 : r % 8 = 4
  · rw [if_pos c4, if_pos c4]
    by_cases hq : r / 8 % 4 = 0
    · rw [if_pos hq, if_pos hq, FT_nx h0, qX0_beginDay h, ob]
    · rw [if_neg hq, if_neg hq, FT_se (by omega), qX0_change (by omega), ob]
  rw [if_neg c4, if_neg c4, FT_si, qX0_shootIfPossible h ht (by omega), ob]

/-! ===== the law answers 1: two objects that begin alike stay alike ===== -/
theorem z_ofI (s : Int32) : s = nI s.toBitVec.toNat := by
  apply Int32.toBitVec_inj.1
  show s.toBitVec = BitVec.ofNat 32 s.toBitVec.toNat
  rw [BitVec.ofNat_toNat, BitVec.setWidth_eq]
theorem cell_22_ok (s : Int32) : ∃ X, X < 2147483648 ∧ pL_cell_22 s = some (nI X) := by
  refine ⟨s.toBitVec.toNat &&& 2147483647, Nat.lt_of_le_of_lt Nat.and_le_right (by decide), ?_⟩
  unfold pL_cell_22
  rw [← zand, ← z_ofI s]
  rfl
theorem cell_ok {Len : Nat} {xs : Nat → Int32} (hL : Len < 100000) {k : Nat} (hk : k < 100000) : ∃ X, X < 2147483648 ∧ pL_cell Len xs (nI k) = some (nI X) := by
  unfold pL_cell
  by_cases h : Len ≤ k
  · obtain ⟨X, h1, h2⟩ := cell_22_ok ((15519151 * (nI k + nI 3)) + nI 11311)
    exact ⟨X, h1, by rw [if_pos ((zle (by omega) (by omega)).mpr h), h2]⟩
  · obtain ⟨X, h1, h2⟩ := cell_22_ok (xs (nI k).toNatClampNeg)
    exact ⟨X, h1, by rw [if_neg (fun q => h ((zle (by omega) (by omega)).mp q)), if_pos (nbt (by omega) (by omega)), h2]⟩
def S0 : SS := (N0, 0, fun _ _ => 0, fun _ => 0, fun _ _ => 0)
theorem RW_new : RW 0 S0 := ⟨⟨Inv_new, GW_new⟩, by decide, fun j hj => absurd hj (Nat.not_lt_zero j), fun h => absurd h (by decide), fun j hj => absurd hj (Nat.not_lt_zero _), fun i _ h => absurd h (by show ¬ (0 : Nat) = 1; decide)⟩
/-- a turn, and those behind it -/
theorem law_158 {Len : Nat} {xs : Nat → Int32} (hL : Len < 100000) {n : Nat} (hn : n < 100) : ∀ (k j t : Nat) (S : SS), RG t S → j ≤ n → n - j < k → t + 11 * (n - j) ≤ 2000 → pL_law_158 Len xs k S S (nI 1) (nI n) (nI j) = some (nI 1) := by
  intro k
  induction k with
  | zero => intro j t S h h1 h2; omega
  | succ k ih =>
    intro j t S h h1 h2 h3
    rw [pL_law_158_s]
    by_cases hj : n ≤ j
    · rw [if_pos ((zle (by omega) (by omega)).mpr hj)]
      unfold pL_law_316
      rfl
    · obtain ⟨X, hX, hc⟩ := cell_ok (xs := xs) hL (k := 2 + j) (by omega)
      rw [if_neg (fun q => hj ((zle (by omega) (by omega)).mp q)), if_neg nI1, zadd, hc, ob]
      have hN := h.1.1.1.ec
      have hM := h.1.1.1.sn
      have g0 := h.2.1
      have g1 := h.2.2
      obtain ⟨v, S2, ha, k2⟩ := act_ok h (by omega) hX
      have hN2 := k2.1.1.1.ec
      have hM2 := k2.1.1.1.sn
      have g02 := k2.2.1
      have g12 := k2.2.2
      have r1 : nI X - nI X / nI 100000 * nI 100000 = nI (X % 100000) := zrem hX (by omega) (by omega)
      have r2 : nI X - nI X / nI 1000 * nI 1000 = nI (X % 1000) := zrem hX (by omega) (by omega)
      have d3 : nI X / nI 3 = nI (X / 3) := zdiv hX (by omega) (by omega)
      have d5 : nI X / nI 5 = nI (X / 5) := zdiv hX (by omega) (by omega)
      have d7 : nI X / nI 7 = nI (X / 7) := zdiv hX (by omega) (by omega)
      have d11 : nI X / nI 11 = nI (X / 11) := zdiv hX (by omega) (by omega)
      have f1 : pL_refuses S.1 (nI (X % 100000)) = some (nI 1) := refuses_ok (by omega) hN (by omega) hM (by omega)
      have f2 : pL_refuses S2.1 (nI (X % 1000)) = some (nI 1) := refuses_ok (by omega) hN2 (by omega) hM2 (by omega)
      have f3 : pL_holds S2.1 (nI (X / 3)) = some (nI 1) := holds_ok k2.1.1 (by omega) (by omega) (by omega)
      have f4 : pL_holds S2.1 (nI (X / 5)) = some (nI 1) := holds_ok k2.1.1 (by omega) (by omega) (by omega)
      have f5 : ∀ x, pL_alike S2.1 S2.1 x = some (nI 1) := alike_ok S2.1
      have fin : ∀ (u : Nat) (S3 : SS), u ≤ t + 11 → RG u S3 → pL_law_303 Len xs (fun u0 u1 u2 u3 u4 => pL_law_158 Len xs k u0 u1 u2 u3 u4) S3 S3 (nI n) (nI j) = some (nI 1) := by
        intro u S3 hu hR
        unfold pL_law_303 pL_law_308
        rw [zadd]
        exact ih (j + 1) u S3 hR (by omega) (by omega) (by omega)
      have end2 : pL_law_270 Len xs (fun u0 u1 u2 u3 u4 => pL_law_158 Len xs k u0 u1 u2 u3 u4) S2 S2 (nI n) (nI j) (nI X) = some (nI 1) := by
        unfold pL_law_270
        obtain ⟨S3, q1, _, q3⟩ := scene_ok (X := X / 7) k2 (by omega) (by omega)
        rw [d7, q1, ob]
        show (if nI 1 = 0 then _ else _) = _
        rw [if_neg nI1]
        split
        · exact fin _ S3 (by omega) q3
        · obtain ⟨S4, p1, _, p3⟩ := both_ok (X := X / 11) q3 (by omega) (by omega)
          show (pL_both S3 S3 (nI X / nI 11)).bind _ = _
          rw [d11, p1, ob]
          show (if nI 1 = 0 then _ else _) = _
          rw [if_neg nI1]
          exact fin _ S4 (by omega) p3
      rw [ha, ob, r1, f1, ob, if_neg nI1, ob]
      show (if v = v then _ else _) = _
      rw [if_pos rfl]
      show (pL_refuses S2.1 _).bind _ = _
      rw [r2, f2, ob, if_neg nI1]
      show (pL_alike S2.1 S2.1 _).bind _ = _
      rw [f5, ob, if_neg nI1]
      show (if _ then (pL_holds S2.1 (nI X / nI 3)).bind _ else (pL_holds S2.1 (nI X / nI 5)).bind _) = _
      rw [d3, d5, f3, f4, ob, if_neg nI1, ite_self]
      exact end2
theorem law_142 {Len : Nat} {xs : Nat → Int32} (hL : Len < 100000) {t : Nat} {S : SS} (h : RG t S) (ht : t ≤ 1000) : pL_law_142 Len xs S S (nI 1) = some (nI 1) := by
  unfold pL_law_142
  obtain ⟨X, hX, hc⟩ := cell_ok (xs := xs) hL (k := 1) (by omega)
  rw [hc, ob, zrem hX (by omega) (by omega), zadd]
  exact law_158 hL (by omega) 30 0 t S h (by omega) (by omega) (by omega)
/-- the first two turns -/
theorem law_28 {Len : Nat} {xs : Nat → Int32} (hL : Len < 100000) {X : Nat} (hX : X < 2147483648) : ∀ (k j t : Nat) (S : SS), RW t S → S.1 0 = j → S.1 1 = j → j ≤ 2 → 2 - j < k → t + 2 * (2 - j) ≤ 1000 → pL_law_28 Len xs k S S (nI X) (nI 1) (nI j) = some (nI 1) := by
  intro k
  induction k with
  | zero => intro j t S h _ _ h1 h2; omega
  | succ k ih =>
    intro j t S h z0 z1 h1 h2 h3
    rw [pL_law_28_s]
    by_cases hj : 2 ≤ j
    · rw [if_pos ((zle (by omega) (by omega)).mpr hj)]
      exact law_142 hL ⟨h, by omega, by omega⟩ (by omega)
    · rw [if_neg (fun q => hj ((zle (by omega) (by omega)).mp q)), if_neg nI1]
      have r9 : nI X - nI X / nI 9 * nI 9 = nI (X % 9) := zrem hX (by omega) (by omega)
      have r2 : nI X - nI X / nI 2 * nI 2 = nI (X % 2) := zrem hX (by omega) (by omega)
      have r99 : nI X - nI X / nI 99 * nI 99 = nI (X % 99) := zrem hX (by omega) (by omega)
      have e1 : fEx S (nI 0) (nI (j + X % 9)) = (nI j, actS S (exN S.1 0 (j + X % 9))) := by
        rw [fEx_n (by omega) (by omega), if_pos (by omega), z0]
      obtain ⟨q1, q2⟩ := FG_ex (a := 0) (b := j + X % 9) h.1 (by omega) (by omega) (by omega)
      have w1 := h.act q1 q2
      have x0 : exN S.1 0 (j + X % 9) 0 = S.1 0 + 1 := exN_0
      have x1 : exN S.1 0 (j + X % 9) 1 = S.1 1 := exN_lo (by omega) (by omega)
      have e2 : fSc (actS S (exN S.1 0 (j + X % 9))) (nI 0) (nI (1 + X % 2)) (nI j) (nI 0) (nI (30 + X % 99)) = (nI j, actS (actS S (exN S.1 0 (j + X % 9))) (scN (exN S.1 0 (j + X % 9)) 0 (1 + X % 2) j 0 (30 + X % 99))) := by
        rw [fSc_n (by omega) (by omega) (by omega) (by omega) (by omega)]
        show (if exN S.1 0 (j + X % 9) 1 < 10 then (nI (exN S.1 0 (j + X % 9) 1), _) else _) = _
        rw [if_pos (by omega), x1, z1]
        rfl
      obtain ⟨p1, p2⟩ := FG_sc (a := 0) (b := 1 + X % 2) (c := j) (d := 0) (e := 30 + X % 99) q1 (by omega) (by omega) (by omega) (by omega) (by omega) (by omega)
      have w2 := w1.act p1 p2
      have y0 : scN (exN S.1 0 (j + X % 9)) 0 (1 + X % 2) j 0 (30 + X % 99) 0 = exN S.1 0 (j + X % 9) 0 := scN_lo (by omega) (by omega)
      have y1 : scN (exN S.1 0 (j + X % 9)) 0 (1 + X % 2) j 0 (30 + X % 99) 1 = exN S.1 0 (j + X % 9) 1 + 1 := scN_1
      have v0 : scN (exN S.1 0 (j + X % 9)) 0 (1 + X % 2) j 0 (30 + X % 99) 0 = j + 1 := by omega
      have v1 : scN (exN S.1 0 (j + X % 9)) 0 (1 + X % 2) j 0 (30 + X % 99) 1 = j + 1 := by omega
      simp only [r9, r2, r99, zadd, e1, e2, if_true]
      unfold pL_law_134
      rw [zadd]
      exact ih (j + 1) (t + 2) _ w2 v0 v1 (by omega) (by omega) (by omega)
theorem pure_law {Len : Nat} {xs : Nat → Int32} (hL : Len < 100000) : pL_law Len xs S0 S0 = some (nI 1) := by
  unfold pL_law
  obtain ⟨X, hX, hc⟩ := cell_ok (xs := xs) hL (k := 0) (by omega)
  rw [hc, ob]
  exact law_28 hL hX 4 0 0 S0 RW_new (by show N0 0 = 0; decide) (by show N0 1 = 0; decide) (by omega) (by omega) (by omega)

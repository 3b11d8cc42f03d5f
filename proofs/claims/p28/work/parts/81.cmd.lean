/-! ===== a command of a script ===== -/
def cmdN (N : Nat → Nat) (g : Nat) : Bool × (Nat → Nat) :=
  if g / 10000 = 1 then (if g % 1000 = 0 ∧ cwN N (g / 1000 % 10) ≠ 0 then (true, siN N (g / 1000 % 10)) else (false, N))
  else if g / 10000 = 2 then (if g % 10000 = 0 then (true, mlC N (N 0)) else (false, N))
  else if g / 10000 = 3 then (if g % 10000 = 0 then (true, nxN N) else (false, N))
  else if g / 10000 = 4 then (if g % 10 = 0 ∧ g / 1000 % 10 < N 1 ∧ g / 10 % 100 < N 0 then (match inN N (g / 1000 % 10) (g / 10 % 100) with | none => (false, N) | some b => (true, reN N (g / 1000 % 10) (g / 10 % 100) b)) else (false, N))
  else if g / 10000 = 5 then (if stB (nI (g / 1000 % 10)) (nI (g % 1000)) = true then (true, seN N (g / 1000 % 10) (g % 1000)) else (false, N))
  else if g / 10000 = 6 then (if g % 10 = 0 ∧ g / 1000 % 10 < N 1 ∧ g / 10 % 100 < N 0 ∧ (N (94 + 7 * (g / 1000 % 10) + 6)).testBit (g / 10 % 100) = true then (true, N) else (false, N))
  else if g / 10000 = 7 then (if g % 100 < 2 ∧ g / 100 % 100 < N 0 ∧ (0 < N (10 + 6 * (g / 100 % 100) + 2) ↔ g % 100 = 1) then (true, N) else (false, N))
  else if g / 10000 = 8 then (if g / 100 % 100 = 0 ∧ N 5 ≤ g % 100 then (true, N) else (false, N))
  else if g / 10000 = 9 then (if g / 100 % 100 = 0 ∧ N 6 ≤ g % 100 then (true, N) else (false, N))
  else (false, N)
theorem stB_cases {k v : Nat} (hk : k < 1000) (hv : v < 100000) : stB (nI k) (nI v) = true ↔ (k = 0 ∧ 240 ≤ v ∧ v ≤ 960) ∨ (k = 1 ∧ 1 ≤ v ∧ v ≤ 99) ∨ (k = 2 ∧ v ≤ 99) := by
  unfold stB
  rw [nI_toInt (show v < 2147483648 by omega)]
  simp only [Bool.or_eq_true, Bool.and_eq_true, decide_eq_true_eq]
  rw [zeq (by omega) (by omega), zeq (by omega) (by omega), zeq (by omega) (by omega)]
  omega
theorem inN_some {N : Nat → Nat} {s a b : Nat} (h : inN N s a = some b) : b < N 0 ∧ crB N s a b = true := by
  have ⟨_, h2, h3, _⟩ := fsP_some h
  exact ⟨by omega, h3⟩
theorem Inv_cmd {t : Nat} {N : Nat → Nat} {g : Nat} (h : Inv t N) (ht : t ≤ 10000) : Inv (t + 1) (cmdN N g).2 := by
  have hm : Inv (t + 1) N := h.mono (by omega)
  have he := h.ec
  unfold cmdN
  split
  · split
    · exact Inv_si h ht
    · exact hm
  · split
    · split
      · exact (Inv_meal h).mono (by omega)
      · exact hm
    · split
      · split
        · exact Inv_next h
        · exact hm
      · split
        · split
          · rename_i hc
            split
            · exact hm
            · rename_i b hb
              have ⟨h1, h2⟩ := inN_some hb
              exact (Inv_rep h hc.2.1 (by omega) h2).mono (by omega)
          · exact hm
        · split
          · split
            · rename_i hc
              have := (stB_cases (by omega) (by omega)).mp hc
              exact (Inv_set h (by omega)).mono (by omega)
            · exact hm
          · split
            · split <;> exact hm
            · split
              · split <;> exact hm
              · split
                · split <;> exact hm
                · split
                  · split <;> exact hm
                  · exact hm
theorem reC_pos {N : Nat → Nat} {s a b : Nat} : reC N s a b ≠ 0 := by
  intro h0
  have h1 : (reC N s a b).testBit b = true := by
    unfold reC
    rw [Nat.testBit_or, Nat.testBit_two_pow, decide_eq_true rfl, Bool.or_true]
  rw [h0, Nat.zero_testBit] at h1
  cases h1
theorem qX8_command {t : Nat} {N : Nat → Nat} {g : Nat} (h : Inv t N) (ht : t ≤ 10000) (hg : g < 100000) : pX8_command (rI N) (nI (g / 10000)) (nI (g % 10000)) = some (nI (if (cmdN N g).1 = true then 1 else 0), rI (cmdN N g).2) := by
  have h0 := h.ec
  have h1 := h.sn
  have hB := h.sm0 ht
  have hset := h.set
  have htot := h.tot
  have b1 : bz (nI 1) = some (nI 1) := rfl
  have b0 : bz (nI 0) = some (nI 0) := rfl
  unfold pX8_command pX8_command_115 pX8_command_116 pX8_command_135 pX8_command_136 pX8_command_155 pX8_command_156 pX8_command_185 pX8_command_224 pX8_command_225 pX8_command_300 pX8_command_301 pX8_command_340 pX8_command_351 pX8_command_358 pX8_command_359 pX8_command_380 pX8_command_381 pX8_command_403 pX8_command_404
  have e1 : nI (g % 10000) - nI (g % 10000) / nI 1000 * nI 1000 = nI (g % 1000) := by
    rw [zrem (by omega) (by omega) (by omega), show g % 10000 % 1000 = g % 1000 from by omega]
  have e2 : nI (g % 10000) / nI 1000 = nI (g / 1000 % 10) := by
    rw [zdiv (by omega) (by omega) (by omega), show g % 10000 / 1000 = g / 1000 % 10 from by omega]
  have e3 : nI (g % 10000) / nI 10 - nI (g % 10000) / nI 10 / nI 100 * nI 100 = nI (g / 10 % 100) := by
    rw [zdiv (a := g % 10000) (by omega) (by omega) (by omega), zrem (by omega) (by omega) (by omega), show g % 10000 / 10 % 100 = g / 10 % 100 from by omega]
  have e4 : nI (g % 10000) - nI (g % 10000) / nI 10 * nI 10 = nI (g % 10) := by
    rw [zrem (by omega) (by omega) (by omega), show g % 10000 % 10 = g % 10 from by omega]
  have e5 : nI (g % 10000) - nI (g % 10000) / nI 100 * nI 100 = nI (g % 100) := by
    rw [zrem (by omega) (by omega) (by omega), show g % 10000 % 100 = g % 100 from by omega]
  have e6 : nI (g % 10000) / nI 100 = nI (g / 100 % 100) := by
    rw [zdiv (by omega) (by omega) (by omega), show g % 10000 / 100 = g / 100 % 100 from by omega]
  have kk : ∀ n, n < 1000 → ((nI (g / 10000) = nI n) ↔ g / 10000 = n) := fun n hn => zeq (by omega) (by omega)
  rw [e1, e3, e4, e5, e2, e6]
  unfold cmdN
  by_cases c1 : g / 10000 = 1
  · rw [if_pos ((kk 1 (by omega)).mpr c1)]
    simp (disch := omega) only [zeq, zeq0, znb, zcl, if_pos, rI_at, zle, rI_upd, z0lt, zlt, b0, b1, ob, zadd]
    by_cases d1 : g % 1000 = 0
    · rw [if_pos d1, qX8_canShootW h ht (by omega), ob]
      by_cases d2 : cwN N (g / 1000 % 10) = 0
      · rw [if_pos d2, if_pos nI0, if_neg (c := g % 1000 = 0 ∧ cwN N (g / 1000 % 10) ≠ 0) (fun h => h.2 d2)]; rfl
      · have hl := cwN_lt (s := g / 1000 % 10) h ht
        rw [if_neg d2, if_neg nI1, qX8_shootW h ht (by omega) d2, ob, if_neg (fun h => d2 ((zle0 (by omega)).mp h)), if_pos (c := g % 1000 = 0 ∧ cwN N (g / 1000 % 10) ≠ 0) ⟨d1, d2⟩]; rfl
    · rw [if_neg d1, if_neg (c := g % 1000 = 0 ∧ cwN N (g / 1000 % 10) ≠ 0) (fun h => d1 h.1)]; rfl
  rw [if_neg (fun h => c1 ((kk 1 (by omega)).mp h)), if_neg c1]
  by_cases c2 : g / 10000 = 2
  · rw [if_pos ((kk 2 (by omega)).mpr c2)]
    simp (disch := omega) only [zeq, zeq0, znb, zcl, if_pos, rI_at, zle, rI_upd, z0lt, zlt, b0, b1, ob, zadd]
    by_cases d1 : g % 10000 = 0
    · rw [if_pos d1, if_pos d1, qX8_mealOn h0 (fun j => by have := hB j; omega), ob, if_neg (fun h => (zlt0 (by
        have : ∀ n, lateU N n ≤ n := by
          intro n
          induction n with
          | zero => simp [lateU]
          | succ n ih => unfold lateU; split <;> omega
        have := this (N 0)
        omega)).mp h)]; rfl
    · rw [if_neg d1, if_neg d1]; rfl
  rw [if_neg (fun h => c2 ((kk 2 (by omega)).mp h)), if_neg c2]
  by_cases c3 : g / 10000 = 3
  · rw [if_pos ((kk 3 (by omega)).mpr c3)]
    simp (disch := omega) only [zeq, zeq0, znb, zcl, if_pos, rI_at, zle, rI_upd, z0lt, zlt, b0, b1, ob, zadd]
    by_cases d1 : g % 10000 = 0
    · rw [if_pos d1, if_pos d1, qX8_nextOn h0 (fun j => by have := hB j; omega), ob, if_neg (fun h => by have := (zle0 (by omega)).mp h; omega)]; rfl
    · rw [if_neg d1, if_neg d1]; rfl
  rw [if_neg (fun h => c3 ((kk 3 (by omega)).mp h)), if_neg c3]
  by_cases c4 : g / 10000 = 4
  · rw [if_pos ((kk 4 (by omega)).mpr c4)]
    simp (disch := omega) only [zeq, zeq0, znb, zcl, if_pos, rI_at, zle, rI_upd, z0lt, zlt, b0, b1, ob, zadd]
    by_cases d1 : g % 10 = 0
    · rw [if_neg (c := 0 < g % 10) (by omega), qX8_isScene _ h1, nI_toInt (by omega), ob]
      by_cases d2 : g / 1000 % 10 < N 1
      · rw [if_pos (c := 0 ≤ ((g / 1000 % 10 : Nat) : Int) ∧ ((g / 1000 % 10 : Nat) : Int) < (N 1 : Int)) (by omega), if_neg nI1, qX8_isExtra _ h0, nI_toInt (by omega), ob]
        by_cases d3 : g / 10 % 100 < N 0
        · rw [if_pos (c := 0 ≤ ((g / 10 % 100 : Nat) : Int) ∧ ((g / 10 % 100 : Nat) : Int) < (N 0 : Int)) (by omega), if_neg nI1, qX8_instead h ht (by omega) (by omega), ob, if_pos (c := g % 10 = 0 ∧ g / 1000 % 10 < N 1 ∧ g / 10 % 100 < N 0) ⟨d1, d2, d3⟩]
          cases hq : inN N (g / 1000 % 10) (g / 10 % 100) with
          | none => rw [show oI none = -1 from rfl, if_pos rfl]; rfl
          | some b =>
            have ⟨hb1, hb2⟩ := inN_some hq
            have hcr := (h.sc (g / 1000 % 10) (by omega)).2.2.2.2.2.2.1
            have hr : reC N (g / 1000 % 10) (g / 10 % 100) b < 16384 := or14 (dif_lt _ _) (pw14 (by omega))
            rw [show oI (some b) = nI b from rfl, if_neg (fun h => (zm1 (by omega)).mp h), qX8_replaceOn (by omega) (by omega) (by omega) hcr, ob, if_neg (fun h => reC_pos ((zle0 (by omega)).mp h))]; rfl
        · rw [if_neg (c := 0 ≤ ((g / 10 % 100 : Nat) : Int) ∧ ((g / 10 % 100 : Nat) : Int) < (N 0 : Int)) (by omega), if_pos nI0, if_neg (c := g % 10 = 0 ∧ g / 1000 % 10 < N 1 ∧ g / 10 % 100 < N 0) (fun h => d3 h.2.2)]; rfl
      · rw [if_neg (c := 0 ≤ ((g / 1000 % 10 : Nat) : Int) ∧ ((g / 1000 % 10 : Nat) : Int) < (N 1 : Int)) (by omega), if_pos nI0, if_neg (c := g % 10 = 0 ∧ g / 1000 % 10 < N 1 ∧ g / 10 % 100 < N 0) (fun h => d2 h.2.1)]; rfl
    · rw [if_pos (c := 0 < g % 10) (by omega), if_neg (c := g % 10 = 0 ∧ g / 1000 % 10 < N 1 ∧ g / 10 % 100 < N 0) (fun h => d1 h.1)]; rfl
  rw [if_neg (fun h => c4 ((kk 4 (by omega)).mp h)), if_neg c4]
  by_cases c5 : g / 10000 = 5
  · rw [if_pos ((kk 5 (by omega)).mpr c5)]
    simp (disch := omega) only [zeq, zeq0, znb, zcl, if_pos, rI_at, zle, rI_upd, z0lt, zlt, b0, b1, ob, zadd]
    rw [qX8_isSetting, ob]
    by_cases d1 : stB (nI (g / 1000 % 10)) (nI (g % 1000)) = true
    · have := (stB_cases (by omega) (by omega)).mp d1
      rw [if_pos d1, if_neg nI1, if_pos d1]; rfl
    · rw [if_neg d1, if_pos nI0, if_neg d1]; rfl
  rw [if_neg (fun h => c5 ((kk 5 (by omega)).mp h)), if_neg c5]
  by_cases c6 : g / 10000 = 6
  · rw [if_pos ((kk 6 (by omega)).mpr c6)]
    simp (disch := omega) only [zeq, zeq0, znb, zcl, if_pos, rI_at, zle, rI_upd, z0lt, zlt, b0, b1, ob, zadd]
    by_cases d1 : g % 10 = 0
    · rw [if_pos d1, qX8_isScene _ h1, nI_toInt (by omega), ob]
      by_cases d2 : g / 1000 % 10 < N 1
      · rw [if_pos (c := 0 ≤ ((g / 1000 % 10 : Nat) : Int) ∧ ((g / 1000 % 10 : Nat) : Int) < (N 1 : Int)) (by omega), if_neg nI1, qX8_isExtra _ h0, nI_toInt (by omega), ob]
        by_cases d3 : g / 10 % 100 < N 0
        · have hcr := (h.sc (g / 1000 % 10) (by omega)).2.2.2.2.2.2.1
          rw [if_pos (c := 0 ≤ ((g / 10 % 100 : Nat) : Int) ∧ ((g / 10 % 100 : Nat) : Int) < (N 0 : Int)) (by omega), if_neg nI1, qX8_told (by omega), ob, qX8_has (by omega) (by omega), ob]
          by_cases d4 : (N (94 + 7 * (g / 1000 % 10) + 6)).testBit (g / 10 % 100) = true
          · rw [if_pos d4, if_neg nI1, if_pos (c := g % 10 = 0 ∧ g / 1000 % 10 < N 1 ∧ g / 10 % 100 < N 0 ∧ (N (94 + 7 * (g / 1000 % 10) + 6)).testBit (g / 10 % 100) = true) ⟨d1, d2, d3, d4⟩]; rfl
          · rw [if_neg d4, if_pos nI0, if_neg (c := g % 10 = 0 ∧ g / 1000 % 10 < N 1 ∧ g / 10 % 100 < N 0 ∧ (N (94 + 7 * (g / 1000 % 10) + 6)).testBit (g / 10 % 100) = true) (fun h => d4 h.2.2.2)]; rfl
        · rw [if_neg (c := 0 ≤ ((g / 10 % 100 : Nat) : Int) ∧ ((g / 10 % 100 : Nat) : Int) < (N 0 : Int)) (by omega), if_pos nI0, if_neg (c := g % 10 = 0 ∧ g / 1000 % 10 < N 1 ∧ g / 10 % 100 < N 0 ∧ (N (94 + 7 * (g / 1000 % 10) + 6)).testBit (g / 10 % 100) = true) (fun h => d3 h.2.2.1)]; rfl
      · rw [if_neg (c := 0 ≤ ((g / 1000 % 10 : Nat) : Int) ∧ ((g / 1000 % 10 : Nat) : Int) < (N 1 : Int)) (by omega), if_pos nI0, if_neg (c := g % 10 = 0 ∧ g / 1000 % 10 < N 1 ∧ g / 10 % 100 < N 0 ∧ (N (94 + 7 * (g / 1000 % 10) + 6)).testBit (g / 10 % 100) = true) (fun h => d2 h.2.1)]; rfl
    · rw [if_neg d1, if_neg (c := g % 10 = 0 ∧ g / 1000 % 10 < N 1 ∧ g / 10 % 100 < N 0 ∧ (N (94 + 7 * (g / 1000 % 10) + 6)).testBit (g / 10 % 100) = true) (fun h => d1 h.1)]; rfl
  rw [if_neg (fun h => c6 ((kk 6 (by omega)).mp h)), if_neg c6]
  by_cases c7 : g / 10000 = 7
  · rw [if_pos ((kk 7 (by omega)).mpr c7)]
    simp (disch := omega) only [zeq, zeq0, znb, zcl, if_pos, rI_at, zle, rI_upd, z0lt, zlt, b0, b1, ob, zadd]
    by_cases d1 : 2 ≤ g % 100
    · rw [if_pos d1, if_neg (c := g % 100 < 2 ∧ g / 100 % 100 < N 0 ∧ (0 < N (10 + 6 * (g / 100 % 100) + 2) ↔ g % 100 = 1)) (by omega)]; rfl
    rw [if_neg d1, qX8_isExtra _ h0, nI_toInt (by omega), ob]
    by_cases d3 : g / 100 % 100 < N 0
    · rw [if_pos (c := 0 ≤ ((g / 100 % 100 : Nat) : Int) ∧ ((g / 100 % 100 : Nat) : Int) < (N 0 : Int)) (by omega), if_neg nI1, qX8_of (by omega), ob]
      have hw := (h.ex (g / 100 % 100) (by omega)).2.2.1
      have hl : (g % 10 = 1) ↔ (g % 100 = 1) := by omega
      simp only [hl]
      by_cases d4 : N (10 + 6 * (g / 100 % 100) + 2) = 0
      · rw [if_pos (c := nI (N (10 + 6 * (g / 100 % 100) + 2)) ≤ 0) ((zle0 (by omega)).mpr d4)]
        by_cases d5 : g % 100 = 1
        · rw [if_pos d5, if_neg (c := (0 : Nat) = 1) (by omega), if_neg (c := g % 100 < 2 ∧ g / 100 % 100 < N 0 ∧ (0 < N (10 + 6 * (g / 100 % 100) + 2) ↔ g % 100 = 1)) (by omega)]; rfl
        · rw [if_neg d5, if_pos (c := True) trivial, if_pos (c := g % 100 < 2 ∧ g / 100 % 100 < N 0 ∧ (0 < N (10 + 6 * (g / 100 % 100) + 2) ↔ g % 100 = 1)) (by omega)]; rfl
      · rw [if_neg (c := nI (N (10 + 6 * (g / 100 % 100) + 2)) ≤ 0) (fun h => d4 ((zle0 (by omega)).mp h))]
        by_cases d5 : g % 100 = 1
        · rw [if_pos d5, if_pos (c := True) trivial, if_pos (c := g % 100 < 2 ∧ g / 100 % 100 < N 0 ∧ (0 < N (10 + 6 * (g / 100 % 100) + 2) ↔ g % 100 = 1)) (by omega)]; rfl
        · rw [if_neg d5, if_neg (c := (1 : Nat) = 0) (by omega), if_neg (c := g % 100 < 2 ∧ g / 100 % 100 < N 0 ∧ (0 < N (10 + 6 * (g / 100 % 100) + 2) ↔ g % 100 = 1)) (by omega)]; rfl
    · rw [if_neg (c := 0 ≤ ((g / 100 % 100 : Nat) : Int) ∧ ((g / 100 % 100 : Nat) : Int) < (N 0 : Int)) (by omega), if_pos nI0, if_neg (c := g % 100 < 2 ∧ g / 100 % 100 < N 0 ∧ (0 < N (10 + 6 * (g / 100 % 100) + 2) ↔ g % 100 = 1)) (fun h => d3 h.2.1)]; rfl
  rw [if_neg (fun h => c7 ((kk 7 (by omega)).mp h)), if_neg c7]
  have h5 : N 5 < 2147483648 := by omega
  have h6 : N 6 < 2147483648 := by omega
  by_cases c8 : g / 10000 = 8
  · rw [if_pos ((kk 8 (by omega)).mpr c8)]
    simp (disch := omega) only [zeq, zeq0, znb, zcl, if_pos, rI_at, zle, rI_upd, z0lt, zlt, b0, b1, ob, zadd]
    by_cases d1 : 100 ≤ g % 10000
    · rw [if_pos d1, if_neg (c := g / 100 % 100 = 0 ∧ N 5 ≤ g % 100) (by omega)]; rfl
    · rw [if_neg d1]
      by_cases d2 : N 5 ≤ g % 100
      · rw [if_neg (c := g % 10000 < N 5) (by omega), if_pos (c := g / 100 % 100 = 0 ∧ N 5 ≤ g % 100) (by omega)]; rfl
      · rw [if_pos (c := g % 10000 < N 5) (by omega), if_neg (c := g / 100 % 100 = 0 ∧ N 5 ≤ g % 100) (by omega)]; rfl
  rw [if_neg (fun h => c8 ((kk 8 (by omega)).mp h)), if_neg c8]
  by_cases c9 : g / 10000 = 9
  · rw [if_pos ((kk 9 (by omega)).mpr c9)]
    simp (disch := omega) only [zeq, zeq0, znb, zcl, if_pos, rI_at, zle, rI_upd, z0lt, zlt, b0, b1, ob, zadd]
    by_cases d1 : 100 ≤ g % 10000
    · rw [if_pos d1, if_neg (c := g / 100 % 100 = 0 ∧ N 6 ≤ g % 100) (by omega)]; rfl
    · rw [if_neg d1]
      by_cases d2 : N 6 ≤ g % 100
      · rw [if_neg (c := g % 10000 < N 6) (by omega), if_pos (c := g / 100 % 100 = 0 ∧ N 6 ≤ g % 100) (by omega)]; rfl
      · rw [if_pos (c := g % 10000 < N 6) (by omega), if_neg (c := g / 100 % 100 = 0 ∧ N 6 ≤ g % 100) (by omega)]; rfl
  rw [if_neg (fun h => c9 ((kk 9 (by omega)).mp h)), if_neg c9]; rfl

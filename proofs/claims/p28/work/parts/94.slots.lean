/-! ===== outcomes of the calls: save, restore, load ===== -/
theorem vb0 : vp_nar .boolean (nI 0) = nI 0 := by decide
theorem vb1 : vp_nar .boolean (nI 1) = nI 1 := by decide
/-- slots: F the flags, P the class's kept films, K the reference's -/
def SL (F : Nat → Nat) (P K : Nat → Nat → Nat) : Prop := (∀ i, F i ≤ 1) ∧ ∀ i, i < 2 → F i = 1 → P i = K i
theorem bzF {n : Nat} (h : n ≤ 1) : bz (nI n) = some (nI n) := by
  have : n = 0 ∨ n = 1 := by omega
  rcases this with h | h <;> subst h <;> rfl
theorem qX4_keep {f : Int32} {N M : Nat → Nat} : pX4_keep f (nI (M 0)) (nI (M 1)) (nI (M 2)) (nI (M 3)) (nI (M 4)) (nI (M 5)) (nI (M 6)) (rI (exR M)) (rI (scR M)) (rI (seR M)) (nI (N 0)) (nI (N 1)) (nI (N 2)) (nI (N 3)) (nI (N 4)) (nI (N 5)) (nI (N 6)) (rI (exR N)) (rI (scR N)) (rI (seR N)) = some (nI 1, FT N) := by
  unfold pX4_keep
  rw [qX0_copy, ob]
  rfl
theorem qX4_giveBack {N M : Nat → Nat} : pX4_giveBack (nI (M 0)) (nI (M 1)) (nI (M 2)) (nI (M 3)) (nI (M 4)) (nI (M 5)) (nI (M 6)) (rI (exR M)) (rI (scR M)) (rI (seR M)) (nI (N 0)) (nI (N 1)) (nI (N 2)) (nI (N 3)) (nI (N 4)) (nI (N 5)) (nI (N 6)) (rI (exR N)) (rI (scR N)) (rI (seR N)) = some (FT M) := by
  unfold pX4_giveBack
  rw [qX0_copy, ob]
  rfl
theorem c_save (rf x : Int32) {t : Nat} {N F : Nat → Nat} {P K : Nat → Nat → Nat} (h : Inv t N) (hS : SL F P K) :
    (pX7_save (nI (F 0)) (nI (P 0 0)) (nI (P 0 1)) (nI (P 0 2)) (nI (P 0 3)) (nI (P 0 4)) (nI (P 0 5)) (nI (P 0 6)) (rI (exR (P 0))) (rI (scR (P 0))) (rI (seR (P 0))) (nI (F 1)) (nI (P 1 0)) (nI (P 1 1)) (nI (P 1 2)) (nI (P 1 3)) (nI (P 1 4)) (nI (P 1 5)) (nI (P 1 6)) (rI (exR (P 1))) (rI (scR (P 1))) (rI (seR (P 1))) (nI (N 0)) (nI (N 1)) (nI (N 2)) (nI (N 3)) (nI (N 4)) (nI (N 5)) (nI (N 6)) (rI (exR N)) (rI (scR N)) (rI (seR N)) x = some (.inl 2) ∧ pX8_save rf (rI N) (rI (kpN K)) (rI F) x = some (nI 0, nI 1, rI (kpN K), rI F)) ∨
    ∃ i v, i < 2 ∧ pX7_save (nI (F 0)) (nI (P 0 0)) (nI (P 0 1)) (nI (P 0 2)) (nI (P 0 3)) (nI (P 0 4)) (nI (P 0 5)) (nI (P 0 6)) (rI (exR (P 0))) (rI (scR (P 0))) (rI (seR (P 0))) (nI (F 1)) (nI (P 1 0)) (nI (P 1 1)) (nI (P 1 2)) (nI (P 1 3)) (nI (P 1 4)) (nI (P 1 5)) (nI (P 1 6)) (rI (exR (P 1))) (rI (scR (P 1))) (rI (seR (P 1))) (nI (N 0)) (nI (N 1)) (nI (N 2)) (nI (N 3)) (nI (N 4)) (nI (N 5)) (nI (N 6)) (rI (exR N)) (rI (scR N)) (rI (seR N)) x = some (.inr (v, nI (nset F i 1 0), nI (va_up P i N 0 0), nI (va_up P i N 0 1), nI (va_up P i N 0 2), nI (va_up P i N 0 3), nI (va_up P i N 0 4), nI (va_up P i N 0 5), nI (va_up P i N 0 6), rI (exR (va_up P i N 0)), rI (scR (va_up P i N 0)), rI (seR (va_up P i N 0)), nI (nset F i 1 1), nI (va_up P i N 1 0), nI (va_up P i N 1 1), nI (va_up P i N 1 2), nI (va_up P i N 1 3), nI (va_up P i N 1 4), nI (va_up P i N 1 5), nI (va_up P i N 1 6), rI (exR (va_up P i N 1)), rI (scR (va_up P i N 1)), rI (seR (va_up P i N 1)))) ∧ pX8_save rf (rI N) (rI (kpN K)) (rI F) x = some (v, nI 0, rI (kpN (va_up K i N)), rI (nset F i 1)) := by
  unfold pX7_save pX8_save pX8_save_16
  by_cases hx : ((0 : Nat) : Int) ≤ x.toInt ∧ x.toInt ≤ ((1 : Nat) : Int)
  · right
    have ⟨c1, c2⟩ := inC1 (A := 0) (B := 1) (by omega) (by omega) (by decide) (by decide) hx
    obtain ⟨i, hi, _, hi2⟩ := in_nat hx
    rw [hi] at c1 c2
    have w1 : pX8_copyState 164 (rI N) 328 (rI (kpN K)) (nI 0) (nI 164 * nI i) = some (rI (kpN (va_up K i N))) := by
      rw [zmul, qX8_copyState (by omega) (by omega) (by omega) (by omega), cpK_keep (by omega)]
    have w2 : nb (nI i) 2 = true := (znb (by omega)).mpr (by omega)
    have w3 : (nI i).toNatClampNeg = i := zcl (by omega)
    refine ⟨i, nI (shU N (N 1)), by omega, ?_, ?_⟩
    · rw [hi]
      have : i = 0 ∨ i = 1 := by omega
      rcases this with e | e
      · subst e
        simp only [c1, ob, rX1, eR, if_pos nI0, qX4_keep, qX0_shotScenes h]
        rfl
      · subst e
        simp only [c1, ob, rX1, eR, if_neg nI1, qX4_keep, qX0_shotScenes h]
        rfl
    · rw [hi]
      simp only [c2, ob, if_neg nI1, rf0, if_pos nI0, w1, if_pos w2, w3, qX8_shots h.sn, vb1, rI_upd]
  · left
    have ⟨c1, c2⟩ := inC0 (A := 0) (B := 1) (by omega) (by omega) (by decide) (by decide) hx
    refine ⟨?_, ?_⟩
    · simp only [c1, ob, rX0, eL]
    · simp only [c2, ob, if_pos nI0, rf1, if_neg nI1]
theorem SL_save {F N : Nat → Nat} {P K : Nat → Nat → Nat} {i : Nat} (h : SL F P K) : SL (nset F i 1) (va_up P i N) (va_up K i N) := by
  refine ⟨fun j => ?_, fun j hj hf => ?_⟩
  · unfold nset
    split
    · omega
    · exact h.1 j
  · by_cases e : j = i
    · subst e; rw [va_up_self, va_up_self]
    · rw [nset_ne _ _ e] at hf
      rw [va_up_ne _ _ e, va_up_ne _ _ e]
      exact h.2 j hj hf
theorem c_restore (rf x hc : Int32) {t : Nat} {N F : Nat → Nat} {P K : Nat → Nat → Nat} (ac : Int32) (h : Z164 N) (hS : SL F P K) (hK : ∀ i, i < 2 → F i = 1 → Inv t (K i)) :
    (pX7_restore hc (nI (F 0)) (nI (P 0 0)) (nI (P 0 1)) (nI (P 0 2)) (nI (P 0 3)) (nI (P 0 4)) (nI (P 0 5)) (nI (P 0 6)) (rI (exR (P 0))) (rI (scR (P 0))) (rI (seR (P 0))) (nI (F 1)) (nI (P 1 0)) (nI (P 1 1)) (nI (P 1 2)) (nI (P 1 3)) (nI (P 1 4)) (nI (P 1 5)) (nI (P 1 6)) (rI (exR (P 1))) (rI (scR (P 1))) (rI (seR (P 1))) (nI (N 0)) (nI (N 1)) (nI (N 2)) (nI (N 3)) (nI (N 4)) (nI (N 5)) (nI (N 6)) (rI (exR N)) (rI (scR N)) (rI (seR N)) x = some (.inl 2) ∧ pX8_restore rf ac (rI N) (rI (kpN K)) (rI F) x = some (nI 0, nI 1, ac, rI N)) ∨
    (pX7_restore hc (nI (F 0)) (nI (P 0 0)) (nI (P 0 1)) (nI (P 0 2)) (nI (P 0 3)) (nI (P 0 4)) (nI (P 0 5)) (nI (P 0 6)) (rI (exR (P 0))) (rI (scR (P 0))) (rI (seR (P 0))) (nI (F 1)) (nI (P 1 0)) (nI (P 1 1)) (nI (P 1 2)) (nI (P 1 3)) (nI (P 1 4)) (nI (P 1 5)) (nI (P 1 6)) (rI (exR (P 1))) (rI (scR (P 1))) (rI (seR (P 1))) (nI (N 0)) (nI (N 1)) (nI (N 2)) (nI (N 3)) (nI (N 4)) (nI (N 5)) (nI (N 6)) (rI (exR N)) (rI (scR N)) (rI (seR N)) x = some (.inl 1) ∧ pX8_restore rf ac (rI N) (rI (kpN K)) (rI F) x = some (nI 0, nI 2, ac, rI N)) ∨
    ∃ v N2, Inv t N2 ∧ pX7_restore hc (nI (F 0)) (nI (P 0 0)) (nI (P 0 1)) (nI (P 0 2)) (nI (P 0 3)) (nI (P 0 4)) (nI (P 0 5)) (nI (P 0 6)) (rI (exR (P 0))) (rI (scR (P 0))) (rI (seR (P 0))) (nI (F 1)) (nI (P 1 0)) (nI (P 1 1)) (nI (P 1 2)) (nI (P 1 3)) (nI (P 1 4)) (nI (P 1 5)) (nI (P 1 6)) (rI (exR (P 1))) (rI (scR (P 1))) (rI (seR (P 1))) (nI (N 0)) (nI (N 1)) (nI (N 2)) (nI (N 3)) (nI (N 4)) (nI (N 5)) (nI (N 6)) (rI (exR N)) (rI (scR N)) (rI (seR N)) x = some (.inr (v, nI 0, FT N2)) ∧ pX8_restore rf ac (rI N) (rI (kpN K)) (rI F) x = some (v, nI 0, nI 0, rI N2) := by
  unfold pX7_restore pX8_restore pX8_restore_29 pX1_forget pX4_isFilled
  rw [bzF (hS.1 0), bzF (hS.1 1)]
  by_cases hx : ((0 : Nat) : Int) ≤ x.toInt ∧ x.toInt ≤ ((1 : Nat) : Int)
  · right
    have ⟨c1, c2⟩ := inC1 (A := 0) (B := 1) (by omega) (by omega) (by decide) (by decide) hx
    obtain ⟨i, hi, _, hi2⟩ := in_nat hx
    rw [hi] at c1 c2
    have w2 : nb (nI i) 2 = true := (znb (by omega)).mpr (by omega)
    have w3 : (nI i).toNatClampNeg = i := zcl (by omega)
    by_cases hf : F i = 1
    · right
      have hk := hK i (by omega) hf
      have hp := hS.2 i (by omega) hf
      have w1 : pX8_copyState 328 (rI (kpN K)) 164 (rI N) (nI 164 * nI i) (nI 0) = some (rI (K i)) := by
        rw [zmul, qX8_copyState (by omega) (by omega) (by omega) (by omega), cpK_back (by omega) hk.bz h]
      have w4 : ¬ (rI F i = 0) := by rw [rI_at, hf]; exact nI1
      refine ⟨nI (shU (K i) (K i 1)), K i, hk, ?_, ?_⟩
      · rw [hi]
        have : i = 0 ∨ i = 1 := by omega
        rcases this with e | e
        · subst e
          rw [hp]
          simp only [c1, ob, rX1, eR, if_pos nI0, hf, rS1, qX4_giveBack, FT, qX0_shotScenes hk]
        · subst e
          rw [hp]
          simp only [c1, ob, rX1, eR, if_neg nI1, hf, rS1, qX4_giveBack, FT, qX0_shotScenes hk]
      · rw [hi]
        simp only [c2, ob, if_neg nI1, if_pos w2, w3, if_neg w4, rf0, if_pos nI0, w1, qX8_shots hk.sn]
    · left
      have hf0 : F i = 0 := by have := hS.1 i; omega
      have w4 : rI F i = 0 := by rw [rI_at, hf0]; exact nI0
      refine ⟨?_, ?_⟩
      · rw [hi]
        have : i = 0 ∨ i = 1 := by omega
        rcases this with e | e
        · subst e
          simp only [c1, ob, rX1, eR, if_pos nI0, hf0, rS0, eL]
        · subst e
          simp only [c1, ob, rX1, eR, if_neg nI1, hf0, rS0, eL]
      · rw [hi]
        simp only [c2, ob, if_neg nI1, if_pos w2, w3, if_pos w4, rf2]
  · left
    have ⟨c1, c2⟩ := inC0 (A := 0) (B := 1) (by omega) (by omega) (by decide) (by decide) hx
    refine ⟨?_, ?_⟩
    · simp only [c1, ob, rX0, eL]
    · simp only [c2, ob, if_pos nI0, rf1, if_neg nI1]
theorem c_load (rf hc ac sp ou f1 f2 : Int32) {N M T F : Nat → Nat} {L : Nat} (hN : Z164 N) (hM : Z164 M) (hT : TX T L) :
    (∃ u u2 M2, Z164 M2 ∧ pX7_load hc f1 f2 (nI (N 0)) (nI (N 1)) (nI (N 2)) (nI (N 3)) (nI (N 4)) (nI (N 5)) (nI (N 6)) (rI (exR N)) (rI (scR N)) (rI (seR N)) (nI L) (rI T) = some (.inl 1) ∧ pX8_load rf (nI L) ac sp ou (rI T) (rI N) (rI M) (rI F) = some (nI 0, nI 1, ac, u, u2, rI N, rI M2, rI F)) ∨
    ∃ v u u2 N2, Inv 121 N2 ∧ pX7_load hc f1 f2 (nI (N 0)) (nI (N 1)) (nI (N 2)) (nI (N 3)) (nI (N 4)) (nI (N 5)) (nI (N 6)) (rI (exR N)) (rI (scR N)) (rI (seR N)) (nI L) (rI T) = some (.inr (v, nI 0, nI 0, nI 0, FT N2)) ∧ pX8_load rf (nI L) ac sp ou (rI T) (rI N) (rI M) (rI F) = some (v, nI 0, nI 0, u, u2, rI N2, rI N2, rI (nset (nset F 0 0) 1 0)) := by
  obtain ⟨u, hu⟩ := qX8_readText sp ou hT.1 hT.2 hM
  have hI := rdT_inv T L
  have hf := qX6_firstError hT.1 hT.2
  have her := rdT_er T L
  have e2 : nb (nI 0) 2 = true := by decide
  have e3 : nb (nI 1) 2 = true := by decide
  have e4 : (nI 0).toNatClampNeg = 0 := by decide
  have e5 : (nI 1).toNatClampNeg = 1 := by decide
  unfold pX7_load pX7_load_16 pX8_load pX8_load_18 pX1_forget pX4_empty
  cases hq : erT T L with
  | none =>
    right
    rw [hq] at her hf
    rw [her] at hu
    have hm1 : oI none = -1 := rfl
    have h0 : L ≠ 0 ∧ T 0 = 70 := by
      unfold erT at hq
      by_cases a : L = 0
      · rw [if_pos a] at hq; cases hq
      · rw [if_neg a] at hq
        by_cases b : T 0 = 70
        · exact ⟨a, b⟩
        · rw [if_neg b] at hq; cases hq
    have hrd : rdT T L = rdL T L 121 1 0 N0 := by
      unfold rdT
      rw [if_neg h0.1, if_pos h0.2]
    have hno : (rdL T L (121 - 0) 1 0 N0).1 = none := by
      rw [show 121 - 0 = 121 from rfl, ← hrd]; exact her
    have w1 := qX7_load_53 (hc := nI 0) (f1 := nI 0) (f2 := nI 0) hT.1 hT.2 FU 0 0 1 0 N0 Inv_new (by omega) (by unfold FU; omega) (by omega) (by omega) (by omega) hno
    rw [show 121 - 0 = 121 from rfl, ← hrd] at w1
    refine ⟨nI (rdT T L).2.1, u, nI (rdT T L).2.1, (rdT T L).2.2, hI.1, ?_, ?_⟩
    · rw [hf, ob, if_pos hm1, rS1, ob, eR, qX0_startNew, ob, ob, ob, ob]
      exact w1
    · rw [hu, ob]
      dsimp only
      rw [if_pos hm1, rf0, ob]
      dsimp only
      rw [if_pos nI0, qX8_copyAll hI.1.bz hN, ob, if_pos e2, if_pos e3, e4, e5, vb0, rI_upd, rI_upd]
  | some q =>
    left
    rw [hq] at her hf
    rw [her] at hu
    have hqb : q < 2147483648 := by
      have go : ∀ k sp p, sp ≤ L + 1 → erL T L k sp = some p → p ≤ L := by
        intro k
        induction k with
        | zero => intro sp p _ h; cases h
        | succ k ih =>
          intro sp p hsp h
          rw [erL] at h
          by_cases c : L ≤ sp
          · rw [if_pos c] at h; cases h
          · rw [if_neg c] at h
            cases hc : cmdP T L sp with
            | mk a q2 =>
              rw [hc] at h
              have g := cmdP_le (by omega) hc
              cases a with
              | none => cases h; exact g.1
              | some vs => exact ih q2 p (by have := g.1; omega) h
      unfold erT at hq
      have hL := hT.2
      by_cases a : L = 0
      · rw [if_pos a] at hq; cases hq; omega
      · rw [if_neg a] at hq
        by_cases b : T 0 = 70
        · rw [if_pos b] at hq
          have := go 121 1 q (by omega) hq
          omega
        · rw [if_neg b] at hq; cases hq; omega
    have hm1 : ¬ (oI (some q) = -1) := fun h => (zm1 hqb).mp h
    refine ⟨u, nI (rdT T L).2.1, (rdT T L).2.2, hI.1.bz, ?_, ?_⟩
    · rw [hf, ob, if_neg hm1, rS0, ob, eL]
    · rw [hu, ob]
      dsimp only
      rw [if_neg hm1, rf1, ob]
      dsimp only
      rw [if_neg nI1]

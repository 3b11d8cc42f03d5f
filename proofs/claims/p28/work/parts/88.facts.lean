/-! ===== outcomes of the calls: text, facts ===== -/
theorem rf0 (rf : Int32) : pX8_refused rf (nI 0) = some (nI 0, nI 0) := by
  unfold pX8_refused pX8_refused_14
  rw [if_pos (by decide), bz0, ob]
theorem rf1 (rf : Int32) : pX8_refused rf (nI 1) = some (nI 1, nI 1) := by
  unfold pX8_refused pX8_refused_14
  rw [if_neg (by decide), bz1, ob]
theorem rf2 (rf : Int32) : pX8_refused rf (nI 2) = some (nI 1, nI 2) := by
  unfold pX8_refused pX8_refused_14
  rw [if_neg (by decide), bz1, ob]
theorem rA1 : pX7_requireArgument (nI 1) = some (.inr ()) := by unfold pX7_requireArgument; rw [if_neg nI1]
theorem rA0 : pX7_requireArgument (nI 0) = some (.inl 0) := by unfold pX7_requireArgument; rw [if_pos nI0]
theorem rS1 : pX7_requireState (nI 1) = some (.inr ()) := by unfold pX7_requireState; rw [if_neg nI1]
theorem rS0 : pX7_requireState (nI 0) = some (.inl 1) := by unfold pX7_requireState; rw [if_pos nI0]
theorem rX1 : pX7_requireIndex (nI 1) = some (.inr ()) := by unfold pX7_requireIndex; rw [if_neg nI1]
theorem rX0 : pX7_requireIndex (nI 0) = some (.inl 2) := by unfold pX7_requireIndex; rw [if_pos nI0]
theorem eL {α β γ : Type} (f : α → γ) (g : β → γ) (a : α) : Sum.elim f g (.inl a) = f a := rfl
theorem eR {α β γ : Type} (f : α → γ) (g : β → γ) (b : β) : Sum.elim f g (.inr b) = g b := rfl
/-- is it an extra, a scene -/
def isE (N : Nat → Nat) (x : Int32) : Prop := 0 ≤ x.toInt ∧ x.toInt < (N 0 : Int)
def isS (N : Nat → Nat) (x : Int32) : Prop := 0 ≤ x.toInt ∧ x.toInt < (N 1 : Int)
theorem isE_nat {N : Nat → Nat} {x : Int32} (h : isE N x) : ∃ e, x = nI e ∧ e < N 0 := ⟨x.toInt.toNat, i32nat h.1, by have := h.1; have := h.2; omega⟩
theorem isS_nat {N : Nat → Nat} {x : Int32} (h : isS N x) : ∃ s, x = nI s ∧ s < N 1 := ⟨x.toInt.toNat, i32nat h.1, by have := h.1; have := h.2; omega⟩
theorem qX8_isE1 {N : Nat → Nat} {x : Int32} (hN : N 0 ≤ 14) (h : isE N x) : pX8_isExtra (rI N) x = some (nI 1) := by rw [qX8_isExtra _ hN, if_pos (c := 0 ≤ x.toInt ∧ x.toInt < (N 0 : Int)) h]
theorem qX8_isE0 {N : Nat → Nat} {x : Int32} (hN : N 0 ≤ 14) (h : ¬ isE N x) : pX8_isExtra (rI N) x = some (nI 0) := by rw [qX8_isExtra _ hN, if_neg (c := 0 ≤ x.toInt ∧ x.toInt < (N 0 : Int)) h]
theorem qX8_isS1 {N : Nat → Nat} {x : Int32} (hN : N 1 ≤ 10) (h : isS N x) : pX8_isScene (rI N) x = some (nI 1) := by rw [qX8_isScene _ hN, if_pos (c := 0 ≤ x.toInt ∧ x.toInt < (N 1 : Int)) h]
theorem qX8_isS0 {N : Nat → Nat} {x : Int32} (hN : N 1 ≤ 10) (h : ¬ isS N x) : pX8_isScene (rI N) x = some (nI 0) := by rw [qX8_isScene _ hN, if_neg (c := 0 ≤ x.toInt ∧ x.toInt < (N 1 : Int)) h]
theorem qX7_reqE1 {N : Nat → Nat} {x : Int32} (hN : N 0 ≤ 14) (h : isE N x) : pX7_requireExtra (nI (N 0)) x = some (.inr ()) := by
  unfold pX7_requireExtra
  rw [qX0_isExtra _ hN, if_pos (c := 0 ≤ x.toInt ∧ x.toInt < (N 0 : Int)) h, ob, rX1, ob, eR]
theorem qX7_reqE0 {N : Nat → Nat} {x : Int32} (hN : N 0 ≤ 14) (h : ¬ isE N x) : pX7_requireExtra (nI (N 0)) x = some (.inl 2) := by
  unfold pX7_requireExtra
  rw [qX0_isExtra _ hN, if_neg (c := 0 ≤ x.toInt ∧ x.toInt < (N 0 : Int)) h, ob, rX0, ob, eL]
theorem qX7_reqS1 {N : Nat → Nat} {x : Int32} (hN : N 1 ≤ 10) (h : isS N x) : pX7_requireScene (nI (N 1)) x = some (.inr ()) := by
  unfold pX7_requireScene
  rw [qX0_isScene _ hN, if_pos (c := 0 ≤ x.toInt ∧ x.toInt < (N 1 : Int)) h, ob, rX1, ob, eR]
theorem qX7_reqS0 {N : Nat → Nat} {x : Int32} (hN : N 1 ≤ 10) (h : ¬ isS N x) : pX7_requireScene (nI (N 1)) x = some (.inl 2) := by
  unfold pX7_requireScene
  rw [qX0_isScene _ hN, if_neg (c := 0 ≤ x.toInt ∧ x.toInt < (N 1 : Int)) h, ob, rX0, ob, eL]
/-- the range test of both sides -/
theorem inC1 {x : Int32} {a b : Nat} {A B : Int64} (ha : a < 100000) (hb : b < 100000) (hA : A.toInt = (a : Int)) (hB : B.toInt = (b : Int)) (h : (a : Int) ≤ x.toInt ∧ x.toInt ≤ (b : Int)) : pX7_isIn x (nI a) (nI b) = some (nI 1) ∧ pX8_in x.toInt64 A B = some (nI 1) := by
  rw [qX7_isInN ha hb, inI hA hB, if_pos h]; exact ⟨rfl, rfl⟩
theorem inC0 {x : Int32} {a b : Nat} {A B : Int64} (ha : a < 100000) (hb : b < 100000) (hA : A.toInt = (a : Int)) (hB : B.toInt = (b : Int)) (h : ¬ ((a : Int) ≤ x.toInt ∧ x.toInt ≤ (b : Int))) : pX7_isIn x (nI a) (nI b) = some (nI 0) ∧ pX8_in x.toInt64 A B = some (nI 0) := by
  rw [qX7_isInN ha hb, inI hA hB, if_neg h]; exact ⟨rfl, rfl⟩
theorem in_nat {x : Int32} {a b : Nat} (h : (a : Int) ≤ x.toInt ∧ x.toInt ≤ (b : Int)) : ∃ n, x = nI n ∧ a ≤ n ∧ n ≤ b := ⟨x.toInt.toNat, i32nat (by omega), by omega, by omega⟩
/-- the text -/
def TX (T : Nat → Nat) (L : Nat) : Prop := (∀ j, T j < 1000) ∧ L ≤ 120
theorem c_append (rf x : Int32) {T : Nat → Nat} {L : Nat} (hT : TX T L) :
    (pX7_append (nI L) (rI T) x = some (.inl 0) ∧ pX8_append rf (nI L) (rI T) x = some (nI 0, nI 1, nI L, rI T)) ∨
    (pX7_append (nI L) (rI T) x = some (.inl 1) ∧ pX8_append rf (nI L) (rI T) x = some (nI 0, nI 2, nI L, rI T)) ∨
    ∃ T2 L2, TX T2 L2 ∧ pX7_append (nI L) (rI T) x = some (.inr (nI L2, nI L2, rI T2)) ∧ pX8_append rf (nI L) (rI T) x = some (nI L2, nI 0, nI L2, rI T2) := by
  obtain ⟨h1, h2⟩ := hT
  unfold pX7_append pX7_append_28 pX8_append pX8_append_31 pX6_size pX6_addCharacter pX6_addCharacter_32
  by_cases hx : ((0 : Nat) : Int) ≤ x.toInt ∧ x.toInt ≤ ((255 : Nat) : Int)
  · have ⟨c1, c2⟩ := inC1 (A := 0) (B := 255) (by omega) (by omega) (by decide) (by decide) hx
    obtain ⟨c, hc, _, hc2⟩ := in_nat hx
    simp only [c1, c2, ob, rA1, eR, if_neg nI1]
    by_cases hL : L = 120
    · right; left
      have e1 : nI 120 ≤ nI L := (zle (by omega) (by omega)).mpr (by omega)
      have e2 : nI L = nI 120 := (zeq (by omega) (by omega)).mpr hL
      simp only [if_pos e1, if_pos e2, rS0, ob, eL, rf2, if_neg nI1]
      exact ⟨trivial, trivial⟩
    · right; right
      refine ⟨nset T L c, L + 1, ⟨fun j => ?_, by omega⟩, ?_⟩
      · unfold nset; split
        · omega
        · exact h1 j
      · have e1 : ¬ (nI 120 ≤ nI L) := fun h => by have := (zle (by omega) (by omega)).mp h; omega
        have e2 : ¬ (nI L = nI 120) := fun h => hL ((zeq (by omega) (by omega)).mp h)
        have e3 : nb (nI L) 120 = true := (znb (by omega)).mpr (by omega)
        have e4 : pX5_put (nI 120) 120 (rI T) (nI 0) (nI L) (nI c) = some (rI (nset T L c)) := by
          rw [qX5_put (by omega) (by omega) (by omega) (by omega), rI_upd, show 0 * 120 + L = L from by omega]
        have e5 : (nI L).toNatClampNeg = L := zcl (by omega)
        simp only [if_neg e1, if_neg e2, hc, e4, rS1, ob, eR, rf0, if_pos nI0, if_pos e3, e5, rI_upd, zadd]
        exact ⟨trivial, trivial⟩
  · left
    have ⟨c1, c2⟩ := inC0 (A := 0) (B := 255) (by omega) (by omega) (by decide) (by decide) hx
    simp only [c1, c2, ob, rA0, eL, if_pos nI0, rf1, if_neg nI1]
    exact ⟨trivial, trivial⟩
theorem c_clearText (rf : Int32) {L : Nat} : pX7_clearText (nI L) = some (nI L, nI 0) ∧ pX8_clearText rf (nI L) = some (nI L, nI 0, nI 0) := by
  unfold pX7_clearText pX6_empty pX8_clearText
  exact ⟨rfl, rfl⟩
theorem c_errorPosition (rf sp ou : Int32) {T M : Nat → Nat} {L : Nat} (hT : TX T L) (hM : Z164 M) : ∃ v u u2 M2, Z164 M2 ∧ pX7_errorPosition (nI L) (rI T) = some v ∧ pX8_errorPosition rf (nI L) sp ou (rI T) (rI M) = some (v, nI 0, u, u2, rI M2) := by
  obtain ⟨u, hu⟩ := qX8_readText sp ou hT.1 hT.2 hM
  refine ⟨oI (erT T L), u, nI (rdT T L).2.1, (rdT T L).2.2, (rdT_inv T L).1.bz, ?_, ?_⟩
  · unfold pX7_errorPosition
    rw [qX6_firstError hT.1 hT.2, ob]
  · unfold pX8_errorPosition
    rw [hu, ob, rdT_er]
theorem c_setting (rf x : Int32) {t : Nat} {N : Nat → Nat} (h : Inv t N) :
    (pX7_setting (rI (seR N)) x = some (.inl 0) ∧ pX8_setting rf (rI N) x = some (nI 0, nI 1)) ∨
    ∃ v, pX7_setting (rI (seR N)) x = some (.inr v) ∧ pX8_setting rf (rI N) x = some (v, nI 0) := by
  unfold pX7_setting pX8_setting pX8_setting_18
  by_cases hx : ((0 : Nat) : Int) ≤ x.toInt ∧ x.toInt ≤ ((2 : Nat) : Int)
  · right
    have ⟨c1, c2⟩ := inC1 (A := 0) (B := 2) (by omega) (by omega) (by decide) (by decide) hx
    obtain ⟨c, hc, _, hc2⟩ := in_nat hx
    rw [c1, c2, ob, ob, rA1, ob, eR, if_neg nI1, hc, qX0_valueOf (by omega), ob, rf0, ob, if_pos nI0, zadd, if_pos ((znb (by omega)).mpr (by omega)), zcl (by omega), rI_at]
    exact ⟨_, rfl, rfl⟩
  · left
    have ⟨c1, c2⟩ := inC0 (A := 0) (B := 2) (by omega) (by omega) (by decide) (by decide) hx
    rw [c1, c2, ob, ob, rA0, ob, eL, if_pos nI0, rf1, ob, if_neg nI1]
    exact ⟨rfl, rfl⟩
theorem c_lacks (rf x : Int32) {t : Nat} {N : Nat → Nat} (h : Inv t N) (ht : t ≤ 10000) :
    (pX7_lacks (nI (N 0)) (nI (N 1)) (rI (exR N)) (rI (scR N)) (rI (seR N)) x = some (.inl 2) ∧ pX8_lacks rf (rI N) x = some (nI 0, nI 1)) ∨
    ∃ v, pX7_lacks (nI (N 0)) (nI (N 1)) (rI (exR N)) (rI (scR N)) (rI (seR N)) x = some (.inr v) ∧ pX8_lacks rf (rI N) x = some (v, nI 0) := by
  have h1 := h.sn
  unfold pX7_lacks pX8_lacks pX8_lacks_17
  by_cases hx : isS N x
  · right
    rw [qX7_reqS1 h1 hx, qX8_isS1 h1 hx, ob, ob, eR, if_neg nI1, rf0, ob, if_pos nI0]
    obtain ⟨s, hs, hs2⟩ := isS_nat hx
    have hw := (h.sc s (by omega)).2.1
    have hc := chN_lt (s := s) (h.sm ht)
    unfold pX0_lackOf
    rw [hs, gS (by omega) (by omega), ob, qX0_chosenCrowd h ht (by omega), ob, qJ6_bitCount hc, ob, ob, qX8_lacking (h.sm ht) (by omega) (by omega), ob]
    exact ⟨_, rfl, rfl⟩
  · left
    rw [qX7_reqS0 h1 hx, qX8_isS0 h1 hx, ob, ob, eL, if_pos nI0, rf1, ob, if_neg nI1]
    exact ⟨rfl, rfl⟩
theorem c_about (rf x : Int32) {t : Nat} {N : Nat → Nat} (h : Inv t N) (ht : t ≤ 10000) :
    (pX7_about (nI (N 0)) (nI (N 1)) (nI (N 2)) (nI (N 3)) (nI (N 4)) (nI (N 5)) (nI (N 6)) (rI (exR N)) (rI (scR N)) x = some (.inl 0) ∧ pX8_about rf (rI N) x = some (nI 0, nI 1)) ∨
    ∃ v, pX7_about (nI (N 0)) (nI (N 1)) (nI (N 2)) (nI (N 3)) (nI (N 4)) (nI (N 5)) (nI (N 6)) (rI (exR N)) (rI (scR N)) x = some (.inr v) ∧ pX8_about rf (rI N) x = some (v, nI 0) := by
  have hS := h.sm ht
  unfold pX7_about pX8_about pX8_about_18
  by_cases hx : ((0 : Nat) : Int) ≤ x.toInt ∧ x.toInt ≤ ((8 : Nat) : Int)
  · right
    have ⟨c1, c2⟩ := inC1 (A := 0) (B := 8) (by omega) (by omega) (by decide) (by decide) hx
    obtain ⟨c, hc, _, hc2⟩ := in_nat hx
    rw [c1, c2, ob, ob, rA1, ob, eR, if_neg nI1, hc, rf0, ob, if_pos nI0]
    unfold pX0_total pX8_about_76 pX8_about_105
    have kk : ∀ n, n < 1000 → c ≠ n → ¬ (nI c = nI n) := fun n hn h1 h2 => h1 ((zeq (by omega) (by omega)).mp h2)
    dsimp only
    have tot : c = 0 ∨ c = 1 ∨ c = 2 ∨ c = 3 ∨ c = 4 ∨ c = 5 ∨ c = 6 ∨ c = 7 ∨ c = 8 := by omega
    have low : ∀ k, 3 ≤ k → k ≤ 7 → (if nb (nI k - nI 1) 164 = true then some (rI N (nI k - nI 1).toNatClampNeg, nI 0) else none) = some (nI (N (k - 1)), nI 0) := by
      intro k h1 h2
      rw [zsub (by omega), if_pos ((znb (by omega)).mpr (by omega)), zcl (by omega), rI_at]
    rcases tot with e | e | e | e | e | e | e | e | e
    · subst e
      exact ⟨nI (N 0), rfl, rfl⟩
    · subst e
      exact ⟨nI (N 1), rfl, rfl⟩
    · subst e
      rw [if_neg (kk 0 (by omega) (by omega)), if_neg (kk 1 (by omega) (by omega)), if_pos (c := nI 2 = nI 2) rfl, qX0_shotScenes h, ob, ob, if_neg (kk 0 (by omega) (by omega)), if_neg (kk 1 (by omega) (by omega)), if_pos (c := nI 2 = nI 2) rfl, qX8_shots h.sn, ob]
      exact ⟨_, rfl, rfl⟩
    · subst e
      refine ⟨nI (N 2), rfl, ?_⟩
      rw [if_neg (kk 0 (by omega) (by omega)), if_neg (kk 1 (by omega) (by omega)), if_neg (kk 2 (by omega) (by omega)), if_neg (kk 8 (by omega) (by omega)), low 3 (by omega) (by omega)]
    · subst e
      refine ⟨nI (N 3), rfl, ?_⟩
      rw [if_neg (kk 0 (by omega) (by omega)), if_neg (kk 1 (by omega) (by omega)), if_neg (kk 2 (by omega) (by omega)), if_neg (kk 8 (by omega) (by omega)), low 4 (by omega) (by omega)]
    · subst e
      refine ⟨nI (N 4), rfl, ?_⟩
      rw [if_neg (kk 0 (by omega) (by omega)), if_neg (kk 1 (by omega) (by omega)), if_neg (kk 2 (by omega) (by omega)), if_neg (kk 8 (by omega) (by omega)), low 5 (by omega) (by omega)]
    · subst e
      refine ⟨nI (N 5), rfl, ?_⟩
      rw [if_neg (kk 0 (by omega) (by omega)), if_neg (kk 1 (by omega) (by omega)), if_neg (kk 2 (by omega) (by omega)), if_neg (kk 8 (by omega) (by omega)), low 6 (by omega) (by omega)]
    · subst e
      refine ⟨nI (N 6), rfl, ?_⟩
      rw [if_neg (kk 0 (by omega) (by omega)), if_neg (kk 1 (by omega) (by omega)), if_neg (kk 2 (by omega) (by omega)), if_neg (kk 8 (by omega) (by omega)), low 7 (by omega) (by omega)]
    · subst e
      have hf := fcsU_lt (c := 16383) hS.2.2.2.1 (N 0) hS.2.1
      have h16 : ∀ e, e < 14 → (16383 : Nat).testBit e = true := by decide
      have hfe : fcsP N (fun _ => true) (N 0) = fcsU N 16383 (N 0) := by
        rw [← fcsP_U]
        exact fcsP_congr N (N 0) (fun k hk => (h16 k (by have := h.ec; omega)).symm)
      rw [if_neg (kk 0 (by omega) (by omega)), if_neg (kk 1 (by omega) (by omega)), if_neg (kk 2 (by omega) (by omega)), if_neg (kk 3 (by omega) (by omega)), if_neg (kk 4 (by omega) (by omega)), if_neg (kk 5 (by omega) (by omega)), if_neg (kk 6 (by omega) (by omega)), if_neg (kk 7 (by omega) (by omega)), qX0_facesOf (P := fun _ => true) hS.2.1 hS.2.2.2.1 (fun e he => m1bit (by omega)), ob, hfe, qJ6_bitCount hf, ob, ob]
      rw [if_neg (kk 0 (by omega) (by omega)), if_neg (kk 1 (by omega) (by omega)), if_neg (kk 2 (by omega) (by omega)), if_pos (c := nI 8 = nI 8) rfl, qX8_facesOf hS.2.1 hS.2.2.2.1 (by omega), ob, qX8_bits (by omega), ob]
      exact ⟨_, rfl, rfl⟩
  · left
    have ⟨c1, c2⟩ := inC0 (A := 0) (B := 8) (by omega) (by omega) (by decide) (by decide) hx
    rw [c1, c2, ob, ob, rA0, ob, eL, if_pos nI0, rf1, ob, if_neg nI1]
    exact ⟨rfl, rfl⟩

/-! ===== the class's tables, sets of extras ===== -/
theorem and1 (y : Int32) : y &&& nI 1 = nI (if y.toBitVec.getLsbD 0 = true then 1 else 0) := by
  apply eqbit
  intro k hk
  rw [andbit, nIbit _ hk, nIbit _ hk]
  cases k with
  | zero =>
    by_cases h : y.toBitVec.getLsbD 0 = true
    · rw [if_pos h, h]; rfl
    · rw [if_neg h, show y.toBitVec.getLsbD 0 = false from by simpa using h]; rfl
  | succ k =>
    have h1 : (1 : Nat).testBit (k + 1) = false := Nat.testBit_lt_two_pow (Nat.one_lt_two_pow (by omega))
    rw [h1, Bool.and_false]
    split
    · exact h1.symm
    · exact (Nat.zero_testBit _).symm
theorem shrbit (x : Int32) {k : Nat} (hk : k < 31) : (x >>> (nI k &&& 31)).toBitVec.getLsbD 0 = x.toBitVec.getLsbD k := by
  have hs : ((nI k &&& 31).toBitVec.smod 32).toNat = k := by
    rw [zsh (by omega)]
    have : ∀ k, k < 31 → ((nI k).toBitVec.smod 32).toNat = k := by decide +kernel
    exact this k hk
  rw [Int32.toBitVec_shiftRight, BitVec.sshiftRight_eq', hs, BitVec.getLsbD_sshiftRight]
  simp
  omega
theorem hasbit (x : Int32) {k : Nat} (hk : k < 31) : ((x >>> (nI k &&& 31)) &&& nI 1 = nI 1) ↔ x.toBitVec.getLsbD k = true := by
  rw [and1, shrbit x hk]
  by_cases h : x.toBitVec.getLsbD k = true
  · rw [if_pos h]; simp [h]
  · rw [if_neg h]
    exact ⟨fun h2 => absurd h2 (by decide), fun h2 => absurd h2 h⟩
theorem qX7_has (x : Int32) {k : Nat} (hk : k < 31) : pX7_has x (nI k) = some (nI (if x.toBitVec.getLsbD k = true then 1 else 0)) := by
  unfold pX7_has pX7_has_14
  simp only [hasbit x hk]
  by_cases h : x.toBitVec.getLsbD k = true
  · rw [if_pos h, if_pos h]; rfl
  · rw [if_neg h, if_neg h]; rfl
theorem qX5_get {w n k c : Nat} {f : Nat → Int32} (hc : c < w) (hn : k * w + c < n) (hw : w < 100000) (hn2 : n < 100000) : pX5_get (nI w) n f (nI k) (nI c) = some (f (k * w + c)) := by
  unfold pX5_get pX5_get_44
  rw [if_neg (fun h => (zlt0 (by omega)).mp h), if_neg (fun h => by have := (zle (by omega) (by omega)).mp h; omega), zmul, zadd, if_neg (fun h => (zlt0 (by omega)).mp h), zof, if_neg (fun h => by have := (zle (by omega) (by omega)).mp h; omega), if_pos ((znb (by omega)).mpr hn), zcl (by omega)]
theorem qX5_put {w n k c : Nat} {f : Nat → Int32} {x : Int32} (hc : c < w) (hn : k * w + c < n) (hw : w < 100000) (hn2 : n < 100000) : pX5_put (nI w) n f (nI k) (nI c) x = some (upd f (k * w + c) x) := by
  unfold pX5_put pX5_put_45
  rw [if_neg (fun h => (zlt0 (by omega)).mp h), if_neg (fun h => by have := (zle (by omega) (by omega)).mp h; omega), zmul, zadd, if_neg (fun h => (zlt0 (by omega)).mp h), zof, if_neg (fun h => by have := (zle (by omega) (by omega)).mp h; omega), if_pos ((znb (by omega)).mpr hn), zcl (by omega)]
theorem qX5_add {w n k c x : Nat} {F : Nat → Nat} (hc : c < w) (hn : k * w + c < n) (hw : w < 100000) (hn2 : n < 100000) : pX5_add (nI w) n (rI F) (nI k) (nI c) (nI x) = some (rI (nset F (k * w + c) (F (k * w + c) + x))) := by
  unfold pX5_add
  rw [qX5_get hc hn hw hn2, ob, qX5_put hc hn hw hn2, ob, rI_at, zadd, rI_upd]
theorem setU_yes {P : Nat → Bool} {n : Nat} (h : P n = true) : setU P (n + 1) = setU P n ||| 2 ^ n := by rw [setU, if_pos h]
theorem setU_no {P : Nat → Bool} {n : Nat} (h : P n = false) : setU P (n + 1) = setU P n := by rw [setU, h, if_neg (by decide), Nat.or_zero]
/-- the class's tables, read out of the row -/
def exR (N : Nat → Nat) : Nat → Nat := fun j => if j < 84 then N (10 + 6 * (j % 14) + j / 14) else 0
def scR (N : Nat → Nat) : Nat → Nat := fun j => if j < 60 then N (94 + 7 * (j % 10) + (if j / 10 = 5 then 6 else j / 10)) else 0
def seR (N : Nat → Nat) : Nat → Nat := fun j => if j < 3 then N (7 + j) else 0
theorem exR_at (N : Nat → Nat) {k e : Nat} (hk : k < 6) (he : e < 14) : exR N (k * 14 + e) = N (10 + 6 * e + k) := by
  unfold exR
  rw [if_pos (by omega), show (k * 14 + e) % 14 = e from by omega, show (k * 14 + e) / 14 = k from by omega]
theorem scR_at (N : Nat → Nat) {k s : Nat} (hk : k < 5) (hs : s < 10) : scR N (k * 10 + s) = N (94 + 7 * s + k) := by
  unfold scR
  rw [if_pos (by omega), show (k * 10 + s) % 10 = s from by omega, show (k * 10 + s) / 10 = k from by omega, if_neg (by omega)]
theorem scR_cr (N : Nat → Nat) {s : Nat} (hs : s < 10) : scR N (5 * 10 + s) = N (94 + 7 * s + 6) := by
  unfold scR
  rw [if_pos (by omega), show (5 * 10 + s) % 10 = s from by omega, show (5 * 10 + s) / 10 = 5 from by omega, if_pos rfl]
theorem seR_at (N : Nat → Nat) {k : Nat} (hk : k < 3) : seR N (k * 1 + 0) = N (7 + k) := by
  unfold seR
  rw [if_pos (by omega), show k * 1 + 0 = k from by omega]
theorem gE {N : Nat → Nat} {k e : Nat} (hk : k < 6) (he : e < 14) : pX5_get (nI 14) 84 (rI (exR N)) (nI k) (nI e) = some (nI (N (10 + 6 * e + k))) := by
  rw [qX5_get he (by omega) (by omega) (by omega), rI_at, exR_at N hk he]
theorem gS {N : Nat → Nat} {k s : Nat} (hk : k < 5) (hs : s < 10) : pX5_get (nI 10) 60 (rI (scR N)) (nI k) (nI s) = some (nI (N (94 + 7 * s + k))) := by
  rw [qX5_get hs (by omega) (by omega) (by omega), rI_at, scR_at N hk hs]
theorem gC {N : Nat → Nat} {s : Nat} (hs : s < 10) : pX5_get (nI 10) 60 (rI (scR N)) (nI 5) (nI s) = some (nI (N (94 + 7 * s + 6))) := by
  rw [qX5_get hs (by omega) (by omega) (by omega), rI_at, scR_cr N hs]
theorem gT {N : Nat → Nat} {k : Nat} (hk : k < 3) : pX5_get (nI 1) 3 (rI (seR N)) (nI k) (nI 0) = some (nI (N (7 + k))) := by
  rw [qX5_get (by omega) (by omega) (by omega) (by omega), rI_at, seR_at N hk]
theorem qX0_crowdOf {N : Nat → Nat} {s : Nat} (hs : s < 10) : pX0_crowdOf (rI (scR N)) (nI s) = some (nI (N (94 + 7 * s + 6))) := by
  unfold pX0_crowdOf
  rw [gC hs, ob]
/-- the faces of the extras below n with P -/
def fcsP (N : Nat → Nat) (P : Nat → Bool) : Nat → Nat
  | 0 => 0
  | n + 1 => fcsP N P n ||| (if P n then 2 ^ N (10 + 6 * n + 1) else 0)
theorem fcsP_U (N : Nat → Nat) (c : Nat) : ∀ n, fcsP N (fun e => c.testBit e) n = fcsU N c n := by
  intro n
  induction n with
  | zero => rfl
  | succ n ih => unfold fcsP fcsU; rw [ih]
theorem fcsP_congr (N : Nat → Nat) {P Q : Nat → Bool} : ∀ n, (∀ k, k < n → P k = Q k) → fcsP N P n = fcsP N Q n := by
  intro n
  induction n with
  | zero => intro _; rfl
  | succ n ih => intro h; unfold fcsP; rw [ih (fun k hk => h k (by omega)), h n (by omega)]
theorem fcsP_bit (N : Nat → Nat) (P : Nat → Bool) (f : Nat) : ∀ n, (fcsP N P n).testBit f = true ↔ ∃ e, e < n ∧ P e = true ∧ N (10 + 6 * e + 1) = f := by
  intro n
  induction n with
  | zero => unfold fcsP; rw [Nat.zero_testBit]; exact ⟨fun h => absurd h (by decide), fun ⟨e, h, _⟩ => absurd h (by omega)⟩
  | succ n ih =>
    unfold fcsP
    rw [Nat.testBit_or, Bool.or_eq_true, ih]
    constructor
    · rintro (⟨e, h1, h2, h3⟩ | h)
      · exact ⟨e, by omega, h2, h3⟩
      · by_cases hP : P n = true
        · rw [if_pos hP, Nat.testBit_two_pow] at h
          exact ⟨n, by omega, hP, of_decide_eq_true h⟩
        · rw [if_neg hP, Nat.zero_testBit] at h; cases h
    · rintro ⟨e, h1, h2, h3⟩
      by_cases he : e = n
      · subst he
        right
        rw [if_pos h2, Nat.testBit_two_pow, h3, decide_eq_true rfl]
      · exact Or.inl ⟨e, by omega, h2, h3⟩
theorem fcsP_lt {N : Nat → Nat} {P : Nat → Bool} (hf : ∀ e, e < 14 → N (10 + 6 * e + 1) < 14) : ∀ n, n ≤ 14 → fcsP N P n < 16384 := by
  intro n
  induction n with
  | zero => intro _; simp [fcsP]
  | succ n ih =>
    intro hn
    unfold fcsP
    refine or14 (ih (by omega)) ?_
    split
    · exact pw14 (hf n (by omega))
    · omega
theorem qX0_facesOf_4 {N : Nat → Nat} {P : Nat → Bool} {x : Int32} (hN : N 0 ≤ 14) (hf : ∀ e, e < 14 → N (10 + 6 * e + 1) < 14) (hP : ∀ e, e < 14 → x.toBitVec.getLsbD e = P e) : ∀ (k e : Nat), e ≤ N 0 → N 0 - e < k → pX0_facesOf_4 k (nI (N 0)) (rI (exR N)) x (nI (fcsP N P e)) (nI e) = some (nI (fcsP N P (N 0))) := by
  intro k
  induction k with
  | zero => intro e h1 h2; omega
  | succ k ih =>
    intro e h1 h2
    rw [pX0_facesOf_4_s]
    by_cases he : N 0 ≤ e
    · rw [if_pos ((zle (by omega) (by omega)).mpr he), show e = N 0 from by omega]
    · have hfe := hf e (by omega)
      have h3 := ih (e + 1) (by omega) (by omega)
      rw [if_neg (fun h => he ((zle (by omega) (by omega)).mp h)), qX7_has x (by omega), ob, hP e (by omega)]
      unfold pX0_facesOf_34
      by_cases hb : P e = true
      · rw [if_pos hb, if_neg (by rw [zeq0 (by decide)]; decide), gE (by omega) (by omega), ob, zshl (by omega), Nat.one_mul, zor, zadd]
        rw [show fcsP N P (e + 1) = fcsP N P e ||| 2 ^ N (10 + 6 * e + 1) from by simp [fcsP, hb]] at h3
        exact h3
      · rw [if_neg hb, if_pos (by rw [zeq0 (by decide)]), zadd]
        rw [show fcsP N P (e + 1) = fcsP N P e from by simp [fcsP, hb]] at h3
        exact h3
theorem qX0_facesOf {N : Nat → Nat} {P : Nat → Bool} {x : Int32} (hN : N 0 ≤ 14) (hf : ∀ e, e < 14 → N (10 + 6 * e + 1) < 14) (hP : ∀ e, e < 14 → x.toBitVec.getLsbD e = P e) : pX0_facesOf (nI (N 0)) (rI (exR N)) x = some (nI (fcsP N P (N 0))) :=
  qX0_facesOf_4 hN hf hP FU 0 (by omega) (by unfold FU; omega)
theorem qX0_facesN {N : Nat → Nat} (c : Nat) (hN : N 0 ≤ 14) (hf : ∀ e, e < 14 → N (10 + 6 * e + 1) < 14) : pX0_facesOf (nI (N 0)) (rI (exR N)) (nI c) = some (nI (fcsU N c (N 0))) := by
  rw [qX0_facesOf (P := fun e => c.testBit e) hN hf (fun e he => nIbit c (by omega)), fcsP_U]
theorem qX0_withFaces_5 {N : Nat → Nat} {P Q : Nat → Bool} {x y : Int32} (hN : N 0 ≤ 14) (hf : ∀ e, e < 14 → N (10 + 6 * e + 1) < 14) (hP : ∀ e, e < 14 → x.toBitVec.getLsbD e = P e) (hQ : ∀ e, e < 14 → y.toBitVec.getLsbD e = Q e) : ∀ (k e : Nat), e ≤ N 0 → N 0 - e < k → pX0_withFaces_5 k (nI (N 0)) (rI (exR N)) x y (nI (setU (fun e => P e && Q (N (10 + 6 * e + 1))) e)) (nI e) = some (nI (setU (fun e => P e && Q (N (10 + 6 * e + 1))) (N 0))) := by
  intro k
  induction k with
  | zero => intro e h1 h2; omega
  | succ k ih =>
    intro e h1 h2
    rw [pX0_withFaces_5_s]
    by_cases he : N 0 ≤ e
    · rw [if_pos ((zle (by omega) (by omega)).mpr he), show e = N 0 from by omega]
    · have hfe := hf e (by omega)
      have h3 := ih (e + 1) (by omega) (by omega)
      rw [if_neg (fun h => he ((zle (by omega) (by omega)).mp h)), qX7_has x (by omega), ob, hP e (by omega)]
      unfold pX0_withFaces_47
      by_cases hb : P e = true
      · rw [if_pos hb, if_neg (by rw [zeq0 (by decide)]; decide), gE (by omega) (by omega), ob, qX7_has y (by omega), ob, hQ _ hfe]
        by_cases hc : Q (N (10 + 6 * e + 1)) = true
        · rw [if_pos hc, if_neg (by rw [zeq0 (by decide)]; decide), zshl (by omega), Nat.one_mul, zor, zadd]
          rw [show setU (fun e => P e && Q (N (10 + 6 * e + 1))) (e + 1) = setU (fun e => P e && Q (N (10 + 6 * e + 1))) e ||| 2 ^ e from by simp [setU, hb, hc]] at h3
          exact h3
        · rw [if_neg hc, if_pos (by rw [zeq0 (by decide)]), zadd]
          rw [show setU (fun e => P e && Q (N (10 + 6 * e + 1))) (e + 1) = setU (fun e => P e && Q (N (10 + 6 * e + 1))) e from by simp [setU, hc]] at h3
          exact h3
      · rw [if_neg hb, if_pos (by rw [zeq0 (by decide)]), zadd]
        rw [show setU (fun e => P e && Q (N (10 + 6 * e + 1))) (e + 1) = setU (fun e => P e && Q (N (10 + 6 * e + 1))) e from by simp [setU, hb]] at h3
        exact h3
theorem qX0_withFaces {N : Nat → Nat} (P Q : Nat → Bool) {x y : Int32} (hN : N 0 ≤ 14) (hf : ∀ e, e < 14 → N (10 + 6 * e + 1) < 14) (hP : ∀ e, e < 14 → x.toBitVec.getLsbD e = P e) (hQ : ∀ e, e < 14 → y.toBitVec.getLsbD e = Q e) : pX0_withFaces (nI (N 0)) (rI (exR N)) x y = some (nI (setU (fun e => P e && Q (N (10 + 6 * e + 1))) (N 0))) :=
  qX0_withFaces_5 hN hf hP hQ FU 0 (by omega) (by unfold FU; omega)
theorem qX0_withRightLook_15 {N : Nat → Nat} {v : Nat} (hN : N 0 ≤ 14) (hB : ∀ j, N j < 2147483648) (hv : v < 2147483648) : ∀ (k e : Nat), e ≤ N 0 → N 0 - e < k → pX0_withRightLook_15 k (nI (N 0)) (rI (exR N)) (rI (scR N)) (nI v) (nI (setU (fun e => decide (N (10 + 6 * e + 0) = v)) e)) (nI e) = some (nI (setU (fun e => decide (N (10 + 6 * e + 0) = v)) (N 0))) := by
  intro k
  induction k with
  | zero => intro e h1 h2; omega
  | succ k ih =>
    intro e h1 h2
    rw [pX0_withRightLook_15_s]
    by_cases he : N 0 ≤ e
    · rw [if_pos ((zle (by omega) (by omega)).mpr he), show e = N 0 from by omega]
    · have h3 := ih (e + 1) (by omega) (by omega)
      rw [if_neg (fun h => he ((zle (by omega) (by omega)).mp h)), gE (by omega) (by omega), ob]
      unfold pX0_withRightLook_45
      by_cases hb : N (10 + 6 * e + 0) = v
      · rw [if_pos ((zeq (hB _) hv).mpr hb), zshl (by omega), Nat.one_mul, zor, zadd]
        rw [setU_yes (decide_eq_true hb)] at h3
        exact h3
      · rw [if_neg (fun h => hb ((zeq (hB _) hv).mp h)), zadd]
        rw [setU_no (decide_eq_false hb)] at h3
        exact h3
theorem qX0_withRightLook {N : Nat → Nat} {s : Nat} (hS : Sm N) (hs : s < 10) : pX0_withRightLook (nI (N 0)) (rI (exR N)) (rI (scR N)) (nI s) = some (nI (setU (fun e => decide (N (10 + 6 * e + 0) = N (94 + 7 * s + 0))) (N 0))) := by
  unfold pX0_withRightLook
  rw [gS (by omega) hs, ob]
  exact qX0_withRightLook_15 hS.2.1 hS.1 (hS.1 _) FU 0 (by omega) (by have := hS.2.1; unfold FU; omega)
theorem zsublt {a b w : Nat} (ha : a < 1000000) (hb : b < 1000000) (hw : w < 1000000) : (nI a - nI b < nI w) ↔ a < w + b := by
  rw [Int32.lt_iff_toInt_lt, pk_sub_toInt (by omega) (by omega), nI_toInt (by omega)]
  omega
theorem qX0_withTime_25 {N : Nat → Nat} {m : Nat} (hS : Sm N) (hm : m < 100000) : ∀ (k e : Nat), e ≤ N 0 → N 0 - e < k → pX0_withTime_25 k (nI (N 0)) (rI (exR N)) (rI (scR N)) (rI (seR N)) (nI (N 7) - nI m) (nI (setU (fun e => decide (N (10 + 6 * e + 2) + m ≤ N 7)) e)) (nI e) = some (nI (setU (fun e => decide (N (10 + 6 * e + 2) + m ≤ N 7)) (N 0))) := by
  have hN := hS.2.1
  have h7 := hS.2.2.2.2.2.2.1
  intro k
  induction k with
  | zero => intro e h1 h2; omega
  | succ k ih =>
    intro e h1 h2
    rw [pX0_withTime_25_s]
    by_cases he : N 0 ≤ e
    · rw [if_pos ((zle (by omega) (by omega)).mpr he), show e = N 0 from by omega]
    · have h3 := ih (e + 1) (by omega) (by omega)
      have hw := hS.2.2.2.2.1 e (by omega)
      rw [if_neg (fun h => he ((zle (by omega) (by omega)).mp h)), gE (by omega) (by omega), ob]
      unfold pX0_withTime_55
      by_cases hb : N (10 + 6 * e + 2) + m ≤ N 7
      · rw [if_neg (fun h => by have := (zsublt (by omega) (by omega) (by omega)).mp h; omega), zshl (by omega), Nat.one_mul, zor, zadd]
        rw [setU_yes (decide_eq_true hb)] at h3
        exact h3
      · rw [if_pos ((zsublt (by omega) (by omega) (by omega)).mpr (by omega)), zadd]
        rw [setU_no (decide_eq_false hb)] at h3
        exact h3
theorem qX0_withTime {N : Nat → Nat} {s : Nat} (hS : Sm N) (hs : s < 10) : pX0_withTime (nI (N 0)) (rI (exR N)) (rI (scR N)) (rI (seR N)) (nI s) = some (nI (setU (fun e => decide (N (10 + 6 * e + 2) + N (94 + 7 * s + 4) ≤ N 7)) (N 0))) := by
  unfold pX0_withTime
  rw [gT (by omega), ob, gS (by omega) hs, ob]
  exact qX0_withTime_25 hS (hS.2.2.2.2.2.1 s hs) FU 0 (by omega) (by have := hS.2.1; unfold FU; omega)
/-- those cast in the scenes below n that count -/
def ctB (N : Nat → Nat) (s : Nat) (sm : Bool) (k : Nat) : Bool := decide (k ≠ s) && decide (N (94 + 7 * k + 2) = N (94 + 7 * s + 2)) && (decide (N (94 + 7 * k + 3) = N (94 + 7 * s + 3)) == sm)
def castU (N : Nat → Nat) (s : Nat) (sm : Bool) : Nat → Nat
  | 0 => 0
  | n + 1 => castU N s sm n ||| (if ctB N s sm n then N (94 + 7 * n + 6) else 0)
theorem castU_yes {N : Nat → Nat} {s n : Nat} {sm : Bool} (h : ctB N s sm n = true) : castU N s sm (n + 1) = castU N s sm n ||| N (94 + 7 * n + 6) := by
  rw [castU, if_pos h]
theorem castU_no {N : Nat → Nat} {s n : Nat} {sm : Bool} (h : ctB N s sm n = false) : castU N s sm (n + 1) = castU N s sm n := by
  rw [castU, h, if_neg (by decide), Nat.or_zero]
theorem qX0_castOf_27 {N : Nat → Nat} {s : Nat} {sm : Bool} (hS : Sm N) (hs : s < 10) : ∀ (k e : Nat), e ≤ N 1 → N 1 - e < k → pX0_castOf_27 k (nI (N 1)) (rI (scR N)) (nI s) (nI (if sm then 1 else 0)) (nI (N (94 + 7 * s + 2))) (nI (N (94 + 7 * s + 3))) (nI (castU N s sm e)) (nI e) = some (nI (castU N s sm (N 1))) := by
  have hN := hS.2.2.1
  have hB := hS.1
  intro k
  induction k with
  | zero => intro e h1 h2; omega
  | succ k ih =>
    intro e h1 h2
    rw [pX0_castOf_27_s]
    by_cases he : N 1 ≤ e
    · rw [if_pos ((zle (by omega) (by omega)).mpr he), show e = N 1 from by omega]
    · have h3 := ih (e + 1) (by omega) (by omega)
      have go : ∀ p : Bool, p = decide (N (94 + 7 * e + 3) = N (94 + 7 * s + 3)) → pX0_castOf_56 (fun u0 u1 u2 u3 u4 u5 u6 u7 => pX0_castOf_27 k u0 u1 u2 u3 u4 u5 u6 u7) (nI (N 1)) (rI (scR N)) (nI s) (nI (if sm then 1 else 0)) (nI (N (94 + 7 * s + 2))) (nI (N (94 + 7 * s + 3))) (nI (castU N s sm e)) (nI e) (nI (if p then 1 else 0)) = some (nI (castU N s sm (N 1))) := by
        intro p hp
        unfold pX0_castOf_56 pX0_castOf_99
        by_cases c1 : e = s
        · rw [if_pos (by rw [c1]), zadd]
          rw [castU_no (by unfold ctB; rw [decide_eq_false (not_not_intro c1)]; rfl)] at h3
          exact h3
        rw [if_neg (fun h => c1 ((zeq (by omega) (by omega)).mp h)), gS (by omega) (by omega), ob]
        by_cases c2 : N (94 + 7 * e + 2) = N (94 + 7 * s + 2)
        · rw [if_pos (by rw [c2])]
          by_cases c3 : p = sm
          · rw [if_pos (by rw [c3]), gC (by omega), ob, zor, zadd]
            rw [castU_yes (by unfold ctB; rw [decide_eq_true c1, decide_eq_true c2, ← hp, c3]; cases sm <;> rfl)] at h3
            exact h3
          · rw [if_neg (by cases p <;> cases sm <;> first | exact absurd rfl c3 | decide), zadd]
            rw [castU_no (by unfold ctB; rw [← hp]; cases p <;> cases sm <;> first | exact absurd rfl c3 | simp)] at h3
            exact h3
        · rw [if_neg (fun h => c2 ((zeq (hB _) (hB _)).mp h)), zadd]
          rw [castU_no (by unfold ctB; rw [decide_eq_false c2, Bool.and_false, Bool.false_and])] at h3
          exact h3
      rw [if_neg (fun h => he ((zle (by omega) (by omega)).mp h)), gS (by omega) (by omega), ob]
      by_cases c4 : N (94 + 7 * e + 3) = N (94 + 7 * s + 3)
      · rw [if_pos (by rw [c4])]
        exact go true (decide_eq_true c4).symm
      · rw [if_neg (fun h => c4 ((zeq (hB _) (hB _)).mp h))]
        exact go false (decide_eq_false c4).symm
theorem qX0_castOf {N : Nat → Nat} {s : Nat} {sm : Bool} (hS : Sm N) (hs : s < 10) : pX0_castOf (nI (N 1)) (rI (scR N)) (nI s) (nI (if sm then 1 else 0)) = some (nI (castU N s sm (N 1))) := by
  unfold pX0_castOf
  rw [gS (by omega) hs, ob, gS (by omega) hs, ob]
  exact qX0_castOf_27 hS hs FU 0 (by omega) (by have := hS.2.2.1; unfold FU; omega)
theorem fcsU_zero (N : Nat → Nat) : ∀ n, fcsU N 0 n = 0 := by
  intro n
  induction n with
  | zero => rfl
  | succ n ih => rw [fcsU, ih, Nat.zero_testBit]; simp
theorem or_dist (X Y Z : Nat) (p q : Bool) : (X ||| Y) ||| (if (p || q) = true then Z else 0) = (X ||| (if p = true then Z else 0)) ||| (Y ||| (if q = true then Z else 0)) := by
  apply Nat.eq_of_testBit_eq
  intro k
  cases p <;> cases q <;> simp only [Bool.or_self, Bool.or_true, Bool.or_false, Bool.true_or, Bool.false_or, if_true, Bool.false_eq_true, if_false, Nat.testBit_or, Nat.zero_testBit] <;> cases X.testBit k <;> cases Y.testBit k <;> cases Z.testBit k <;> rfl
theorem fcsU_or (N : Nat → Nat) (a b : Nat) : ∀ n, fcsU N (a ||| b) n = fcsU N a n ||| fcsU N b n := by
  intro n
  induction n with
  | zero => simp [fcsU]
  | succ n ih => rw [fcsU, fcsU, fcsU, ih, Nat.testBit_or, or_dist]
theorem fcsU_cast {t : Nat} {N : Nat → Nat} {s : Nat} {sm : Bool} (h : Inv t N) : ∀ n, n ≤ 10 → fcsU N (castU N s sm n) (N 0) = seenU N s sm n := by
  intro n
  induction n with
  | zero => intro _; exact fcsU_zero N (N 0)
  | succ n ih =>
    intro hn
    have hi := ih (by omega)
    have hx := h.sc n (by omega)
    rw [castU, seenU, fcsU_or, hi]
    have hc : cntB N s sm n = (ctB N s sm n && decide (N (94 + 7 * n + 5) = 1)) := by
      unfold cntB ctB
      cases decide (n ≠ s) <;> cases decide (N (94 + 7 * n + 5) = 1) <;> cases decide (N (94 + 7 * n + 2) = N (94 + 7 * s + 2)) <;> cases (decide (N (94 + 7 * n + 3) = N (94 + 7 * s + 3)) == sm) <;> rfl
    rw [hc]
    by_cases c1 : ctB N s sm n = true
    · rw [if_pos c1, c1, Bool.true_and]
      by_cases c2 : N (94 + 7 * n + 5) = 1
      · rw [if_pos (decide_eq_true c2)]
      · have : N (94 + 7 * n + 6) = 0 := hx.2.2.2.2.2.2.2.1.mp (by omega)
        rw [this, fcsU_zero, decide_eq_false c2, if_neg (by decide)]
    · have c2 : ctB N s sm n = false := by simpa using c1
      rw [c2, Bool.false_and, if_neg (by decide), if_neg (by decide), fcsU_zero]

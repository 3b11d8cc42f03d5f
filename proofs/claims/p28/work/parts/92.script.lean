/-! ===== outcomes of the calls: runScript, simulate ===== -/
theorem l5 : (100000 : Int64) = lN 100000 := by decide
theorem l1 : (1 : Int64) = lN 1 := by decide
theorem p5 {k : Nat} (h : k ≤ 3) : 1 ≤ 100000 ^ k ∧ 100000 ^ k ≤ 1000000000000000 := by
  have : k = 0 ∨ k = 1 ∨ k = 2 ∨ k = 3 := by omega
  rcases this with h | h | h | h <;> subst h <;> decide
theorem qX7_groupUnit_4 {n : Nat} (hn : n ≤ 3) : ∀ (k i : Nat), i ≤ n → n - i < k → pX7_groupUnit_4 k (nI n) (lN (100000 ^ i)) (nI i) = some (lN (100000 ^ n)) := by
  intro k
  induction k with
  | zero => intro i h1 h2; omega
  | succ k ih =>
    intro i h1 h2
    rw [pX7_groupUnit_4]
    unfold pX7_groupUnit_26
    by_cases hi : n ≤ i
    · rw [if_pos ((zle (by omega) (by omega)).mpr hi), show i = n from by omega]
    · rw [if_neg (fun h => hi ((zle (by omega) (by omega)).mp h)), if_neg (fun h => by have := (zle (by omega) (by omega)).mp h; omega), l5, lN_mul, ← Nat.pow_succ, zadd]
      exact ih (i + 1) (by omega) (by omega)
theorem qX7_groupUnit {n : Nat} (hn : n ≤ 3) : pX7_groupUnit (nI n) = some (lN (100000 ^ n)) := by
  unfold pX7_groupUnit
  rw [l1]
  exact qX7_groupUnit_4 hn FU 0 (by omega) (by unfold FU; omega)
theorem qX7_groupOf_5 {S b : Nat} (hb : b ≤ 3) (hS : S < 9223372036854775808) : ∀ (k i : Nat), i ≤ b → b - i < k → pX7_groupOf_5 k (nI b) (lN (S / 100000 ^ i)) (nI i) = some (nI (S / 100000 ^ b % 100000)) := by
  intro k
  induction k with
  | zero => intro i h1 h2; omega
  | succ k ih =>
    intro i h1 h2
    have hq : S / 100000 ^ i ≤ S := Nat.div_le_self _ _
    rw [pX7_groupOf_5]
    unfold pX7_groupOf_29
    by_cases hi : b ≤ i
    · rw [if_pos ((zle (by omega) (by omega)).mpr hi), show i = b from by omega, l5, pk_lRem (by have : S / 100000 ^ b ≤ S := Nat.div_le_self _ _; omega) (by omega) (by omega), lN_i]
    · rw [if_neg (fun h => hi ((zle (by omega) (by omega)).mp h)), if_neg (fun h => by have := (zle (by omega) (by omega)).mp h; omega), l5, pk_lDiv (by omega) (by omega) (by omega), Nat.div_div_eq_div_mul, ← Nat.pow_succ, zadd]
      exact ih (i + 1) (by omega) (by omega)
theorem qX7_groupOf {S b : Nat} (hb : b ≤ 3) (hS : S < 9223372036854775808) : pX7_groupOf (lN S) (nI b) = some (nI (S / 100000 ^ b % 100000)) := by
  unfold pX7_groupOf
  have h := qX7_groupOf_5 hb hS FU 0 (by omega) (by unfold FU; omega)
  rw [Nat.pow_zero, Nat.div_one] at h
  exact h
/-- the commands of a script, r are still to come -/
def sclN (S n : Nat) : Nat → Nat → (Nat → Nat) → Option Nat × (Nat → Nat)
  | 0, _, N => (none, N)
  | r + 1, k, N => if (cmdN N (S / 100000 ^ (n - 1 - k) % 100000)).1 = true then sclN S n r (k + 1) (cmdN N (S / 100000 ^ (n - 1 - k) % 100000)).2 else (some k, (cmdN N (S / 100000 ^ (n - 1 - k) % 100000)).2)
theorem sclN_inv {S n : Nat} : ∀ (r k t : Nat) (N : Nat → Nat), Inv t N → t + r ≤ 10000 → Inv (t + r) (sclN S n r k N).2 := by
  intro r
  induction r with
  | zero => intro k t N h _; exact h
  | succ r ih =>
    intro k t N h ht
    have hc := Inv_cmd (g := S / 100000 ^ (n - 1 - k) % 100000) h (by omega)
    rw [sclN]
    split
    · exact (ih (k + 1) (t + 1) _ hc (by omega)).mono (by omega)
    · exact hc.mono (by omega)
theorem siN_01 (N : Nat → Nat) (s : Nat) : siN N s 0 = N 0 ∧ siN N s 1 = N 1 := by
  unfold siN
  split
  · exact ⟨rfl, rfl⟩
  · exact ⟨shN_lo _ _ (by omega) (by omega) (by omega) (by omega) (by omega), shN_lo _ _ (by omega) (by omega) (by omega) (by omega) (by omega)⟩
theorem cmdN_01 {N : Nat → Nat} {g : Nat} (h0 : N 0 ≤ 14) : (cmdN N g).2 0 = N 0 ∧ (cmdN N g).2 1 = N 1 := by
  have hr : N 0 = N 0 ∧ N 1 = N 1 := ⟨rfl, rfl⟩
  unfold cmdN
  split
  · split
    · exact siN_01 N _
    · exact hr
  · split
    · split
      · show mlC N (N 0) 0 = N 0 ∧ mlC N (N 0) 1 = N 1
        exact ⟨mlC_out _ _ (by omega), mlC_out _ _ (by omega)⟩
      · exact hr
    · split
      · split
        · show nxN N 0 = N 0 ∧ nxN N 1 = N 1
          exact ⟨nxN_out h0 (by omega) (by omega), nxN_out h0 (by omega) (by omega)⟩
        · exact hr
      · split
        · split
          · split
            · exact hr
            · rename_i b _
              have q : ∀ j, j < 94 → reN N (g / 1000 % 10) (g / 10 % 100) b j = N j := fun j hj => nset_ne _ _ (by omega)
              exact ⟨q 0 (by omega), q 1 (by omega)⟩
          · exact hr
        · split
          · split
            · have q : ∀ j, j < 7 → seN N (g / 1000 % 10) (g % 1000) j = N j := fun j hj => nset_ne _ _ (by omega)
              exact ⟨q 0 (by omega), q 1 (by omega)⟩
            · exact hr
          · split
            · split <;> exact hr
            · split
              · split <;> exact hr
              · split
                · split <;> exact hr
                · split
                  · split <;> exact hr
                  · exact hr
theorem FT_6 {N M : Nat → Nat} (h0 : M 0 = N 0) (h1 : M 1 = N 1) : FT M = (nI (N 0), nI (N 1), FT6 M) := by
  unfold FT FT6
  rw [h0, h1]
theorem qX7_runScript_46 {S n : Nat} {N : Nat → Nat} (hn : n ≤ 3) (hS : S < 9223372036854775808) : ∀ (k r i t : Nat) (M : Nat → Nat), Inv t M → t + r ≤ 10000 → i + r = n → r < k → pX7_runScript_46 k (nI (N 0)) (nI (N 1)) (nI (N 2)) (nI (N 3)) (nI (N 4)) (nI (N 5)) (nI (N 6)) (rI (exR N)) (rI (scR N)) (rI (seR N)) (nI (M 0)) (nI (M 1)) (nI (M 2)) (nI (M 3)) (nI (M 4)) (nI (M 5)) (nI (M 6)) (rI (exR M)) (rI (scR M)) (rI (seR M)) (nI n) (lN S) (nI i) = some (.inr (oI (sclN S n r i M).1, FT (sclN S n r i M).2)) := by
  intro k
  induction k with
  | zero => intro r i t M h ht h1 h2; omega
  | succ k ih =>
    intro r i t M h ht h1 h2
    rw [pX7_runScript_46_s]
    unfold pX7_runScript_91
    cases r with
    | zero =>
      rw [if_pos ((zle (by omega) (by omega)).mpr (by omega))]
      rfl
    | succ r =>
      have hg : S / 100000 ^ (n - 1 - i) % 100000 < 100000 := Nat.mod_lt _ (by omega)
      have h01 := cmdN_01 (N := M) (g := S / 100000 ^ (n - 1 - i) % 100000) h.ec
      rw [if_neg (fun h => by have := (zle (by omega) (by omega)).mp h; omega), if_neg (fun h => by have := (zle (by omega) (by omega)).mp h; omega), zsub (by omega), zsub (by omega), qX7_groupOf (by omega) hS, ob, qX2_succeeds h (by omega) hg, ob, sclN]
      by_cases hc : (cmdN M (S / 100000 ^ (n - 1 - i) % 100000)).1 = true
      · have h3 := ih r (i + 1) (t + 1) _ (Inv_cmd (g := S / 100000 ^ (n - 1 - i) % 100000) h (by omega)) (by omega) (by omega) (by omega)
        rw [h01.1, h01.2] at h3
        rw [if_pos hc, if_neg nI1, if_pos hc, zadd]
        exact h3
      · rw [if_neg hc, if_pos nI0, if_neg hc]
        dsimp only
        rw [FT_6 h01.1 h01.2]
        rfl
theorem qX8_runScript_86 {S n : Nat} {N : Nat → Nat} (hn : n ≤ 3) (hS : S < 9223372036854775808) : ∀ (k r i t : Nat) (M : Nat → Nat), Inv t M → t + r ≤ 10000 → i + r = n → r < k → pX8_runScript_86 k (nI 0) (rI N) (rI M) (nI n) (lN S) (lN (100000 ^ r)) (nI i) = some (oI (sclN S n r i M).1, nI 0, rI (sclN S n r i M).2) := by
  intro k
  induction k with
  | zero => intro r i t M h ht h1 h2; omega
  | succ k ih =>
    intro r i t M h ht h1 h2
    rw [pX8_runScript_86]
    cases r with
    | zero =>
      rw [if_pos ((zle (by omega) (by omega)).mpr (by omega))]
      rfl
    | succ r =>
      have hp := p5 (show r ≤ 3 by omega)
      have hp2 := p5 (show r + 1 ≤ 3 by omega)
      have hg : S / 100000 ^ r % 100000 < 100000 := Nat.mod_lt _ (by omega)
      have hsr : S / 100000 ^ r ≤ S := Nat.div_le_self _ _
      have e1 : lN (100000 ^ (r + 1)) / 100000 = lN (100000 ^ r) := by
        rw [l5, pk_lDiv (by omega) (by omega) (by omega), Nat.pow_succ, Nat.mul_div_cancel _ (by omega)]
      have e2 : (lN S / lN (100000 ^ r) - lN S / lN (100000 ^ r) / 100000 * 100000).toInt32 = nI (S / 100000 ^ r % 100000) := by
        rw [l5, pk_lDiv (a := S) (by omega) (by omega) (by omega), pk_lRem (by omega) (by omega) (by omega), lN_i]
      have e3 : ¬ (lN (100000 ^ r) = 0) := by
        intro h
        have h2 := congrArg Int64.toInt h
        rw [pk_lT (by omega)] at h2
        have : (0 : Int64).toInt = 0 := by decide
        omega
      rw [if_neg (fun h => by have := (zle (by omega) (by omega)).mp h; omega), e1, if_pos e3, e2, zrem (by omega) (by omega) (by omega), zdiv (by omega) (by omega) (by omega), qX8_command h (by omega) hg, ob, sclN, show n - 1 - i = r from by omega]
      by_cases hc : (cmdN M (S / 100000 ^ r % 100000)).1 = true
      · have h3 := ih r (i + 1) (t + 1) _ (Inv_cmd (g := S / 100000 ^ r % 100000) h (by omega)) (by omega) (by omega) (by omega)
        rw [if_pos hc, if_neg nI1, if_pos hc, zadd]
        exact h3
      · rw [if_neg hc, if_pos nI0, if_neg hc]
        rfl
theorem qX8_runScript_6e (rf : Int32) {nw tr : Nat → Int32} {x : Int32} {z : Int64} : ∀ (k i : Nat) (y : Int64), i ≤ 3 → 3 - i < k → ∃ y2, pX8_runScript_6 k rf nw tr x z y (nI i) = pX8_runScript_32 rf nw tr x z y2 := by
  intro k
  induction k with
  | zero => intro i y h1 h2; omega
  | succ k ih =>
    intro i y h1 h2
    rw [pX8_runScript_6]
    by_cases c1 : x ≤ nI i
    · rw [if_pos c1]; exact ⟨y, rfl⟩
    · rw [if_neg c1]
      by_cases c2 : 3 ≤ i
      · rw [if_pos ((zle (by omega) (by omega)).mpr c2)]; exact ⟨y, rfl⟩
      · rw [if_neg (fun h => c2 ((zle (by omega) (by omega)).mp h)), zadd]
        exact ih (i + 1) _ (by omega) (by omega)
theorem qX8_runScript_6n (rf : Int32) {nw tr : Nat → Int32} {n : Nat} {z : Int64} (hn : n ≤ 3) : ∀ (k i : Nat), i ≤ n → n - i < k → pX8_runScript_6 k rf nw tr (nI n) z (lN (100000 ^ i)) (nI i) = pX8_runScript_32 rf nw tr (nI n) z (lN (100000 ^ n)) := by
  intro k
  induction k with
  | zero => intro i h1 h2; omega
  | succ k ih =>
    intro i h1 h2
    rw [pX8_runScript_6]
    by_cases c1 : n ≤ i
    · rw [if_pos ((zle (by omega) (by omega)).mpr c1), show i = n from by omega]
    · rw [if_neg (fun h => c1 ((zle (by omega) (by omega)).mp h)), if_neg (fun h => by have := (zle (by omega) (by omega)).mp h; omega), l5, lN_mul, ← Nat.pow_succ, zadd]
      exact ih (i + 1) (by omega) (by omega)
theorem qX8_runScript_n (rf : Int32) {nw tr : Nat → Int32} {n : Nat} {z : Int64} (hn : n ≤ 3) : pX8_runScript rf nw tr (nI n) z = pX8_runScript_32 rf nw tr (nI n) z (lN (100000 ^ n)) := by
  have h := qX8_runScript_6n rf (nw := nw) (tr := tr) (z := z) hn FU 0 (by omega) (by unfold FU; omega)
  rw [Nat.pow_zero, ← l1] at h
  exact h
theorem in_neg {z : Int64} {B : Int64} (hz : z < 0) : pX8_in z 0 B = some (nI 0) := by
  rw [qX8_in, if_neg (fun h => by
    have h1 := h.1
    rw [Int64.le_iff_toInt_le] at h1
    rw [Int64.lt_iff_toInt_lt] at hz
    omega)]
theorem in_pos {S P : Nat} (hS : S < 9223372036854775808) (hP : P < 1000000000000001) (hP1 : 1 ≤ P) : pX8_in (lN S) 0 (lN (P - 1)) = some (nI (if S < P then 1 else 0)) := by
  have hlit0 : (0 : Int64).toInt = 0 := by decide
  have hiff : ((0 : Int64) ≤ lN S ∧ lN S ≤ lN (P - 1)) ↔ S < P := by
    rw [Int64.le_iff_toInt_le, Int64.le_iff_toInt_le, pk_lT (by omega), pk_lT (by omega), hlit0]
    omega
  rw [qX8_in]
  by_cases q : S < P
  · rw [if_pos (hiff.mpr q), if_pos q]
  · rw [if_neg (fun h => q (hiff.mp h)), if_neg q]
theorem ge_pos {S P : Nat} (hS : S < 9223372036854775808) (hP : P < 1000000000000001) : (0 ≤ lg_cmp (lN S) (lN P)) ↔ ¬ S < P := by
  have h1 := lgc_lt (lN S) (lN P)
  rw [pk_lLT (by omega) (by omega)] at h1
  rw [← h1, Int32.not_lt]
theorem lN_pred {P : Nat} (hP : 1 ≤ P) : lN P - 1 = lN (P - 1) := by rw [l1, lN_sub hP]
theorem c_runScript_ok (rf : Int32) (z : Int64) {t n : Nat} {N M M' : Nat → Nat} (h : Inv t N) (ht : t < 9990) (hM : Z164 M) (hn1 : 1 ≤ n) (hn3 : n ≤ 3) (c1 : pX7_isIn (nI n) (nI 1) (nI 3) = some (nI 1)) (c2 : pX8_in (nI n).toInt64 1 3 = some (nI 1)) :
    (pX7_runScript (nI (N 0)) (nI (N 1)) (nI (N 2)) (nI (N 3)) (nI (N 4)) (nI (N 5)) (nI (N 6)) (rI (exR N)) (rI (scR N)) (rI (seR N)) (nI (M' 0)) (nI (M' 1)) (nI (M' 2)) (nI (M' 3)) (nI (M' 4)) (nI (M' 5)) (nI (M' 6)) (rI (exR M')) (rI (scR M')) (rI (seR M')) (nI n) z = some (.inl 0) ∧ pX8_runScript rf (rI N) (rI M) (nI n) z = some (nI 0, nI 1, rI M)) ∨
    ∃ v M2, Z164 M2 ∧ pX7_runScript (nI (N 0)) (nI (N 1)) (nI (N 2)) (nI (N 3)) (nI (N 4)) (nI (N 5)) (nI (N 6)) (rI (exR N)) (rI (scR N)) (rI (seR N)) (nI (M' 0)) (nI (M' 1)) (nI (M' 2)) (nI (M' 3)) (nI (M' 4)) (nI (M' 5)) (nI (M' 6)) (rI (exR M')) (rI (scR M')) (rI (seR M')) (nI n) z = some (.inr (v, FT M2)) ∧ pX8_runScript rf (rI N) (rI M) (nI n) z = some (v, nI 0, rI M2) := by
  have hp := p5 hn3
  rw [qX8_runScript_n rf hn3]
  have hgu := qX7_groupUnit hn3
  have hpr := lN_pred hp.1
  unfold pX7_runScript pX7_runScript_28 pX7_runScript_29 pX8_runScript_32 pX8_runScript_61 pX8_runScript_62
  by_cases hz : z < 0
  · left
    have hin := in_neg (B := lN (100000 ^ n) - 1) hz
    refine ⟨?_, ?_⟩
    · rw [c1, ob, rA1, ob, eR, if_pos ((lgc_lt z 0).mpr hz), rA0, ob, eL]
    · rw [c2, ob, if_neg nI1, hin, ob, if_pos nI0, rf1, ob, if_neg nI1]
  · obtain ⟨S, hS, hzS⟩ := pk_lOf hz
    have hS' : S < 9223372036854775808 := by omega
    subst hzS
    have hin := in_pos (P := 100000 ^ n) hS' (by omega) hp.1
    have hge := ge_pos (P := 100000 ^ n) hS' (by omega)
    rw [← hpr] at hin
    by_cases q : S < 100000 ^ n
    · right
      rw [if_pos q] at hin
      have f1 := qX7_runScript_46 (N := N) (S := S) hn3 hS' FU n 0 t N h (by omega) (by omega) (by unfold FU; omega)
      have f2 := qX8_runScript_86 (N := N) (S := S) hn3 hS' FU n 0 t N h (by omega) (by omega) (by unfold FU; omega)
      have hI := sclN_inv (S := S) (n := n) n 0 t N h (by omega)
      refine ⟨oI (sclN S n n 0 N).1, (sclN S n n 0 N).2, hI.bz, ?_, ?_⟩
      · rw [c1, ob, rA1, ob, eR, if_neg (fun h => hz ((lgc_lt _ 0).mp h)), hgu, ob, if_neg (fun h => (hge.mp h) q), ob, eR, qX0_copy, ob]
        exact f1
      · rw [c2, ob, if_neg nI1, hin, ob, if_neg nI1, rf0, ob, if_pos nI0, qX8_copyAll h.bz hM, ob]
        exact f2
    · left
      rw [if_neg q] at hin
      refine ⟨?_, ?_⟩
      · rw [c1, ob, rA1, ob, eR, if_neg (fun h => hz ((lgc_lt _ 0).mp h)), hgu, ob, if_pos (hge.mpr q), rA0, ob, eL]
      · rw [c2, ob, if_neg nI1, hin, ob, if_pos nI0, rf1, ob, if_neg nI1]
theorem c_runScript (rf x : Int32) (z : Int64) {t : Nat} {N M M' : Nat → Nat} (h : Inv t N) (ht : t < 9990) (hM : Z164 M) :
    (pX7_runScript (nI (N 0)) (nI (N 1)) (nI (N 2)) (nI (N 3)) (nI (N 4)) (nI (N 5)) (nI (N 6)) (rI (exR N)) (rI (scR N)) (rI (seR N)) (nI (M' 0)) (nI (M' 1)) (nI (M' 2)) (nI (M' 3)) (nI (M' 4)) (nI (M' 5)) (nI (M' 6)) (rI (exR M')) (rI (scR M')) (rI (seR M')) x z = some (.inl 0) ∧ pX8_runScript rf (rI N) (rI M) x z = some (nI 0, nI 1, rI M)) ∨
    ∃ v M2, Z164 M2 ∧ pX7_runScript (nI (N 0)) (nI (N 1)) (nI (N 2)) (nI (N 3)) (nI (N 4)) (nI (N 5)) (nI (N 6)) (rI (exR N)) (rI (scR N)) (rI (seR N)) (nI (M' 0)) (nI (M' 1)) (nI (M' 2)) (nI (M' 3)) (nI (M' 4)) (nI (M' 5)) (nI (M' 6)) (rI (exR M')) (rI (scR M')) (rI (seR M')) x z = some (.inr (v, FT M2)) ∧ pX8_runScript rf (rI N) (rI M) x z = some (v, nI 0, rI M2) := by
  by_cases hx : ((1 : Nat) : Int) ≤ x.toInt ∧ x.toInt ≤ ((3 : Nat) : Int)
  · have ⟨c1, c2⟩ := inC1 (A := 1) (B := 3) (by omega) (by omega) (by decide) (by decide) hx
    obtain ⟨n, hn, hn1, hn3⟩ := in_nat hx
    rw [hn] at c1 c2 ⊢
    exact c_runScript_ok rf z h ht hM hn1 hn3 c1 c2
  · left
    have ⟨c1, c2⟩ := inC0 (A := 1) (B := 3) (by omega) (by omega) (by decide) (by decide) hx
    obtain ⟨y2, hy⟩ := qX8_runScript_6e rf (nw := rI N) (tr := rI M) (x := x) (z := z) FU 0 1 (by omega) (by unfold FU; omega)
    refine ⟨?_, ?_⟩
    · unfold pX7_runScript
      rw [c1, ob, rA0, ob, eL]
    · unfold pX8_runScript
      rw [hy]
      unfold pX8_runScript_32 pX8_runScript_61 pX8_runScript_62
      rw [c2, ob, if_pos nI0, rf1, ob, if_neg nI1]

/-! ===== the law over small numbers: answers, facesOf, bits, refuses ===== -/
theorem tn {a : Nat} (ha : a < 2147483648) : (nI a).toInt.toNat = a := by
  rw [nI_toInt ha]
  omega
theorem nbt {a n : Nat} (h : a < n) (ha : a < 2147483648) : nb (nI a) n = true := (znb ha).mpr h
theorem nbf {a n : Nat} (h : n ≤ a) (ha : a < 2147483648) : ¬ nb (nI a) n = true := fun q => by
  have := (znb ha).mp q
  omega
theorem nbneg {x : Int32} {n : Nat} (h : x.toInt < 0) : ¬ nb x n = true := fun q => by
  have := nb_iff.mp q
  omega
theorem m1s {k : Nat} (hk : k < 9) : ((-1) - nI k : Int32).toInt < 0 := by
  have : ∀ k, k < 9 → ((-1) - nI k : Int32).toInt < 0 := by decide +kernel
  exact this k hk
theorem aAb_n {N : Nat → Nat} {w : Nat} (hw : w < 9) : aAb N (nI w) = nI (abN N w) := by
  unfold aAb
  rw [if_pos (nbt hw (by omega)), tn (by omega)]
theorem aAb_o {N : Nat → Nat} {w : Nat} (hw : 9 ≤ w) (h : w < 2147483648) : aAb N (nI w) = -9999002 := by
  unfold aAb
  rw [if_neg (nbf hw h)]
theorem aEx_n {N : Nat → Nat} {e w : Nat} (he : e < N 0) (hN : N 0 ≤ 14) (hw : w < 7) : aEx N (nI e) (nI w) = nI (exV N e w) := by
  unfold aEx
  rw [if_pos (nbt he (by omega)), if_pos (nbt hw (by omega)), tn (by omega), tn (by omega)]
theorem aEx_i {N : Nat → Nat} {e : Nat} {y : Int32} (he : N 0 ≤ e) (h : e < 2147483648) : aEx N (nI e) y = -9999001 := by
  unfold aEx
  rw [if_neg (nbf he h)]
theorem aEx_a {N : Nat → Nat} {e w : Nat} (he : e < N 0) (hN : N 0 ≤ 14) (hw : 7 ≤ w) (h : w < 2147483648) : aEx N (nI e) (nI w) = -9999002 := by
  unfold aEx
  rw [if_pos (nbt he (by omega)), if_neg (nbf hw h)]
theorem aSc_n {N : Nat → Nat} {s w : Nat} (hs : s < N 1) (hN : N 1 ≤ 10) (hw : w < 9) : aSc N (nI s) (nI w) = nI (scV N s w) := by
  unfold aSc
  rw [if_pos (nbt hs (by omega)), if_pos (nbt hw (by omega)), tn (by omega), tn (by omega)]
theorem aSc_i {N : Nat → Nat} {s : Nat} {y : Int32} (hs : N 1 ≤ s) (h : s < 2147483648) : aSc N (nI s) y = -9999001 := by
  unfold aSc
  rw [if_neg (nbf hs h)]
theorem aSc_a {N : Nat → Nat} {s w : Nat} (hs : s < N 1) (hN : N 1 ≤ 10) (hw : 9 ≤ w) (h : w < 2147483648) : aSc N (nI s) (nI w) = -9999002 := by
  unfold aSc
  rw [if_pos (nbt hs (by omega)), if_neg (nbf hw h)]
theorem aSe_a {N : Nat → Nat} {w : Nat} (hw : 3 ≤ w) (h : w < 2147483648) : aSe N (nI w) = -9999002 := by
  unfold aSe
  rw [if_neg (nbf hw h)]
theorem aWo_n {N : Nat → Nat} {s w : Nat} (hs : s < N 1) (hN : N 1 ≤ 10) (hw : w < 4) : aWo N (nI s) (nI w) = if cwN N s = 0 then -1 else nI (woV N s w) := by
  unfold aWo
  rw [if_pos (nbt hs (by omega)), if_pos (nbt hw (by omega)), tn (by omega), tn (by omega)]
theorem aWo_i {N : Nat → Nat} {s : Nat} {y : Int32} (hs : N 1 ≤ s) (h : s < 2147483648) : aWo N (nI s) y = -9999001 := by
  unfold aWo
  rw [if_neg (nbf hs h)]
theorem aWo_a {N : Nat → Nat} {s w : Nat} (hs : s < N 1) (hN : N 1 ≤ 10) (hw : 4 ≤ w) (h : w < 2147483648) : aWo N (nI s) (nI w) = -9999002 := by
  unfold aWo
  rw [if_pos (nbt hs (by omega)), if_neg (nbf hw h)]
theorem aWh_n {N : Nat → Nat} {s e : Nat} (hs : s < N 1) (hN : N 1 ≤ 10) (he : e < N 0) (hE : N 0 ≤ 14) : aWh N (nI s) (nI e) = nI (whV N s e) := by
  unfold aWh
  rw [if_pos ⟨nbt hs (by omega), nbt he (by omega)⟩, tn (by omega), tn (by omega)]
theorem aWh_i {N : Nat → Nat} {s e : Nat} (h : N 1 ≤ s ∨ N 0 ≤ e) (h1 : s < 2147483648) (h2 : e < 2147483648) : aWh N (nI s) (nI e) = -9999001 := by
  unfold aWh
  rw [if_neg (fun q => by
    rcases h with h | h
    · exact nbf h h1 q.1
    · exact nbf h h2 q.2)]
theorem aLa_n {N : Nat → Nat} {s : Nat} (hs : s < N 1) (hN : N 1 ≤ 10) : aLa N (nI s) = nI (N (94 + 7 * s + 1) - bcN (chN N s) 14) := by
  unfold aLa
  rw [if_pos (nbt hs (by omega)), tn (by omega)]
theorem aLa_i {N : Nat → Nat} {s : Nat} (hs : N 1 ≤ s) (h : s < 2147483648) : aLa N (nI s) = -9999001 := by
  unfold aLa
  rw [if_neg (nbf hs h)]
theorem aOr_n {N : Nat → Nat} {a b : Nat} (ha : a < N 1) (hb : b < N 1) (hN : N 1 ≤ 10) (hab : a ≠ b) : aOr N (nI a) (nI b) = orV N a b := by
  unfold aOr
  rw [if_pos ⟨nbt ha (by omega), nbt hb (by omega)⟩, if_neg (fun q => hab ((zeq (by omega) (by omega)).mp q)), tn (by omega), tn (by omega)]
theorem aOr_i {N : Nat → Nat} {a : Nat} {y : Int32} (ha : N 1 ≤ a) (h : a < 2147483648) : aOr N (nI a) y = -9999001 := by
  unfold aOr
  rw [if_neg (fun q => nbf ha h q.1)]
theorem aOr_a {N : Nat → Nat} {a : Nat} (ha : a < N 1) (hN : N 1 ≤ 10) : aOr N (nI a) (nI a) = -9999002 := by
  unfold aOr
  rw [if_pos ⟨nbt ha (by omega), nbt ha (by omega)⟩, if_pos rfl]
theorem nsB_n {a b c d e : Nat} (ha : a < 100000) (hb : b < 100000) (hc : c < 100000) (hd : d < 100000) (he : e < 100000) : nsB (nI a) (nI b) (nI c) (nI d) (nI e) = true ↔ a ≤ 4 ∧ 1 ≤ b ∧ b ≤ 6 ∧ c ≤ 9 ∧ d ≤ 3 ∧ 10 ≤ e ∧ e ≤ 240 := by
  unfold nsB
  rw [nI_toInt (by omega), nI_toInt (by omega), nI_toInt (by omega), nI_toInt (by omega), nI_toInt (by omega)]
  simp only [Bool.and_eq_true, decide_eq_true_eq]
  omega
theorem stB_n {k v : Nat} (hk : k < 100000) (hv : v < 100000) : stB (nI k) (nI v) = true ↔ (k = 0 ∧ 240 ≤ v ∧ v ≤ 960) ∨ (k = 1 ∧ 1 ≤ v ∧ v ≤ 99) ∨ (k = 2 ∧ v ≤ 99) := by
  unfold stB
  rw [nI_toInt (by omega)]
  simp only [Bool.or_eq_true, Bool.and_eq_true, decide_eq_true_eq]
  rw [zeq (by omega) (by omega), zeq (by omega) (by omega), zeq (by omega) (by omega)]
  omega
theorem gSc_n {a b c d e : Nat} (ha : a < 100000) (hb : b < 100000) (hc : c < 100000) (hd : d < 100000) (he : e < 100000) (h : ¬ (a ≤ 4 ∧ 1 ≤ b ∧ b ≤ 6 ∧ c ≤ 9 ∧ d ≤ 3 ∧ 10 ≤ e ∧ e ≤ 240)) : gSc (nI a) (nI b) (nI c) (nI d) (nI e) = some (-9999002) := if_neg (fun q => h ((nsB_n ha hb hc hd he).mp q))
theorem gSe_n {k v : Nat} (hk : k < 100000) (hv : v < 100000) (h : ¬ ((k = 0 ∧ 240 ≤ v ∧ v ≤ 960) ∨ (k = 1 ∧ 1 ≤ v ∧ v ≤ 99) ∨ (k = 2 ∧ v ≤ 99))) : gSe (nI k) (nI v) = some (-9999002) := if_neg (fun q => h ((stB_n hk hv).mp q))
theorem gSe_m {k : Nat} (hk : k < 9) : gSe (nI 1) (-(nI k)) = some (-9999002) := by
  have : ∀ k, k < 9 → gSe (nI 1) (-(nI k)) = some (-9999002) := by decide +kernel
  exact this k hk
theorem abN_0 (N : Nat → Nat) : abN N 0 = N 0 := rfl
theorem abN_1 (N : Nat → Nat) : abN N 1 = N 1 := rfl
/-- calls that are refused are refused -/
theorem refuses_332 {N : Nat → Nat} {X Y2 Y3 E A : Nat} (h0 : 1 ≤ N 0) (hN : N 0 ≤ 14) (h1 : 1 ≤ N 1) (hM : N 1 ≤ 10) (hX : X < 100000) (h2 : N 0 ≤ Y2) (l2 : Y2 < 1000) (h3 : N 1 ≤ Y3) (l3 : Y3 < 1000) (hE : E < 10 ∨ 241 ≤ E) (lE : E < 1000) (hA : A < 10) : pL_refuses_332 N (nI X) (nI Y2) (nI Y3) (nI E) (nI A) = some (nI 1) := by
  unfold pL_refuses_332
  have f1 : gSc (nI A) (nI 1) (nI 0) (nI 0) (nI E) = some (-9999002) := gSc_n (by omega) (by omega) (by omega) (by omega) (by omega) (by omega)
  have f2 : gSh N (nI Y3) = some (-9999001) := if_neg (nbf h3 (by omega))
  have f3 : gRe N (nI Y3) (nI 0) (nI 0) = some (-9999001) := if_neg (fun q => nbf h3 (by omega) q.1)
  have f4 : gRe N (nI 0) (nI Y2) (nI 0) = some (-9999001) := if_neg (fun q => nbf h2 (by omega) q.2.1)
  have f5 : gRe N (nI 0) (nI 0) (nI Y2) = some (-9999001) := if_neg (fun q => nbf h2 (by omega) q.2.2)
  have f6 : gRe N (nI 0) (nI 0) (nI 0) = some (-9999003) := by
    unfold gRe
    rw [if_pos (c := nb (nI 0) (N 1) = true ∧ nb (nI 0) (N 0) = true ∧ nb (nI 0) (N 0) = true) ⟨nbt (by omega) (by omega), nbt (by omega) (by omega), nbt (by omega) (by omega)⟩, tn (by omega), if_neg]
    unfold crB
    intro q
    simp only [Bool.and_eq_true, Bool.not_eq_true'] at q
    have q1 := q.1.1.1.1.2
    have q2 := q.1.1.1.2
    rw [q1] at q2
    cases q2
  have f7 : gSe (nI 0) (nI (X % 240)) = some (-9999002) := gSe_n (by omega) (by omega) (by omega)
  have f8 : gSe (nI (X % 3)) (nI (961 + X % 9)) = some (-9999002) := gSe_n (by omega) (by omega) (by omega)
  have f9 : gSe (nI 1) (-(nI (X % 9))) = some (-9999002) := gSe_m (by omega)
  have f10 : gSe (nI (3 + X % 9)) (nI 50) = some (-9999002) := gSe_n (by omega) (by omega) (by omega)
  have f11 : aWo N (nI Y3) (nI 9) = -9999001 := aWo_i h3 (by omega)
  have f12 : aWo N (nI 0) (nI (4 + X % 9)) = -9999002 := aWo_a (by omega) hM (by omega) (by omega)
  have f13 : aWh N (nI Y3) (nI 0) = -9999001 := aWh_i (Or.inl h3) (by omega) (by omega)
  have f14 : aWh N (nI 0) (nI Y2) = -9999001 := aWh_i (Or.inr h2) (by omega) (by omega)
  have f15 : aLa N (nI Y3) = -9999001 := aLa_i h3 (by omega)
  have f16 : aOr N (nI Y3) (nI Y3) = -9999001 := aOr_i h3 (by omega)
  have f17 : aOr N (nI 0) (nI 0) = -9999002 := aOr_a (by omega) hM
  have f18 : gSl (nI (2 + X % 50)) = some (-9999001) := if_neg (nbf (by omega) (by omega))
  have f19 : gSl ((-1) - nI (X % 9)) = some (-9999001) := if_neg (nbneg (m1s (by omega)))
  have f20 : rsB (nI 0) 0 = true := by decide
  have f21 : rsB (nI 1) (100000 + (nI X).toInt64) = true := by
    unfold rsB
    rw [nI_l (by omega), l5, lN_add, decide_eq_true (show 0 ≤ lg_cmp (lN (100000 + X)) (lN 100000) from (ge_pos (by omega) (by omega)).mpr (by omega)), decide_eq_true (show nI 1 = nI 1 from rfl), Bool.and_true, Bool.or_true]
  have f22 : aSm N (nI X).toInt64 (nI (61 + X % 9)) = -9999002 := by
    unfold aSm
    rw [nI_toInt (by omega), if_neg (by omega)]
  have r240 : nI X - nI X / nI 240 * nI 240 = nI (X % 240) := zrem (by omega) (by omega) (by omega)
  have r3 : nI X - nI X / nI 3 * nI 3 = nI (X % 3) := zrem (by omega) (by omega) (by omega)
  have r9 : nI X - nI X / nI 9 * nI 9 = nI (X % 9) := zrem (by omega) (by omega) (by omega)
  have r50 : nI X - nI X / nI 50 * nI 50 = nI (X % 50) := zrem (by omega) (by omega) (by omega)
  simp only [r240, r3, r9, r50, zadd]
  simp only [f1, f2, f3, f4, f5, f6, f7, f8, f9, f10, f11, f12, f13, f14, f15, f16, f17, f18, f19, f20, f21, f22, ob, if_true]
  rfl
theorem refuses_247 {N : Nat → Nat} {X Y2 Y3 B A : Nat} (h0 : 1 ≤ N 0) (hN : N 0 ≤ 14) (h1 : 1 ≤ N 1) (hM : N 1 ≤ 10) (hX : X < 100000) (h2 : N 0 ≤ Y2) (l2 : Y2 < 1000) (h3 : N 1 ≤ Y3) (l3 : Y3 < 1000) (hB : B = 0 ∨ 7 ≤ B) (lB : B < 1000) (hA : A < 10) : pL_refuses_247 N (nI X) (nI Y2) (nI Y3) (nI B) (nI A) = some (nI 1) := by
  unfold pL_refuses_247
  have f1 : gSc (nI A) (nI B) (nI 0) (nI 0) (nI 60) = some (-9999002) := gSc_n (by omega) (by omega) (by omega) (by omega) (by omega) (by omega)
  have f2 : gSc (nI (X % 5)) (nI 1) (nI (10 + X % 9)) (nI 0) (nI 60) = some (-9999002) := gSc_n (by omega) (by omega) (by omega) (by omega) (by omega) (by omega)
  have f3 : gSc (nI (X % 5)) (nI 1) (nI 0) (nI (4 + X % 9)) (nI 60) = some (-9999002) := gSc_n (by omega) (by omega) (by omega) (by omega) (by omega) (by omega)
  have g1 := refuses_332 (E := X % 10) (A := X % 5) h0 hN h1 hM hX h2 l2 h3 l3 (by omega) (by omega) (by omega)
  have g2 := refuses_332 (E := 241 + X % 99) (A := X % 5) h0 hN h1 hM hX h2 l2 h3 l3 (by omega) (by omega) (by omega)
  have r5 : nI X - nI X / nI 5 * nI 5 = nI (X % 5) := zrem (by omega) (by omega) (by omega)
  have r9 : nI X - nI X / nI 9 * nI 9 = nI (X % 9) := zrem (by omega) (by omega) (by omega)
  have r2 : nI X - nI X / nI 2 * nI 2 = nI (X % 2) := zrem (by omega) (by omega) (by omega)
  have r10 : nI X - nI X / nI 10 * nI 10 = nI (X % 10) := zrem (by omega) (by omega) (by omega)
  have r99 : nI X - nI X / nI 99 * nI 99 = nI (X % 99) := zrem (by omega) (by omega) (by omega)
  simp only [r5, r9, r2, r10, r99, zadd]
  simp only [f1, f2, f3, g1, g2, ob, if_true, ite_self]
theorem refuses_53 {N : Nat → Nat} {X Y2 Y3 : Nat} {s0 : Int32} (h0 : 1 ≤ N 0) (hN : N 0 ≤ 14) (h1 : 1 ≤ N 1) (hM : N 1 ≤ 10) (hX : X < 100000) (h2 : N 0 ≤ Y2) (l2 : Y2 < 1000) (h3 : N 1 ≤ Y3) (l3 : Y3 < 1000) (hs : ¬ nb s0 256 = true) : pL_refuses_53 N (nI X) (nI Y2) (nI Y3) s0 = some (nI 1) := by
  unfold pL_refuses_53
  have f1 : aAb N (nI (9 + X % 50)) = -9999002 := aAb_o (by omega) (by omega)
  have f2 : aEx N (nI Y2) (nI 9) = -9999001 := aEx_i h2 (by omega)
  have f3 : aEx N (nI 0) (nI (7 + X % 9)) = -9999002 := aEx_a (by omega) hN (by omega) (by omega)
  have f4 : aSc N (nI Y3) (nI 9) = -9999001 := aSc_i h3 (by omega)
  have f5 : aSc N (nI 0) (nI (9 + X % 9)) = -9999002 := aSc_a (by omega) hM (by omega) (by omega)
  have f6 : aSe N (nI (3 + X % 9)) = -9999002 := aSe_a (by omega) (by omega)
  have f7 : gEx (nI (5 + X % 9)) (nI 0) = some (-9999002) := if_neg (fun q => nbf (by omega) (by omega) q.1)
  have f8 : gEx (nI (X % 5)) (nI (14 + X % 9)) = some (-9999002) := if_neg (fun q => nbf (by omega) (by omega) q.2)
  have f9 : gEx ((-1) - nI (X % 9)) (nI 0) = some (-9999002) := if_neg (fun q => nbneg (m1s (by omega)) q.1)
  have g1 := refuses_247 (B := 0) (A := X % 5) h0 hN h1 hM hX h2 l2 h3 l3 (by omega) (by omega) (by omega)
  have g2 := refuses_247 (B := 7 + X % 9) (A := X % 5) h0 hN h1 hM hX h2 l2 h3 l3 (by omega) (by omega) (by omega)
  rw [if_pos hs]
  have r50 : nI X - nI X / nI 50 * nI 50 = nI (X % 50) := zrem (by omega) (by omega) (by omega)
  have r9 : nI X - nI X / nI 9 * nI 9 = nI (X % 9) := zrem (by omega) (by omega) (by omega)
  have r5 : nI X - nI X / nI 5 * nI 5 = nI (X % 5) := zrem (by omega) (by omega) (by omega)
  have r2 : nI X - nI X / nI 2 * nI 2 = nI (X % 2) := zrem (by omega) (by omega) (by omega)
  simp only [r50, r9, r5, r2, zadd]
  simp only [f1, f2, f3, f4, f5, f6, f7, f8, f9, g1, g2, ob, if_true, ite_self]
theorem refuses_ok {N : Nat → Nat} {X : Nat} (h0 : 1 ≤ N 0) (hN : N 0 ≤ 14) (h1 : 1 ≤ N 1) (hM : N 1 ≤ 10) (hX : X < 100000) : pL_refuses N (nI X) = some (nI 1) := by
  unfold pL_refuses
  have e0 : aAb N (nI 0) = nI (N 0) := aAb_n (by omega)
  have e1 : aAb N (nI 1) = nI (N 1) := aAb_n (by omega)
  have g1 := refuses_53 (X := X) (Y2 := N 0 + X % 50) (Y3 := N 1 + X % 50) (s0 := (-1) - nI (X % 9)) h0 hN h1 hM hX (by omega) (by omega) (by omega) (by omega) (nbneg (m1s (by omega)))
  have g2 := refuses_53 (X := X) (Y2 := N 0 + X % 50) (Y3 := N 1 + X % 50) (s0 := nI (256 + X % 9)) h0 hN h1 hM hX (by omega) (by omega) (by omega) (by omega) (nbf (by omega) (by omega))
  simp (disch := omega) only [zrem, zadd, e0, e1]
  simp only [g1, g2, ite_self]
/-- the faces of a set -/
theorem facesOf_4 {N : Nat → Nat} {c : Nat} (hN : N 0 ≤ 14) (hf : ∀ e, e < 14 → N (10 + 6 * e + 1) < 14) (hc : c < 2147483648) : ∀ (k e : Nat), e ≤ N 0 → N 0 - e < k → pL_facesOf_4 N k (nI c) (nI (fcsU N c e)) (nI e) = some (nI (fcsU N c (N 0))) := by
  intro k
  induction k with
  | zero => intro e h1 h2; omega
  | succ k ih =>
    intro e h1 h2
    rw [pL_facesOf_4_s]
    have e0 : aAb N (nI 0) = nI (N 0) := aAb_n (by omega)
    rw [e0]
    by_cases he : N 0 ≤ e
    · have e1 : e = N 0 := by omega
      rw [if_pos ((zle (by omega) (by omega)).mpr he), e1]
    · have h3 := ih (e + 1) (by omega) (by omega)
      have hv : exV N e 1 = N (10 + 6 * e + 1) := rfl
      rw [if_neg (fun q => he ((zle (by omega) (by omega)).mp q)), zbit hc (by omega), aEx_n (by omega) hN (by omega), hv, zshl (by have := hf e (by omega); omega), Nat.one_mul]
      unfold pL_facesOf_40
      rw [zadd, zor, zor]
      by_cases hb : c.testBit e = true
      · rw [if_pos hb, if_pos rfl]
        rw [show fcsU N c (e + 1) = fcsU N c e ||| 2 ^ N (10 + 6 * e + 1) from by simp [fcsU, hb]] at h3
        exact h3
      · rw [if_neg hb, if_neg (by decide)]
        rw [show fcsU N c (e + 1) = fcsU N c e ||| 0 from by simp [fcsU, hb]] at h3
        exact h3
theorem facesOf_ok {N : Nat → Nat} {c : Nat} (hN : N 0 ≤ 14) (hf : ∀ e, e < 14 → N (10 + 6 * e + 1) < 14) (hc : c < 2147483648) : pL_facesOf N (nI c) = some (nI (fcsU N c (N 0))) :=
  facesOf_4 hN hf hc 16 0 (by omega) (by omega)

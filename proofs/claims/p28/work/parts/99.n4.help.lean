/-! ===== the helpers of the law ===== -/
abbrev rmL_tryReplace : Room := { frames := 9, cells := 4, slots := 24, locals := 154 }
theorem kL_tryReplace_16 : Cond.classLink RL 16 "java/lang/IllegalStateException" ∈ wsL_tryReplace := by decide +kernel
theorem kL_tryReplace_42 : Cond.classLink RL 42 "java/lang/IndexOutOfBoundsException" ∈ wsL_tryReplace := by decide +kernel
theorem kL_tryReplace_18 : Cond.constant RL 18 (-9999003) ∈ wsL_tryReplace := by decide +kernel
theorem kL_tryReplace_44 : Cond.constant RL 44 (-9999001) ∈ wsL_tryReplace := by decide +kernel
set_option maxHeartbeats 4000000 in
set_option maxRecDepth 100000 in
theorem m0L_tryReplace (l : Launch) (hlst : l.stackTraces = false) (g : va_G) (cy : Nat → ClassId) (tt sa : Nat → Nat) (sz : Nat) (h0 : Nat) (a : Nat → Nat) (AD : Nat → Nat → Nat) {t : Nat} {N : Nat → Nat} {c : Nat} {D : Nat → Nat → Nat} {F : Nat → Nat} {K : Nat → Nat → Nat} {M : Nat → Nat} {o : Nat} {R P : Nat → Nat → Nat} (x1 : Int32) (x2 : Int32) (x3 : Int32) (hI : RP t (N, c, D, F, K) (M, o, R, P)) (ht : t < 9000)  : Met l yL_tryReplace wsL_tryReplace rmL_tryReplace (PN [.ref h0, .int x1, .int x2, .int x3] g cy tt sa sz (WO cy (h0, a, AD) (N, c, D, F, K) (M, o, R, P))) (QE g (va_A (WO cy (h0, a, AD) (N, c, D, F, K) (M, o, R, P)) sz) (fRe (N, c, D, F, K) x1 x2 x3).1 (WP cy (h0, a, AD) (t + 1) (fRe (N, c, D, F, K) x1 x2 x3).2)) 4 24 (va_A (WO cy (h0, a, AD) (N, c, D, F, K) (M, o, R, P)) sz) := by
  have hN : Inv t N := hI.1
  have hH : HR o c R D := hI.2.1
  have hSl : SL F P K := hI.2.2.2.1
  have hKi : ∀ j, j < 2 → F j = 1 → Inv t (K j) := hI.2.2.2.2
  rcases e_replace x1 x2 x3 (FK := (F, K)) hN (by omega) hH with ⟨h7, h8⟩ | ⟨h7, h8⟩ | ⟨v, N2, hN2, hF, h7, h8⟩
  · rw [h8]
    refine m_ofVL (cc := cL_tryReplace) (nL := 5) (ret := some .int) (hh := [(0, 7, 8, 42), (0, 7, 13, 16)]) hlst RL rfl (by decide) rfl [(0, .ref h0), (1, .int x1), (2, .int x2), (3, .int x3)] rfl (Nat.le_of_ble_eq_true rfl) ?_
    intro p e s m args below meth c9 hC hr hX htab
    generalize (va_A (WO cy (h0, a, AD) (N, c, D, F, K) (M, o, R, P)) sz) = A9 at hX ⊢
    refine v_eqw (ws' := OX cy h0 a AD (FT N) (FT M) (nI o) (nI c) (nI (F 0)) (nI (F 1)) (FT (P 0)) (FT (P 1)) (nI 0) (rI (fun _ => 0)) ++ HF cy AD (rgD R)) rfl ?_
    refine v_aload_n hC dL_tryReplace_0 rfl 0 rfl rfl ?_
    refine v_iload_n hC dL_tryReplace_1 rfl 1 rfl rfl ?_
    refine v_iload_n hC dL_tryReplace_2 rfl 2 rfl rfl ?_
    refine v_iload_n hC dL_tryReplace_3 rfl 3 rfl rfl ?_
    refine l_callX hC hX (n := 3) (st := []) (ws' := OX cy h0 a AD (FT N) (FT M) (nI o) (nI c) (nI (F 0)) (nI (F 1)) (FT (P 0)) (FT (P 1)) (nI 0) (rI (fun _ => 0)) ++ HF cy AD (rgD R)) (fun sz => mX7_replace l hX.1 g cy tt sa sz h0 (a 0) (a 7) (a 14) (a 16) (a 24) (a 32) (a 15) (a 1) (a 2) (a 3) (a 4) (a 5) (a 6) AD (nI o) (nI c) (nI (N 0)) (nI (N 1)) (nI (N 2)) (nI (N 3)) (nI (N 4)) (nI (N 5)) (nI (N 6)) (rI (exR N)) (rI (scR N)) (rI (seR N)) (rgD R) x1 x2 x3 h7) (WR.selH (Y := wsel [true, true, true, false, false, false, false, false, false, false, false, false, false, false, false, false, false, false, false, true, true, true, true, true, true, true, false, false, false, false, false, false, false, false, false, false] (OX cy h0 a AD (FT N) (FT M) (nI o) (nI c) (nI (F 0)) (nI (F 1)) (FT (P 0)) (FT (P 1)) (nI 0) (rI (fun _ => 0)))) (RD2 := (rgD R)) [true, true, true, false, false, false, false, false, false, false, false, false, false, false, false, false, false, false, false, true, true, true, true, true, true, true, false, false, false, false, false, false, false, false, false, false] rfl) gL_tryReplace_X7_replace rfl rfl rfl (by decide +kernel) ⟨Nat.le_of_ble_eq_true rfl, Nat.le_of_ble_eq_true rfl⟩ 0 rfl rfl rfl (Nat.le_of_ble_eq_true rfl) rfl ⟨Nat.le_of_ble_eq_true rfl, Nat.le_of_ble_eq_true rfl⟩ dL_tryReplace_4 rfl (fun u9 e9 => nomatch e9) (fun k9 e9 => ?_)
    obtain rfl := Sum.inl.inj e9
    refine ⟨by decide, [], ⟨0, 7, 8, 42⟩, [⟨0, 7, 13, 16⟩], htab.trans rfl, (fun z hz => by cases hz), by decide, by decide, hC.2.2.2.2.1 _ kL_tryReplace_42, fun q9 => ?_⟩
    refine v_astore hC dL_tryReplace_8 (by decide) [(4, .ref q9), (0, .ref h0), (1, .int x1), (2, .int x2), (3, .int x3)] rfl rfl ?_
    refine v_ldc hC (v := (-9999001)) dL_tryReplace_10 kL_tryReplace_44 rfl ?_
    exact v_irE hC hr rfl rfl dL_tryReplace_12 ⟨(M, o, R, P), hI.up (Nat.le_succ t), rfl⟩
  · rw [h8]
    refine m_ofVL (cc := cL_tryReplace) (nL := 5) (ret := some .int) (hh := [(0, 7, 8, 42), (0, 7, 13, 16)]) hlst RL rfl (by decide) rfl [(0, .ref h0), (1, .int x1), (2, .int x2), (3, .int x3)] rfl (Nat.le_of_ble_eq_true rfl) ?_
    intro p e s m args below meth c9 hC hr hX htab
    generalize (va_A (WO cy (h0, a, AD) (N, c, D, F, K) (M, o, R, P)) sz) = A9 at hX ⊢
    refine v_eqw (ws' := OX cy h0 a AD (FT N) (FT M) (nI o) (nI c) (nI (F 0)) (nI (F 1)) (FT (P 0)) (FT (P 1)) (nI 0) (rI (fun _ => 0)) ++ HF cy AD (rgD R)) rfl ?_
    refine v_aload_n hC dL_tryReplace_0 rfl 0 rfl rfl ?_
    refine v_iload_n hC dL_tryReplace_1 rfl 1 rfl rfl ?_
    refine v_iload_n hC dL_tryReplace_2 rfl 2 rfl rfl ?_
    refine v_iload_n hC dL_tryReplace_3 rfl 3 rfl rfl ?_
    refine l_callX hC hX (n := 3) (st := []) (ws' := OX cy h0 a AD (FT N) (FT M) (nI o) (nI c) (nI (F 0)) (nI (F 1)) (FT (P 0)) (FT (P 1)) (nI 0) (rI (fun _ => 0)) ++ HF cy AD (rgD R)) (fun sz => mX7_replace l hX.1 g cy tt sa sz h0 (a 0) (a 7) (a 14) (a 16) (a 24) (a 32) (a 15) (a 1) (a 2) (a 3) (a 4) (a 5) (a 6) AD (nI o) (nI c) (nI (N 0)) (nI (N 1)) (nI (N 2)) (nI (N 3)) (nI (N 4)) (nI (N 5)) (nI (N 6)) (rI (exR N)) (rI (scR N)) (rI (seR N)) (rgD R) x1 x2 x3 h7) (WR.selH (Y := wsel [true, true, true, false, false, false, false, false, false, false, false, false, false, false, false, false, false, false, false, true, true, true, true, true, true, true, false, false, false, false, false, false, false, false, false, false] (OX cy h0 a AD (FT N) (FT M) (nI o) (nI c) (nI (F 0)) (nI (F 1)) (FT (P 0)) (FT (P 1)) (nI 0) (rI (fun _ => 0)))) (RD2 := (rgD R)) [true, true, true, false, false, false, false, false, false, false, false, false, false, false, false, false, false, false, false, true, true, true, true, true, true, true, false, false, false, false, false, false, false, false, false, false] rfl) gL_tryReplace_X7_replace rfl rfl rfl (by decide +kernel) ⟨Nat.le_of_ble_eq_true rfl, Nat.le_of_ble_eq_true rfl⟩ 0 rfl rfl rfl (Nat.le_of_ble_eq_true rfl) rfl ⟨Nat.le_of_ble_eq_true rfl, Nat.le_of_ble_eq_true rfl⟩ dL_tryReplace_4 rfl (fun u9 e9 => nomatch e9) (fun k9 e9 => ?_)
    obtain rfl := Sum.inl.inj e9
    refine ⟨by decide, [⟨0, 7, 8, 42⟩], ⟨0, 7, 13, 16⟩, [], htab.trans rfl, (fun z hz => by rw [List.mem_singleton.mp hz]; exact Or.inr ⟨by decide, "java/lang/IndexOutOfBoundsException", hC.2.2.2.2.1 _ kL_tryReplace_42, hX.2.2.2.2.2⟩), by decide, by decide, hC.2.2.2.2.1 _ kL_tryReplace_16, fun q9 => ?_⟩
    refine v_astore hC dL_tryReplace_13 (by decide) [(4, .ref q9), (0, .ref h0), (1, .int x1), (2, .int x2), (3, .int x3)] rfl rfl ?_
    refine v_ldc hC (v := (-9999003)) dL_tryReplace_15 kL_tryReplace_18 rfl ?_
    exact v_irE hC hr rfl rfl dL_tryReplace_17 ⟨(M, o, R, P), hI.up (Nat.le_succ t), rfl⟩
  · rw [h8]
    refine m_ofVL (cc := cL_tryReplace) (nL := 5) (ret := some .int) (hh := [(0, 7, 8, 42), (0, 7, 13, 16)]) hlst RL rfl (by decide) rfl [(0, .ref h0), (1, .int x1), (2, .int x2), (3, .int x3)] rfl (Nat.le_of_ble_eq_true rfl) ?_
    intro p e s m args below meth c9 hC hr hX htab
    generalize (va_A (WO cy (h0, a, AD) (N, c, D, F, K) (M, o, R, P)) sz) = A9 at hX ⊢
    refine v_eqw (ws' := OX cy h0 a AD (FT N) (FT M) (nI o) (nI c) (nI (F 0)) (nI (F 1)) (FT (P 0)) (FT (P 1)) (nI 0) (rI (fun _ => 0)) ++ HF cy AD (rgD R)) rfl ?_
    refine v_aload_n hC dL_tryReplace_0 rfl 0 rfl rfl ?_
    refine v_iload_n hC dL_tryReplace_1 rfl 1 rfl rfl ?_
    refine v_iload_n hC dL_tryReplace_2 rfl 2 rfl rfl ?_
    refine v_iload_n hC dL_tryReplace_3 rfl 3 rfl rfl ?_
    refine l_callX hC hX (n := 3) (st := []) (ws' := OX cy h0 a AD (nI (N 0), nI (N 1), nI (N 2), nI (N 3), nI (N 4), nI (N 5), nI (N 6), rI (exR N), rI (scR N2), rI (seR N)) (FT M) (nI (remO o c)) (nI (remC c)) (nI (F 0)) (nI (F 1)) (FT (P 0)) (FT (P 1)) (nI 0) (rI (fun _ => 0)) ++ HF cy AD (rgD (remR R o c N))) (fun sz => mX7_replace l hX.1 g cy tt sa sz h0 (a 0) (a 7) (a 14) (a 16) (a 24) (a 32) (a 15) (a 1) (a 2) (a 3) (a 4) (a 5) (a 6) AD (nI o) (nI c) (nI (N 0)) (nI (N 1)) (nI (N 2)) (nI (N 3)) (nI (N 4)) (nI (N 5)) (nI (N 6)) (rI (exR N)) (rI (scR N)) (rI (seR N)) (rgD R) x1 x2 x3 h7) (WR.selH (Y := wsel [true, true, true, false, false, false, false, false, false, false, false, false, false, false, false, false, false, false, false, true, true, true, true, true, true, true, false, false, false, false, false, false, false, false, false, false] (OX cy h0 a AD (nI (N 0), nI (N 1), nI (N 2), nI (N 3), nI (N 4), nI (N 5), nI (N 6), rI (exR N), rI (scR N2), rI (seR N)) (FT M) (nI (remO o c)) (nI (remC c)) (nI (F 0)) (nI (F 1)) (FT (P 0)) (FT (P 1)) (nI 0) (rI (fun _ => 0)))) (RD2 := (rgD (remR R o c N))) [true, true, true, false, false, false, false, false, false, false, false, false, false, false, false, false, false, false, false, true, true, true, true, true, true, true, false, false, false, false, false, false, false, false, false, false] rfl) gL_tryReplace_X7_replace rfl rfl rfl (by decide +kernel) ⟨Nat.le_of_ble_eq_true rfl, Nat.le_of_ble_eq_true rfl⟩ 0 rfl rfl rfl (Nat.le_of_ble_eq_true rfl) rfl ⟨Nat.le_of_ble_eq_true rfl, Nat.le_of_ble_eq_true rfl⟩ dL_tryReplace_4 rfl (fun u9 e9 => ?_) (fun k9 e9 => nomatch e9)
    obtain rfl := Sum.inr.inj e9
    refine ⟨rfl, ?_⟩
    rw [← hF]
    exact v_irE hC hr rfl rfl dL_tryReplace_7 ⟨actH (N, c, D, F, K) (M, o, R, P), hI.act hN2, rfl⟩
theorem mL_tryReplace (l : Launch) (hlst : l.stackTraces = false) (g : va_G) (cy : Nat → ClassId) (tt sa : Nat → Nat) (sz : Nat) (A : AA) {t : Nat} {S : SS} {H : HH} (x1 : Int32) (x2 : Int32) (x3 : Int32) (hI : RP t S H) (ht : t < 9000)  : Met l yL_tryReplace wsL_tryReplace rmL_tryReplace (PN [.ref A.1, .int x1, .int x2, .int x3] g cy tt sa sz (WO cy A S H)) (QE g (va_A (WO cy A S H) sz) (fRe S x1 x2 x3).1 (WP cy A (t + 1) (fRe S x1 x2 x3).2)) 4 24 (va_A (WO cy A S H) sz) := by
  obtain ⟨h0, a, AD⟩ := A
  obtain ⟨N, c, D, F, K⟩ := S
  obtain ⟨M, o, R, P⟩ := H
  exact m0L_tryReplace l hlst g cy tt sa sz h0 a AD x1 x2 x3 hI ht
abbrev rmL_tryLay : Room := { frames := 8, cells := 1, slots := 6, locals := 132 }
theorem kL_tryLay_13 : Cond.classLink RL 13 "java/lang/IllegalArgumentException" ∈ wsL_tryLay := by decide +kernel
theorem kL_tryLay_15 : Cond.constant RL 15 (-9999002) ∈ wsL_tryLay := by decide +kernel
set_option maxHeartbeats 4000000 in
set_option maxRecDepth 100000 in
theorem m0L_tryLay (l : Launch) (hlst : l.stackTraces = false) (g : va_G) (cy : Nat → ClassId) (tt sa : Nat → Nat) (sz : Nat) (h0 : Nat) (a : Nat → Nat) (AD : Nat → Nat → Nat) {t : Nat} {N : Nat → Nat} {c : Nat} {D : Nat → Nat → Nat} {F : Nat → Nat} {K : Nat → Nat → Nat} {M : Nat → Nat} {o : Nat} {R P : Nat → Nat → Nat} (x1 : Int32) (x2 : Int32) (hI : RP t (N, c, D, F, K) (M, o, R, P)) (ht : t < 9000)  : Met l yL_tryLay wsL_tryLay rmL_tryLay (PN [.ref h0, .int x1, .int x2] g cy tt sa sz (WO cy (h0, a, AD) (N, c, D, F, K) (M, o, R, P))) (QE g (va_A (WO cy (h0, a, AD) (N, c, D, F, K) (M, o, R, P)) sz) (fSe (N, c, D, F, K) x1 x2).1 (WP cy (h0, a, AD) (t + 1) (fSe (N, c, D, F, K) x1 x2).2)) 1 6 (va_A (WO cy (h0, a, AD) (N, c, D, F, K) (M, o, R, P)) sz) := by
  have hN : Inv t N := hI.1
  have hH : HR o c R D := hI.2.1
  have hSl : SL F P K := hI.2.2.2.1
  have hKi : ∀ j, j < 2 → F j = 1 → Inv t (K j) := hI.2.2.2.2
  rcases e_set x1 x2 (FK := (F, K)) hN hH with ⟨h7, h8⟩ | ⟨v, N2, hN2, hF, h7, h8⟩
  · rw [h8]
    refine m_ofVL (cc := cL_tryLay) (nL := 4) (ret := some .int) (hh := [(0, 6, 7, 13)]) hlst RL rfl (by decide) rfl [(0, .ref h0), (1, .int x1), (2, .int x2)] rfl (Nat.le_of_ble_eq_true rfl) ?_
    intro p e s m args below meth c9 hC hr hX htab
    generalize (va_A (WO cy (h0, a, AD) (N, c, D, F, K) (M, o, R, P)) sz) = A9 at hX ⊢
    refine v_eqw (ws' := OX cy h0 a AD (FT N) (FT M) (nI o) (nI c) (nI (F 0)) (nI (F 1)) (FT (P 0)) (FT (P 1)) (nI 0) (rI (fun _ => 0)) ++ HF cy AD (rgD R)) rfl ?_
    refine v_aload_n hC dL_tryLay_0 rfl 0 rfl rfl ?_
    refine v_iload_n hC dL_tryLay_1 rfl 1 rfl rfl ?_
    refine v_iload_n hC dL_tryLay_2 rfl 2 rfl rfl ?_
    refine l_callX hC hX (n := 2) (st := []) (ws' := OX cy h0 a AD (FT N) (FT M) (nI o) (nI c) (nI (F 0)) (nI (F 1)) (FT (P 0)) (FT (P 1)) (nI 0) (rI (fun _ => 0)) ++ HF cy AD (rgD R)) (fun sz => mX7_set l hX.1 g cy tt sa sz h0 (a 0) (a 7) (a 14) (a 16) (a 24) (a 32) (a 15) (a 1) (a 2) (a 3) (a 4) (a 5) (a 6) AD (nI o) (nI c) (nI (N 0)) (nI (N 1)) (nI (N 2)) (nI (N 3)) (nI (N 4)) (nI (N 5)) (nI (N 6)) (rI (exR N)) (rI (scR N)) (rI (seR N)) (rgD R) x1 x2 h7) (WR.selH (Y := wsel [true, true, true, false, false, false, false, false, false, false, false, false, false, false, false, false, false, false, false, true, true, true, true, true, true, true, false, false, false, false, false, false, false, false, false, false] (OX cy h0 a AD (FT N) (FT M) (nI o) (nI c) (nI (F 0)) (nI (F 1)) (FT (P 0)) (FT (P 1)) (nI 0) (rI (fun _ => 0)))) (RD2 := (rgD R)) [true, true, true, false, false, false, false, false, false, false, false, false, false, false, false, false, false, false, false, true, true, true, true, true, true, true, false, false, false, false, false, false, false, false, false, false] rfl) gL_tryLay_X7_set rfl rfl rfl (by decide +kernel) ⟨Nat.le_of_ble_eq_true rfl, Nat.le_of_ble_eq_true rfl⟩ 0 rfl rfl rfl (Nat.le_of_ble_eq_true rfl) rfl ⟨Nat.le_of_ble_eq_true rfl, Nat.le_of_ble_eq_true rfl⟩ dL_tryLay_3 rfl (fun u9 e9 => nomatch e9) (fun k9 e9 => ?_)
    obtain rfl := Sum.inl.inj e9
    refine ⟨by decide, [], ⟨0, 6, 7, 13⟩, [], htab.trans rfl, (fun z hz => by cases hz), by decide, by decide, hC.2.2.2.2.1 _ kL_tryLay_13, fun q9 => ?_⟩
    refine v_astore_n hC dL_tryLay_7 rfl (by decide) [(3, .ref q9), (0, .ref h0), (1, .int x1), (2, .int x2)] rfl rfl ?_
    refine v_ldc hC (v := (-9999002)) dL_tryLay_8 kL_tryLay_15 rfl ?_
    exact v_irE hC hr rfl rfl dL_tryLay_10 ⟨(M, o, R, P), hI.up (Nat.le_succ t), rfl⟩
  · rw [h8]
    refine m_ofVL (cc := cL_tryLay) (nL := 4) (ret := some .int) (hh := [(0, 6, 7, 13)]) hlst RL rfl (by decide) rfl [(0, .ref h0), (1, .int x1), (2, .int x2)] rfl (Nat.le_of_ble_eq_true rfl) ?_
    intro p e s m args below meth c9 hC hr hX htab
    generalize (va_A (WO cy (h0, a, AD) (N, c, D, F, K) (M, o, R, P)) sz) = A9 at hX ⊢
    refine v_eqw (ws' := OX cy h0 a AD (FT N) (FT M) (nI o) (nI c) (nI (F 0)) (nI (F 1)) (FT (P 0)) (FT (P 1)) (nI 0) (rI (fun _ => 0)) ++ HF cy AD (rgD R)) rfl ?_
    refine v_aload_n hC dL_tryLay_0 rfl 0 rfl rfl ?_
    refine v_iload_n hC dL_tryLay_1 rfl 1 rfl rfl ?_
    refine v_iload_n hC dL_tryLay_2 rfl 2 rfl rfl ?_
    refine l_callX hC hX (n := 2) (st := []) (ws' := OX cy h0 a AD (nI (N 0), nI (N 1), nI (N 2), nI (N 3), nI (N 4), nI (N 5), nI (N 6), rI (exR N), rI (scR N), rI (seR N2)) (FT M) (nI (remO o c)) (nI (remC c)) (nI (F 0)) (nI (F 1)) (FT (P 0)) (FT (P 1)) (nI 0) (rI (fun _ => 0)) ++ HF cy AD (rgD (remR R o c N))) (fun sz => mX7_set l hX.1 g cy tt sa sz h0 (a 0) (a 7) (a 14) (a 16) (a 24) (a 32) (a 15) (a 1) (a 2) (a 3) (a 4) (a 5) (a 6) AD (nI o) (nI c) (nI (N 0)) (nI (N 1)) (nI (N 2)) (nI (N 3)) (nI (N 4)) (nI (N 5)) (nI (N 6)) (rI (exR N)) (rI (scR N)) (rI (seR N)) (rgD R) x1 x2 h7) (WR.selH (Y := wsel [true, true, true, false, false, false, false, false, false, false, false, false, false, false, false, false, false, false, false, true, true, true, true, true, true, true, false, false, false, false, false, false, false, false, false, false] (OX cy h0 a AD (nI (N 0), nI (N 1), nI (N 2), nI (N 3), nI (N 4), nI (N 5), nI (N 6), rI (exR N), rI (scR N), rI (seR N2)) (FT M) (nI (remO o c)) (nI (remC c)) (nI (F 0)) (nI (F 1)) (FT (P 0)) (FT (P 1)) (nI 0) (rI (fun _ => 0)))) (RD2 := (rgD (remR R o c N))) [true, true, true, false, false, false, false, false, false, false, false, false, false, false, false, false, false, false, false, true, true, true, true, true, true, true, false, false, false, false, false, false, false, false, false, false] rfl) gL_tryLay_X7_set rfl rfl rfl (by decide +kernel) ⟨Nat.le_of_ble_eq_true rfl, Nat.le_of_ble_eq_true rfl⟩ 0 rfl rfl rfl (Nat.le_of_ble_eq_true rfl) rfl ⟨Nat.le_of_ble_eq_true rfl, Nat.le_of_ble_eq_true rfl⟩ dL_tryLay_3 rfl (fun u9 e9 => ?_) (fun k9 e9 => nomatch e9)
    obtain rfl := Sum.inr.inj e9
    refine ⟨rfl, ?_⟩
    rw [← hF]
    exact v_irE hC hr rfl rfl dL_tryLay_6 ⟨actH (N, c, D, F, K) (M, o, R, P), hI.act hN2, rfl⟩
theorem mL_tryLay (l : Launch) (hlst : l.stackTraces = false) (g : va_G) (cy : Nat → ClassId) (tt sa : Nat → Nat) (sz : Nat) (A : AA) {t : Nat} {S : SS} {H : HH} (x1 : Int32) (x2 : Int32) (hI : RP t S H) (ht : t < 9000)  : Met l yL_tryLay wsL_tryLay rmL_tryLay (PN [.ref A.1, .int x1, .int x2] g cy tt sa sz (WO cy A S H)) (QE g (va_A (WO cy A S H) sz) (fSe S x1 x2).1 (WP cy A (t + 1) (fSe S x1 x2).2)) 1 6 (va_A (WO cy A S H) sz) := by
  obtain ⟨h0, a, AD⟩ := A
  obtain ⟨N, c, D, F, K⟩ := S
  obtain ⟨M, o, R, P⟩ := H
  exact m0L_tryLay l hlst g cy tt sa sz h0 a AD x1 x2 hI ht
abbrev rmL_tryUndo : Room := { frames := 8, cells := 1, slots := 6, locals := 130 }
theorem kL_tryUndo_16 : Cond.classLink RL 16 "java/lang/IllegalStateException" ∈ wsL_tryUndo := by decide +kernel
theorem kL_tryUndo_18 : Cond.constant RL 18 (-9999003) ∈ wsL_tryUndo := by decide +kernel
set_option maxHeartbeats 4000000 in
set_option maxRecDepth 100000 in
theorem m0L_tryUndo (l : Launch) (hlst : l.stackTraces = false) (g : va_G) (cy : Nat → ClassId) (tt sa : Nat → Nat) (sz : Nat) (h0 : Nat) (a : Nat → Nat) (AD : Nat → Nat → Nat) {t : Nat} {N : Nat → Nat} {c : Nat} {D : Nat → Nat → Nat} {F : Nat → Nat} {K : Nat → Nat → Nat} {M : Nat → Nat} {o : Nat} {R P : Nat → Nat → Nat}  (hI : RP t (N, c, D, F, K) (M, o, R, P)) (ht : t < 9000)  : Met l yL_tryUndo wsL_tryUndo rmL_tryUndo (PN [.ref h0] g cy tt sa sz (WO cy (h0, a, AD) (N, c, D, F, K) (M, o, R, P))) (QE g (va_A (WO cy (h0, a, AD) (N, c, D, F, K) (M, o, R, P)) sz) (fUn (N, c, D, F, K)).1 (WP cy (h0, a, AD) (t + 1) (fUn (N, c, D, F, K)).2)) 1 6 (va_A (WO cy (h0, a, AD) (N, c, D, F, K) (M, o, R, P)) sz) := by
  have hN : Inv t N := hI.1
  have hH : HR o c R D := hI.2.1
  have hSl : SL F P K := hI.2.2.2.1
  have hKi : ∀ j, j < 2 → F j = 1 → Inv t (K j) := hI.2.2.2.2
  rcases e_undo (FK := (F, K)) hH with ⟨h7, h8⟩ | ⟨hc0, h7, h8⟩
  · rw [h8]
    refine m_ofVL (cc := cL_tryUndo) (nL := 2) (ret := some .int) (hh := [(0, 4, 5, 16)]) hlst RL rfl (by decide) rfl [(0, .ref h0)] rfl (Nat.le_of_ble_eq_true rfl) ?_
    intro p e s m args below meth c9 hC hr hX htab
    generalize (va_A (WO cy (h0, a, AD) (N, c, D, F, K) (M, o, R, P)) sz) = A9 at hX ⊢
    refine v_eqw (ws' := OX cy h0 a AD (FT N) (FT M) (nI o) (nI c) (nI (F 0)) (nI (F 1)) (FT (P 0)) (FT (P 1)) (nI 0) (rI (fun _ => 0)) ++ HF cy AD (rgD R)) rfl ?_
    refine v_aload_n hC dL_tryUndo_0 rfl 0 rfl rfl ?_
    refine l_callX hC hX (n := 0) (st := []) (ws' := OX cy h0 a AD (FT N) (FT M) (nI o) (nI c) (nI (F 0)) (nI (F 1)) (FT (P 0)) (FT (P 1)) (nI 0) (rI (fun _ => 0)) ++ HF cy AD (rgD R)) (fun sz => mX7_undo l hX.1 g cy tt sa sz h0 (a 0) (a 7) (a 14) (a 16) (a 24) (a 32) (a 15) (a 1) (a 2) (a 3) (a 4) (a 5) (a 6) AD (nI o) (nI c) (nI (N 0)) (nI (N 1)) (nI (N 2)) (nI (N 3)) (nI (N 4)) (nI (N 5)) (nI (N 6)) (rI (exR N)) (rI (scR N)) (rI (seR N)) (rgD R) h7) (WR.selH (Y := wsel [true, true, true, false, false, false, false, false, false, false, false, false, false, false, false, false, false, false, false, true, true, true, true, true, true, true, false, false, false, false, false, false, false, false, false, false] (OX cy h0 a AD (FT N) (FT M) (nI o) (nI c) (nI (F 0)) (nI (F 1)) (FT (P 0)) (FT (P 1)) (nI 0) (rI (fun _ => 0)))) (RD2 := (rgD R)) [true, true, true, false, false, false, false, false, false, false, false, false, false, false, false, false, false, false, false, true, true, true, true, true, true, true, false, false, false, false, false, false, false, false, false, false] rfl) gL_tryUndo_X7_undo rfl rfl rfl (by decide +kernel) ⟨Nat.le_of_ble_eq_true rfl, Nat.le_of_ble_eq_true rfl⟩ 0 rfl rfl rfl (Nat.le_of_ble_eq_true rfl) rfl ⟨Nat.le_of_ble_eq_true rfl, Nat.le_of_ble_eq_true rfl⟩ dL_tryUndo_1 rfl (fun u9 e9 => nomatch e9) (fun k9 e9 => ?_)
    obtain rfl := Sum.inl.inj e9
    refine ⟨by decide, [], ⟨0, 4, 5, 16⟩, [], htab.trans rfl, (fun z hz => by cases hz), by decide, by decide, hC.2.2.2.2.1 _ kL_tryUndo_16, fun q9 => ?_⟩
    refine v_astore_n hC dL_tryUndo_5 rfl (by decide) [(1, .ref q9), (0, .ref h0)] rfl rfl ?_
    refine v_ldc hC (v := (-9999003)) dL_tryUndo_6 kL_tryUndo_18 rfl ?_
    exact v_irE hC hr rfl rfl dL_tryUndo_8 ⟨(M, o, R, P), hI.up (Nat.le_succ t), rfl⟩
  · rw [h8]
    refine m_ofVL (cc := cL_tryUndo) (nL := 2) (ret := some .int) (hh := [(0, 4, 5, 16)]) hlst RL rfl (by decide) rfl [(0, .ref h0)] rfl (Nat.le_of_ble_eq_true rfl) ?_
    intro p e s m args below meth c9 hC hr hX htab
    generalize (va_A (WO cy (h0, a, AD) (N, c, D, F, K) (M, o, R, P)) sz) = A9 at hX ⊢
    refine v_eqw (ws' := OX cy h0 a AD (FT N) (FT M) (nI o) (nI c) (nI (F 0)) (nI (F 1)) (FT (P 0)) (FT (P 1)) (nI 0) (rI (fun _ => 0)) ++ HF cy AD (rgD R)) rfl ?_
    refine v_aload_n hC dL_tryUndo_0 rfl 0 rfl rfl ?_
    refine l_callX hC hX (n := 0) (st := []) (ws' := OX cy h0 a AD (FT (D (c - 1))) (FT M) (nI o) (nI (c - 1)) (nI (F 0)) (nI (F 1)) (FT (P 0)) (FT (P 1)) (nI 0) (rI (fun _ => 0)) ++ HF cy AD (rgD R)) (fun sz => mX7_undo l hX.1 g cy tt sa sz h0 (a 0) (a 7) (a 14) (a 16) (a 24) (a 32) (a 15) (a 1) (a 2) (a 3) (a 4) (a 5) (a 6) AD (nI o) (nI c) (nI (N 0)) (nI (N 1)) (nI (N 2)) (nI (N 3)) (nI (N 4)) (nI (N 5)) (nI (N 6)) (rI (exR N)) (rI (scR N)) (rI (seR N)) (rgD R) h7) (WR.selH (Y := wsel [true, true, true, false, false, false, false, false, false, false, false, false, false, false, false, false, false, false, false, true, true, true, true, true, true, true, false, false, false, false, false, false, false, false, false, false] (OX cy h0 a AD (FT (D (c - 1))) (FT M) (nI o) (nI (c - 1)) (nI (F 0)) (nI (F 1)) (FT (P 0)) (FT (P 1)) (nI 0) (rI (fun _ => 0)))) (RD2 := (rgD R)) [true, true, true, false, false, false, false, false, false, false, false, false, false, false, false, false, false, false, false, true, true, true, true, true, true, true, false, false, false, false, false, false, false, false, false, false] rfl) gL_tryUndo_X7_undo rfl rfl rfl (by decide +kernel) ⟨Nat.le_of_ble_eq_true rfl, Nat.le_of_ble_eq_true rfl⟩ 0 rfl rfl rfl (Nat.le_of_ble_eq_true rfl) rfl ⟨Nat.le_of_ble_eq_true rfl, Nat.le_of_ble_eq_true rfl⟩ dL_tryUndo_1 rfl (fun u9 e9 => ?_) (fun k9 e9 => nomatch e9)
    obtain rfl := Sum.inr.inj e9
    refine ⟨rfl, ?_⟩
    exact v_irE hC hr rfl rfl dL_tryUndo_4 ⟨(M, o, R, P), (hI.back hc0).up (Nat.le_succ t), rfl⟩
theorem mL_tryUndo (l : Launch) (hlst : l.stackTraces = false) (g : va_G) (cy : Nat → ClassId) (tt sa : Nat → Nat) (sz : Nat) (A : AA) {t : Nat} {S : SS} {H : HH}  (hI : RP t S H) (ht : t < 9000)  : Met l yL_tryUndo wsL_tryUndo rmL_tryUndo (PN [.ref A.1] g cy tt sa sz (WO cy A S H)) (QE g (va_A (WO cy A S H) sz) (fUn S).1 (WP cy A (t + 1) (fUn S).2)) 1 6 (va_A (WO cy A S H) sz) := by
  obtain ⟨h0, a, AD⟩ := A
  obtain ⟨N, c, D, F, K⟩ := S
  obtain ⟨M, o, R, P⟩ := H
  exact m0L_tryUndo l hlst g cy tt sa sz h0 a AD  hI ht

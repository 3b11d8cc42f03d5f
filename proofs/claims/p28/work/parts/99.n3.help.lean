/-! ===== the helpers of the law ===== -/
abbrev rmL_tryAdd : Room := { frames := 8, cells := 2, slots := 12, locals := 132 }
theorem kL_tryAdd_13 : Cond.classLink RL 13 "java/lang/IllegalArgumentException" ∈ wsL_tryAdd := by decide +kernel
theorem kL_tryAdd_16 : Cond.classLink RL 16 "java/lang/IllegalStateException" ∈ wsL_tryAdd := by decide +kernel
theorem kL_tryAdd_15 : Cond.constant RL 15 (-9999002) ∈ wsL_tryAdd := by decide +kernel
theorem kL_tryAdd_18 : Cond.constant RL 18 (-9999003) ∈ wsL_tryAdd := by decide +kernel
set_option maxHeartbeats 4000000 in
set_option maxRecDepth 100000 in
theorem m0L_tryAdd (l : Launch) (hlst : l.stackTraces = false) (g : va_G) (cy : Nat → ClassId) (tt sa : Nat → Nat) (sz : Nat) (h0 : Nat) (a : Nat → Nat) (AD : Nat → Nat → Nat) {t : Nat} {N : Nat → Nat} {c : Nat} {D : Nat → Nat → Nat} {F : Nat → Nat} {K : Nat → Nat → Nat} {M : Nat → Nat} {o : Nat} {R P : Nat → Nat → Nat} (x1 : Int32) (x2 : Int32) (hI : RP t (N, c, D, F, K) (M, o, R, P)) (ht : t < 9000)  : Met l yL_tryAdd wsL_tryAdd rmL_tryAdd (PN [.ref h0, .int x1, .int x2] g cy tt sa sz (WO cy (h0, a, AD) (N, c, D, F, K) (M, o, R, P))) (QE g (va_A (WO cy (h0, a, AD) (N, c, D, F, K) (M, o, R, P)) sz) (fEx (N, c, D, F, K) x1 x2).1 (WP cy (h0, a, AD) (t + 1) (fEx (N, c, D, F, K) x1 x2).2)) 2 12 (va_A (WO cy (h0, a, AD) (N, c, D, F, K) (M, o, R, P)) sz) := by
  have hN : Inv t N := hI.1
  have hH : HR o c R D := hI.2.1
  have hSl : SL F P K := hI.2.2.2.1
  have hKi : ∀ j, j < 2 → F j = 1 → Inv t (K j) := hI.2.2.2.2
  rcases e_extra x1 x2 (FK := (F, K)) hN hH with ⟨h7, h8⟩ | ⟨h7, h8⟩ | ⟨v, N2, hN2, hF, h7, h8⟩
  · rw [h8]
    refine m_ofVL (cc := cL_tryAdd) (nL := 4) (ret := some .int) (hh := [(0, 6, 7, 13), (0, 6, 11, 16)]) hlst RL rfl (by decide) rfl [(0, .ref h0), (1, .int x1), (2, .int x2)] rfl (Nat.le_of_ble_eq_true rfl) ?_
    intro p e s m args below meth c9 hC hr hX htab
    generalize (va_A (WO cy (h0, a, AD) (N, c, D, F, K) (M, o, R, P)) sz) = A9 at hX ⊢
    refine v_eqw (ws' := OX cy h0 a AD (FT N) (FT M) (nI o) (nI c) (nI (F 0)) (nI (F 1)) (FT (P 0)) (FT (P 1)) (nI 0) (rI (fun _ => 0)) ++ HF cy AD (rgD R)) rfl ?_
    refine v_aload_n hC dL_tryAdd_0 rfl 0 rfl rfl ?_
    refine v_iload_n hC dL_tryAdd_1 rfl 1 rfl rfl ?_
    refine v_iload_n hC dL_tryAdd_2 rfl 2 rfl rfl ?_
    refine l_callX hC hX (n := 2) (st := []) (ws' := OX cy h0 a AD (FT N) (FT M) (nI o) (nI c) (nI (F 0)) (nI (F 1)) (FT (P 0)) (FT (P 1)) (nI 0) (rI (fun _ => 0)) ++ HF cy AD (rgD R)) (fun sz => mX7_extra l hX.1 g cy tt sa sz h0 (a 0) (a 7) (a 14) (a 16) (a 24) (a 32) (a 15) (a 1) (a 2) (a 3) (a 4) (a 5) (a 6) AD (nI o) (nI c) (nI (N 0)) (nI (N 1)) (nI (N 2)) (nI (N 3)) (nI (N 4)) (nI (N 5)) (nI (N 6)) (rI (exR N)) (rI (scR N)) (rI (seR N)) (rgD R) x1 x2 h7) (WR.selH (Y := wsel [true, true, true, false, false, false, false, false, false, false, false, false, false, false, false, false, false, false, false, true, true, true, true, true, true, true, false, false, false, false, false, false, false, false, false, false] (OX cy h0 a AD (FT N) (FT M) (nI o) (nI c) (nI (F 0)) (nI (F 1)) (FT (P 0)) (FT (P 1)) (nI 0) (rI (fun _ => 0)))) (RD2 := (rgD R)) [true, true, true, false, false, false, false, false, false, false, false, false, false, false, false, false, false, false, false, true, true, true, true, true, true, true, false, false, false, false, false, false, false, false, false, false] rfl) gL_tryAdd_X7_extra rfl rfl rfl (by decide +kernel) ⟨Nat.le_of_ble_eq_true rfl, Nat.le_of_ble_eq_true rfl⟩ 0 rfl rfl rfl (Nat.le_of_ble_eq_true rfl) rfl ⟨Nat.le_of_ble_eq_true rfl, Nat.le_of_ble_eq_true rfl⟩ dL_tryAdd_3 rfl (fun u9 e9 => nomatch e9) (fun k9 e9 => ?_)
    obtain rfl := Sum.inl.inj e9
    refine ⟨by decide, [], ⟨0, 6, 7, 13⟩, [⟨0, 6, 11, 16⟩], htab.trans rfl, (fun z hz => by cases hz), by decide, by decide, hC.2.2.2.2.1 _ kL_tryAdd_13, fun q9 => ?_⟩
    refine v_astore_n hC dL_tryAdd_7 rfl (by decide) [(3, .ref q9), (0, .ref h0), (1, .int x1), (2, .int x2)] rfl rfl ?_
    refine v_ldc hC (v := (-9999002)) dL_tryAdd_8 kL_tryAdd_15 rfl ?_
    exact v_irE hC hr rfl rfl dL_tryAdd_10 ⟨(M, o, R, P), hI.up (Nat.le_succ t), rfl⟩
  · rw [h8]
    refine m_ofVL (cc := cL_tryAdd) (nL := 4) (ret := some .int) (hh := [(0, 6, 7, 13), (0, 6, 11, 16)]) hlst RL rfl (by decide) rfl [(0, .ref h0), (1, .int x1), (2, .int x2)] rfl (Nat.le_of_ble_eq_true rfl) ?_
    intro p e s m args below meth c9 hC hr hX htab
    generalize (va_A (WO cy (h0, a, AD) (N, c, D, F, K) (M, o, R, P)) sz) = A9 at hX ⊢
    refine v_eqw (ws' := OX cy h0 a AD (FT N) (FT M) (nI o) (nI c) (nI (F 0)) (nI (F 1)) (FT (P 0)) (FT (P 1)) (nI 0) (rI (fun _ => 0)) ++ HF cy AD (rgD R)) rfl ?_
    refine v_aload_n hC dL_tryAdd_0 rfl 0 rfl rfl ?_
    refine v_iload_n hC dL_tryAdd_1 rfl 1 rfl rfl ?_
    refine v_iload_n hC dL_tryAdd_2 rfl 2 rfl rfl ?_
    refine l_callX hC hX (n := 2) (st := []) (ws' := OX cy h0 a AD (FT N) (FT M) (nI o) (nI c) (nI (F 0)) (nI (F 1)) (FT (P 0)) (FT (P 1)) (nI 0) (rI (fun _ => 0)) ++ HF cy AD (rgD R)) (fun sz => mX7_extra l hX.1 g cy tt sa sz h0 (a 0) (a 7) (a 14) (a 16) (a 24) (a 32) (a 15) (a 1) (a 2) (a 3) (a 4) (a 5) (a 6) AD (nI o) (nI c) (nI (N 0)) (nI (N 1)) (nI (N 2)) (nI (N 3)) (nI (N 4)) (nI (N 5)) (nI (N 6)) (rI (exR N)) (rI (scR N)) (rI (seR N)) (rgD R) x1 x2 h7) (WR.selH (Y := wsel [true, true, true, false, false, false, false, false, false, false, false, false, false, false, false, false, false, false, false, true, true, true, true, true, true, true, false, false, false, false, false, false, false, false, false, false] (OX cy h0 a AD (FT N) (FT M) (nI o) (nI c) (nI (F 0)) (nI (F 1)) (FT (P 0)) (FT (P 1)) (nI 0) (rI (fun _ => 0)))) (RD2 := (rgD R)) [true, true, true, false, false, false, false, false, false, false, false, false, false, false, false, false, false, false, false, true, true, true, true, true, true, true, false, false, false, false, false, false, false, false, false, false] rfl) gL_tryAdd_X7_extra rfl rfl rfl (by decide +kernel) ⟨Nat.le_of_ble_eq_true rfl, Nat.le_of_ble_eq_true rfl⟩ 0 rfl rfl rfl (Nat.le_of_ble_eq_true rfl) rfl ⟨Nat.le_of_ble_eq_true rfl, Nat.le_of_ble_eq_true rfl⟩ dL_tryAdd_3 rfl (fun u9 e9 => nomatch e9) (fun k9 e9 => ?_)
    obtain rfl := Sum.inl.inj e9
    refine ⟨by decide, [⟨0, 6, 7, 13⟩], ⟨0, 6, 11, 16⟩, [], htab.trans rfl, (fun z hz => by rw [List.mem_singleton.mp hz]; exact Or.inr ⟨by decide, "java/lang/IllegalArgumentException", hC.2.2.2.2.1 _ kL_tryAdd_13, hX.2.2.2.1⟩), by decide, by decide, hC.2.2.2.2.1 _ kL_tryAdd_16, fun q9 => ?_⟩
    refine v_astore_n hC dL_tryAdd_11 rfl (by decide) [(3, .ref q9), (0, .ref h0), (1, .int x1), (2, .int x2)] rfl rfl ?_
    refine v_ldc hC (v := (-9999003)) dL_tryAdd_12 kL_tryAdd_18 rfl ?_
    exact v_irE hC hr rfl rfl dL_tryAdd_14 ⟨(M, o, R, P), hI.up (Nat.le_succ t), rfl⟩
  · rw [h8]
    refine m_ofVL (cc := cL_tryAdd) (nL := 4) (ret := some .int) (hh := [(0, 6, 7, 13), (0, 6, 11, 16)]) hlst RL rfl (by decide) rfl [(0, .ref h0), (1, .int x1), (2, .int x2)] rfl (Nat.le_of_ble_eq_true rfl) ?_
    intro p e s m args below meth c9 hC hr hX htab
    generalize (va_A (WO cy (h0, a, AD) (N, c, D, F, K) (M, o, R, P)) sz) = A9 at hX ⊢
    refine v_eqw (ws' := OX cy h0 a AD (FT N) (FT M) (nI o) (nI c) (nI (F 0)) (nI (F 1)) (FT (P 0)) (FT (P 1)) (nI 0) (rI (fun _ => 0)) ++ HF cy AD (rgD R)) rfl ?_
    refine v_aload_n hC dL_tryAdd_0 rfl 0 rfl rfl ?_
    refine v_iload_n hC dL_tryAdd_1 rfl 1 rfl rfl ?_
    refine v_iload_n hC dL_tryAdd_2 rfl 2 rfl rfl ?_
    refine l_callX hC hX (n := 2) (st := []) (ws' := OX cy h0 a AD (nI (N2 0), nI (N 1), nI (N 2), nI (N 3), nI (N 4), nI (N 5), nI (N 6), rI (exR N2), rI (scR N), rI (seR N)) (FT M) (nI (remO o c)) (nI (remC c)) (nI (F 0)) (nI (F 1)) (FT (P 0)) (FT (P 1)) (nI 0) (rI (fun _ => 0)) ++ HF cy AD (rgD (remR R o c N))) (fun sz => mX7_extra l hX.1 g cy tt sa sz h0 (a 0) (a 7) (a 14) (a 16) (a 24) (a 32) (a 15) (a 1) (a 2) (a 3) (a 4) (a 5) (a 6) AD (nI o) (nI c) (nI (N 0)) (nI (N 1)) (nI (N 2)) (nI (N 3)) (nI (N 4)) (nI (N 5)) (nI (N 6)) (rI (exR N)) (rI (scR N)) (rI (seR N)) (rgD R) x1 x2 h7) (WR.selH (Y := wsel [true, true, true, false, false, false, false, false, false, false, false, false, false, false, false, false, false, false, false, true, true, true, true, true, true, true, false, false, false, false, false, false, false, false, false, false] (OX cy h0 a AD (nI (N2 0), nI (N 1), nI (N 2), nI (N 3), nI (N 4), nI (N 5), nI (N 6), rI (exR N2), rI (scR N), rI (seR N)) (FT M) (nI (remO o c)) (nI (remC c)) (nI (F 0)) (nI (F 1)) (FT (P 0)) (FT (P 1)) (nI 0) (rI (fun _ => 0)))) (RD2 := (rgD (remR R o c N))) [true, true, true, false, false, false, false, false, false, false, false, false, false, false, false, false, false, false, false, true, true, true, true, true, true, true, false, false, false, false, false, false, false, false, false, false] rfl) gL_tryAdd_X7_extra rfl rfl rfl (by decide +kernel) ⟨Nat.le_of_ble_eq_true rfl, Nat.le_of_ble_eq_true rfl⟩ 0 rfl rfl rfl (Nat.le_of_ble_eq_true rfl) rfl ⟨Nat.le_of_ble_eq_true rfl, Nat.le_of_ble_eq_true rfl⟩ dL_tryAdd_3 rfl (fun u9 e9 => ?_) (fun k9 e9 => nomatch e9)
    obtain rfl := Sum.inr.inj e9
    refine ⟨rfl, ?_⟩
    rw [← hF]
    exact v_irE hC hr rfl rfl dL_tryAdd_6 ⟨actH (N, c, D, F, K) (M, o, R, P), hI.act hN2, rfl⟩
theorem mL_tryAdd (l : Launch) (hlst : l.stackTraces = false) (g : va_G) (cy : Nat → ClassId) (tt sa : Nat → Nat) (sz : Nat) (A : AA) {t : Nat} {S : SS} {H : HH} (x1 : Int32) (x2 : Int32) (hI : RP t S H) (ht : t < 9000)  : Met l yL_tryAdd wsL_tryAdd rmL_tryAdd (PN [.ref A.1, .int x1, .int x2] g cy tt sa sz (WO cy A S H)) (QE g (va_A (WO cy A S H) sz) (fEx S x1 x2).1 (WP cy A (t + 1) (fEx S x1 x2).2)) 2 12 (va_A (WO cy A S H) sz) := by
  obtain ⟨h0, a, AD⟩ := A
  obtain ⟨N, c, D, F, K⟩ := S
  obtain ⟨M, o, R, P⟩ := H
  exact m0L_tryAdd l hlst g cy tt sa sz h0 a AD x1 x2 hI ht
abbrev rmL_adds : Room := { frames := 8, cells := 2, slots := 12, locals := 135 }
theorem kL_adds_13 : Cond.classLink RL 13 "java/lang/IllegalArgumentException" ∈ wsL_adds := by decide +kernel
theorem kL_adds_16 : Cond.classLink RL 16 "java/lang/IllegalStateException" ∈ wsL_adds := by decide +kernel
theorem kL_adds_15 : Cond.constant RL 15 (-9999002) ∈ wsL_adds := by decide +kernel
theorem kL_adds_18 : Cond.constant RL 18 (-9999003) ∈ wsL_adds := by decide +kernel
set_option maxHeartbeats 4000000 in
set_option maxRecDepth 100000 in
theorem m0L_adds (l : Launch) (hlst : l.stackTraces = false) (g : va_G) (cy : Nat → ClassId) (tt sa : Nat → Nat) (sz : Nat) (h0 : Nat) (a : Nat → Nat) (AD : Nat → Nat → Nat) {t : Nat} {N : Nat → Nat} {c : Nat} {D : Nat → Nat → Nat} {F : Nat → Nat} {K : Nat → Nat → Nat} {M : Nat → Nat} {o : Nat} {R P : Nat → Nat → Nat} (x1 : Int32) (x2 : Int32) (x3 : Int32) (x4 : Int32) (x5 : Int32) (hI : RP t (N, c, D, F, K) (M, o, R, P)) (ht : t < 9000)  : Met l yL_adds wsL_adds rmL_adds (PN [.ref h0, .int x1, .int x2, .int x3, .int x4, .int x5] g cy tt sa sz (WO cy (h0, a, AD) (N, c, D, F, K) (M, o, R, P))) (QE g (va_A (WO cy (h0, a, AD) (N, c, D, F, K) (M, o, R, P)) sz) (fSc (N, c, D, F, K) x1 x2 x3 x4 x5).1 (WP cy (h0, a, AD) (t + 1) (fSc (N, c, D, F, K) x1 x2 x3 x4 x5).2)) 2 12 (va_A (WO cy (h0, a, AD) (N, c, D, F, K) (M, o, R, P)) sz) := by
  have hN : Inv t N := hI.1
  have hH : HR o c R D := hI.2.1
  have hSl : SL F P K := hI.2.2.2.1
  have hKi : ∀ j, j < 2 → F j = 1 → Inv t (K j) := hI.2.2.2.2
  rcases e_scene x1 x2 x3 x4 x5 (FK := (F, K)) hN hH with ⟨h7, h8⟩ | ⟨h7, h8⟩ | ⟨v, N2, hN2, hF, h7, h8⟩
  · rw [h8]
    refine m_ofVL (cc := cL_adds) (nL := 7) (ret := some .int) (hh := [(0, 11, 12, 13), (0, 11, 17, 16)]) hlst RL rfl (by decide) rfl [(0, .ref h0), (1, .int x1), (2, .int x2), (3, .int x3), (4, .int x4), (5, .int x5)] rfl (Nat.le_of_ble_eq_true rfl) ?_
    intro p e s m args below meth c9 hC hr hX htab
    generalize (va_A (WO cy (h0, a, AD) (N, c, D, F, K) (M, o, R, P)) sz) = A9 at hX ⊢
    refine v_eqw (ws' := OX cy h0 a AD (FT N) (FT M) (nI o) (nI c) (nI (F 0)) (nI (F 1)) (FT (P 0)) (FT (P 1)) (nI 0) (rI (fun _ => 0)) ++ HF cy AD (rgD R)) rfl ?_
    refine v_aload_n hC dL_adds_0 rfl 0 rfl rfl ?_
    refine v_iload_n hC dL_adds_1 rfl 1 rfl rfl ?_
    refine v_iload_n hC dL_adds_2 rfl 2 rfl rfl ?_
    refine v_iload_n hC dL_adds_3 rfl 3 rfl rfl ?_
    refine v_iload hC dL_adds_4 4 rfl rfl ?_
    refine v_iload hC dL_adds_6 5 rfl rfl ?_
    refine l_callX hC hX (n := 5) (st := []) (ws' := OX cy h0 a AD (FT N) (FT M) (nI o) (nI c) (nI (F 0)) (nI (F 1)) (FT (P 0)) (FT (P 1)) (nI 0) (rI (fun _ => 0)) ++ HF cy AD (rgD R)) (fun sz => mX7_scene l hX.1 g cy tt sa sz h0 (a 0) (a 7) (a 14) (a 16) (a 24) (a 32) (a 15) (a 1) (a 2) (a 3) (a 4) (a 5) (a 6) AD (nI o) (nI c) (nI (N 0)) (nI (N 1)) (nI (N 2)) (nI (N 3)) (nI (N 4)) (nI (N 5)) (nI (N 6)) (rI (exR N)) (rI (scR N)) (rI (seR N)) (rgD R) x1 x2 x3 x4 x5 h7) (WR.selH (Y := wsel [true, true, true, false, false, false, false, false, false, false, false, false, false, false, false, false, false, false, false, true, true, true, true, true, true, true, false, false, false, false, false, false, false, false, false, false] (OX cy h0 a AD (FT N) (FT M) (nI o) (nI c) (nI (F 0)) (nI (F 1)) (FT (P 0)) (FT (P 1)) (nI 0) (rI (fun _ => 0)))) (RD2 := (rgD R)) [true, true, true, false, false, false, false, false, false, false, false, false, false, false, false, false, false, false, false, true, true, true, true, true, true, true, false, false, false, false, false, false, false, false, false, false] rfl) gL_adds_X7_scene rfl rfl rfl (by decide +kernel) ⟨Nat.le_of_ble_eq_true rfl, Nat.le_of_ble_eq_true rfl⟩ 0 rfl rfl rfl (Nat.le_of_ble_eq_true rfl) rfl ⟨Nat.le_of_ble_eq_true rfl, Nat.le_of_ble_eq_true rfl⟩ dL_adds_8 rfl (fun u9 e9 => nomatch e9) (fun k9 e9 => ?_)
    obtain rfl := Sum.inl.inj e9
    refine ⟨by decide, [], ⟨0, 11, 12, 13⟩, [⟨0, 11, 17, 16⟩], htab.trans rfl, (fun z hz => by cases hz), by decide, by decide, hC.2.2.2.2.1 _ kL_adds_13, fun q9 => ?_⟩
    refine v_astore hC dL_adds_12 (by decide) [(6, .ref q9), (0, .ref h0), (1, .int x1), (2, .int x2), (3, .int x3), (4, .int x4), (5, .int x5)] rfl rfl ?_
    refine v_ldc hC (v := (-9999002)) dL_adds_14 kL_adds_15 rfl ?_
    exact v_irE hC hr rfl rfl dL_adds_16 ⟨(M, o, R, P), hI.up (Nat.le_succ t), rfl⟩
  · rw [h8]
    refine m_ofVL (cc := cL_adds) (nL := 7) (ret := some .int) (hh := [(0, 11, 12, 13), (0, 11, 17, 16)]) hlst RL rfl (by decide) rfl [(0, .ref h0), (1, .int x1), (2, .int x2), (3, .int x3), (4, .int x4), (5, .int x5)] rfl (Nat.le_of_ble_eq_true rfl) ?_
    intro p e s m args below meth c9 hC hr hX htab
    generalize (va_A (WO cy (h0, a, AD) (N, c, D, F, K) (M, o, R, P)) sz) = A9 at hX ⊢
    refine v_eqw (ws' := OX cy h0 a AD (FT N) (FT M) (nI o) (nI c) (nI (F 0)) (nI (F 1)) (FT (P 0)) (FT (P 1)) (nI 0) (rI (fun _ => 0)) ++ HF cy AD (rgD R)) rfl ?_
    refine v_aload_n hC dL_adds_0 rfl 0 rfl rfl ?_
    refine v_iload_n hC dL_adds_1 rfl 1 rfl rfl ?_
    refine v_iload_n hC dL_adds_2 rfl 2 rfl rfl ?_
    refine v_iload_n hC dL_adds_3 rfl 3 rfl rfl ?_
    refine v_iload hC dL_adds_4 4 rfl rfl ?_
    refine v_iload hC dL_adds_6 5 rfl rfl ?_
    refine l_callX hC hX (n := 5) (st := []) (ws' := OX cy h0 a AD (FT N) (FT M) (nI o) (nI c) (nI (F 0)) (nI (F 1)) (FT (P 0)) (FT (P 1)) (nI 0) (rI (fun _ => 0)) ++ HF cy AD (rgD R)) (fun sz => mX7_scene l hX.1 g cy tt sa sz h0 (a 0) (a 7) (a 14) (a 16) (a 24) (a 32) (a 15) (a 1) (a 2) (a 3) (a 4) (a 5) (a 6) AD (nI o) (nI c) (nI (N 0)) (nI (N 1)) (nI (N 2)) (nI (N 3)) (nI (N 4)) (nI (N 5)) (nI (N 6)) (rI (exR N)) (rI (scR N)) (rI (seR N)) (rgD R) x1 x2 x3 x4 x5 h7) (WR.selH (Y := wsel [true, true, true, false, false, false, false, false, false, false, false, false, false, false, false, false, false, false, false, true, true, true, true, true, true, true, false, false, false, false, false, false, false, false, false, false] (OX cy h0 a AD (FT N) (FT M) (nI o) (nI c) (nI (F 0)) (nI (F 1)) (FT (P 0)) (FT (P 1)) (nI 0) (rI (fun _ => 0)))) (RD2 := (rgD R)) [true, true, true, false, false, false, false, false, false, false, false, false, false, false, false, false, false, false, false, true, true, true, true, true, true, true, false, false, false, false, false, false, false, false, false, false] rfl) gL_adds_X7_scene rfl rfl rfl (by decide +kernel) ⟨Nat.le_of_ble_eq_true rfl, Nat.le_of_ble_eq_true rfl⟩ 0 rfl rfl rfl (Nat.le_of_ble_eq_true rfl) rfl ⟨Nat.le_of_ble_eq_true rfl, Nat.le_of_ble_eq_true rfl⟩ dL_adds_8 rfl (fun u9 e9 => nomatch e9) (fun k9 e9 => ?_)
    obtain rfl := Sum.inl.inj e9
    refine ⟨by decide, [⟨0, 11, 12, 13⟩], ⟨0, 11, 17, 16⟩, [], htab.trans rfl, (fun z hz => by rw [List.mem_singleton.mp hz]; exact Or.inr ⟨by decide, "java/lang/IllegalArgumentException", hC.2.2.2.2.1 _ kL_adds_13, hX.2.2.2.1⟩), by decide, by decide, hC.2.2.2.2.1 _ kL_adds_16, fun q9 => ?_⟩
    refine v_astore hC dL_adds_17 (by decide) [(6, .ref q9), (0, .ref h0), (1, .int x1), (2, .int x2), (3, .int x3), (4, .int x4), (5, .int x5)] rfl rfl ?_
    refine v_ldc hC (v := (-9999003)) dL_adds_19 kL_adds_18 rfl ?_
    exact v_irE hC hr rfl rfl dL_adds_21 ⟨(M, o, R, P), hI.up (Nat.le_succ t), rfl⟩
  · rw [h8]
    refine m_ofVL (cc := cL_adds) (nL := 7) (ret := some .int) (hh := [(0, 11, 12, 13), (0, 11, 17, 16)]) hlst RL rfl (by decide) rfl [(0, .ref h0), (1, .int x1), (2, .int x2), (3, .int x3), (4, .int x4), (5, .int x5)] rfl (Nat.le_of_ble_eq_true rfl) ?_
    intro p e s m args below meth c9 hC hr hX htab
    generalize (va_A (WO cy (h0, a, AD) (N, c, D, F, K) (M, o, R, P)) sz) = A9 at hX ⊢
    refine v_eqw (ws' := OX cy h0 a AD (FT N) (FT M) (nI o) (nI c) (nI (F 0)) (nI (F 1)) (FT (P 0)) (FT (P 1)) (nI 0) (rI (fun _ => 0)) ++ HF cy AD (rgD R)) rfl ?_
    refine v_aload_n hC dL_adds_0 rfl 0 rfl rfl ?_
    refine v_iload_n hC dL_adds_1 rfl 1 rfl rfl ?_
    refine v_iload_n hC dL_adds_2 rfl 2 rfl rfl ?_
    refine v_iload_n hC dL_adds_3 rfl 3 rfl rfl ?_
    refine v_iload hC dL_adds_4 4 rfl rfl ?_
    refine v_iload hC dL_adds_6 5 rfl rfl ?_
    refine l_callX hC hX (n := 5) (st := []) (ws' := OX cy h0 a AD (nI (N 0), nI (N2 1), nI (N 2), nI (N 3), nI (N 4), nI (N 5), nI (N 6), rI (exR N), rI (scR N2), rI (seR N)) (FT M) (nI (remO o c)) (nI (remC c)) (nI (F 0)) (nI (F 1)) (FT (P 0)) (FT (P 1)) (nI 0) (rI (fun _ => 0)) ++ HF cy AD (rgD (remR R o c N))) (fun sz => mX7_scene l hX.1 g cy tt sa sz h0 (a 0) (a 7) (a 14) (a 16) (a 24) (a 32) (a 15) (a 1) (a 2) (a 3) (a 4) (a 5) (a 6) AD (nI o) (nI c) (nI (N 0)) (nI (N 1)) (nI (N 2)) (nI (N 3)) (nI (N 4)) (nI (N 5)) (nI (N 6)) (rI (exR N)) (rI (scR N)) (rI (seR N)) (rgD R) x1 x2 x3 x4 x5 h7) (WR.selH (Y := wsel [true, true, true, false, false, false, false, false, false, false, false, false, false, false, false, false, false, false, false, true, true, true, true, true, true, true, false, false, false, false, false, false, false, false, false, false] (OX cy h0 a AD (nI (N 0), nI (N2 1), nI (N 2), nI (N 3), nI (N 4), nI (N 5), nI (N 6), rI (exR N), rI (scR N2), rI (seR N)) (FT M) (nI (remO o c)) (nI (remC c)) (nI (F 0)) (nI (F 1)) (FT (P 0)) (FT (P 1)) (nI 0) (rI (fun _ => 0)))) (RD2 := (rgD (remR R o c N))) [true, true, true, false, false, false, false, false, false, false, false, false, false, false, false, false, false, false, false, true, true, true, true, true, true, true, false, false, false, false, false, false, false, false, false, false] rfl) gL_adds_X7_scene rfl rfl rfl (by decide +kernel) ⟨Nat.le_of_ble_eq_true rfl, Nat.le_of_ble_eq_true rfl⟩ 0 rfl rfl rfl (Nat.le_of_ble_eq_true rfl) rfl ⟨Nat.le_of_ble_eq_true rfl, Nat.le_of_ble_eq_true rfl⟩ dL_adds_8 rfl (fun u9 e9 => ?_) (fun k9 e9 => nomatch e9)
    obtain rfl := Sum.inr.inj e9
    refine ⟨rfl, ?_⟩
    rw [← hF]
    exact v_irE hC hr rfl rfl dL_adds_11 ⟨actH (N, c, D, F, K) (M, o, R, P), hI.act hN2, rfl⟩
theorem mL_adds (l : Launch) (hlst : l.stackTraces = false) (g : va_G) (cy : Nat → ClassId) (tt sa : Nat → Nat) (sz : Nat) (A : AA) {t : Nat} {S : SS} {H : HH} (x1 : Int32) (x2 : Int32) (x3 : Int32) (x4 : Int32) (x5 : Int32) (hI : RP t S H) (ht : t < 9000)  : Met l yL_adds wsL_adds rmL_adds (PN [.ref A.1, .int x1, .int x2, .int x3, .int x4, .int x5] g cy tt sa sz (WO cy A S H)) (QE g (va_A (WO cy A S H) sz) (fSc S x1 x2 x3 x4 x5).1 (WP cy A (t + 1) (fSc S x1 x2 x3 x4 x5).2)) 2 12 (va_A (WO cy A S H) sz) := by
  obtain ⟨h0, a, AD⟩ := A
  obtain ⟨N, c, D, F, K⟩ := S
  obtain ⟨M, o, R, P⟩ := H
  exact m0L_adds l hlst g cy tt sa sz h0 a AD x1 x2 x3 x4 x5 hI ht
abbrev rmL_tryShoot : Room := { frames := 9, cells := 2, slots := 12, locals := 153 }
theorem kL_tryShoot_16 : Cond.classLink RL 16 "java/lang/IllegalStateException" ∈ wsL_tryShoot := by decide +kernel
theorem kL_tryShoot_42 : Cond.classLink RL 42 "java/lang/IndexOutOfBoundsException" ∈ wsL_tryShoot := by decide +kernel
theorem kL_tryShoot_18 : Cond.constant RL 18 (-9999003) ∈ wsL_tryShoot := by decide +kernel
theorem kL_tryShoot_44 : Cond.constant RL 44 (-9999001) ∈ wsL_tryShoot := by decide +kernel
set_option maxHeartbeats 4000000 in
set_option maxRecDepth 100000 in
theorem m0L_tryShoot (l : Launch) (hlst : l.stackTraces = false) (g : va_G) (cy : Nat → ClassId) (tt sa : Nat → Nat) (sz : Nat) (h0 : Nat) (a : Nat → Nat) (AD : Nat → Nat → Nat) {t : Nat} {N : Nat → Nat} {c : Nat} {D : Nat → Nat → Nat} {F : Nat → Nat} {K : Nat → Nat → Nat} {M : Nat → Nat} {o : Nat} {R P : Nat → Nat → Nat} (x1 : Int32) (hI : RP t (N, c, D, F, K) (M, o, R, P)) (ht : t < 9000)  : Met l yL_tryShoot wsL_tryShoot rmL_tryShoot (PN [.ref h0, .int x1] g cy tt sa sz (WO cy (h0, a, AD) (N, c, D, F, K) (M, o, R, P))) (QE g (va_A (WO cy (h0, a, AD) (N, c, D, F, K) (M, o, R, P)) sz) (fSh (N, c, D, F, K) x1).1 (WP cy (h0, a, AD) (t + 1) (fSh (N, c, D, F, K) x1).2)) 2 12 (va_A (WO cy (h0, a, AD) (N, c, D, F, K) (M, o, R, P)) sz) := by
  have hN : Inv t N := hI.1
  have hH : HR o c R D := hI.2.1
  have hSl : SL F P K := hI.2.2.2.1
  have hKi : ∀ j, j < 2 → F j = 1 → Inv t (K j) := hI.2.2.2.2
  rcases e_shoot x1 (FK := (F, K)) hN (by omega) hH with ⟨h7, h8⟩ | ⟨h7, h8⟩ | ⟨v, N2, hN2, hF, h7, h8⟩
  · rw [h8]
    refine m_ofVL (cc := cL_tryShoot) (nL := 3) (ret := some .int) (hh := [(0, 5, 6, 42), (0, 5, 10, 16)]) hlst RL rfl (by decide) rfl [(0, .ref h0), (1, .int x1)] rfl (Nat.le_of_ble_eq_true rfl) ?_
    intro p e s m args below meth c9 hC hr hX htab
    generalize (va_A (WO cy (h0, a, AD) (N, c, D, F, K) (M, o, R, P)) sz) = A9 at hX ⊢
    refine v_eqw (ws' := OX cy h0 a AD (FT N) (FT M) (nI o) (nI c) (nI (F 0)) (nI (F 1)) (FT (P 0)) (FT (P 1)) (nI 0) (rI (fun _ => 0)) ++ HF cy AD (rgD R)) rfl ?_
    refine v_aload_n hC dL_tryShoot_0 rfl 0 rfl rfl ?_
    refine v_iload_n hC dL_tryShoot_1 rfl 1 rfl rfl ?_
    refine l_callX hC hX (n := 1) (st := []) (ws' := OX cy h0 a AD (FT N) (FT M) (nI o) (nI c) (nI (F 0)) (nI (F 1)) (FT (P 0)) (FT (P 1)) (nI 0) (rI (fun _ => 0)) ++ HF cy AD (rgD R)) (fun sz => mX7_shoot l hX.1 g cy tt sa sz h0 (a 0) (a 7) (a 14) (a 16) (a 24) (a 32) (a 15) (a 1) (a 2) (a 3) (a 4) (a 5) (a 6) AD (nI o) (nI c) (nI (N 0)) (nI (N 1)) (nI (N 2)) (nI (N 3)) (nI (N 4)) (nI (N 5)) (nI (N 6)) (rI (exR N)) (rI (scR N)) (rI (seR N)) (rgD R) x1 h7) (WR.selH (Y := wsel [true, true, true, false, false, false, false, false, false, false, false, false, false, false, false, false, false, false, false, true, true, true, true, true, true, true, false, false, false, false, false, false, false, false, false, false] (OX cy h0 a AD (FT N) (FT M) (nI o) (nI c) (nI (F 0)) (nI (F 1)) (FT (P 0)) (FT (P 1)) (nI 0) (rI (fun _ => 0)))) (RD2 := (rgD R)) [true, true, true, false, false, false, false, false, false, false, false, false, false, false, false, false, false, false, false, true, true, true, true, true, true, true, false, false, false, false, false, false, false, false, false, false] rfl) gL_tryShoot_X7_shoot rfl rfl rfl (by decide +kernel) ⟨Nat.le_of_ble_eq_true rfl, Nat.le_of_ble_eq_true rfl⟩ 0 rfl rfl rfl (Nat.le_of_ble_eq_true rfl) rfl ⟨Nat.le_of_ble_eq_true rfl, Nat.le_of_ble_eq_true rfl⟩ dL_tryShoot_2 rfl (fun u9 e9 => nomatch e9) (fun k9 e9 => ?_)
    obtain rfl := Sum.inl.inj e9
    refine ⟨by decide, [], ⟨0, 5, 6, 42⟩, [⟨0, 5, 10, 16⟩], htab.trans rfl, (fun z hz => by cases hz), by decide, by decide, hC.2.2.2.2.1 _ kL_tryShoot_42, fun q9 => ?_⟩
    refine v_astore_n hC dL_tryShoot_6 rfl (by decide) [(2, .ref q9), (0, .ref h0), (1, .int x1)] rfl rfl ?_
    refine v_ldc hC (v := (-9999001)) dL_tryShoot_7 kL_tryShoot_44 rfl ?_
    exact v_irE hC hr rfl rfl dL_tryShoot_9 ⟨(M, o, R, P), hI.up (Nat.le_succ t), rfl⟩
  · rw [h8]
    refine m_ofVL (cc := cL_tryShoot) (nL := 3) (ret := some .int) (hh := [(0, 5, 6, 42), (0, 5, 10, 16)]) hlst RL rfl (by decide) rfl [(0, .ref h0), (1, .int x1)] rfl (Nat.le_of_ble_eq_true rfl) ?_
    intro p e s m args below meth c9 hC hr hX htab
    generalize (va_A (WO cy (h0, a, AD) (N, c, D, F, K) (M, o, R, P)) sz) = A9 at hX ⊢
    refine v_eqw (ws' := OX cy h0 a AD (FT N) (FT M) (nI o) (nI c) (nI (F 0)) (nI (F 1)) (FT (P 0)) (FT (P 1)) (nI 0) (rI (fun _ => 0)) ++ HF cy AD (rgD R)) rfl ?_
    refine v_aload_n hC dL_tryShoot_0 rfl 0 rfl rfl ?_
    refine v_iload_n hC dL_tryShoot_1 rfl 1 rfl rfl ?_
    refine l_callX hC hX (n := 1) (st := []) (ws' := OX cy h0 a AD (FT N) (FT M) (nI o) (nI c) (nI (F 0)) (nI (F 1)) (FT (P 0)) (FT (P 1)) (nI 0) (rI (fun _ => 0)) ++ HF cy AD (rgD R)) (fun sz => mX7_shoot l hX.1 g cy tt sa sz h0 (a 0) (a 7) (a 14) (a 16) (a 24) (a 32) (a 15) (a 1) (a 2) (a 3) (a 4) (a 5) (a 6) AD (nI o) (nI c) (nI (N 0)) (nI (N 1)) (nI (N 2)) (nI (N 3)) (nI (N 4)) (nI (N 5)) (nI (N 6)) (rI (exR N)) (rI (scR N)) (rI (seR N)) (rgD R) x1 h7) (WR.selH (Y := wsel [true, true, true, false, false, false, false, false, false, false, false, false, false, false, false, false, false, false, false, true, true, true, true, true, true, true, false, false, false, false, false, false, false, false, false, false] (OX cy h0 a AD (FT N) (FT M) (nI o) (nI c) (nI (F 0)) (nI (F 1)) (FT (P 0)) (FT (P 1)) (nI 0) (rI (fun _ => 0)))) (RD2 := (rgD R)) [true, true, true, false, false, false, false, false, false, false, false, false, false, false, false, false, false, false, false, true, true, true, true, true, true, true, false, false, false, false, false, false, false, false, false, false] rfl) gL_tryShoot_X7_shoot rfl rfl rfl (by decide +kernel) ⟨Nat.le_of_ble_eq_true rfl, Nat.le_of_ble_eq_true rfl⟩ 0 rfl rfl rfl (Nat.le_of_ble_eq_true rfl) rfl ⟨Nat.le_of_ble_eq_true rfl, Nat.le_of_ble_eq_true rfl⟩ dL_tryShoot_2 rfl (fun u9 e9 => nomatch e9) (fun k9 e9 => ?_)
    obtain rfl := Sum.inl.inj e9
    refine ⟨by decide, [⟨0, 5, 6, 42⟩], ⟨0, 5, 10, 16⟩, [], htab.trans rfl, (fun z hz => by rw [List.mem_singleton.mp hz]; exact Or.inr ⟨by decide, "java/lang/IndexOutOfBoundsException", hC.2.2.2.2.1 _ kL_tryShoot_42, hX.2.2.2.2.2⟩), by decide, by decide, hC.2.2.2.2.1 _ kL_tryShoot_16, fun q9 => ?_⟩
    refine v_astore_n hC dL_tryShoot_10 rfl (by decide) [(2, .ref q9), (0, .ref h0), (1, .int x1)] rfl rfl ?_
    refine v_ldc hC (v := (-9999003)) dL_tryShoot_11 kL_tryShoot_18 rfl ?_
    exact v_irE hC hr rfl rfl dL_tryShoot_13 ⟨(M, o, R, P), hI.up (Nat.le_succ t), rfl⟩
  · rw [h8]
    refine m_ofVL (cc := cL_tryShoot) (nL := 3) (ret := some .int) (hh := [(0, 5, 6, 42), (0, 5, 10, 16)]) hlst RL rfl (by decide) rfl [(0, .ref h0), (1, .int x1)] rfl (Nat.le_of_ble_eq_true rfl) ?_
    intro p e s m args below meth c9 hC hr hX htab
    generalize (va_A (WO cy (h0, a, AD) (N, c, D, F, K) (M, o, R, P)) sz) = A9 at hX ⊢
    refine v_eqw (ws' := OX cy h0 a AD (FT N) (FT M) (nI o) (nI c) (nI (F 0)) (nI (F 1)) (FT (P 0)) (FT (P 1)) (nI 0) (rI (fun _ => 0)) ++ HF cy AD (rgD R)) rfl ?_
    refine v_aload_n hC dL_tryShoot_0 rfl 0 rfl rfl ?_
    refine v_iload_n hC dL_tryShoot_1 rfl 1 rfl rfl ?_
    refine l_callX hC hX (n := 1) (st := []) (ws' := OX cy h0 a AD (nI (N 0), nI (N 1), nI (N 2), nI (N2 3), nI (N2 4), nI (N2 5), nI (N2 6), rI (exR N2), rI (scR N2), rI (seR N)) (FT M) (nI (remO o c)) (nI (remC c)) (nI (F 0)) (nI (F 1)) (FT (P 0)) (FT (P 1)) (nI 0) (rI (fun _ => 0)) ++ HF cy AD (rgD (remR R o c N))) (fun sz => mX7_shoot l hX.1 g cy tt sa sz h0 (a 0) (a 7) (a 14) (a 16) (a 24) (a 32) (a 15) (a 1) (a 2) (a 3) (a 4) (a 5) (a 6) AD (nI o) (nI c) (nI (N 0)) (nI (N 1)) (nI (N 2)) (nI (N 3)) (nI (N 4)) (nI (N 5)) (nI (N 6)) (rI (exR N)) (rI (scR N)) (rI (seR N)) (rgD R) x1 h7) (WR.selH (Y := wsel [true, true, true, false, false, false, false, false, false, false, false, false, false, false, false, false, false, false, false, true, true, true, true, true, true, true, false, false, false, false, false, false, false, false, false, false] (OX cy h0 a AD (nI (N 0), nI (N 1), nI (N 2), nI (N2 3), nI (N2 4), nI (N2 5), nI (N2 6), rI (exR N2), rI (scR N2), rI (seR N)) (FT M) (nI (remO o c)) (nI (remC c)) (nI (F 0)) (nI (F 1)) (FT (P 0)) (FT (P 1)) (nI 0) (rI (fun _ => 0)))) (RD2 := (rgD (remR R o c N))) [true, true, true, false, false, false, false, false, false, false, false, false, false, false, false, false, false, false, false, true, true, true, true, true, true, true, false, false, false, false, false, false, false, false, false, false] rfl) gL_tryShoot_X7_shoot rfl rfl rfl (by decide +kernel) ⟨Nat.le_of_ble_eq_true rfl, Nat.le_of_ble_eq_true rfl⟩ 0 rfl rfl rfl (Nat.le_of_ble_eq_true rfl) rfl ⟨Nat.le_of_ble_eq_true rfl, Nat.le_of_ble_eq_true rfl⟩ dL_tryShoot_2 rfl (fun u9 e9 => ?_) (fun k9 e9 => nomatch e9)
    obtain rfl := Sum.inr.inj e9
    refine ⟨rfl, ?_⟩
    rw [← hF]
    exact v_irE hC hr rfl rfl dL_tryShoot_5 ⟨actH (N, c, D, F, K) (M, o, R, P), hI.act hN2, rfl⟩
theorem mL_tryShoot (l : Launch) (hlst : l.stackTraces = false) (g : va_G) (cy : Nat → ClassId) (tt sa : Nat → Nat) (sz : Nat) (A : AA) {t : Nat} {S : SS} {H : HH} (x1 : Int32) (hI : RP t S H) (ht : t < 9000)  : Met l yL_tryShoot wsL_tryShoot rmL_tryShoot (PN [.ref A.1, .int x1] g cy tt sa sz (WO cy A S H)) (QE g (va_A (WO cy A S H) sz) (fSh S x1).1 (WP cy A (t + 1) (fSh S x1).2)) 2 12 (va_A (WO cy A S H) sz) := by
  obtain ⟨h0, a, AD⟩ := A
  obtain ⟨N, c, D, F, K⟩ := S
  obtain ⟨M, o, R, P⟩ := H
  exact m0L_tryShoot l hlst g cy tt sa sz h0 a AD x1 hI ht

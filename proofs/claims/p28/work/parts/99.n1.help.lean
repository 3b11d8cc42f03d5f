/-! ===== the helpers of the law ===== -/
abbrev rmL_tryWould : Room := { frames := 9, cells := 2, slots := 12, locals := 154 }
theorem kL_tryWould_13 : Cond.classLink RL 13 "java/lang/IllegalArgumentException" ∈ wsL_tryWould := by decide +kernel
theorem kL_tryWould_42 : Cond.classLink RL 42 "java/lang/IndexOutOfBoundsException" ∈ wsL_tryWould := by decide +kernel
theorem kL_tryWould_15 : Cond.constant RL 15 (-9999002) ∈ wsL_tryWould := by decide +kernel
theorem kL_tryWould_44 : Cond.constant RL 44 (-9999001) ∈ wsL_tryWould := by decide +kernel
set_option maxHeartbeats 4000000 in
set_option maxRecDepth 100000 in
theorem m0L_tryWould (l : Launch) (hlst : l.stackTraces = false) (g : va_G) (cy : Nat → ClassId) (tt sa : Nat → Nat) (sz : Nat) (h0 : Nat) (a : Nat → Nat) (AD : Nat → Nat → Nat) {t : Nat} {N : Nat → Nat} {c : Nat} {D : Nat → Nat → Nat} {F : Nat → Nat} {K : Nat → Nat → Nat} {M : Nat → Nat} {o : Nat} {R P : Nat → Nat → Nat} (x1 : Int32) (x2 : Int32) (hI : RP t (N, c, D, F, K) (M, o, R, P)) (ht : t < 9000)  : Met l yL_tryWould wsL_tryWould rmL_tryWould (PN [.ref h0, .int x1, .int x2] g cy tt sa sz (WO cy (h0, a, AD) (N, c, D, F, K) (M, o, R, P))) (QE g (va_A (WO cy (h0, a, AD) (N, c, D, F, K) (M, o, R, P)) sz) (aWo N x1 x2) (WP cy (h0, a, AD) t (N, c, D, F, K))) 2 12 (va_A (WO cy (h0, a, AD) (N, c, D, F, K) (M, o, R, P)) sz) := by
  have hN : Inv t N := hI.1
  have hH : HR o c R D := hI.2.1
  have hSl : SL F P K := hI.2.2.2.1
  have hKi : ∀ j, j < 2 → F j = 1 → Inv t (K j) := hI.2.2.2.2
  rcases e_would x1 x2 hN (by omega) with ⟨h7, h8⟩ | ⟨h7, h8⟩ | h7
  · rw [h8]
    refine m_ofVL (cc := cL_tryWould) (nL := 4) (ret := some .int) (hh := [(0, 6, 7, 42), (0, 6, 11, 13)]) hlst RL rfl (by decide) rfl [(0, .ref h0), (1, .int x1), (2, .int x2)] rfl (Nat.le_of_ble_eq_true rfl) ?_
    intro p e s m args below meth c9 hC hr hX htab
    generalize (va_A (WO cy (h0, a, AD) (N, c, D, F, K) (M, o, R, P)) sz) = A9 at hX ⊢
    refine v_eqw (ws' := OX cy h0 a AD (FT N) (FT M) (nI o) (nI c) (nI (F 0)) (nI (F 1)) (FT (P 0)) (FT (P 1)) (nI 0) (rI (fun _ => 0)) ++ HF cy AD (rgD R)) rfl ?_
    refine v_aload_n hC dL_tryWould_0 rfl 0 rfl rfl ?_
    refine v_iload_n hC dL_tryWould_1 rfl 1 rfl rfl ?_
    refine v_iload_n hC dL_tryWould_2 rfl 2 rfl rfl ?_
    refine l_callX hC hX (n := 2) (st := []) (ws' := OX cy h0 a AD (FT N) (FT M) (nI o) (nI c) (nI (F 0)) (nI (F 1)) (FT (P 0)) (FT (P 1)) (nI 0) (rI (fun _ => 0)) ++ HF cy AD (rgD R)) (fun sz => mX7_would l hX.1 g cy tt sa sz h0 (a 0) (a 7) (a 14) (a 16) (a 24) (a 32) (a 1) (a 2) (a 3) (a 4) (a 5) (a 6) (nI (N 0)) (nI (N 1)) (nI (N 2)) (nI (N 3)) (nI (N 4)) (nI (N 5)) (nI (N 6)) (rI (exR N)) (rI (scR N)) (rI (seR N)) x1 x2 h7) (WR.sel (Y := wsel [true, false, false, false, false, false, false, false, false, false, false, false, false, false, false, false, false, false, false, true, true, true, true, true, true, true, false, false, false, false, false, false, false, false, false, false] (OX cy h0 a AD (FT N) (FT M) (nI o) (nI c) (nI (F 0)) (nI (F 1)) (FT (P 0)) (FT (P 1)) (nI 0) (rI (fun _ => 0)))) [true, false, false, false, false, false, false, false, false, false, false, false, false, false, false, false, false, false, false, true, true, true, true, true, true, true, false, false, false, false, false, false, false, false, false, false] rfl) gL_tryWould_X7_would rfl rfl rfl (by decide +kernel) ⟨Nat.le_of_ble_eq_true rfl, Nat.le_of_ble_eq_true rfl⟩ 0 rfl rfl rfl (Nat.le_of_ble_eq_true rfl) rfl ⟨Nat.le_of_ble_eq_true rfl, Nat.le_of_ble_eq_true rfl⟩ dL_tryWould_3 rfl (fun u9 e9 => nomatch e9) (fun k9 e9 => ?_)
    obtain rfl := Sum.inl.inj e9
    refine ⟨by decide, [], ⟨0, 6, 7, 42⟩, [⟨0, 6, 11, 13⟩], htab.trans rfl, (fun z hz => by cases hz), by decide, by decide, hC.2.2.2.2.1 _ kL_tryWould_42, fun q9 => ?_⟩
    refine v_astore_n hC dL_tryWould_7 rfl (by decide) [(3, .ref q9), (0, .ref h0), (1, .int x1), (2, .int x2)] rfl rfl ?_
    refine v_ldc hC (v := (-9999001)) dL_tryWould_8 kL_tryWould_44 rfl ?_
    exact v_irE hC hr rfl rfl dL_tryWould_10 ⟨(M, o, R, P), hI, rfl⟩
  · rw [h8]
    refine m_ofVL (cc := cL_tryWould) (nL := 4) (ret := some .int) (hh := [(0, 6, 7, 42), (0, 6, 11, 13)]) hlst RL rfl (by decide) rfl [(0, .ref h0), (1, .int x1), (2, .int x2)] rfl (Nat.le_of_ble_eq_true rfl) ?_
    intro p e s m args below meth c9 hC hr hX htab
    generalize (va_A (WO cy (h0, a, AD) (N, c, D, F, K) (M, o, R, P)) sz) = A9 at hX ⊢
    refine v_eqw (ws' := OX cy h0 a AD (FT N) (FT M) (nI o) (nI c) (nI (F 0)) (nI (F 1)) (FT (P 0)) (FT (P 1)) (nI 0) (rI (fun _ => 0)) ++ HF cy AD (rgD R)) rfl ?_
    refine v_aload_n hC dL_tryWould_0 rfl 0 rfl rfl ?_
    refine v_iload_n hC dL_tryWould_1 rfl 1 rfl rfl ?_
    refine v_iload_n hC dL_tryWould_2 rfl 2 rfl rfl ?_
    refine l_callX hC hX (n := 2) (st := []) (ws' := OX cy h0 a AD (FT N) (FT M) (nI o) (nI c) (nI (F 0)) (nI (F 1)) (FT (P 0)) (FT (P 1)) (nI 0) (rI (fun _ => 0)) ++ HF cy AD (rgD R)) (fun sz => mX7_would l hX.1 g cy tt sa sz h0 (a 0) (a 7) (a 14) (a 16) (a 24) (a 32) (a 1) (a 2) (a 3) (a 4) (a 5) (a 6) (nI (N 0)) (nI (N 1)) (nI (N 2)) (nI (N 3)) (nI (N 4)) (nI (N 5)) (nI (N 6)) (rI (exR N)) (rI (scR N)) (rI (seR N)) x1 x2 h7) (WR.sel (Y := wsel [true, false, false, false, false, false, false, false, false, false, false, false, false, false, false, false, false, false, false, true, true, true, true, true, true, true, false, false, false, false, false, false, false, false, false, false] (OX cy h0 a AD (FT N) (FT M) (nI o) (nI c) (nI (F 0)) (nI (F 1)) (FT (P 0)) (FT (P 1)) (nI 0) (rI (fun _ => 0)))) [true, false, false, false, false, false, false, false, false, false, false, false, false, false, false, false, false, false, false, true, true, true, true, true, true, true, false, false, false, false, false, false, false, false, false, false] rfl) gL_tryWould_X7_would rfl rfl rfl (by decide +kernel) ⟨Nat.le_of_ble_eq_true rfl, Nat.le_of_ble_eq_true rfl⟩ 0 rfl rfl rfl (Nat.le_of_ble_eq_true rfl) rfl ⟨Nat.le_of_ble_eq_true rfl, Nat.le_of_ble_eq_true rfl⟩ dL_tryWould_3 rfl (fun u9 e9 => nomatch e9) (fun k9 e9 => ?_)
    obtain rfl := Sum.inl.inj e9
    refine ⟨by decide, [⟨0, 6, 7, 42⟩], ⟨0, 6, 11, 13⟩, [], htab.trans rfl, (fun z hz => by rw [List.mem_singleton.mp hz]; exact Or.inr ⟨by decide, "java/lang/IndexOutOfBoundsException", hC.2.2.2.2.1 _ kL_tryWould_42, hX.2.2.2.2.1⟩), by decide, by decide, hC.2.2.2.2.1 _ kL_tryWould_13, fun q9 => ?_⟩
    refine v_astore_n hC dL_tryWould_11 rfl (by decide) [(3, .ref q9), (0, .ref h0), (1, .int x1), (2, .int x2)] rfl rfl ?_
    refine v_ldc hC (v := (-9999002)) dL_tryWould_12 kL_tryWould_15 rfl ?_
    exact v_irE hC hr rfl rfl dL_tryWould_14 ⟨(M, o, R, P), hI, rfl⟩
  · refine m_ofVL (cc := cL_tryWould) (nL := 4) (ret := some .int) (hh := [(0, 6, 7, 42), (0, 6, 11, 13)]) hlst RL rfl (by decide) rfl [(0, .ref h0), (1, .int x1), (2, .int x2)] rfl (Nat.le_of_ble_eq_true rfl) ?_
    intro p e s m args below meth c9 hC hr hX htab
    generalize (va_A (WO cy (h0, a, AD) (N, c, D, F, K) (M, o, R, P)) sz) = A9 at hX ⊢
    refine v_eqw (ws' := OX cy h0 a AD (FT N) (FT M) (nI o) (nI c) (nI (F 0)) (nI (F 1)) (FT (P 0)) (FT (P 1)) (nI 0) (rI (fun _ => 0)) ++ HF cy AD (rgD R)) rfl ?_
    refine v_aload_n hC dL_tryWould_0 rfl 0 rfl rfl ?_
    refine v_iload_n hC dL_tryWould_1 rfl 1 rfl rfl ?_
    refine v_iload_n hC dL_tryWould_2 rfl 2 rfl rfl ?_
    refine l_callX hC hX (n := 2) (st := []) (ws' := OX cy h0 a AD (FT N) (FT M) (nI o) (nI c) (nI (F 0)) (nI (F 1)) (FT (P 0)) (FT (P 1)) (nI 0) (rI (fun _ => 0)) ++ HF cy AD (rgD R)) (fun sz => mX7_would l hX.1 g cy tt sa sz h0 (a 0) (a 7) (a 14) (a 16) (a 24) (a 32) (a 1) (a 2) (a 3) (a 4) (a 5) (a 6) (nI (N 0)) (nI (N 1)) (nI (N 2)) (nI (N 3)) (nI (N 4)) (nI (N 5)) (nI (N 6)) (rI (exR N)) (rI (scR N)) (rI (seR N)) x1 x2 h7) (WR.sel (Y := wsel [true, false, false, false, false, false, false, false, false, false, false, false, false, false, false, false, false, false, false, true, true, true, true, true, true, true, false, false, false, false, false, false, false, false, false, false] (OX cy h0 a AD (FT N) (FT M) (nI o) (nI c) (nI (F 0)) (nI (F 1)) (FT (P 0)) (FT (P 1)) (nI 0) (rI (fun _ => 0)))) [true, false, false, false, false, false, false, false, false, false, false, false, false, false, false, false, false, false, false, true, true, true, true, true, true, true, false, false, false, false, false, false, false, false, false, false] rfl) gL_tryWould_X7_would rfl rfl rfl (by decide +kernel) ⟨Nat.le_of_ble_eq_true rfl, Nat.le_of_ble_eq_true rfl⟩ 0 rfl rfl rfl (Nat.le_of_ble_eq_true rfl) rfl ⟨Nat.le_of_ble_eq_true rfl, Nat.le_of_ble_eq_true rfl⟩ dL_tryWould_3 rfl (fun u9 e9 => ?_) (fun k9 e9 => nomatch e9)
    obtain rfl := Sum.inr.inj e9
    refine ⟨rfl, ?_⟩
    exact v_irE hC hr rfl rfl dL_tryWould_6 ⟨(M, o, R, P), hI, rfl⟩
theorem mL_tryWould (l : Launch) (hlst : l.stackTraces = false) (g : va_G) (cy : Nat → ClassId) (tt sa : Nat → Nat) (sz : Nat) (A : AA) {t : Nat} {S : SS} {H : HH} (x1 : Int32) (x2 : Int32) (hI : RP t S H) (ht : t < 9000)  : Met l yL_tryWould wsL_tryWould rmL_tryWould (PN [.ref A.1, .int x1, .int x2] g cy tt sa sz (WO cy A S H)) (QE g (va_A (WO cy A S H) sz) (aWo S.1 x1 x2) (WP cy A t S)) 2 12 (va_A (WO cy A S H) sz) := by
  obtain ⟨h0, a, AD⟩ := A
  obtain ⟨N, c, D, F, K⟩ := S
  obtain ⟨M, o, R, P⟩ := H
  exact m0L_tryWould l hlst g cy tt sa sz h0 a AD x1 x2 hI ht
abbrev rmL_tryWhy : Room := { frames := 9, cells := 2, slots := 12, locals := 153 }
theorem kL_tryWhy_42 : Cond.classLink RL 42 "java/lang/IndexOutOfBoundsException" ∈ wsL_tryWhy := by decide +kernel
theorem kL_tryWhy_44 : Cond.constant RL 44 (-9999001) ∈ wsL_tryWhy := by decide +kernel
set_option maxHeartbeats 4000000 in
set_option maxRecDepth 100000 in
theorem m0L_tryWhy (l : Launch) (hlst : l.stackTraces = false) (g : va_G) (cy : Nat → ClassId) (tt sa : Nat → Nat) (sz : Nat) (h0 : Nat) (a : Nat → Nat) (AD : Nat → Nat → Nat) {t : Nat} {N : Nat → Nat} {c : Nat} {D : Nat → Nat → Nat} {F : Nat → Nat} {K : Nat → Nat → Nat} {M : Nat → Nat} {o : Nat} {R P : Nat → Nat → Nat} (x1 : Int32) (x2 : Int32) (hI : RP t (N, c, D, F, K) (M, o, R, P)) (ht : t < 9000)  : Met l yL_tryWhy wsL_tryWhy rmL_tryWhy (PN [.ref h0, .int x1, .int x2] g cy tt sa sz (WO cy (h0, a, AD) (N, c, D, F, K) (M, o, R, P))) (QE g (va_A (WO cy (h0, a, AD) (N, c, D, F, K) (M, o, R, P)) sz) (aWh N x1 x2) (WP cy (h0, a, AD) t (N, c, D, F, K))) 2 12 (va_A (WO cy (h0, a, AD) (N, c, D, F, K) (M, o, R, P)) sz) := by
  have hN : Inv t N := hI.1
  have hH : HR o c R D := hI.2.1
  have hSl : SL F P K := hI.2.2.2.1
  have hKi : ∀ j, j < 2 → F j = 1 → Inv t (K j) := hI.2.2.2.2
  rcases e_why x1 x2 hN (by omega) with ⟨h7, h8⟩ | h7
  · rw [h8]
    refine m_ofVL (cc := cL_tryWhy) (nL := 4) (ret := some .int) (hh := [(0, 6, 7, 42)]) hlst RL rfl (by decide) rfl [(0, .ref h0), (1, .int x1), (2, .int x2)] rfl (Nat.le_of_ble_eq_true rfl) ?_
    intro p e s m args below meth c9 hC hr hX htab
    generalize (va_A (WO cy (h0, a, AD) (N, c, D, F, K) (M, o, R, P)) sz) = A9 at hX ⊢
    refine v_eqw (ws' := OX cy h0 a AD (FT N) (FT M) (nI o) (nI c) (nI (F 0)) (nI (F 1)) (FT (P 0)) (FT (P 1)) (nI 0) (rI (fun _ => 0)) ++ HF cy AD (rgD R)) rfl ?_
    refine v_aload_n hC dL_tryWhy_0 rfl 0 rfl rfl ?_
    refine v_iload_n hC dL_tryWhy_1 rfl 1 rfl rfl ?_
    refine v_iload_n hC dL_tryWhy_2 rfl 2 rfl rfl ?_
    refine l_callX hC hX (n := 2) (st := []) (ws' := OX cy h0 a AD (FT N) (FT M) (nI o) (nI c) (nI (F 0)) (nI (F 1)) (FT (P 0)) (FT (P 1)) (nI 0) (rI (fun _ => 0)) ++ HF cy AD (rgD R)) (fun sz => mX7_why l hX.1 g cy tt sa sz h0 (a 0) (a 7) (a 14) (a 16) (a 24) (a 32) (a 1) (a 2) (a 3) (a 4) (a 5) (a 6) (nI (N 0)) (nI (N 1)) (nI (N 2)) (nI (N 3)) (nI (N 4)) (nI (N 5)) (nI (N 6)) (rI (exR N)) (rI (scR N)) (rI (seR N)) x1 x2 h7) (WR.sel (Y := wsel [true, false, false, false, false, false, false, false, false, false, false, false, false, false, false, false, false, false, false, true, true, true, true, true, true, true, false, false, false, false, false, false, false, false, false, false] (OX cy h0 a AD (FT N) (FT M) (nI o) (nI c) (nI (F 0)) (nI (F 1)) (FT (P 0)) (FT (P 1)) (nI 0) (rI (fun _ => 0)))) [true, false, false, false, false, false, false, false, false, false, false, false, false, false, false, false, false, false, false, true, true, true, true, true, true, true, false, false, false, false, false, false, false, false, false, false] rfl) gL_tryWhy_X7_why rfl rfl rfl (by decide +kernel) ⟨Nat.le_of_ble_eq_true rfl, Nat.le_of_ble_eq_true rfl⟩ 0 rfl rfl rfl (Nat.le_of_ble_eq_true rfl) rfl ⟨Nat.le_of_ble_eq_true rfl, Nat.le_of_ble_eq_true rfl⟩ dL_tryWhy_3 rfl (fun u9 e9 => nomatch e9) (fun k9 e9 => ?_)
    obtain rfl := Sum.inl.inj e9
    refine ⟨by decide, [], ⟨0, 6, 7, 42⟩, [], htab.trans rfl, (fun z hz => by cases hz), by decide, by decide, hC.2.2.2.2.1 _ kL_tryWhy_42, fun q9 => ?_⟩
    refine v_astore_n hC dL_tryWhy_7 rfl (by decide) [(3, .ref q9), (0, .ref h0), (1, .int x1), (2, .int x2)] rfl rfl ?_
    refine v_ldc hC (v := (-9999001)) dL_tryWhy_8 kL_tryWhy_44 rfl ?_
    exact v_irE hC hr rfl rfl dL_tryWhy_10 ⟨(M, o, R, P), hI, rfl⟩
  · refine m_ofVL (cc := cL_tryWhy) (nL := 4) (ret := some .int) (hh := [(0, 6, 7, 42)]) hlst RL rfl (by decide) rfl [(0, .ref h0), (1, .int x1), (2, .int x2)] rfl (Nat.le_of_ble_eq_true rfl) ?_
    intro p e s m args below meth c9 hC hr hX htab
    generalize (va_A (WO cy (h0, a, AD) (N, c, D, F, K) (M, o, R, P)) sz) = A9 at hX ⊢
    refine v_eqw (ws' := OX cy h0 a AD (FT N) (FT M) (nI o) (nI c) (nI (F 0)) (nI (F 1)) (FT (P 0)) (FT (P 1)) (nI 0) (rI (fun _ => 0)) ++ HF cy AD (rgD R)) rfl ?_
    refine v_aload_n hC dL_tryWhy_0 rfl 0 rfl rfl ?_
    refine v_iload_n hC dL_tryWhy_1 rfl 1 rfl rfl ?_
    refine v_iload_n hC dL_tryWhy_2 rfl 2 rfl rfl ?_
    refine l_callX hC hX (n := 2) (st := []) (ws' := OX cy h0 a AD (FT N) (FT M) (nI o) (nI c) (nI (F 0)) (nI (F 1)) (FT (P 0)) (FT (P 1)) (nI 0) (rI (fun _ => 0)) ++ HF cy AD (rgD R)) (fun sz => mX7_why l hX.1 g cy tt sa sz h0 (a 0) (a 7) (a 14) (a 16) (a 24) (a 32) (a 1) (a 2) (a 3) (a 4) (a 5) (a 6) (nI (N 0)) (nI (N 1)) (nI (N 2)) (nI (N 3)) (nI (N 4)) (nI (N 5)) (nI (N 6)) (rI (exR N)) (rI (scR N)) (rI (seR N)) x1 x2 h7) (WR.sel (Y := wsel [true, false, false, false, false, false, false, false, false, false, false, false, false, false, false, false, false, false, false, true, true, true, true, true, true, true, false, false, false, false, false, false, false, false, false, false] (OX cy h0 a AD (FT N) (FT M) (nI o) (nI c) (nI (F 0)) (nI (F 1)) (FT (P 0)) (FT (P 1)) (nI 0) (rI (fun _ => 0)))) [true, false, false, false, false, false, false, false, false, false, false, false, false, false, false, false, false, false, false, true, true, true, true, true, true, true, false, false, false, false, false, false, false, false, false, false] rfl) gL_tryWhy_X7_why rfl rfl rfl (by decide +kernel) ⟨Nat.le_of_ble_eq_true rfl, Nat.le_of_ble_eq_true rfl⟩ 0 rfl rfl rfl (Nat.le_of_ble_eq_true rfl) rfl ⟨Nat.le_of_ble_eq_true rfl, Nat.le_of_ble_eq_true rfl⟩ dL_tryWhy_3 rfl (fun u9 e9 => ?_) (fun k9 e9 => nomatch e9)
    obtain rfl := Sum.inr.inj e9
    refine ⟨rfl, ?_⟩
    exact v_irE hC hr rfl rfl dL_tryWhy_6 ⟨(M, o, R, P), hI, rfl⟩
theorem mL_tryWhy (l : Launch) (hlst : l.stackTraces = false) (g : va_G) (cy : Nat → ClassId) (tt sa : Nat → Nat) (sz : Nat) (A : AA) {t : Nat} {S : SS} {H : HH} (x1 : Int32) (x2 : Int32) (hI : RP t S H) (ht : t < 9000)  : Met l yL_tryWhy wsL_tryWhy rmL_tryWhy (PN [.ref A.1, .int x1, .int x2] g cy tt sa sz (WO cy A S H)) (QE g (va_A (WO cy A S H) sz) (aWh S.1 x1 x2) (WP cy A t S)) 2 12 (va_A (WO cy A S H) sz) := by
  obtain ⟨h0, a, AD⟩ := A
  obtain ⟨N, c, D, F, K⟩ := S
  obtain ⟨M, o, R, P⟩ := H
  exact m0L_tryWhy l hlst g cy tt sa sz h0 a AD x1 x2 hI ht
abbrev rmL_tryLacks : Room := { frames := 9, cells := 1, slots := 6, locals := 152 }
theorem kL_tryLacks_42 : Cond.classLink RL 42 "java/lang/IndexOutOfBoundsException" ∈ wsL_tryLacks := by decide +kernel
theorem kL_tryLacks_44 : Cond.constant RL 44 (-9999001) ∈ wsL_tryLacks := by decide +kernel
set_option maxHeartbeats 4000000 in
set_option maxRecDepth 100000 in
theorem m0L_tryLacks (l : Launch) (hlst : l.stackTraces = false) (g : va_G) (cy : Nat → ClassId) (tt sa : Nat → Nat) (sz : Nat) (h0 : Nat) (a : Nat → Nat) (AD : Nat → Nat → Nat) {t : Nat} {N : Nat → Nat} {c : Nat} {D : Nat → Nat → Nat} {F : Nat → Nat} {K : Nat → Nat → Nat} {M : Nat → Nat} {o : Nat} {R P : Nat → Nat → Nat} (x1 : Int32) (hI : RP t (N, c, D, F, K) (M, o, R, P)) (ht : t < 9000)  : Met l yL_tryLacks wsL_tryLacks rmL_tryLacks (PN [.ref h0, .int x1] g cy tt sa sz (WO cy (h0, a, AD) (N, c, D, F, K) (M, o, R, P))) (QE g (va_A (WO cy (h0, a, AD) (N, c, D, F, K) (M, o, R, P)) sz) (aLa N x1) (WP cy (h0, a, AD) t (N, c, D, F, K))) 1 6 (va_A (WO cy (h0, a, AD) (N, c, D, F, K) (M, o, R, P)) sz) := by
  have hN : Inv t N := hI.1
  have hH : HR o c R D := hI.2.1
  have hSl : SL F P K := hI.2.2.2.1
  have hKi : ∀ j, j < 2 → F j = 1 → Inv t (K j) := hI.2.2.2.2
  rcases e_lacks x1 hN (by omega) with ⟨h7, h8⟩ | h7
  · rw [h8]
    refine m_ofVL (cc := cL_tryLacks) (nL := 3) (ret := some .int) (hh := [(0, 5, 6, 42)]) hlst RL rfl (by decide) rfl [(0, .ref h0), (1, .int x1)] rfl (Nat.le_of_ble_eq_true rfl) ?_
    intro p e s m args below meth c9 hC hr hX htab
    generalize (va_A (WO cy (h0, a, AD) (N, c, D, F, K) (M, o, R, P)) sz) = A9 at hX ⊢
    refine v_eqw (ws' := OX cy h0 a AD (FT N) (FT M) (nI o) (nI c) (nI (F 0)) (nI (F 1)) (FT (P 0)) (FT (P 1)) (nI 0) (rI (fun _ => 0)) ++ HF cy AD (rgD R)) rfl ?_
    refine v_aload_n hC dL_tryLacks_0 rfl 0 rfl rfl ?_
    refine v_iload_n hC dL_tryLacks_1 rfl 1 rfl rfl ?_
    refine l_callX hC hX (n := 1) (st := []) (ws' := OX cy h0 a AD (FT N) (FT M) (nI o) (nI c) (nI (F 0)) (nI (F 1)) (FT (P 0)) (FT (P 1)) (nI 0) (rI (fun _ => 0)) ++ HF cy AD (rgD R)) (fun sz => mX7_lacks l hX.1 g cy tt sa sz h0 (a 0) (a 7) (a 14) (a 16) (a 24) (a 32) (a 1) (a 2) (a 3) (a 4) (a 5) (a 6) (nI (N 0)) (nI (N 1)) (nI (N 2)) (nI (N 3)) (nI (N 4)) (nI (N 5)) (nI (N 6)) (rI (exR N)) (rI (scR N)) (rI (seR N)) x1 h7) (WR.sel (Y := wsel [true, false, false, false, false, false, false, false, false, false, false, false, false, false, false, false, false, false, false, true, true, true, true, true, true, true, false, false, false, false, false, false, false, false, false, false] (OX cy h0 a AD (FT N) (FT M) (nI o) (nI c) (nI (F 0)) (nI (F 1)) (FT (P 0)) (FT (P 1)) (nI 0) (rI (fun _ => 0)))) [true, false, false, false, false, false, false, false, false, false, false, false, false, false, false, false, false, false, false, true, true, true, true, true, true, true, false, false, false, false, false, false, false, false, false, false] rfl) gL_tryLacks_X7_lacks rfl rfl rfl (by decide +kernel) ⟨Nat.le_of_ble_eq_true rfl, Nat.le_of_ble_eq_true rfl⟩ 0 rfl rfl rfl (Nat.le_of_ble_eq_true rfl) rfl ⟨Nat.le_of_ble_eq_true rfl, Nat.le_of_ble_eq_true rfl⟩ dL_tryLacks_2 rfl (fun u9 e9 => nomatch e9) (fun k9 e9 => ?_)
    obtain rfl := Sum.inl.inj e9
    refine ⟨by decide, [], ⟨0, 5, 6, 42⟩, [], htab.trans rfl, (fun z hz => by cases hz), by decide, by decide, hC.2.2.2.2.1 _ kL_tryLacks_42, fun q9 => ?_⟩
    refine v_astore_n hC dL_tryLacks_6 rfl (by decide) [(2, .ref q9), (0, .ref h0), (1, .int x1)] rfl rfl ?_
    refine v_ldc hC (v := (-9999001)) dL_tryLacks_7 kL_tryLacks_44 rfl ?_
    exact v_irE hC hr rfl rfl dL_tryLacks_9 ⟨(M, o, R, P), hI, rfl⟩
  · refine m_ofVL (cc := cL_tryLacks) (nL := 3) (ret := some .int) (hh := [(0, 5, 6, 42)]) hlst RL rfl (by decide) rfl [(0, .ref h0), (1, .int x1)] rfl (Nat.le_of_ble_eq_true rfl) ?_
    intro p e s m args below meth c9 hC hr hX htab
    generalize (va_A (WO cy (h0, a, AD) (N, c, D, F, K) (M, o, R, P)) sz) = A9 at hX ⊢
    refine v_eqw (ws' := OX cy h0 a AD (FT N) (FT M) (nI o) (nI c) (nI (F 0)) (nI (F 1)) (FT (P 0)) (FT (P 1)) (nI 0) (rI (fun _ => 0)) ++ HF cy AD (rgD R)) rfl ?_
    refine v_aload_n hC dL_tryLacks_0 rfl 0 rfl rfl ?_
    refine v_iload_n hC dL_tryLacks_1 rfl 1 rfl rfl ?_
    refine l_callX hC hX (n := 1) (st := []) (ws' := OX cy h0 a AD (FT N) (FT M) (nI o) (nI c) (nI (F 0)) (nI (F 1)) (FT (P 0)) (FT (P 1)) (nI 0) (rI (fun _ => 0)) ++ HF cy AD (rgD R)) (fun sz => mX7_lacks l hX.1 g cy tt sa sz h0 (a 0) (a 7) (a 14) (a 16) (a 24) (a 32) (a 1) (a 2) (a 3) (a 4) (a 5) (a 6) (nI (N 0)) (nI (N 1)) (nI (N 2)) (nI (N 3)) (nI (N 4)) (nI (N 5)) (nI (N 6)) (rI (exR N)) (rI (scR N)) (rI (seR N)) x1 h7) (WR.sel (Y := wsel [true, false, false, false, false, false, false, false, false, false, false, false, false, false, false, false, false, false, false, true, true, true, true, true, true, true, false, false, false, false, false, false, false, false, false, false] (OX cy h0 a AD (FT N) (FT M) (nI o) (nI c) (nI (F 0)) (nI (F 1)) (FT (P 0)) (FT (P 1)) (nI 0) (rI (fun _ => 0)))) [true, false, false, false, false, false, false, false, false, false, false, false, false, false, false, false, false, false, false, true, true, true, true, true, true, true, false, false, false, false, false, false, false, false, false, false] rfl) gL_tryLacks_X7_lacks rfl rfl rfl (by decide +kernel) ⟨Nat.le_of_ble_eq_true rfl, Nat.le_of_ble_eq_true rfl⟩ 0 rfl rfl rfl (Nat.le_of_ble_eq_true rfl) rfl ⟨Nat.le_of_ble_eq_true rfl, Nat.le_of_ble_eq_true rfl⟩ dL_tryLacks_2 rfl (fun u9 e9 => ?_) (fun k9 e9 => nomatch e9)
    obtain rfl := Sum.inr.inj e9
    refine ⟨rfl, ?_⟩
    exact v_irE hC hr rfl rfl dL_tryLacks_5 ⟨(M, o, R, P), hI, rfl⟩
theorem mL_tryLacks (l : Launch) (hlst : l.stackTraces = false) (g : va_G) (cy : Nat → ClassId) (tt sa : Nat → Nat) (sz : Nat) (A : AA) {t : Nat} {S : SS} {H : HH} (x1 : Int32) (hI : RP t S H) (ht : t < 9000)  : Met l yL_tryLacks wsL_tryLacks rmL_tryLacks (PN [.ref A.1, .int x1] g cy tt sa sz (WO cy A S H)) (QE g (va_A (WO cy A S H) sz) (aLa S.1 x1) (WP cy A t S)) 1 6 (va_A (WO cy A S H) sz) := by
  obtain ⟨h0, a, AD⟩ := A
  obtain ⟨N, c, D, F, K⟩ := S
  obtain ⟨M, o, R, P⟩ := H
  exact m0L_tryLacks l hlst g cy tt sa sz h0 a AD x1 hI ht
abbrev rmL_tryOrder : Room := { frames := 9, cells := 3, slots := 18, locals := 169 }
theorem kL_tryOrder_13 : Cond.classLink RL 13 "java/lang/IllegalArgumentException" ∈ wsL_tryOrder := by decide +kernel
theorem kL_tryOrder_42 : Cond.classLink RL 42 "java/lang/IndexOutOfBoundsException" ∈ wsL_tryOrder := by decide +kernel
theorem kL_tryOrder_15 : Cond.constant RL 15 (-9999002) ∈ wsL_tryOrder := by decide +kernel
theorem kL_tryOrder_44 : Cond.constant RL 44 (-9999001) ∈ wsL_tryOrder := by decide +kernel
set_option maxHeartbeats 4000000 in
set_option maxRecDepth 100000 in
theorem m0L_tryOrder (l : Launch) (hlst : l.stackTraces = false) (g : va_G) (cy : Nat → ClassId) (tt sa : Nat → Nat) (sz : Nat) (h0 : Nat) (a : Nat → Nat) (AD : Nat → Nat → Nat) {t : Nat} {N : Nat → Nat} {c : Nat} {D : Nat → Nat → Nat} {F : Nat → Nat} {K : Nat → Nat → Nat} {M : Nat → Nat} {o : Nat} {R P : Nat → Nat → Nat} (x1 : Int32) (x2 : Int32) (hI : RP t (N, c, D, F, K) (M, o, R, P)) (ht : t < 9000)  : Met l yL_tryOrder wsL_tryOrder rmL_tryOrder (PN [.ref h0, .int x1, .int x2] g cy tt sa sz (WO cy (h0, a, AD) (N, c, D, F, K) (M, o, R, P))) (QE g (va_A (WO cy (h0, a, AD) (N, c, D, F, K) (M, o, R, P)) sz) (aOr N x1 x2) (WP cy (h0, a, AD) t (N, c, D, F, K))) 3 18 (va_A (WO cy (h0, a, AD) (N, c, D, F, K) (M, o, R, P)) sz) := by
  have hN : Inv t N := hI.1
  have hH : HR o c R D := hI.2.1
  have hSl : SL F P K := hI.2.2.2.1
  have hKi : ∀ j, j < 2 → F j = 1 → Inv t (K j) := hI.2.2.2.2
  rcases e_order (M' := M) x1 x2 hN (by omega) with ⟨h7, h8⟩ | ⟨h7, h8⟩ | ⟨M2, h7⟩
  · rw [h8]
    refine m_ofVL (cc := cL_tryOrder) (nL := 4) (ret := some .int) (hh := [(0, 6, 7, 42), (0, 6, 11, 13)]) hlst RL rfl (by decide) rfl [(0, .ref h0), (1, .int x1), (2, .int x2)] rfl (Nat.le_of_ble_eq_true rfl) ?_
    intro p e s m args below meth c9 hC hr hX htab
    generalize (va_A (WO cy (h0, a, AD) (N, c, D, F, K) (M, o, R, P)) sz) = A9 at hX ⊢
    refine v_eqw (ws' := OX cy h0 a AD (FT N) (FT M) (nI o) (nI c) (nI (F 0)) (nI (F 1)) (FT (P 0)) (FT (P 1)) (nI 0) (rI (fun _ => 0)) ++ HF cy AD (rgD R)) rfl ?_
    refine v_aload_n hC dL_tryOrder_0 rfl 0 rfl rfl ?_
    refine v_iload_n hC dL_tryOrder_1 rfl 1 rfl rfl ?_
    refine v_iload_n hC dL_tryOrder_2 rfl 2 rfl rfl ?_
    refine l_callX hC hX (n := 2) (st := []) (ws' := OX cy h0 a AD (FT N) (FT M) (nI o) (nI c) (nI (F 0)) (nI (F 1)) (FT (P 0)) (FT (P 1)) (nI 0) (rI (fun _ => 0)) ++ HF cy AD (rgD R)) (fun sz => mX7_order l hX.1 g cy tt sa sz h0 (a 0) (a 7) (a 14) (a 16) (a 24) (a 32) (a 1) (a 2) (a 3) (a 4) (a 5) (a 6) (a 8) (a 9) (a 10) (a 11) (a 12) (a 13) (nI (N 0)) (nI (N 1)) (nI (N 2)) (nI (N 3)) (nI (N 4)) (nI (N 5)) (nI (N 6)) (rI (exR N)) (rI (scR N)) (rI (seR N)) (nI (M 0)) (nI (M 1)) (nI (M 2)) (nI (M 3)) (nI (M 4)) (nI (M 5)) (nI (M 6)) (rI (exR M)) (rI (scR M)) (rI (seR M)) x1 x2 h7) (WR.sel (Y := wsel [true, false, false, false, false, false, false, false, false, false, false, false, false, false, false, false, false, false, false, true, true, true, true, true, true, true, true, true, true, true, true, true, true, false, false, false] (OX cy h0 a AD (FT N) (FT M) (nI o) (nI c) (nI (F 0)) (nI (F 1)) (FT (P 0)) (FT (P 1)) (nI 0) (rI (fun _ => 0)))) [true, false, false, false, false, false, false, false, false, false, false, false, false, false, false, false, false, false, false, true, true, true, true, true, true, true, true, true, true, true, true, true, true, false, false, false] rfl) gL_tryOrder_X7_order rfl rfl rfl (by decide +kernel) ⟨Nat.le_of_ble_eq_true rfl, Nat.le_of_ble_eq_true rfl⟩ 0 rfl rfl rfl (Nat.le_of_ble_eq_true rfl) rfl ⟨Nat.le_of_ble_eq_true rfl, Nat.le_of_ble_eq_true rfl⟩ dL_tryOrder_3 rfl (fun u9 e9 => nomatch e9) (fun k9 e9 => ?_)
    obtain rfl := Sum.inl.inj e9
    refine ⟨by decide, [], ⟨0, 6, 7, 42⟩, [⟨0, 6, 11, 13⟩], htab.trans rfl, (fun z hz => by cases hz), by decide, by decide, hC.2.2.2.2.1 _ kL_tryOrder_42, fun q9 => ?_⟩
    refine v_astore_n hC dL_tryOrder_7 rfl (by decide) [(3, .ref q9), (0, .ref h0), (1, .int x1), (2, .int x2)] rfl rfl ?_
    refine v_ldc hC (v := (-9999001)) dL_tryOrder_8 kL_tryOrder_44 rfl ?_
    exact v_irE hC hr rfl rfl dL_tryOrder_10 ⟨(M, o, R, P), hI, rfl⟩
  · rw [h8]
    refine m_ofVL (cc := cL_tryOrder) (nL := 4) (ret := some .int) (hh := [(0, 6, 7, 42), (0, 6, 11, 13)]) hlst RL rfl (by decide) rfl [(0, .ref h0), (1, .int x1), (2, .int x2)] rfl (Nat.le_of_ble_eq_true rfl) ?_
    intro p e s m args below meth c9 hC hr hX htab
    generalize (va_A (WO cy (h0, a, AD) (N, c, D, F, K) (M, o, R, P)) sz) = A9 at hX ⊢
    refine v_eqw (ws' := OX cy h0 a AD (FT N) (FT M) (nI o) (nI c) (nI (F 0)) (nI (F 1)) (FT (P 0)) (FT (P 1)) (nI 0) (rI (fun _ => 0)) ++ HF cy AD (rgD R)) rfl ?_
    refine v_aload_n hC dL_tryOrder_0 rfl 0 rfl rfl ?_
    refine v_iload_n hC dL_tryOrder_1 rfl 1 rfl rfl ?_
    refine v_iload_n hC dL_tryOrder_2 rfl 2 rfl rfl ?_
    refine l_callX hC hX (n := 2) (st := []) (ws' := OX cy h0 a AD (FT N) (FT M) (nI o) (nI c) (nI (F 0)) (nI (F 1)) (FT (P 0)) (FT (P 1)) (nI 0) (rI (fun _ => 0)) ++ HF cy AD (rgD R)) (fun sz => mX7_order l hX.1 g cy tt sa sz h0 (a 0) (a 7) (a 14) (a 16) (a 24) (a 32) (a 1) (a 2) (a 3) (a 4) (a 5) (a 6) (a 8) (a 9) (a 10) (a 11) (a 12) (a 13) (nI (N 0)) (nI (N 1)) (nI (N 2)) (nI (N 3)) (nI (N 4)) (nI (N 5)) (nI (N 6)) (rI (exR N)) (rI (scR N)) (rI (seR N)) (nI (M 0)) (nI (M 1)) (nI (M 2)) (nI (M 3)) (nI (M 4)) (nI (M 5)) (nI (M 6)) (rI (exR M)) (rI (scR M)) (rI (seR M)) x1 x2 h7) (WR.sel (Y := wsel [true, false, false, false, false, false, false, false, false, false, false, false, false, false, false, false, false, false, false, true, true, true, true, true, true, true, true, true, true, true, true, true, true, false, false, false] (OX cy h0 a AD (FT N) (FT M) (nI o) (nI c) (nI (F 0)) (nI (F 1)) (FT (P 0)) (FT (P 1)) (nI 0) (rI (fun _ => 0)))) [true, false, false, false, false, false, false, false, false, false, false, false, false, false, false, false, false, false, false, true, true, true, true, true, true, true, true, true, true, true, true, true, true, false, false, false] rfl) gL_tryOrder_X7_order rfl rfl rfl (by decide +kernel) ⟨Nat.le_of_ble_eq_true rfl, Nat.le_of_ble_eq_true rfl⟩ 0 rfl rfl rfl (Nat.le_of_ble_eq_true rfl) rfl ⟨Nat.le_of_ble_eq_true rfl, Nat.le_of_ble_eq_true rfl⟩ dL_tryOrder_3 rfl (fun u9 e9 => nomatch e9) (fun k9 e9 => ?_)
    obtain rfl := Sum.inl.inj e9
    refine ⟨by decide, [⟨0, 6, 7, 42⟩], ⟨0, 6, 11, 13⟩, [], htab.trans rfl, (fun z hz => by rw [List.mem_singleton.mp hz]; exact Or.inr ⟨by decide, "java/lang/IndexOutOfBoundsException", hC.2.2.2.2.1 _ kL_tryOrder_42, hX.2.2.2.2.1⟩), by decide, by decide, hC.2.2.2.2.1 _ kL_tryOrder_13, fun q9 => ?_⟩
    refine v_astore_n hC dL_tryOrder_11 rfl (by decide) [(3, .ref q9), (0, .ref h0), (1, .int x1), (2, .int x2)] rfl rfl ?_
    refine v_ldc hC (v := (-9999002)) dL_tryOrder_12 kL_tryOrder_15 rfl ?_
    exact v_irE hC hr rfl rfl dL_tryOrder_14 ⟨(M, o, R, P), hI, rfl⟩
  · refine m_ofVL (cc := cL_tryOrder) (nL := 4) (ret := some .int) (hh := [(0, 6, 7, 42), (0, 6, 11, 13)]) hlst RL rfl (by decide) rfl [(0, .ref h0), (1, .int x1), (2, .int x2)] rfl (Nat.le_of_ble_eq_true rfl) ?_
    intro p e s m args below meth c9 hC hr hX htab
    generalize (va_A (WO cy (h0, a, AD) (N, c, D, F, K) (M, o, R, P)) sz) = A9 at hX ⊢
    refine v_eqw (ws' := OX cy h0 a AD (FT N) (FT M) (nI o) (nI c) (nI (F 0)) (nI (F 1)) (FT (P 0)) (FT (P 1)) (nI 0) (rI (fun _ => 0)) ++ HF cy AD (rgD R)) rfl ?_
    refine v_aload_n hC dL_tryOrder_0 rfl 0 rfl rfl ?_
    refine v_iload_n hC dL_tryOrder_1 rfl 1 rfl rfl ?_
    refine v_iload_n hC dL_tryOrder_2 rfl 2 rfl rfl ?_
    refine l_callX hC hX (n := 2) (st := []) (ws' := OX cy h0 a AD (FT N) (FT M2) (nI o) (nI c) (nI (F 0)) (nI (F 1)) (FT (P 0)) (FT (P 1)) (nI 0) (rI (fun _ => 0)) ++ HF cy AD (rgD R)) (fun sz => mX7_order l hX.1 g cy tt sa sz h0 (a 0) (a 7) (a 14) (a 16) (a 24) (a 32) (a 1) (a 2) (a 3) (a 4) (a 5) (a 6) (a 8) (a 9) (a 10) (a 11) (a 12) (a 13) (nI (N 0)) (nI (N 1)) (nI (N 2)) (nI (N 3)) (nI (N 4)) (nI (N 5)) (nI (N 6)) (rI (exR N)) (rI (scR N)) (rI (seR N)) (nI (M 0)) (nI (M 1)) (nI (M 2)) (nI (M 3)) (nI (M 4)) (nI (M 5)) (nI (M 6)) (rI (exR M)) (rI (scR M)) (rI (seR M)) x1 x2 h7) (WR.sel (Y := wsel [true, false, false, false, false, false, false, false, false, false, false, false, false, false, false, false, false, false, false, true, true, true, true, true, true, true, true, true, true, true, true, true, true, false, false, false] (OX cy h0 a AD (FT N) (FT M2) (nI o) (nI c) (nI (F 0)) (nI (F 1)) (FT (P 0)) (FT (P 1)) (nI 0) (rI (fun _ => 0)))) [true, false, false, false, false, false, false, false, false, false, false, false, false, false, false, false, false, false, false, true, true, true, true, true, true, true, true, true, true, true, true, true, true, false, false, false] rfl) gL_tryOrder_X7_order rfl rfl rfl (by decide +kernel) ⟨Nat.le_of_ble_eq_true rfl, Nat.le_of_ble_eq_true rfl⟩ 0 rfl rfl rfl (Nat.le_of_ble_eq_true rfl) rfl ⟨Nat.le_of_ble_eq_true rfl, Nat.le_of_ble_eq_true rfl⟩ dL_tryOrder_3 rfl (fun u9 e9 => ?_) (fun k9 e9 => nomatch e9)
    obtain rfl := Sum.inr.inj e9
    refine ⟨rfl, ?_⟩
    exact v_irE hC hr rfl rfl dL_tryOrder_6 ⟨(M2, o, R, P), hI.trial M2, rfl⟩
theorem mL_tryOrder (l : Launch) (hlst : l.stackTraces = false) (g : va_G) (cy : Nat → ClassId) (tt sa : Nat → Nat) (sz : Nat) (A : AA) {t : Nat} {S : SS} {H : HH} (x1 : Int32) (x2 : Int32) (hI : RP t S H) (ht : t < 9000)  : Met l yL_tryOrder wsL_tryOrder rmL_tryOrder (PN [.ref A.1, .int x1, .int x2] g cy tt sa sz (WO cy A S H)) (QE g (va_A (WO cy A S H) sz) (aOr S.1 x1 x2) (WP cy A t S)) 3 18 (va_A (WO cy A S H) sz) := by
  obtain ⟨h0, a, AD⟩ := A
  obtain ⟨N, c, D, F, K⟩ := S
  obtain ⟨M, o, R, P⟩ := H
  exact m0L_tryOrder l hlst g cy tt sa sz h0 a AD x1 x2 hI ht

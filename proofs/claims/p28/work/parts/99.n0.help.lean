/-! ===== the helpers of the law ===== -/
abbrev rmL_tryAbout : Room := { frames := 8, cells := 1, slots := 6, locals := 131 }
theorem kL_tryAbout_13 : Cond.classLink RL 13 "java/lang/IllegalArgumentException" ∈ wsL_tryAbout := by decide +kernel
theorem kL_tryAbout_15 : Cond.constant RL 15 (-9999002) ∈ wsL_tryAbout := by decide +kernel
set_option maxHeartbeats 4000000 in
set_option maxRecDepth 100000 in
theorem m0L_tryAbout (l : Launch) (hlst : l.stackTraces = false) (g : va_G) (cy : Nat → ClassId) (tt sa : Nat → Nat) (sz : Nat) (h0 : Nat) (a : Nat → Nat) (AD : Nat → Nat → Nat) {t : Nat} {N : Nat → Nat} {c : Nat} {D : Nat → Nat → Nat} {F : Nat → Nat} {K : Nat → Nat → Nat} {M : Nat → Nat} {o : Nat} {R P : Nat → Nat → Nat} (x1 : Int32) (hI : RP t (N, c, D, F, K) (M, o, R, P)) (ht : t < 9000)  : Met l yL_tryAbout wsL_tryAbout rmL_tryAbout (PN [.ref h0, .int x1] g cy tt sa sz (WO cy (h0, a, AD) (N, c, D, F, K) (M, o, R, P))) (QE g (va_A (WO cy (h0, a, AD) (N, c, D, F, K) (M, o, R, P)) sz) (aAb N x1) (WP cy (h0, a, AD) t (N, c, D, F, K))) 1 6 (va_A (WO cy (h0, a, AD) (N, c, D, F, K) (M, o, R, P)) sz) := by
  have hN : Inv t N := hI.1
  have hH : HR o c R D := hI.2.1
  have hSl : SL F P K := hI.2.2.2.1
  have hKi : ∀ j, j < 2 → F j = 1 → Inv t (K j) := hI.2.2.2.2
  rcases e_about x1 hN (by omega) with ⟨h7, h8⟩ | h7
  · rw [h8]
    refine m_ofVL (cc := cL_tryAbout) (nL := 3) (ret := some .int) (hh := [(0, 5, 6, 13)]) hlst RL rfl (by decide) rfl [(0, .ref h0), (1, .int x1)] rfl (Nat.le_of_ble_eq_true rfl) ?_
    intro p e s m args below meth c9 hC hr hX htab
    generalize (va_A (WO cy (h0, a, AD) (N, c, D, F, K) (M, o, R, P)) sz) = A9 at hX ⊢
    refine v_eqw (ws' := OX cy h0 a AD (FT N) (FT M) (nI o) (nI c) (nI (F 0)) (nI (F 1)) (FT (P 0)) (FT (P 1)) (nI 0) (rI (fun _ => 0)) ++ HF cy AD (rgD R)) rfl ?_
    refine v_aload_n hC dL_tryAbout_0 rfl 0 rfl rfl ?_
    refine v_iload_n hC dL_tryAbout_1 rfl 1 rfl rfl ?_
    refine l_callX hC hX (n := 1) (st := []) (ws' := OX cy h0 a AD (FT N) (FT M) (nI o) (nI c) (nI (F 0)) (nI (F 1)) (FT (P 0)) (FT (P 1)) (nI 0) (rI (fun _ => 0)) ++ HF cy AD (rgD R)) (fun sz => mX7_about l hX.1 g cy tt sa sz h0 (a 0) (a 7) (a 14) (a 16) (a 24) (a 32) (a 1) (a 2) (a 3) (a 4) (a 5) (a 6) (nI (N 0)) (nI (N 1)) (nI (N 2)) (nI (N 3)) (nI (N 4)) (nI (N 5)) (nI (N 6)) (rI (exR N)) (rI (scR N)) (rI (seR N)) x1 h7) (WR.sel (Y := wsel [true, false, false, false, false, false, false, false, false, false, false, false, false, false, false, false, false, false, false, true, true, true, true, true, true, true, false, false, false, false, false, false, false, false, false, false] (OX cy h0 a AD (FT N) (FT M) (nI o) (nI c) (nI (F 0)) (nI (F 1)) (FT (P 0)) (FT (P 1)) (nI 0) (rI (fun _ => 0)))) [true, false, false, false, false, false, false, false, false, false, false, false, false, false, false, false, false, false, false, true, true, true, true, true, true, true, false, false, false, false, false, false, false, false, false, false] rfl) gL_tryAbout_X7_about rfl rfl rfl (by decide +kernel) ⟨Nat.le_of_ble_eq_true rfl, Nat.le_of_ble_eq_true rfl⟩ 0 rfl rfl rfl (Nat.le_of_ble_eq_true rfl) rfl ⟨Nat.le_of_ble_eq_true rfl, Nat.le_of_ble_eq_true rfl⟩ dL_tryAbout_2 rfl (fun u9 e9 => nomatch e9) (fun k9 e9 => ?_)
    obtain rfl := Sum.inl.inj e9
    refine ⟨by decide, [], ⟨0, 5, 6, 13⟩, [], htab.trans rfl, (fun z hz => by cases hz), by decide, by decide, hC.2.2.2.2.1 _ kL_tryAbout_13, fun q9 => ?_⟩
    refine v_astore_n hC dL_tryAbout_6 rfl (by decide) [(2, .ref q9), (0, .ref h0), (1, .int x1)] rfl rfl ?_
    refine v_ldc hC (v := (-9999002)) dL_tryAbout_7 kL_tryAbout_15 rfl ?_
    exact v_irE hC hr rfl rfl dL_tryAbout_9 ⟨(M, o, R, P), hI, rfl⟩
  · refine m_ofVL (cc := cL_tryAbout) (nL := 3) (ret := some .int) (hh := [(0, 5, 6, 13)]) hlst RL rfl (by decide) rfl [(0, .ref h0), (1, .int x1)] rfl (Nat.le_of_ble_eq_true rfl) ?_
    intro p e s m args below meth c9 hC hr hX htab
    generalize (va_A (WO cy (h0, a, AD) (N, c, D, F, K) (M, o, R, P)) sz) = A9 at hX ⊢
    refine v_eqw (ws' := OX cy h0 a AD (FT N) (FT M) (nI o) (nI c) (nI (F 0)) (nI (F 1)) (FT (P 0)) (FT (P 1)) (nI 0) (rI (fun _ => 0)) ++ HF cy AD (rgD R)) rfl ?_
    refine v_aload_n hC dL_tryAbout_0 rfl 0 rfl rfl ?_
    refine v_iload_n hC dL_tryAbout_1 rfl 1 rfl rfl ?_
    refine l_callX hC hX (n := 1) (st := []) (ws' := OX cy h0 a AD (FT N) (FT M) (nI o) (nI c) (nI (F 0)) (nI (F 1)) (FT (P 0)) (FT (P 1)) (nI 0) (rI (fun _ => 0)) ++ HF cy AD (rgD R)) (fun sz => mX7_about l hX.1 g cy tt sa sz h0 (a 0) (a 7) (a 14) (a 16) (a 24) (a 32) (a 1) (a 2) (a 3) (a 4) (a 5) (a 6) (nI (N 0)) (nI (N 1)) (nI (N 2)) (nI (N 3)) (nI (N 4)) (nI (N 5)) (nI (N 6)) (rI (exR N)) (rI (scR N)) (rI (seR N)) x1 h7) (WR.sel (Y := wsel [true, false, false, false, false, false, false, false, false, false, false, false, false, false, false, false, false, false, false, true, true, true, true, true, true, true, false, false, false, false, false, false, false, false, false, false] (OX cy h0 a AD (FT N) (FT M) (nI o) (nI c) (nI (F 0)) (nI (F 1)) (FT (P 0)) (FT (P 1)) (nI 0) (rI (fun _ => 0)))) [true, false, false, false, false, false, false, false, false, false, false, false, false, false, false, false, false, false, false, true, true, true, true, true, true, true, false, false, false, false, false, false, false, false, false, false] rfl) gL_tryAbout_X7_about rfl rfl rfl (by decide +kernel) ⟨Nat.le_of_ble_eq_true rfl, Nat.le_of_ble_eq_true rfl⟩ 0 rfl rfl rfl (Nat.le_of_ble_eq_true rfl) rfl ⟨Nat.le_of_ble_eq_true rfl, Nat.le_of_ble_eq_true rfl⟩ dL_tryAbout_2 rfl (fun u9 e9 => ?_) (fun k9 e9 => nomatch e9)
    obtain rfl := Sum.inr.inj e9
    refine ⟨rfl, ?_⟩
    exact v_irE hC hr rfl rfl dL_tryAbout_5 ⟨(M, o, R, P), hI, rfl⟩
theorem mL_tryAbout (l : Launch) (hlst : l.stackTraces = false) (g : va_G) (cy : Nat → ClassId) (tt sa : Nat → Nat) (sz : Nat) (A : AA) {t : Nat} {S : SS} {H : HH} (x1 : Int32) (hI : RP t S H) (ht : t < 9000)  : Met l yL_tryAbout wsL_tryAbout rmL_tryAbout (PN [.ref A.1, .int x1] g cy tt sa sz (WO cy A S H)) (QE g (va_A (WO cy A S H) sz) (aAb S.1 x1) (WP cy A t S)) 1 6 (va_A (WO cy A S H) sz) := by
  obtain ⟨h0, a, AD⟩ := A
  obtain ⟨N, c, D, F, K⟩ := S
  obtain ⟨M, o, R, P⟩ := H
  exact m0L_tryAbout l hlst g cy tt sa sz h0 a AD x1 hI ht
abbrev rmL_tryExtra : Room := { frames := 9, cells := 2, slots := 12, locals := 153 }
theorem kL_tryExtra_13 : Cond.classLink RL 13 "java/lang/IllegalArgumentException" ∈ wsL_tryExtra := by decide +kernel
theorem kL_tryExtra_42 : Cond.classLink RL 42 "java/lang/IndexOutOfBoundsException" ∈ wsL_tryExtra := by decide +kernel
theorem kL_tryExtra_15 : Cond.constant RL 15 (-9999002) ∈ wsL_tryExtra := by decide +kernel
theorem kL_tryExtra_44 : Cond.constant RL 44 (-9999001) ∈ wsL_tryExtra := by decide +kernel
set_option maxHeartbeats 4000000 in
set_option maxRecDepth 100000 in
theorem m0L_tryExtra (l : Launch) (hlst : l.stackTraces = false) (g : va_G) (cy : Nat → ClassId) (tt sa : Nat → Nat) (sz : Nat) (h0 : Nat) (a : Nat → Nat) (AD : Nat → Nat → Nat) {t : Nat} {N : Nat → Nat} {c : Nat} {D : Nat → Nat → Nat} {F : Nat → Nat} {K : Nat → Nat → Nat} {M : Nat → Nat} {o : Nat} {R P : Nat → Nat → Nat} (x1 : Int32) (x2 : Int32) (hI : RP t (N, c, D, F, K) (M, o, R, P)) (ht : t < 9000)  : Met l yL_tryExtra wsL_tryExtra rmL_tryExtra (PN [.ref h0, .int x1, .int x2] g cy tt sa sz (WO cy (h0, a, AD) (N, c, D, F, K) (M, o, R, P))) (QE g (va_A (WO cy (h0, a, AD) (N, c, D, F, K) (M, o, R, P)) sz) (aEx N x1 x2) (WP cy (h0, a, AD) t (N, c, D, F, K))) 2 12 (va_A (WO cy (h0, a, AD) (N, c, D, F, K) (M, o, R, P)) sz) := by
  have hN : Inv t N := hI.1
  have hH : HR o c R D := hI.2.1
  have hSl : SL F P K := hI.2.2.2.1
  have hKi : ∀ j, j < 2 → F j = 1 → Inv t (K j) := hI.2.2.2.2
  rcases e_extraOf x1 x2 hN (by omega) with ⟨h7, h8⟩ | ⟨h7, h8⟩ | h7
  · rw [h8]
    refine m_ofVL (cc := cL_tryExtra) (nL := 4) (ret := some .int) (hh := [(0, 6, 7, 42), (0, 6, 11, 13)]) hlst RL rfl (by decide) rfl [(0, .ref h0), (1, .int x1), (2, .int x2)] rfl (Nat.le_of_ble_eq_true rfl) ?_
    intro p e s m args below meth c9 hC hr hX htab
    generalize (va_A (WO cy (h0, a, AD) (N, c, D, F, K) (M, o, R, P)) sz) = A9 at hX ⊢
    refine v_eqw (ws' := OX cy h0 a AD (FT N) (FT M) (nI o) (nI c) (nI (F 0)) (nI (F 1)) (FT (P 0)) (FT (P 1)) (nI 0) (rI (fun _ => 0)) ++ HF cy AD (rgD R)) rfl ?_
    refine v_aload_n hC dL_tryExtra_0 rfl 0 rfl rfl ?_
    refine v_iload_n hC dL_tryExtra_1 rfl 1 rfl rfl ?_
    refine v_iload_n hC dL_tryExtra_2 rfl 2 rfl rfl ?_
    refine l_callX hC hX (n := 2) (st := []) (ws' := OX cy h0 a AD (FT N) (FT M) (nI o) (nI c) (nI (F 0)) (nI (F 1)) (FT (P 0)) (FT (P 1)) (nI 0) (rI (fun _ => 0)) ++ HF cy AD (rgD R)) (fun sz => mX7_extraOf l hX.1 g cy tt sa sz h0 (a 0) (a 7) (a 14) (a 16) (a 24) (a 32) (a 1) (a 2) (a 3) (a 4) (a 5) (a 6) (nI (N 0)) (nI (N 1)) (nI (N 2)) (nI (N 3)) (nI (N 4)) (nI (N 5)) (nI (N 6)) (rI (exR N)) (rI (scR N)) (rI (seR N)) x1 x2 h7) (WR.sel (Y := wsel [true, false, false, false, false, false, false, false, false, false, false, false, false, false, false, false, false, false, false, true, true, true, true, true, true, true, false, false, false, false, false, false, false, false, false, false] (OX cy h0 a AD (FT N) (FT M) (nI o) (nI c) (nI (F 0)) (nI (F 1)) (FT (P 0)) (FT (P 1)) (nI 0) (rI (fun _ => 0)))) [true, false, false, false, false, false, false, false, false, false, false, false, false, false, false, false, false, false, false, true, true, true, true, true, true, true, false, false, false, false, false, false, false, false, false, false] rfl) gL_tryExtra_X7_extraOf rfl rfl rfl (by decide +kernel) ⟨Nat.le_of_ble_eq_true rfl, Nat.le_of_ble_eq_true rfl⟩ 0 rfl rfl rfl (Nat.le_of_ble_eq_true rfl) rfl ⟨Nat.le_of_ble_eq_true rfl, Nat.le_of_ble_eq_true rfl⟩ dL_tryExtra_3 rfl (fun u9 e9 => nomatch e9) (fun k9 e9 => ?_)
    obtain rfl := Sum.inl.inj e9
    refine ⟨by decide, [], ⟨0, 6, 7, 42⟩, [⟨0, 6, 11, 13⟩], htab.trans rfl, (fun z hz => by cases hz), by decide, by decide, hC.2.2.2.2.1 _ kL_tryExtra_42, fun q9 => ?_⟩
    refine v_astore_n hC dL_tryExtra_7 rfl (by decide) [(3, .ref q9), (0, .ref h0), (1, .int x1), (2, .int x2)] rfl rfl ?_
    refine v_ldc hC (v := (-9999001)) dL_tryExtra_8 kL_tryExtra_44 rfl ?_
    exact v_irE hC hr rfl rfl dL_tryExtra_10 ⟨(M, o, R, P), hI, rfl⟩
  · rw [h8]
    refine m_ofVL (cc := cL_tryExtra) (nL := 4) (ret := some .int) (hh := [(0, 6, 7, 42), (0, 6, 11, 13)]) hlst RL rfl (by decide) rfl [(0, .ref h0), (1, .int x1), (2, .int x2)] rfl (Nat.le_of_ble_eq_true rfl) ?_
    intro p e s m args below meth c9 hC hr hX htab
    generalize (va_A (WO cy (h0, a, AD) (N, c, D, F, K) (M, o, R, P)) sz) = A9 at hX ⊢
    refine v_eqw (ws' := OX cy h0 a AD (FT N) (FT M) (nI o) (nI c) (nI (F 0)) (nI (F 1)) (FT (P 0)) (FT (P 1)) (nI 0) (rI (fun _ => 0)) ++ HF cy AD (rgD R)) rfl ?_
    refine v_aload_n hC dL_tryExtra_0 rfl 0 rfl rfl ?_
    refine v_iload_n hC dL_tryExtra_1 rfl 1 rfl rfl ?_
    refine v_iload_n hC dL_tryExtra_2 rfl 2 rfl rfl ?_
    refine l_callX hC hX (n := 2) (st := []) (ws' := OX cy h0 a AD (FT N) (FT M) (nI o) (nI c) (nI (F 0)) (nI (F 1)) (FT (P 0)) (FT (P 1)) (nI 0) (rI (fun _ => 0)) ++ HF cy AD (rgD R)) (fun sz => mX7_extraOf l hX.1 g cy tt sa sz h0 (a 0) (a 7) (a 14) (a 16) (a 24) (a 32) (a 1) (a 2) (a 3) (a 4) (a 5) (a 6) (nI (N 0)) (nI (N 1)) (nI (N 2)) (nI (N 3)) (nI (N 4)) (nI (N 5)) (nI (N 6)) (rI (exR N)) (rI (scR N)) (rI (seR N)) x1 x2 h7) (WR.sel (Y := wsel [true, false, false, false, false, false, false, false, false, false, false, false, false, false, false, false, false, false, false, true, true, true, true, true, true, true, false, false, false, false, false, false, false, false, false, false] (OX cy h0 a AD (FT N) (FT M) (nI o) (nI c) (nI (F 0)) (nI (F 1)) (FT (P 0)) (FT (P 1)) (nI 0) (rI (fun _ => 0)))) [true, false, false, false, false, false, false, false, false, false, false, false, false, false, false, false, false, false, false, true, true, true, true, true, true, true, false, false, false, false, false, false, false, false, false, false] rfl) gL_tryExtra_X7_extraOf rfl rfl rfl (by decide +kernel) ⟨Nat.le_of_ble_eq_true rfl, Nat.le_of_ble_eq_true rfl⟩ 0 rfl rfl rfl (Nat.le_of_ble_eq_true rfl) rfl ⟨Nat.le_of_ble_eq_true rfl, Nat.le_of_ble_eq_true rfl⟩ dL_tryExtra_3 rfl (fun u9 e9 => nomatch e9) (fun k9 e9 => ?_)
    obtain rfl := Sum.inl.inj e9
    refine ⟨by decide, [⟨0, 6, 7, 42⟩], ⟨0, 6, 11, 13⟩, [], htab.trans rfl, (fun z hz => by rw [List.mem_singleton.mp hz]; exact Or.inr ⟨by decide, "java/lang/IndexOutOfBoundsException", hC.2.2.2.2.1 _ kL_tryExtra_42, hX.2.2.2.2.1⟩), by decide, by decide, hC.2.2.2.2.1 _ kL_tryExtra_13, fun q9 => ?_⟩
    refine v_astore_n hC dL_tryExtra_11 rfl (by decide) [(3, .ref q9), (0, .ref h0), (1, .int x1), (2, .int x2)] rfl rfl ?_
    refine v_ldc hC (v := (-9999002)) dL_tryExtra_12 kL_tryExtra_15 rfl ?_
    exact v_irE hC hr rfl rfl dL_tryExtra_14 ⟨(M, o, R, P), hI, rfl⟩
  · refine m_ofVL (cc := cL_tryExtra) (nL := 4) (ret := some .int) (hh := [(0, 6, 7, 42), (0, 6, 11, 13)]) hlst RL rfl (by decide) rfl [(0, .ref h0), (1, .int x1), (2, .int x2)] rfl (Nat.le_of_ble_eq_true rfl) ?_
    intro p e s m args below meth c9 hC hr hX htab
    generalize (va_A (WO cy (h0, a, AD) (N, c, D, F, K) (M, o, R, P)) sz) = A9 at hX ⊢
    refine v_eqw (ws' := OX cy h0 a AD (FT N) (FT M) (nI o) (nI c) (nI (F 0)) (nI (F 1)) (FT (P 0)) (FT (P 1)) (nI 0) (rI (fun _ => 0)) ++ HF cy AD (rgD R)) rfl ?_
    refine v_aload_n hC dL_tryExtra_0 rfl 0 rfl rfl ?_
    refine v_iload_n hC dL_tryExtra_1 rfl 1 rfl rfl ?_
    refine v_iload_n hC dL_tryExtra_2 rfl 2 rfl rfl ?_
    refine l_callX hC hX (n := 2) (st := []) (ws' := OX cy h0 a AD (FT N) (FT M) (nI o) (nI c) (nI (F 0)) (nI (F 1)) (FT (P 0)) (FT (P 1)) (nI 0) (rI (fun _ => 0)) ++ HF cy AD (rgD R)) (fun sz => mX7_extraOf l hX.1 g cy tt sa sz h0 (a 0) (a 7) (a 14) (a 16) (a 24) (a 32) (a 1) (a 2) (a 3) (a 4) (a 5) (a 6) (nI (N 0)) (nI (N 1)) (nI (N 2)) (nI (N 3)) (nI (N 4)) (nI (N 5)) (nI (N 6)) (rI (exR N)) (rI (scR N)) (rI (seR N)) x1 x2 h7) (WR.sel (Y := wsel [true, false, false, false, false, false, false, false, false, false, false, false, false, false, false, false, false, false, false, true, true, true, true, true, true, true, false, false, false, false, false, false, false, false, false, false] (OX cy h0 a AD (FT N) (FT M) (nI o) (nI c) (nI (F 0)) (nI (F 1)) (FT (P 0)) (FT (P 1)) (nI 0) (rI (fun _ => 0)))) [true, false, false, false, false, false, false, false, false, false, false, false, false, false, false, false, false, false, false, true, true, true, true, true, true, true, false, false, false, false, false, false, false, false, false, false] rfl) gL_tryExtra_X7_extraOf rfl rfl rfl (by decide +kernel) ⟨Nat.le_of_ble_eq_true rfl, Nat.le_of_ble_eq_true rfl⟩ 0 rfl rfl rfl (Nat.le_of_ble_eq_true rfl) rfl ⟨Nat.le_of_ble_eq_true rfl, Nat.le_of_ble_eq_true rfl⟩ dL_tryExtra_3 rfl (fun u9 e9 => ?_) (fun k9 e9 => nomatch e9)
    obtain rfl := Sum.inr.inj e9
    refine ⟨rfl, ?_⟩
    exact v_irE hC hr rfl rfl dL_tryExtra_6 ⟨(M, o, R, P), hI, rfl⟩
theorem mL_tryExtra (l : Launch) (hlst : l.stackTraces = false) (g : va_G) (cy : Nat → ClassId) (tt sa : Nat → Nat) (sz : Nat) (A : AA) {t : Nat} {S : SS} {H : HH} (x1 : Int32) (x2 : Int32) (hI : RP t S H) (ht : t < 9000)  : Met l yL_tryExtra wsL_tryExtra rmL_tryExtra (PN [.ref A.1, .int x1, .int x2] g cy tt sa sz (WO cy A S H)) (QE g (va_A (WO cy A S H) sz) (aEx S.1 x1 x2) (WP cy A t S)) 2 12 (va_A (WO cy A S H) sz) := by
  obtain ⟨h0, a, AD⟩ := A
  obtain ⟨N, c, D, F, K⟩ := S
  obtain ⟨M, o, R, P⟩ := H
  exact m0L_tryExtra l hlst g cy tt sa sz h0 a AD x1 x2 hI ht
abbrev rmL_tryScene : Room := { frames := 9, cells := 2, slots := 12, locals := 153 }
theorem kL_tryScene_13 : Cond.classLink RL 13 "java/lang/IllegalArgumentException" ∈ wsL_tryScene := by decide +kernel
theorem kL_tryScene_42 : Cond.classLink RL 42 "java/lang/IndexOutOfBoundsException" ∈ wsL_tryScene := by decide +kernel
theorem kL_tryScene_15 : Cond.constant RL 15 (-9999002) ∈ wsL_tryScene := by decide +kernel
theorem kL_tryScene_44 : Cond.constant RL 44 (-9999001) ∈ wsL_tryScene := by decide +kernel
set_option maxHeartbeats 4000000 in
set_option maxRecDepth 100000 in
theorem m0L_tryScene (l : Launch) (hlst : l.stackTraces = false) (g : va_G) (cy : Nat → ClassId) (tt sa : Nat → Nat) (sz : Nat) (h0 : Nat) (a : Nat → Nat) (AD : Nat → Nat → Nat) {t : Nat} {N : Nat → Nat} {c : Nat} {D : Nat → Nat → Nat} {F : Nat → Nat} {K : Nat → Nat → Nat} {M : Nat → Nat} {o : Nat} {R P : Nat → Nat → Nat} (x1 : Int32) (x2 : Int32) (hI : RP t (N, c, D, F, K) (M, o, R, P)) (ht : t < 9000)  : Met l yL_tryScene wsL_tryScene rmL_tryScene (PN [.ref h0, .int x1, .int x2] g cy tt sa sz (WO cy (h0, a, AD) (N, c, D, F, K) (M, o, R, P))) (QE g (va_A (WO cy (h0, a, AD) (N, c, D, F, K) (M, o, R, P)) sz) (aSc N x1 x2) (WP cy (h0, a, AD) t (N, c, D, F, K))) 2 12 (va_A (WO cy (h0, a, AD) (N, c, D, F, K) (M, o, R, P)) sz) := by
  have hN : Inv t N := hI.1
  have hH : HR o c R D := hI.2.1
  have hSl : SL F P K := hI.2.2.2.1
  have hKi : ∀ j, j < 2 → F j = 1 → Inv t (K j) := hI.2.2.2.2
  rcases e_sceneOf x1 x2 hN (by omega) with ⟨h7, h8⟩ | ⟨h7, h8⟩ | h7
  · rw [h8]
    refine m_ofVL (cc := cL_tryScene) (nL := 4) (ret := some .int) (hh := [(0, 6, 7, 42), (0, 6, 11, 13)]) hlst RL rfl (by decide) rfl [(0, .ref h0), (1, .int x1), (2, .int x2)] rfl (Nat.le_of_ble_eq_true rfl) ?_
    intro p e s m args below meth c9 hC hr hX htab
    generalize (va_A (WO cy (h0, a, AD) (N, c, D, F, K) (M, o, R, P)) sz) = A9 at hX ⊢
    refine v_eqw (ws' := OX cy h0 a AD (FT N) (FT M) (nI o) (nI c) (nI (F 0)) (nI (F 1)) (FT (P 0)) (FT (P 1)) (nI 0) (rI (fun _ => 0)) ++ HF cy AD (rgD R)) rfl ?_
    refine v_aload_n hC dL_tryScene_0 rfl 0 rfl rfl ?_
    refine v_iload_n hC dL_tryScene_1 rfl 1 rfl rfl ?_
    refine v_iload_n hC dL_tryScene_2 rfl 2 rfl rfl ?_
    refine l_callX hC hX (n := 2) (st := []) (ws' := OX cy h0 a AD (FT N) (FT M) (nI o) (nI c) (nI (F 0)) (nI (F 1)) (FT (P 0)) (FT (P 1)) (nI 0) (rI (fun _ => 0)) ++ HF cy AD (rgD R)) (fun sz => mX7_sceneOf l hX.1 g cy tt sa sz h0 (a 0) (a 7) (a 14) (a 16) (a 24) (a 32) (a 1) (a 2) (a 3) (a 4) (a 5) (a 6) (nI (N 0)) (nI (N 1)) (nI (N 2)) (nI (N 3)) (nI (N 4)) (nI (N 5)) (nI (N 6)) (rI (exR N)) (rI (scR N)) (rI (seR N)) x1 x2 h7) (WR.sel (Y := wsel [true, false, false, false, false, false, false, false, false, false, false, false, false, false, false, false, false, false, false, true, true, true, true, true, true, true, false, false, false, false, false, false, false, false, false, false] (OX cy h0 a AD (FT N) (FT M) (nI o) (nI c) (nI (F 0)) (nI (F 1)) (FT (P 0)) (FT (P 1)) (nI 0) (rI (fun _ => 0)))) [true, false, false, false, false, false, false, false, false, false, false, false, false, false, false, false, false, false, false, true, true, true, true, true, true, true, false, false, false, false, false, false, false, false, false, false] rfl) gL_tryScene_X7_sceneOf rfl rfl rfl (by decide +kernel) ⟨Nat.le_of_ble_eq_true rfl, Nat.le_of_ble_eq_true rfl⟩ 0 rfl rfl rfl (Nat.le_of_ble_eq_true rfl) rfl ⟨Nat.le_of_ble_eq_true rfl, Nat.le_of_ble_eq_true rfl⟩ dL_tryScene_3 rfl (fun u9 e9 => nomatch e9) (fun k9 e9 => ?_)
    obtain rfl := Sum.inl.inj e9
    refine ⟨by decide, [], ⟨0, 6, 7, 42⟩, [⟨0, 6, 11, 13⟩], htab.trans rfl, (fun z hz => by cases hz), by decide, by decide, hC.2.2.2.2.1 _ kL_tryScene_42, fun q9 => ?_⟩
    refine v_astore_n hC dL_tryScene_7 rfl (by decide) [(3, .ref q9), (0, .ref h0), (1, .int x1), (2, .int x2)] rfl rfl ?_
    refine v_ldc hC (v := (-9999001)) dL_tryScene_8 kL_tryScene_44 rfl ?_
    exact v_irE hC hr rfl rfl dL_tryScene_10 ⟨(M, o, R, P), hI, rfl⟩
  · rw [h8]
    refine m_ofVL (cc := cL_tryScene) (nL := 4) (ret := some .int) (hh := [(0, 6, 7, 42), (0, 6, 11, 13)]) hlst RL rfl (by decide) rfl [(0, .ref h0), (1, .int x1), (2, .int x2)] rfl (Nat.le_of_ble_eq_true rfl) ?_
    intro p e s m args below meth c9 hC hr hX htab
    generalize (va_A (WO cy (h0, a, AD) (N, c, D, F, K) (M, o, R, P)) sz) = A9 at hX ⊢
    refine v_eqw (ws' := OX cy h0 a AD (FT N) (FT M) (nI o) (nI c) (nI (F 0)) (nI (F 1)) (FT (P 0)) (FT (P 1)) (nI 0) (rI (fun _ => 0)) ++ HF cy AD (rgD R)) rfl ?_
    refine v_aload_n hC dL_tryScene_0 rfl 0 rfl rfl ?_
    refine v_iload_n hC dL_tryScene_1 rfl 1 rfl rfl ?_
    refine v_iload_n hC dL_tryScene_2 rfl 2 rfl rfl ?_
    refine l_callX hC hX (n := 2) (st := []) (ws' := OX cy h0 a AD (FT N) (FT M) (nI o) (nI c) (nI (F 0)) (nI (F 1)) (FT (P 0)) (FT (P 1)) (nI 0) (rI (fun _ => 0)) ++ HF cy AD (rgD R)) (fun sz => mX7_sceneOf l hX.1 g cy tt sa sz h0 (a 0) (a 7) (a 14) (a 16) (a 24) (a 32) (a 1) (a 2) (a 3) (a 4) (a 5) (a 6) (nI (N 0)) (nI (N 1)) (nI (N 2)) (nI (N 3)) (nI (N 4)) (nI (N 5)) (nI (N 6)) (rI (exR N)) (rI (scR N)) (rI (seR N)) x1 x2 h7) (WR.sel (Y := wsel [true, false, false, false, false, false, false, false, false, false, false, false, false, false, false, false, false, false, false, true, true, true, true, true, true, true, false, false, false, false, false, false, false, false, false, false] (OX cy h0 a AD (FT N) (FT M) (nI o) (nI c) (nI (F 0)) (nI (F 1)) (FT (P 0)) (FT (P 1)) (nI 0) (rI (fun _ => 0)))) [true, false, false, false, false, false, false, false, false, false, false, false, false, false, false, false, false, false, false, true, true, true, true, true, true, true, false, false, false, false, false, false, false, false, false, false] rfl) gL_tryScene_X7_sceneOf rfl rfl rfl (by decide +kernel) ⟨Nat.le_of_ble_eq_true rfl, Nat.le_of_ble_eq_true rfl⟩ 0 rfl rfl rfl (Nat.le_of_ble_eq_true rfl) rfl ⟨Nat.le_of_ble_eq_true rfl, Nat.le_of_ble_eq_true rfl⟩ dL_tryScene_3 rfl (fun u9 e9 => nomatch e9) (fun k9 e9 => ?_)
    obtain rfl := Sum.inl.inj e9
    refine ⟨by decide, [⟨0, 6, 7, 42⟩], ⟨0, 6, 11, 13⟩, [], htab.trans rfl, (fun z hz => by rw [List.mem_singleton.mp hz]; exact Or.inr ⟨by decide, "java/lang/IndexOutOfBoundsException", hC.2.2.2.2.1 _ kL_tryScene_42, hX.2.2.2.2.1⟩), by decide, by decide, hC.2.2.2.2.1 _ kL_tryScene_13, fun q9 => ?_⟩
    refine v_astore_n hC dL_tryScene_11 rfl (by decide) [(3, .ref q9), (0, .ref h0), (1, .int x1), (2, .int x2)] rfl rfl ?_
    refine v_ldc hC (v := (-9999002)) dL_tryScene_12 kL_tryScene_15 rfl ?_
    exact v_irE hC hr rfl rfl dL_tryScene_14 ⟨(M, o, R, P), hI, rfl⟩
  · refine m_ofVL (cc := cL_tryScene) (nL := 4) (ret := some .int) (hh := [(0, 6, 7, 42), (0, 6, 11, 13)]) hlst RL rfl (by decide) rfl [(0, .ref h0), (1, .int x1), (2, .int x2)] rfl (Nat.le_of_ble_eq_true rfl) ?_
    intro p e s m args below meth c9 hC hr hX htab
    generalize (va_A (WO cy (h0, a, AD) (N, c, D, F, K) (M, o, R, P)) sz) = A9 at hX ⊢
    refine v_eqw (ws' := OX cy h0 a AD (FT N) (FT M) (nI o) (nI c) (nI (F 0)) (nI (F 1)) (FT (P 0)) (FT (P 1)) (nI 0) (rI (fun _ => 0)) ++ HF cy AD (rgD R)) rfl ?_
    refine v_aload_n hC dL_tryScene_0 rfl 0 rfl rfl ?_
    refine v_iload_n hC dL_tryScene_1 rfl 1 rfl rfl ?_
    refine v_iload_n hC dL_tryScene_2 rfl 2 rfl rfl ?_
    refine l_callX hC hX (n := 2) (st := []) (ws' := OX cy h0 a AD (FT N) (FT M) (nI o) (nI c) (nI (F 0)) (nI (F 1)) (FT (P 0)) (FT (P 1)) (nI 0) (rI (fun _ => 0)) ++ HF cy AD (rgD R)) (fun sz => mX7_sceneOf l hX.1 g cy tt sa sz h0 (a 0) (a 7) (a 14) (a 16) (a 24) (a 32) (a 1) (a 2) (a 3) (a 4) (a 5) (a 6) (nI (N 0)) (nI (N 1)) (nI (N 2)) (nI (N 3)) (nI (N 4)) (nI (N 5)) (nI (N 6)) (rI (exR N)) (rI (scR N)) (rI (seR N)) x1 x2 h7) (WR.sel (Y := wsel [true, false, false, false, false, false, false, false, false, false, false, false, false, false, false, false, false, false, false, true, true, true, true, true, true, true, false, false, false, false, false, false, false, false, false, false] (OX cy h0 a AD (FT N) (FT M) (nI o) (nI c) (nI (F 0)) (nI (F 1)) (FT (P 0)) (FT (P 1)) (nI 0) (rI (fun _ => 0)))) [true, false, false, false, false, false, false, false, false, false, false, false, false, false, false, false, false, false, false, true, true, true, true, true, true, true, false, false, false, false, false, false, false, false, false, false] rfl) gL_tryScene_X7_sceneOf rfl rfl rfl (by decide +kernel) ⟨Nat.le_of_ble_eq_true rfl, Nat.le_of_ble_eq_true rfl⟩ 0 rfl rfl rfl (Nat.le_of_ble_eq_true rfl) rfl ⟨Nat.le_of_ble_eq_true rfl, Nat.le_of_ble_eq_true rfl⟩ dL_tryScene_3 rfl (fun u9 e9 => ?_) (fun k9 e9 => nomatch e9)
    obtain rfl := Sum.inr.inj e9
    refine ⟨rfl, ?_⟩
    exact v_irE hC hr rfl rfl dL_tryScene_6 ⟨(M, o, R, P), hI, rfl⟩
theorem mL_tryScene (l : Launch) (hlst : l.stackTraces = false) (g : va_G) (cy : Nat → ClassId) (tt sa : Nat → Nat) (sz : Nat) (A : AA) {t : Nat} {S : SS} {H : HH} (x1 : Int32) (x2 : Int32) (hI : RP t S H) (ht : t < 9000)  : Met l yL_tryScene wsL_tryScene rmL_tryScene (PN [.ref A.1, .int x1, .int x2] g cy tt sa sz (WO cy A S H)) (QE g (va_A (WO cy A S H) sz) (aSc S.1 x1 x2) (WP cy A t S)) 2 12 (va_A (WO cy A S H) sz) := by
  obtain ⟨h0, a, AD⟩ := A
  obtain ⟨N, c, D, F, K⟩ := S
  obtain ⟨M, o, R, P⟩ := H
  exact m0L_tryScene l hlst g cy tt sa sz h0 a AD x1 x2 hI ht
abbrev rmL_trySetting : Room := { frames := 8, cells := 1, slots := 6, locals := 131 }
theorem kL_trySetting_13 : Cond.classLink RL 13 "java/lang/IllegalArgumentException" ∈ wsL_trySetting := by decide +kernel
theorem kL_trySetting_15 : Cond.constant RL 15 (-9999002) ∈ wsL_trySetting := by decide +kernel
set_option maxHeartbeats 4000000 in
set_option maxRecDepth 100000 in
theorem m0L_trySetting (l : Launch) (hlst : l.stackTraces = false) (g : va_G) (cy : Nat → ClassId) (tt sa : Nat → Nat) (sz : Nat) (h0 : Nat) (a : Nat → Nat) (AD : Nat → Nat → Nat) {t : Nat} {N : Nat → Nat} {c : Nat} {D : Nat → Nat → Nat} {F : Nat → Nat} {K : Nat → Nat → Nat} {M : Nat → Nat} {o : Nat} {R P : Nat → Nat → Nat} (x1 : Int32) (hI : RP t (N, c, D, F, K) (M, o, R, P)) (ht : t < 9000)  : Met l yL_trySetting wsL_trySetting rmL_trySetting (PN [.ref h0, .int x1] g cy tt sa sz (WO cy (h0, a, AD) (N, c, D, F, K) (M, o, R, P))) (QE g (va_A (WO cy (h0, a, AD) (N, c, D, F, K) (M, o, R, P)) sz) (aSe N x1) (WP cy (h0, a, AD) t (N, c, D, F, K))) 1 6 (va_A (WO cy (h0, a, AD) (N, c, D, F, K) (M, o, R, P)) sz) := by
  have hN : Inv t N := hI.1
  have hH : HR o c R D := hI.2.1
  have hSl : SL F P K := hI.2.2.2.1
  have hKi : ∀ j, j < 2 → F j = 1 → Inv t (K j) := hI.2.2.2.2
  rcases e_setting x1 (N := N) with ⟨h7, h8⟩ | h7
  · rw [h8]
    refine m_ofVL (cc := cL_trySetting) (nL := 3) (ret := some .int) (hh := [(0, 5, 6, 13)]) hlst RL rfl (by decide) rfl [(0, .ref h0), (1, .int x1)] rfl (Nat.le_of_ble_eq_true rfl) ?_
    intro p e s m args below meth c9 hC hr hX htab
    generalize (va_A (WO cy (h0, a, AD) (N, c, D, F, K) (M, o, R, P)) sz) = A9 at hX ⊢
    refine v_eqw (ws' := OX cy h0 a AD (FT N) (FT M) (nI o) (nI c) (nI (F 0)) (nI (F 1)) (FT (P 0)) (FT (P 1)) (nI 0) (rI (fun _ => 0)) ++ HF cy AD (rgD R)) rfl ?_
    refine v_aload_n hC dL_trySetting_0 rfl 0 rfl rfl ?_
    refine v_iload_n hC dL_trySetting_1 rfl 1 rfl rfl ?_
    refine l_callX hC hX (n := 1) (st := []) (ws' := OX cy h0 a AD (FT N) (FT M) (nI o) (nI c) (nI (F 0)) (nI (F 1)) (FT (P 0)) (FT (P 1)) (nI 0) (rI (fun _ => 0)) ++ HF cy AD (rgD R)) (fun sz => mX7_setting l hX.1 g cy tt sa sz h0 (a 0) (a 7) (a 14) (a 16) (a 24) (a 32) (a 1) (a 2) (a 3) (a 4) (a 5) (a 6) (nI (N 0)) (nI (N 1)) (nI (N 2)) (nI (N 3)) (nI (N 4)) (nI (N 5)) (nI (N 6)) (rI (exR N)) (rI (scR N)) (rI (seR N)) x1 h7) (WR.sel (Y := wsel [true, false, false, false, false, false, false, false, false, false, false, false, false, false, false, false, false, false, false, true, true, true, true, true, true, true, false, false, false, false, false, false, false, false, false, false] (OX cy h0 a AD (FT N) (FT M) (nI o) (nI c) (nI (F 0)) (nI (F 1)) (FT (P 0)) (FT (P 1)) (nI 0) (rI (fun _ => 0)))) [true, false, false, false, false, false, false, false, false, false, false, false, false, false, false, false, false, false, false, true, true, true, true, true, true, true, false, false, false, false, false, false, false, false, false, false] rfl) gL_trySetting_X7_setting rfl rfl rfl (by decide +kernel) ⟨Nat.le_of_ble_eq_true rfl, Nat.le_of_ble_eq_true rfl⟩ 0 rfl rfl rfl (Nat.le_of_ble_eq_true rfl) rfl ⟨Nat.le_of_ble_eq_true rfl, Nat.le_of_ble_eq_true rfl⟩ dL_trySetting_2 rfl (fun u9 e9 => nomatch e9) (fun k9 e9 => ?_)
    obtain rfl := Sum.inl.inj e9
    refine ⟨by decide, [], ⟨0, 5, 6, 13⟩, [], htab.trans rfl, (fun z hz => by cases hz), by decide, by decide, hC.2.2.2.2.1 _ kL_trySetting_13, fun q9 => ?_⟩
    refine v_astore_n hC dL_trySetting_6 rfl (by decide) [(2, .ref q9), (0, .ref h0), (1, .int x1)] rfl rfl ?_
    refine v_ldc hC (v := (-9999002)) dL_trySetting_7 kL_trySetting_15 rfl ?_
    exact v_irE hC hr rfl rfl dL_trySetting_9 ⟨(M, o, R, P), hI, rfl⟩
  · refine m_ofVL (cc := cL_trySetting) (nL := 3) (ret := some .int) (hh := [(0, 5, 6, 13)]) hlst RL rfl (by decide) rfl [(0, .ref h0), (1, .int x1)] rfl (Nat.le_of_ble_eq_true rfl) ?_
    intro p e s m args below meth c9 hC hr hX htab
    generalize (va_A (WO cy (h0, a, AD) (N, c, D, F, K) (M, o, R, P)) sz) = A9 at hX ⊢
    refine v_eqw (ws' := OX cy h0 a AD (FT N) (FT M) (nI o) (nI c) (nI (F 0)) (nI (F 1)) (FT (P 0)) (FT (P 1)) (nI 0) (rI (fun _ => 0)) ++ HF cy AD (rgD R)) rfl ?_
    refine v_aload_n hC dL_trySetting_0 rfl 0 rfl rfl ?_
    refine v_iload_n hC dL_trySetting_1 rfl 1 rfl rfl ?_
    refine l_callX hC hX (n := 1) (st := []) (ws' := OX cy h0 a AD (FT N) (FT M) (nI o) (nI c) (nI (F 0)) (nI (F 1)) (FT (P 0)) (FT (P 1)) (nI 0) (rI (fun _ => 0)) ++ HF cy AD (rgD R)) (fun sz => mX7_setting l hX.1 g cy tt sa sz h0 (a 0) (a 7) (a 14) (a 16) (a 24) (a 32) (a 1) (a 2) (a 3) (a 4) (a 5) (a 6) (nI (N 0)) (nI (N 1)) (nI (N 2)) (nI (N 3)) (nI (N 4)) (nI (N 5)) (nI (N 6)) (rI (exR N)) (rI (scR N)) (rI (seR N)) x1 h7) (WR.sel (Y := wsel [true, false, false, false, false, false, false, false, false, false, false, false, false, false, false, false, false, false, false, true, true, true, true, true, true, true, false, false, false, false, false, false, false, false, false, false] (OX cy h0 a AD (FT N) (FT M) (nI o) (nI c) (nI (F 0)) (nI (F 1)) (FT (P 0)) (FT (P 1)) (nI 0) (rI (fun _ => 0)))) [true, false, false, false, false, false, false, false, false, false, false, false, false, false, false, false, false, false, false, true, true, true, true, true, true, true, false, false, false, false, false, false, false, false, false, false] rfl) gL_trySetting_X7_setting rfl rfl rfl (by decide +kernel) ⟨Nat.le_of_ble_eq_true rfl, Nat.le_of_ble_eq_true rfl⟩ 0 rfl rfl rfl (Nat.le_of_ble_eq_true rfl) rfl ⟨Nat.le_of_ble_eq_true rfl, Nat.le_of_ble_eq_true rfl⟩ dL_trySetting_2 rfl (fun u9 e9 => ?_) (fun k9 e9 => nomatch e9)
    obtain rfl := Sum.inr.inj e9
    refine ⟨rfl, ?_⟩
    exact v_irE hC hr rfl rfl dL_trySetting_5 ⟨(M, o, R, P), hI, rfl⟩
theorem mL_trySetting (l : Launch) (hlst : l.stackTraces = false) (g : va_G) (cy : Nat → ClassId) (tt sa : Nat → Nat) (sz : Nat) (A : AA) {t : Nat} {S : SS} {H : HH} (x1 : Int32) (hI : RP t S H) (ht : t < 9000)  : Met l yL_trySetting wsL_trySetting rmL_trySetting (PN [.ref A.1, .int x1] g cy tt sa sz (WO cy A S H)) (QE g (va_A (WO cy A S H) sz) (aSe S.1 x1) (WP cy A t S)) 1 6 (va_A (WO cy A S H) sz) := by
  obtain ⟨h0, a, AD⟩ := A
  obtain ⟨N, c, D, F, K⟩ := S
  obtain ⟨M, o, R, P⟩ := H
  exact m0L_trySetting l hlst g cy tt sa sz h0 a AD x1 hI ht

/-! ===== the helpers of the law ===== -/
abbrev rmL_doSimulate : Room := { frames := 8, cells := 1, slots := 6, locals := 172 }
theorem kL_doSimulate_13 : Cond.classLink RL 13 "java/lang/IllegalArgumentException" ∈ wsL_doSimulate := by decide +kernel
theorem kL_doSimulate_15 : Cond.constant RL 15 (-9999002) ∈ wsL_doSimulate := by decide +kernel
set_option maxHeartbeats 4000000 in
set_option maxRecDepth 100000 in
theorem m0L_doSimulate (l : Launch) (hlst : l.stackTraces = false) (g : va_G) (cy : Nat → ClassId) (tt sa : Nat → Nat) (sz : Nat) (h0 : Nat) (a : Nat → Nat) (AD : Nat → Nat → Nat) {t : Nat} {N : Nat → Nat} {c : Nat} {D : Nat → Nat → Nat} {F : Nat → Nat} {K : Nat → Nat → Nat} {M : Nat → Nat} {o : Nat} {R P : Nat → Nat → Nat} (x1 : Int64) (x2 : Int32) (hI : RP t (N, c, D, F, K) (M, o, R, P)) (ht : t < 9000)  : Met l yL_doSimulate wsL_doSimulate rmL_doSimulate (PN [.ref h0, .long x1, .int x2] g cy tt sa sz (WO cy (h0, a, AD) (N, c, D, F, K) (M, o, R, P))) (QE g (va_A (WO cy (h0, a, AD) (N, c, D, F, K) (M, o, R, P)) sz) (aSm N x1 x2) (WP cy (h0, a, AD) t (N, c, D, F, K))) 1 6 (va_A (WO cy (h0, a, AD) (N, c, D, F, K) (M, o, R, P)) sz) := by
  have hN : Inv t N := hI.1
  have hH : HR o c R D := hI.2.1
  have hSl : SL F P K := hI.2.2.2.1
  have hKi : ∀ j, j < 2 → F j = 1 → Inv t (K j) := hI.2.2.2.2
  rcases e_simulate (M' := M) x1 x2 hN (by omega) with ⟨h7, h8⟩ | ⟨M2, h7⟩
  · rw [h8]
    refine m_ofVL (cc := cL_doSimulate) (nL := 5) (ret := some .int) (hh := [(0, 6, 7, 13)]) hlst RL rfl (by decide) rfl [(0, .ref h0), (1, .long x1), (3, .int x2)] rfl (Nat.le_of_ble_eq_true rfl) ?_
    intro p e s m args below meth c9 hC hr hX htab
    generalize (va_A (WO cy (h0, a, AD) (N, c, D, F, K) (M, o, R, P)) sz) = A9 at hX ⊢
    refine v_eqw (ws' := OX cy h0 a AD (FT N) (FT M) (nI o) (nI c) (nI (F 0)) (nI (F 1)) (FT (P 0)) (FT (P 1)) (nI 0) (rI (fun _ => 0)) ++ HF cy AD (rgD R)) rfl ?_
    refine v_aload_n hC dL_doSimulate_0 rfl 0 rfl rfl ?_
    refine v_lload_n hC dL_doSimulate_1 rfl 1 rfl rfl ?_
    refine v_iload_n hC dL_doSimulate_2 rfl 2 rfl rfl ?_
    refine l_callX hC hX (n := 2) (st := []) (ws' := OX cy h0 a AD (FT N) (FT M) (nI o) (nI c) (nI (F 0)) (nI (F 1)) (FT (P 0)) (FT (P 1)) (nI 0) (rI (fun _ => 0)) ++ HF cy AD (rgD R)) (fun sz => mX7_simulate l hX.1 g cy tt sa sz h0 (a 0) (a 7) (a 14) (a 16) (a 24) (a 32) (a 1) (a 2) (a 3) (a 4) (a 5) (a 6) (a 8) (a 9) (a 10) (a 11) (a 12) (a 13) (nI (N 0)) (nI (N 1)) (nI (N 2)) (nI (N 3)) (nI (N 4)) (nI (N 5)) (nI (N 6)) (rI (exR N)) (rI (scR N)) (rI (seR N)) (nI (M 0)) (nI (M 1)) (nI (M 2)) (nI (M 3)) (nI (M 4)) (nI (M 5)) (nI (M 6)) (rI (exR M)) (rI (scR M)) (rI (seR M)) x1 x2 h7) (WR.sel (Y := wsel [true, false, false, false, false, false, false, false, false, false, false, false, false, false, false, false, false, false, false, true, true, true, true, true, true, true, true, true, true, true, true, true, true, false, false, false] (OX cy h0 a AD (FT N) (FT M) (nI o) (nI c) (nI (F 0)) (nI (F 1)) (FT (P 0)) (FT (P 1)) (nI 0) (rI (fun _ => 0)))) [true, false, false, false, false, false, false, false, false, false, false, false, false, false, false, false, false, false, false, true, true, true, true, true, true, true, true, true, true, true, true, true, true, false, false, false] rfl) gL_doSimulate_X7_simulate rfl rfl rfl (by decide +kernel) ⟨Nat.le_of_ble_eq_true rfl, Nat.le_of_ble_eq_true rfl⟩ 0 rfl rfl rfl (Nat.le_of_ble_eq_true rfl) rfl ⟨Nat.le_of_ble_eq_true rfl, Nat.le_of_ble_eq_true rfl⟩ dL_doSimulate_3 rfl (fun u9 e9 => nomatch e9) (fun k9 e9 => ?_)
    obtain rfl := Sum.inl.inj e9
    refine ⟨by decide, [], ⟨0, 6, 7, 13⟩, [], htab.trans rfl, (fun z hz => by cases hz), by decide, by decide, hC.2.2.2.2.1 _ kL_doSimulate_13, fun q9 => ?_⟩
    refine v_astore hC dL_doSimulate_7 (by decide) [(4, .ref q9), (0, .ref h0), (1, .long x1), (3, .int x2)] rfl rfl ?_
    refine v_ldc hC (v := (-9999002)) dL_doSimulate_9 kL_doSimulate_15 rfl ?_
    exact v_irE hC hr rfl rfl dL_doSimulate_11 ⟨(M, o, R, P), hI, rfl⟩
  · refine m_ofVL (cc := cL_doSimulate) (nL := 5) (ret := some .int) (hh := [(0, 6, 7, 13)]) hlst RL rfl (by decide) rfl [(0, .ref h0), (1, .long x1), (3, .int x2)] rfl (Nat.le_of_ble_eq_true rfl) ?_
    intro p e s m args below meth c9 hC hr hX htab
    generalize (va_A (WO cy (h0, a, AD) (N, c, D, F, K) (M, o, R, P)) sz) = A9 at hX ⊢
    refine v_eqw (ws' := OX cy h0 a AD (FT N) (FT M) (nI o) (nI c) (nI (F 0)) (nI (F 1)) (FT (P 0)) (FT (P 1)) (nI 0) (rI (fun _ => 0)) ++ HF cy AD (rgD R)) rfl ?_
    refine v_aload_n hC dL_doSimulate_0 rfl 0 rfl rfl ?_
    refine v_lload_n hC dL_doSimulate_1 rfl 1 rfl rfl ?_
    refine v_iload_n hC dL_doSimulate_2 rfl 2 rfl rfl ?_
    refine l_callX hC hX (n := 2) (st := []) (ws' := OX cy h0 a AD (FT N) (FT M2) (nI o) (nI c) (nI (F 0)) (nI (F 1)) (FT (P 0)) (FT (P 1)) (nI 0) (rI (fun _ => 0)) ++ HF cy AD (rgD R)) (fun sz => mX7_simulate l hX.1 g cy tt sa sz h0 (a 0) (a 7) (a 14) (a 16) (a 24) (a 32) (a 1) (a 2) (a 3) (a 4) (a 5) (a 6) (a 8) (a 9) (a 10) (a 11) (a 12) (a 13) (nI (N 0)) (nI (N 1)) (nI (N 2)) (nI (N 3)) (nI (N 4)) (nI (N 5)) (nI (N 6)) (rI (exR N)) (rI (scR N)) (rI (seR N)) (nI (M 0)) (nI (M 1)) (nI (M 2)) (nI (M 3)) (nI (M 4)) (nI (M 5)) (nI (M 6)) (rI (exR M)) (rI (scR M)) (rI (seR M)) x1 x2 h7) (WR.sel (Y := wsel [true, false, false, false, false, false, false, false, false, false, false, false, false, false, false, false, false, false, false, true, true, true, true, true, true, true, true, true, true, true, true, true, true, false, false, false] (OX cy h0 a AD (FT N) (FT M2) (nI o) (nI c) (nI (F 0)) (nI (F 1)) (FT (P 0)) (FT (P 1)) (nI 0) (rI (fun _ => 0)))) [true, false, false, false, false, false, false, false, false, false, false, false, false, false, false, false, false, false, false, true, true, true, true, true, true, true, true, true, true, true, true, true, true, false, false, false] rfl) gL_doSimulate_X7_simulate rfl rfl rfl (by decide +kernel) ⟨Nat.le_of_ble_eq_true rfl, Nat.le_of_ble_eq_true rfl⟩ 0 rfl rfl rfl (Nat.le_of_ble_eq_true rfl) rfl ⟨Nat.le_of_ble_eq_true rfl, Nat.le_of_ble_eq_true rfl⟩ dL_doSimulate_3 rfl (fun u9 e9 => ?_) (fun k9 e9 => nomatch e9)
    obtain rfl := Sum.inr.inj e9
    refine ⟨rfl, ?_⟩
    exact v_irE hC hr rfl rfl dL_doSimulate_6 ⟨(M2, o, R, P), hI.trial M2, rfl⟩
theorem mL_doSimulate (l : Launch) (hlst : l.stackTraces = false) (g : va_G) (cy : Nat → ClassId) (tt sa : Nat → Nat) (sz : Nat) (A : AA) {t : Nat} {S : SS} {H : HH} (x1 : Int64) (x2 : Int32) (hI : RP t S H) (ht : t < 9000)  : Met l yL_doSimulate wsL_doSimulate rmL_doSimulate (PN [.ref A.1, .long x1, .int x2] g cy tt sa sz (WO cy A S H)) (QE g (va_A (WO cy A S H) sz) (aSm S.1 x1 x2) (WP cy A t S)) 1 6 (va_A (WO cy A S H) sz) := by
  obtain ⟨h0, a, AD⟩ := A
  obtain ⟨N, c, D, F, K⟩ := S
  obtain ⟨M, o, R, P⟩ := H
  exact m0L_doSimulate l hlst g cy tt sa sz h0 a AD x1 x2 hI ht
abbrev rmL_doScript : Room := { frames := 8, cells := 2, slots := 12, locals := 169 }
theorem kL_doScript_13 : Cond.classLink RL 13 "java/lang/IllegalArgumentException" ∈ wsL_doScript := by decide +kernel
theorem kL_doScript_15 : Cond.constant RL 15 (-9999002) ∈ wsL_doScript := by decide +kernel
set_option maxHeartbeats 4000000 in
set_option maxRecDepth 100000 in
theorem m0L_doScript (l : Launch) (hlst : l.stackTraces = false) (g : va_G) (cy : Nat → ClassId) (tt sa : Nat → Nat) (sz : Nat) (h0 : Nat) (a : Nat → Nat) (AD : Nat → Nat → Nat) {t : Nat} {N : Nat → Nat} {c : Nat} {D : Nat → Nat → Nat} {F : Nat → Nat} {K : Nat → Nat → Nat} {M : Nat → Nat} {o : Nat} {R P : Nat → Nat → Nat} (x1 : Int32) (x2 : Int64) (hI : RP t (N, c, D, F, K) (M, o, R, P)) (ht : t < 9000) (hb : rsB x1 x2 = true) : Met l yL_doScript wsL_doScript rmL_doScript (PN [.ref h0, .int x1, .long x2] g cy tt sa sz (WO cy (h0, a, AD) (N, c, D, F, K) (M, o, R, P))) (QE g (va_A (WO cy (h0, a, AD) (N, c, D, F, K) (M, o, R, P)) sz) (-9999002) (WP cy (h0, a, AD) t (N, c, D, F, K))) 2 12 (va_A (WO cy (h0, a, AD) (N, c, D, F, K) (M, o, R, P)) sz) := by
  have hN : Inv t N := hI.1
  have hH : HR o c R D := hI.2.1
  have hSl : SL F P K := hI.2.2.2.1
  have hKi : ∀ j, j < 2 → F j = 1 → Inv t (K j) := hI.2.2.2.2
  have h7 := e_runScript (a0 := nI (N 0)) (a1 := nI (N 1)) (a2 := nI (N 2)) (a3 := nI (N 3)) (a4 := nI (N 4)) (a5 := nI (N 5)) (a6 := nI (N 6)) (x0 := rI (exR N)) (x1 := rI (scR N)) (x2 := rI (seR N)) (b0 := nI (M 0)) (b1 := nI (M 1)) (b2 := nI (M 2)) (b3 := nI (M 3)) (b4 := nI (M 4)) (b5 := nI (M 5)) (b6 := nI (M 6)) (y0 := rI (exR M)) (y1 := rI (scR M)) (y2 := rI (seR M)) x1 x2 hb
  refine m_ofVL (cc := cL_doScript) (nL := 5) (ret := some .int) (hh := [(0, 6, 7, 13)]) hlst RL rfl (by decide) rfl [(0, .ref h0), (1, .int x1), (2, .long x2)] rfl (Nat.le_of_ble_eq_true rfl) ?_
  intro p e s m args below meth c9 hC hr hX htab
  generalize (va_A (WO cy (h0, a, AD) (N, c, D, F, K) (M, o, R, P)) sz) = A9 at hX ⊢
  refine v_eqw (ws' := OX cy h0 a AD (FT N) (FT M) (nI o) (nI c) (nI (F 0)) (nI (F 1)) (FT (P 0)) (FT (P 1)) (nI 0) (rI (fun _ => 0)) ++ HF cy AD (rgD R)) rfl ?_
  refine v_aload_n hC dL_doScript_0 rfl 0 rfl rfl ?_
  refine v_iload_n hC dL_doScript_1 rfl 1 rfl rfl ?_
  refine v_lload_n hC dL_doScript_2 rfl 2 rfl rfl ?_
  refine l_callX hC hX (n := 2) (st := []) (ws' := OX cy h0 a AD (FT N) (FT M) (nI o) (nI c) (nI (F 0)) (nI (F 1)) (FT (P 0)) (FT (P 1)) (nI 0) (rI (fun _ => 0)) ++ HF cy AD (rgD R)) (fun sz => mX7_runScript l hX.1 g cy tt sa sz h0 (a 0) (a 7) (a 14) (a 16) (a 24) (a 32) (a 1) (a 2) (a 3) (a 4) (a 5) (a 6) (a 8) (a 9) (a 10) (a 11) (a 12) (a 13) (nI (N 0)) (nI (N 1)) (nI (N 2)) (nI (N 3)) (nI (N 4)) (nI (N 5)) (nI (N 6)) (rI (exR N)) (rI (scR N)) (rI (seR N)) (nI (M 0)) (nI (M 1)) (nI (M 2)) (nI (M 3)) (nI (M 4)) (nI (M 5)) (nI (M 6)) (rI (exR M)) (rI (scR M)) (rI (seR M)) x1 x2 h7) (WR.sel (Y := wsel [true, false, false, false, false, false, false, false, false, false, false, false, false, false, false, false, false, false, false, true, true, true, true, true, true, true, true, true, true, true, true, true, true, false, false, false] (OX cy h0 a AD (FT N) (FT M) (nI o) (nI c) (nI (F 0)) (nI (F 1)) (FT (P 0)) (FT (P 1)) (nI 0) (rI (fun _ => 0)))) [true, false, false, false, false, false, false, false, false, false, false, false, false, false, false, false, false, false, false, true, true, true, true, true, true, true, true, true, true, true, true, true, true, false, false, false] rfl) gL_doScript_X7_runScript rfl rfl rfl (by decide +kernel) ⟨Nat.le_of_ble_eq_true rfl, Nat.le_of_ble_eq_true rfl⟩ 0 rfl rfl rfl (Nat.le_of_ble_eq_true rfl) rfl ⟨Nat.le_of_ble_eq_true rfl, Nat.le_of_ble_eq_true rfl⟩ dL_doScript_3 rfl (fun u9 e9 => nomatch e9) (fun k9 e9 => ?_)
  obtain rfl := Sum.inl.inj e9
  refine ⟨by decide, [], ⟨0, 6, 7, 13⟩, [], htab.trans rfl, (fun z hz => by cases hz), by decide, by decide, hC.2.2.2.2.1 _ kL_doScript_13, fun q9 => ?_⟩
  refine v_astore hC dL_doScript_7 (by decide) [(4, .ref q9), (0, .ref h0), (1, .int x1), (2, .long x2)] rfl rfl ?_
  refine v_ldc hC (v := (-9999002)) dL_doScript_9 kL_doScript_15 rfl ?_
  exact v_irE hC hr rfl rfl dL_doScript_11 ⟨(M, o, R, P), hI, rfl⟩
theorem mL_doScript (l : Launch) (hlst : l.stackTraces = false) (g : va_G) (cy : Nat → ClassId) (tt sa : Nat → Nat) (sz : Nat) (A : AA) {t : Nat} {S : SS} {H : HH} (x1 : Int32) (x2 : Int64) (hI : RP t S H) (ht : t < 9000) (hb : rsB x1 x2 = true) : Met l yL_doScript wsL_doScript rmL_doScript (PN [.ref A.1, .int x1, .long x2] g cy tt sa sz (WO cy A S H)) (QE g (va_A (WO cy A S H) sz) (-9999002) (WP cy A t S)) 2 12 (va_A (WO cy A S H) sz) := by
  obtain ⟨h0, a, AD⟩ := A
  obtain ⟨N, c, D, F, K⟩ := S
  obtain ⟨M, o, R, P⟩ := H
  exact m0L_doScript l hlst g cy tt sa sz h0 a AD x1 x2 hI ht hb
abbrev rmL_tryAppend : Room := { frames := 8, cells := 2, slots := 12, locals := 131 }
theorem kL_tryAppend_13 : Cond.classLink RL 13 "java/lang/IllegalArgumentException" ∈ wsL_tryAppend := by decide +kernel
theorem kL_tryAppend_16 : Cond.classLink RL 16 "java/lang/IllegalStateException" ∈ wsL_tryAppend := by decide +kernel
theorem kL_tryAppend_15 : Cond.constant RL 15 (-9999002) ∈ wsL_tryAppend := by decide +kernel
theorem kL_tryAppend_18 : Cond.constant RL 18 (-9999003) ∈ wsL_tryAppend := by decide +kernel
set_option maxHeartbeats 4000000 in
set_option maxRecDepth 100000 in
theorem m0L_tryAppend (l : Launch) (hlst : l.stackTraces = false) (g : va_G) (cy : Nat → ClassId) (tt sa : Nat → Nat) (sz : Nat) (h0 : Nat) (a : Nat → Nat) (AD : Nat → Nat → Nat) {t : Nat} {N : Nat → Nat} {c : Nat} {D : Nat → Nat → Nat} {F : Nat → Nat} {K : Nat → Nat → Nat} {M : Nat → Nat} {o : Nat} {R P : Nat → Nat → Nat} (x1 : Int32) (hI : RP t (N, c, D, F, K) (M, o, R, P)) (ht : t < 9000) (hb : ¬ nb x1 256 = true) : Met l yL_tryAppend wsL_tryAppend rmL_tryAppend (PN [.ref h0, .int x1] g cy tt sa sz (WO cy (h0, a, AD) (N, c, D, F, K) (M, o, R, P))) (QE g (va_A (WO cy (h0, a, AD) (N, c, D, F, K) (M, o, R, P)) sz) (-9999002) (WP cy (h0, a, AD) t (N, c, D, F, K))) 2 12 (va_A (WO cy (h0, a, AD) (N, c, D, F, K) (M, o, R, P)) sz) := by
  have hN : Inv t N := hI.1
  have hH : HR o c R D := hI.2.1
  have hSl : SL F P K := hI.2.2.2.1
  have hKi : ∀ j, j < 2 → F j = 1 → Inv t (K j) := hI.2.2.2.2
  have h7 := e_append (L := nI 0) (T := rI (fun _ => 0)) x1 hb
  refine m_ofVL (cc := cL_tryAppend) (nL := 3) (ret := some .int) (hh := [(0, 5, 6, 13), (0, 5, 10, 16)]) hlst RL rfl (by decide) rfl [(0, .ref h0), (1, .int x1)] rfl (Nat.le_of_ble_eq_true rfl) ?_
  intro p e s m args below meth c9 hC hr hX htab
  generalize (va_A (WO cy (h0, a, AD) (N, c, D, F, K) (M, o, R, P)) sz) = A9 at hX ⊢
  refine v_eqw (ws' := OX cy h0 a AD (FT N) (FT M) (nI o) (nI c) (nI (F 0)) (nI (F 1)) (FT (P 0)) (FT (P 1)) (nI 0) (rI (fun _ => 0)) ++ HF cy AD (rgD R)) rfl ?_
  refine v_aload_n hC dL_tryAppend_0 rfl 0 rfl rfl ?_
  refine v_iload_n hC dL_tryAppend_1 rfl 1 rfl rfl ?_
  refine l_callX hC hX (n := 1) (st := []) (ws' := OX cy h0 a AD (FT N) (FT M) (nI o) (nI c) (nI (F 0)) (nI (F 1)) (FT (P 0)) (FT (P 1)) (nI 0) (rI (fun _ => 0)) ++ HF cy AD (rgD R)) (fun sz => mX7_append l hX.1 g cy tt sa sz h0 (a 0) (a 7) (a 14) (a 16) (a 24) (a 32) (a 33) (a 34) (nI 0) (rI (fun _ => 0)) x1 h7) (WR.sel (Y := wsel [true, false, false, false, false, false, false, false, false, false, false, false, false, false, false, false, false, false, false, false, false, false, false, false, false, false, false, false, false, false, false, false, false, true, true, true] (OX cy h0 a AD (FT N) (FT M) (nI o) (nI c) (nI (F 0)) (nI (F 1)) (FT (P 0)) (FT (P 1)) (nI 0) (rI (fun _ => 0)))) [true, false, false, false, false, false, false, false, false, false, false, false, false, false, false, false, false, false, false, false, false, false, false, false, false, false, false, false, false, false, false, false, false, true, true, true] rfl) gL_tryAppend_X7_append rfl rfl rfl (by decide +kernel) ⟨Nat.le_of_ble_eq_true rfl, Nat.le_of_ble_eq_true rfl⟩ 0 rfl rfl rfl (Nat.le_of_ble_eq_true rfl) rfl ⟨Nat.le_of_ble_eq_true rfl, Nat.le_of_ble_eq_true rfl⟩ dL_tryAppend_2 rfl (fun u9 e9 => nomatch e9) (fun k9 e9 => ?_)
  obtain rfl := Sum.inl.inj e9
  refine ⟨by decide, [], ⟨0, 5, 6, 13⟩, [⟨0, 5, 10, 16⟩], htab.trans rfl, (fun z hz => by cases hz), by decide, by decide, hC.2.2.2.2.1 _ kL_tryAppend_13, fun q9 => ?_⟩
  refine v_astore_n hC dL_tryAppend_6 rfl (by decide) [(2, .ref q9), (0, .ref h0), (1, .int x1)] rfl rfl ?_
  refine v_ldc hC (v := (-9999002)) dL_tryAppend_7 kL_tryAppend_15 rfl ?_
  exact v_irE hC hr rfl rfl dL_tryAppend_9 ⟨(M, o, R, P), hI, rfl⟩
theorem mL_tryAppend (l : Launch) (hlst : l.stackTraces = false) (g : va_G) (cy : Nat → ClassId) (tt sa : Nat → Nat) (sz : Nat) (A : AA) {t : Nat} {S : SS} {H : HH} (x1 : Int32) (hI : RP t S H) (ht : t < 9000) (hb : ¬ nb x1 256 = true) : Met l yL_tryAppend wsL_tryAppend rmL_tryAppend (PN [.ref A.1, .int x1] g cy tt sa sz (WO cy A S H)) (QE g (va_A (WO cy A S H) sz) (-9999002) (WP cy A t S)) 2 12 (va_A (WO cy A S H) sz) := by
  obtain ⟨h0, a, AD⟩ := A
  obtain ⟨N, c, D, F, K⟩ := S
  obtain ⟨M, o, R, P⟩ := H
  exact m0L_tryAppend l hlst g cy tt sa sz h0 a AD x1 hI ht hb

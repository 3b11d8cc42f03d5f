/-! ===== the helpers of the law ===== -/
abbrev rmL_tryKeep : Room := { frames := 8, cells := 1, slots := 6, locals := 131 }
theorem kL_tryKeep_42 : Cond.classLink RL 42 "java/lang/IndexOutOfBoundsException" ∈ wsL_tryKeep := by decide +kernel
theorem kL_tryKeep_44 : Cond.constant RL 44 (-9999001) ∈ wsL_tryKeep := by decide +kernel
set_option maxHeartbeats 4000000 in
set_option maxRecDepth 100000 in
theorem m0L_tryKeep (l : Launch) (hlst : l.stackTraces = false) (g : va_G) (cy : Nat → ClassId) (tt sa : Nat → Nat) (sz : Nat) (h0 : Nat) (a : Nat → Nat) (AD : Nat → Nat → Nat) {t : Nat} {N : Nat → Nat} {c : Nat} {D : Nat → Nat → Nat} {F : Nat → Nat} {K : Nat → Nat → Nat} {M : Nat → Nat} {o : Nat} {R P : Nat → Nat → Nat} (x1 : Int32) (hI : RP t (N, c, D, F, K) (M, o, R, P)) (ht : t < 9000)  : Met l yL_tryKeep wsL_tryKeep rmL_tryKeep (PN [.ref h0, .int x1] g cy tt sa sz (WO cy (h0, a, AD) (N, c, D, F, K) (M, o, R, P))) (QE g (va_A (WO cy (h0, a, AD) (N, c, D, F, K) (M, o, R, P)) sz) (fSa (N, c, D, F, K) x1).1 (WP cy (h0, a, AD) (t + 1) (fSa (N, c, D, F, K) x1).2)) 1 6 (va_A (WO cy (h0, a, AD) (N, c, D, F, K) (M, o, R, P)) sz) := by
  have hN : Inv t N := hI.1
  have hH : HR o c R D := hI.2.1
  have hSl : SL F P K := hI.2.2.2.1
  have hKi : ∀ j, j < 2 → F j = 1 → Inv t (K j) := hI.2.2.2.2
  rcases e_save x1 (c := c) (F := F) (P := P) (K := K) (D := D) hN with ⟨h7, h8⟩ | ⟨i9, v, hi9, h7, h8⟩
  · rw [h8]
    refine m_ofVL (cc := cL_tryKeep) (nL := 3) (ret := some .int) (hh := [(0, 5, 6, 42)]) hlst RL rfl (by decide) rfl [(0, .ref h0), (1, .int x1)] rfl (Nat.le_of_ble_eq_true rfl) ?_
    intro p e s m args below meth c9 hC hr hX htab
    generalize (va_A (WO cy (h0, a, AD) (N, c, D, F, K) (M, o, R, P)) sz) = A9 at hX ⊢
    refine v_eqw (ws' := OX cy h0 a AD (FT N) (FT M) (nI o) (nI c) (nI (F 0)) (nI (F 1)) (FT (P 0)) (FT (P 1)) (nI 0) (rI (fun _ => 0)) ++ HF cy AD (rgD R)) rfl ?_
    refine v_aload_n hC dL_tryKeep_0 rfl 0 rfl rfl ?_
    refine v_iload_n hC dL_tryKeep_1 rfl 1 rfl rfl ?_
    refine l_callX hC hX (n := 1) (st := []) (ws' := OX cy h0 a AD (FT N) (FT M) (nI o) (nI c) (nI (F 0)) (nI (F 1)) (FT (P 0)) (FT (P 1)) (nI 0) (rI (fun _ => 0)) ++ HF cy AD (rgD R)) (fun sz => mX7_save l hX.1 g cy tt sa sz h0 (a 0) (a 7) (a 14) (a 16) (a 24) (a 32) (a 17) (a 18) (a 19) (a 20) (a 21) (a 22) (a 23) (a 25) (a 26) (a 27) (a 28) (a 29) (a 30) (a 31) (a 1) (a 2) (a 3) (a 4) (a 5) (a 6) (nI (F 0)) (nI (P 0 0)) (nI (P 0 1)) (nI (P 0 2)) (nI (P 0 3)) (nI (P 0 4)) (nI (P 0 5)) (nI (P 0 6)) (rI (exR (P 0))) (rI (scR (P 0))) (rI (seR (P 0))) (nI (F 1)) (nI (P 1 0)) (nI (P 1 1)) (nI (P 1 2)) (nI (P 1 3)) (nI (P 1 4)) (nI (P 1 5)) (nI (P 1 6)) (rI (exR (P 1))) (rI (scR (P 1))) (rI (seR (P 1))) (nI (N 0)) (nI (N 1)) (nI (N 2)) (nI (N 3)) (nI (N 4)) (nI (N 5)) (nI (N 6)) (rI (exR N)) (rI (scR N)) (rI (seR N)) x1 h7) (WR.sel (Y := wsel [true, false, false, true, true, true, true, true, true, true, true, true, true, true, true, true, true, true, true, true, true, true, true, true, true, true, false, false, false, false, false, false, false, false, false, false] (OX cy h0 a AD (FT N) (FT M) (nI o) (nI c) (nI (F 0)) (nI (F 1)) (FT (P 0)) (FT (P 1)) (nI 0) (rI (fun _ => 0)))) [true, false, false, true, true, true, true, true, true, true, true, true, true, true, true, true, true, true, true, true, true, true, true, true, true, true, false, false, false, false, false, false, false, false, false, false] rfl) gL_tryKeep_X7_save rfl rfl rfl (by decide +kernel) ⟨Nat.le_of_ble_eq_true rfl, Nat.le_of_ble_eq_true rfl⟩ 0 rfl rfl rfl (Nat.le_of_ble_eq_true rfl) rfl ⟨Nat.le_of_ble_eq_true rfl, Nat.le_of_ble_eq_true rfl⟩ dL_tryKeep_2 rfl (fun u9 e9 => nomatch e9) (fun k9 e9 => ?_)
    obtain rfl := Sum.inl.inj e9
    refine ⟨by decide, [], ⟨0, 5, 6, 42⟩, [], htab.trans rfl, (fun z hz => by cases hz), by decide, by decide, hC.2.2.2.2.1 _ kL_tryKeep_42, fun q9 => ?_⟩
    refine v_astore_n hC dL_tryKeep_6 rfl (by decide) [(2, .ref q9), (0, .ref h0), (1, .int x1)] rfl rfl ?_
    refine v_ldc hC (v := (-9999001)) dL_tryKeep_7 kL_tryKeep_44 rfl ?_
    exact v_irE hC hr rfl rfl dL_tryKeep_9 ⟨(M, o, R, P), hI.up (Nat.le_succ t), rfl⟩
  · rw [h8]
    refine m_ofVL (cc := cL_tryKeep) (nL := 3) (ret := some .int) (hh := [(0, 5, 6, 42)]) hlst RL rfl (by decide) rfl [(0, .ref h0), (1, .int x1)] rfl (Nat.le_of_ble_eq_true rfl) ?_
    intro p e s m args below meth c9 hC hr hX htab
    generalize (va_A (WO cy (h0, a, AD) (N, c, D, F, K) (M, o, R, P)) sz) = A9 at hX ⊢
    refine v_eqw (ws' := OX cy h0 a AD (FT N) (FT M) (nI o) (nI c) (nI (F 0)) (nI (F 1)) (FT (P 0)) (FT (P 1)) (nI 0) (rI (fun _ => 0)) ++ HF cy AD (rgD R)) rfl ?_
    refine v_aload_n hC dL_tryKeep_0 rfl 0 rfl rfl ?_
    refine v_iload_n hC dL_tryKeep_1 rfl 1 rfl rfl ?_
    refine l_callX hC hX (n := 1) (st := []) (ws' := OX cy h0 a AD (FT N) (FT M) (nI o) (nI c) (nI (nset F i9 1 0)) (nI (nset F i9 1 1)) (FT (va_up P i9 N 0)) (FT (va_up P i9 N 1)) (nI 0) (rI (fun _ => 0)) ++ HF cy AD (rgD R)) (fun sz => mX7_save l hX.1 g cy tt sa sz h0 (a 0) (a 7) (a 14) (a 16) (a 24) (a 32) (a 17) (a 18) (a 19) (a 20) (a 21) (a 22) (a 23) (a 25) (a 26) (a 27) (a 28) (a 29) (a 30) (a 31) (a 1) (a 2) (a 3) (a 4) (a 5) (a 6) (nI (F 0)) (nI (P 0 0)) (nI (P 0 1)) (nI (P 0 2)) (nI (P 0 3)) (nI (P 0 4)) (nI (P 0 5)) (nI (P 0 6)) (rI (exR (P 0))) (rI (scR (P 0))) (rI (seR (P 0))) (nI (F 1)) (nI (P 1 0)) (nI (P 1 1)) (nI (P 1 2)) (nI (P 1 3)) (nI (P 1 4)) (nI (P 1 5)) (nI (P 1 6)) (rI (exR (P 1))) (rI (scR (P 1))) (rI (seR (P 1))) (nI (N 0)) (nI (N 1)) (nI (N 2)) (nI (N 3)) (nI (N 4)) (nI (N 5)) (nI (N 6)) (rI (exR N)) (rI (scR N)) (rI (seR N)) x1 h7) (WR.sel (Y := wsel [true, false, false, true, true, true, true, true, true, true, true, true, true, true, true, true, true, true, true, true, true, true, true, true, true, true, false, false, false, false, false, false, false, false, false, false] (OX cy h0 a AD (FT N) (FT M) (nI o) (nI c) (nI (nset F i9 1 0)) (nI (nset F i9 1 1)) (FT (va_up P i9 N 0)) (FT (va_up P i9 N 1)) (nI 0) (rI (fun _ => 0)))) [true, false, false, true, true, true, true, true, true, true, true, true, true, true, true, true, true, true, true, true, true, true, true, true, true, true, false, false, false, false, false, false, false, false, false, false] rfl) gL_tryKeep_X7_save rfl rfl rfl (by decide +kernel) ⟨Nat.le_of_ble_eq_true rfl, Nat.le_of_ble_eq_true rfl⟩ 0 rfl rfl rfl (Nat.le_of_ble_eq_true rfl) rfl ⟨Nat.le_of_ble_eq_true rfl, Nat.le_of_ble_eq_true rfl⟩ dL_tryKeep_2 rfl (fun u9 e9 => ?_) (fun k9 e9 => nomatch e9)
    obtain rfl := Sum.inr.inj e9
    refine ⟨rfl, ?_⟩
    exact v_irE hC hr rfl rfl dL_tryKeep_5 ⟨savH (N, c, D, F, K) (M, o, R, P) i9, (hI.save hi9).up (Nat.le_succ t), rfl⟩
theorem mL_tryKeep (l : Launch) (hlst : l.stackTraces = false) (g : va_G) (cy : Nat → ClassId) (tt sa : Nat → Nat) (sz : Nat) (A : AA) {t : Nat} {S : SS} {H : HH} (x1 : Int32) (hI : RP t S H) (ht : t < 9000)  : Met l yL_tryKeep wsL_tryKeep rmL_tryKeep (PN [.ref A.1, .int x1] g cy tt sa sz (WO cy A S H)) (QE g (va_A (WO cy A S H) sz) (fSa S x1).1 (WP cy A (t + 1) (fSa S x1).2)) 1 6 (va_A (WO cy A S H) sz) := by
  obtain ⟨h0, a, AD⟩ := A
  obtain ⟨N, c, D, F, K⟩ := S
  obtain ⟨M, o, R, P⟩ := H
  exact m0L_tryKeep l hlst g cy tt sa sz h0 a AD x1 hI ht
abbrev rmL_tryBack : Room := { frames := 8, cells := 2, slots := 12, locals := 131 }
theorem kL_tryBack_16 : Cond.classLink RL 16 "java/lang/IllegalStateException" ∈ wsL_tryBack := by decide +kernel
theorem kL_tryBack_42 : Cond.classLink RL 42 "java/lang/IndexOutOfBoundsException" ∈ wsL_tryBack := by decide +kernel
theorem kL_tryBack_18 : Cond.constant RL 18 (-9999003) ∈ wsL_tryBack := by decide +kernel
theorem kL_tryBack_44 : Cond.constant RL 44 (-9999001) ∈ wsL_tryBack := by decide +kernel
set_option maxHeartbeats 4000000 in
set_option maxRecDepth 100000 in
theorem m0L_tryBack (l : Launch) (hlst : l.stackTraces = false) (g : va_G) (cy : Nat → ClassId) (tt sa : Nat → Nat) (sz : Nat) (h0 : Nat) (a : Nat → Nat) (AD : Nat → Nat → Nat) {t : Nat} {N : Nat → Nat} {c : Nat} {D : Nat → Nat → Nat} {F : Nat → Nat} {K : Nat → Nat → Nat} {M : Nat → Nat} {o : Nat} {R P : Nat → Nat → Nat} (x1 : Int32) (hI : RP t (N, c, D, F, K) (M, o, R, P)) (ht : t < 9000)  : Met l yL_tryBack wsL_tryBack rmL_tryBack (PN [.ref h0, .int x1] g cy tt sa sz (WO cy (h0, a, AD) (N, c, D, F, K) (M, o, R, P))) (QE g (va_A (WO cy (h0, a, AD) (N, c, D, F, K) (M, o, R, P)) sz) (fBa (N, c, D, F, K) x1).1 (WP cy (h0, a, AD) (t + 1) (fBa (N, c, D, F, K) x1).2)) 2 12 (va_A (WO cy (h0, a, AD) (N, c, D, F, K) (M, o, R, P)) sz) := by
  have hN : Inv t N := hI.1
  have hH : HR o c R D := hI.2.1
  have hSl : SL F P K := hI.2.2.2.1
  have hKi : ∀ j, j < 2 → F j = 1 → Inv t (K j) := hI.2.2.2.2
  rcases e_restore x1 (nI c) (c := c) (N := N) (D := D) hSl hKi with ⟨h7, h8⟩ | ⟨h7, h8⟩ | ⟨v, i9, hi9, hf9, h7, h8⟩
  · rw [h8]
    refine m_ofVL (cc := cL_tryBack) (nL := 3) (ret := some .int) (hh := [(0, 5, 6, 42), (0, 5, 10, 16)]) hlst RL rfl (by decide) rfl [(0, .ref h0), (1, .int x1)] rfl (Nat.le_of_ble_eq_true rfl) ?_
    intro p e s m args below meth c9 hC hr hX htab
    generalize (va_A (WO cy (h0, a, AD) (N, c, D, F, K) (M, o, R, P)) sz) = A9 at hX ⊢
    refine v_eqw (ws' := OX cy h0 a AD (FT N) (FT M) (nI o) (nI c) (nI (F 0)) (nI (F 1)) (FT (P 0)) (FT (P 1)) (nI 0) (rI (fun _ => 0)) ++ HF cy AD (rgD R)) rfl ?_
    refine v_aload_n hC dL_tryBack_0 rfl 0 rfl rfl ?_
    refine v_iload_n hC dL_tryBack_1 rfl 1 rfl rfl ?_
    refine l_callX hC hX (n := 1) (st := []) (ws' := OX cy h0 a AD (FT N) (FT M) (nI o) (nI c) (nI (F 0)) (nI (F 1)) (FT (P 0)) (FT (P 1)) (nI 0) (rI (fun _ => 0)) ++ HF cy AD (rgD R)) (fun sz => mX7_restore l hX.1 g cy tt sa sz h0 (a 0) (a 7) (a 14) (a 16) (a 24) (a 32) (a 15) (a 17) (a 18) (a 19) (a 20) (a 21) (a 22) (a 23) (a 25) (a 26) (a 27) (a 28) (a 29) (a 30) (a 31) (a 1) (a 2) (a 3) (a 4) (a 5) (a 6) AD (nI o) (nI c) (nI (F 0)) (nI (P 0 0)) (nI (P 0 1)) (nI (P 0 2)) (nI (P 0 3)) (nI (P 0 4)) (nI (P 0 5)) (nI (P 0 6)) (rI (exR (P 0))) (rI (scR (P 0))) (rI (seR (P 0))) (nI (F 1)) (nI (P 1 0)) (nI (P 1 1)) (nI (P 1 2)) (nI (P 1 3)) (nI (P 1 4)) (nI (P 1 5)) (nI (P 1 6)) (rI (exR (P 1))) (rI (scR (P 1))) (rI (seR (P 1))) (nI (N 0)) (nI (N 1)) (nI (N 2)) (nI (N 3)) (nI (N 4)) (nI (N 5)) (nI (N 6)) (rI (exR N)) (rI (scR N)) (rI (seR N)) x1 h7) (WR.sel (Y := wsel [true, true, true, true, true, true, true, true, true, true, true, true, true, true, true, true, true, true, true, true, true, true, true, true, true, true, false, false, false, false, false, false, false, false, false, false] (OX cy h0 a AD (FT N) (FT M) (nI o) (nI c) (nI (F 0)) (nI (F 1)) (FT (P 0)) (FT (P 1)) (nI 0) (rI (fun _ => 0)))) [true, true, true, true, true, true, true, true, true, true, true, true, true, true, true, true, true, true, true, true, true, true, true, true, true, true, false, false, false, false, false, false, false, false, false, false] rfl) gL_tryBack_X7_restore rfl rfl rfl (by decide +kernel) ⟨Nat.le_of_ble_eq_true rfl, Nat.le_of_ble_eq_true rfl⟩ 0 rfl rfl rfl (Nat.le_of_ble_eq_true rfl) rfl ⟨Nat.le_of_ble_eq_true rfl, Nat.le_of_ble_eq_true rfl⟩ dL_tryBack_2 rfl (fun u9 e9 => nomatch e9) (fun k9 e9 => ?_)
    obtain rfl := Sum.inl.inj e9
    refine ⟨by decide, [], ⟨0, 5, 6, 42⟩, [⟨0, 5, 10, 16⟩], htab.trans rfl, (fun z hz => by cases hz), by decide, by decide, hC.2.2.2.2.1 _ kL_tryBack_42, fun q9 => ?_⟩
    refine v_astore_n hC dL_tryBack_6 rfl (by decide) [(2, .ref q9), (0, .ref h0), (1, .int x1)] rfl rfl ?_
    refine v_ldc hC (v := (-9999001)) dL_tryBack_7 kL_tryBack_44 rfl ?_
    exact v_irE hC hr rfl rfl dL_tryBack_9 ⟨(M, o, R, P), hI.up (Nat.le_succ t), rfl⟩
  · rw [h8]
    refine m_ofVL (cc := cL_tryBack) (nL := 3) (ret := some .int) (hh := [(0, 5, 6, 42), (0, 5, 10, 16)]) hlst RL rfl (by decide) rfl [(0, .ref h0), (1, .int x1)] rfl (Nat.le_of_ble_eq_true rfl) ?_
    intro p e s m args below meth c9 hC hr hX htab
    generalize (va_A (WO cy (h0, a, AD) (N, c, D, F, K) (M, o, R, P)) sz) = A9 at hX ⊢
    refine v_eqw (ws' := OX cy h0 a AD (FT N) (FT M) (nI o) (nI c) (nI (F 0)) (nI (F 1)) (FT (P 0)) (FT (P 1)) (nI 0) (rI (fun _ => 0)) ++ HF cy AD (rgD R)) rfl ?_
    refine v_aload_n hC dL_tryBack_0 rfl 0 rfl rfl ?_
    refine v_iload_n hC dL_tryBack_1 rfl 1 rfl rfl ?_
    refine l_callX hC hX (n := 1) (st := []) (ws' := OX cy h0 a AD (FT N) (FT M) (nI o) (nI c) (nI (F 0)) (nI (F 1)) (FT (P 0)) (FT (P 1)) (nI 0) (rI (fun _ => 0)) ++ HF cy AD (rgD R)) (fun sz => mX7_restore l hX.1 g cy tt sa sz h0 (a 0) (a 7) (a 14) (a 16) (a 24) (a 32) (a 15) (a 17) (a 18) (a 19) (a 20) (a 21) (a 22) (a 23) (a 25) (a 26) (a 27) (a 28) (a 29) (a 30) (a 31) (a 1) (a 2) (a 3) (a 4) (a 5) (a 6) AD (nI o) (nI c) (nI (F 0)) (nI (P 0 0)) (nI (P 0 1)) (nI (P 0 2)) (nI (P 0 3)) (nI (P 0 4)) (nI (P 0 5)) (nI (P 0 6)) (rI (exR (P 0))) (rI (scR (P 0))) (rI (seR (P 0))) (nI (F 1)) (nI (P 1 0)) (nI (P 1 1)) (nI (P 1 2)) (nI (P 1 3)) (nI (P 1 4)) (nI (P 1 5)) (nI (P 1 6)) (rI (exR (P 1))) (rI (scR (P 1))) (rI (seR (P 1))) (nI (N 0)) (nI (N 1)) (nI (N 2)) (nI (N 3)) (nI (N 4)) (nI (N 5)) (nI (N 6)) (rI (exR N)) (rI (scR N)) (rI (seR N)) x1 h7) (WR.sel (Y := wsel [true, true, true, true, true, true, true, true, true, true, true, true, true, true, true, true, true, true, true, true, true, true, true, true, true, true, false, false, false, false, false, false, false, false, false, false] (OX cy h0 a AD (FT N) (FT M) (nI o) (nI c) (nI (F 0)) (nI (F 1)) (FT (P 0)) (FT (P 1)) (nI 0) (rI (fun _ => 0)))) [true, true, true, true, true, true, true, true, true, true, true, true, true, true, true, true, true, true, true, true, true, true, true, true, true, true, false, false, false, false, false, false, false, false, false, false] rfl) gL_tryBack_X7_restore rfl rfl rfl (by decide +kernel) ⟨Nat.le_of_ble_eq_true rfl, Nat.le_of_ble_eq_true rfl⟩ 0 rfl rfl rfl (Nat.le_of_ble_eq_true rfl) rfl ⟨Nat.le_of_ble_eq_true rfl, Nat.le_of_ble_eq_true rfl⟩ dL_tryBack_2 rfl (fun u9 e9 => nomatch e9) (fun k9 e9 => ?_)
    obtain rfl := Sum.inl.inj e9
    refine ⟨by decide, [⟨0, 5, 6, 42⟩], ⟨0, 5, 10, 16⟩, [], htab.trans rfl, (fun z hz => by rw [List.mem_singleton.mp hz]; exact Or.inr ⟨by decide, "java/lang/IndexOutOfBoundsException", hC.2.2.2.2.1 _ kL_tryBack_42, hX.2.2.2.2.2⟩), by decide, by decide, hC.2.2.2.2.1 _ kL_tryBack_16, fun q9 => ?_⟩
    refine v_astore_n hC dL_tryBack_10 rfl (by decide) [(2, .ref q9), (0, .ref h0), (1, .int x1)] rfl rfl ?_
    refine v_ldc hC (v := (-9999003)) dL_tryBack_11 kL_tryBack_18 rfl ?_
    exact v_irE hC hr rfl rfl dL_tryBack_13 ⟨(M, o, R, P), hI.up (Nat.le_succ t), rfl⟩
  · rw [h8]
    refine m_ofVL (cc := cL_tryBack) (nL := 3) (ret := some .int) (hh := [(0, 5, 6, 42), (0, 5, 10, 16)]) hlst RL rfl (by decide) rfl [(0, .ref h0), (1, .int x1)] rfl (Nat.le_of_ble_eq_true rfl) ?_
    intro p e s m args below meth c9 hC hr hX htab
    generalize (va_A (WO cy (h0, a, AD) (N, c, D, F, K) (M, o, R, P)) sz) = A9 at hX ⊢
    refine v_eqw (ws' := OX cy h0 a AD (FT N) (FT M) (nI o) (nI c) (nI (F 0)) (nI (F 1)) (FT (P 0)) (FT (P 1)) (nI 0) (rI (fun _ => 0)) ++ HF cy AD (rgD R)) rfl ?_
    refine v_aload_n hC dL_tryBack_0 rfl 0 rfl rfl ?_
    refine v_iload_n hC dL_tryBack_1 rfl 1 rfl rfl ?_
    refine l_callX hC hX (n := 1) (st := []) (ws' := OX cy h0 a AD (FT (K i9)) (FT M) (nI o) (nI 0) (nI (F 0)) (nI (F 1)) (FT (P 0)) (FT (P 1)) (nI 0) (rI (fun _ => 0)) ++ HF cy AD (rgD R)) (fun sz => mX7_restore l hX.1 g cy tt sa sz h0 (a 0) (a 7) (a 14) (a 16) (a 24) (a 32) (a 15) (a 17) (a 18) (a 19) (a 20) (a 21) (a 22) (a 23) (a 25) (a 26) (a 27) (a 28) (a 29) (a 30) (a 31) (a 1) (a 2) (a 3) (a 4) (a 5) (a 6) AD (nI o) (nI c) (nI (F 0)) (nI (P 0 0)) (nI (P 0 1)) (nI (P 0 2)) (nI (P 0 3)) (nI (P 0 4)) (nI (P 0 5)) (nI (P 0 6)) (rI (exR (P 0))) (rI (scR (P 0))) (rI (seR (P 0))) (nI (F 1)) (nI (P 1 0)) (nI (P 1 1)) (nI (P 1 2)) (nI (P 1 3)) (nI (P 1 4)) (nI (P 1 5)) (nI (P 1 6)) (rI (exR (P 1))) (rI (scR (P 1))) (rI (seR (P 1))) (nI (N 0)) (nI (N 1)) (nI (N 2)) (nI (N 3)) (nI (N 4)) (nI (N 5)) (nI (N 6)) (rI (exR N)) (rI (scR N)) (rI (seR N)) x1 h7) (WR.sel (Y := wsel [true, true, true, true, true, true, true, true, true, true, true, true, true, true, true, true, true, true, true, true, true, true, true, true, true, true, false, false, false, false, false, false, false, false, false, false] (OX cy h0 a AD (FT (K i9)) (FT M) (nI o) (nI 0) (nI (F 0)) (nI (F 1)) (FT (P 0)) (FT (P 1)) (nI 0) (rI (fun _ => 0)))) [true, true, true, true, true, true, true, true, true, true, true, true, true, true, true, true, true, true, true, true, true, true, true, true, true, true, false, false, false, false, false, false, false, false, false, false] rfl) gL_tryBack_X7_restore rfl rfl rfl (by decide +kernel) ⟨Nat.le_of_ble_eq_true rfl, Nat.le_of_ble_eq_true rfl⟩ 0 rfl rfl rfl (Nat.le_of_ble_eq_true rfl) rfl ⟨Nat.le_of_ble_eq_true rfl, Nat.le_of_ble_eq_true rfl⟩ dL_tryBack_2 rfl (fun u9 e9 => ?_) (fun k9 e9 => nomatch e9)
    obtain rfl := Sum.inr.inj e9
    refine ⟨rfl, ?_⟩
    exact v_irE hC hr rfl rfl dL_tryBack_5 ⟨(M, o, R, P), (hI.rest hi9 hf9).up (Nat.le_succ t), rfl⟩
theorem mL_tryBack (l : Launch) (hlst : l.stackTraces = false) (g : va_G) (cy : Nat → ClassId) (tt sa : Nat → Nat) (sz : Nat) (A : AA) {t : Nat} {S : SS} {H : HH} (x1 : Int32) (hI : RP t S H) (ht : t < 9000)  : Met l yL_tryBack wsL_tryBack rmL_tryBack (PN [.ref A.1, .int x1] g cy tt sa sz (WO cy A S H)) (QE g (va_A (WO cy A S H) sz) (fBa S x1).1 (WP cy A (t + 1) (fBa S x1).2)) 2 12 (va_A (WO cy A S H) sz) := by
  obtain ⟨h0, a, AD⟩ := A
  obtain ⟨N, c, D, F, K⟩ := S
  obtain ⟨M, o, R, P⟩ := H
  exact m0L_tryBack l hlst g cy tt sa sz h0 a AD x1 hI ht

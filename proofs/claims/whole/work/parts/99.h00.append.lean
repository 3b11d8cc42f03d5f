/-! ===== the law: append ===== -/
theorem lc_append {p : Program} {l : Launch} {e : Env} {s : State} {m : MethodId} {args : Array Value} {below : List Frame} {meth : Method} {c : Code} {cells slots : Nat} {Q : State → Prop} {g : va_G} {cy : Nat → ClassId} {A : Nat → Prop} {tt sa : Nat → Nat} {b Len : Nat} {xs : Nat → Int32} {h0 z0 oa : Nat} {a z : Nat → Nat} {AD : Nat → Nat → Nat} (hC : CX p s m args meth c g cy 7 cL_law wsL_law RL) (hX : XL l s tt sa A) (hX9 : va_X b Len xs s s.heap) (hbl : b < s.heap.size) (hbA : ¬ A b) (hLen : Len ≤ 3072) {i t : Nat} (hi : i + 6 ≤ Len) (ht : t < 9000) {N M' M : Nat → Nat} {o ct : Nat} {R D : Nat → Nat → Nat} {F : Nat → Nat} {P K : Nat → Nat → Nat} {T : Nat → Nat} {L : Nat} {rf sp ou : Int32} {O : Nat → Int64} (hI : LI t N M o ct R D F P K T L) (hcs : cells + 4 ≤ 601024 ∧ slots + 24 ≤ 7293034)
    (k : ∀ {N M' M : Nat → Nat} {o ct : Nat} {R D : Nat → Nat → Nat} {F : Nat → Nat} {P K : Nat → Nat → Nat} {T : Nat → Nat} {L : Nat} {rf sp ou : Int32} {O : Nat → Int64}, LI (t + 1) N M o ct R D F P K T L → V p l e room_1 s m args below meth c g 7 (cells + 4) (slots + 24) Q A A (LX cy h0 a AD z0 z oa O (FT N) (FT M') (nI o) (nI ct) (nI (F 0)) (nI (F 1)) (FT (P 0)) (FT (P 1)) (nI L) (rI T) rf (nI L) (nI ct) sp ou (rI T) (rI N) (rI M) (rI (diN D)) (rI (kpN K)) (rI F) ++ HF cy AD (rgD R)) 1561 [(0, .ref b), (1, .ref h0), (2, .ref z0), (3, .ref oa), (4, .int (nI i))] []) : V p l e room_1 s m args below meth c g 7 cells slots Q A A (LX cy h0 a AD z0 z oa O (FT N) (FT M') (nI o) (nI ct) (nI (F 0)) (nI (F 1)) (FT (P 0)) (FT (P 1)) (nI L) (rI T) rf (nI L) (nI ct) sp ou (rI T) (rI N) (rI M) (rI (diN D)) (rI (kpN K)) (rI F) ++ HF cy AD (rgD R)) 156 [(0, .ref b), (1, .ref h0), (2, .ref z0), (3, .ref oa), (4, .int (nI i))] [] := by
  obtain ⟨ht1, hN, hM, hH, hDi, hSl, hKi, hTx⟩ := id hI
  rcases c_append rf (xs (nI i + nI 1).toNatClampNeg) hTx with ⟨h7, h8⟩ | ⟨h7, h8⟩ | ⟨T2, L2, hT2, h7, h8⟩
  · refine v_aload_n hC dL_law_156 rfl 1 rfl rfl ?_
    refine v_aload_n hC dL_law_157 rfl 0 rfl rfl ?_
    refine v_iload hC dL_law_158 4 rfl rfl ?_
    refine v_iconst hC (v := (nI 1)) dL_law_160 (by decide) rfl ?_
    refine v_iadd hC dL_law_161 rfl ?_
    refine l_sld hC hX9 hbl hbA (l_in hLen hi (by decide)) dL_law_162 rfl ?_
    refine v_aload_n hC dL_law_163 rfl 3 rfl rfl ?_
    refine l_callS hC hX (n := 3) (As := [.ref h0, .int (xs (((nI i) + (nI 1))).toNatClampNeg), .ref oa]) (st := []) (fun sz => mL_append_x0 l hX.1 g cy tt sa sz h0 (a 0) (a 7) (a 14) (a 16) (a 24) (a 32) (a 33) (a 34) (nI L) (rI T) (xs (((nI i) + (nI 1))).toNatClampNeg) oa O h7) (WR.sel [true, true, false, false, false, false, false, false, false, false, false, false, false, false, false, false, false, false, false, false, false, false, false, false, false, false, false, false, false, false, false, false, false, false, true, true, true, false, false, false, false, false, false, false] rfl) gL_law_L_append rfl rfl rfl (by decide +kernel) ⟨Nat.le_of_ble_eq_true rfl, Nat.le_of_ble_eq_true rfl⟩ rfl (Nat.le_of_ble_eq_true rfl) rfl ⟨by show cells + 2 ≤ 601024; omega, by show slots + 12 ≤ 7293034; omega⟩ dL_law_164 rfl ?_
    refine v_eqw (ws' := LX cy h0 a AD z0 z oa O (FT N) (FT M') (nI o) (nI ct) (nI (F 0)) (nI (F 1)) (FT (P 0)) (FT (P 1)) (nI L) (rI T) rf (nI L) (nI ct) sp ou (rI T) (rI N) (rI M) (rI (diN D)) (rI (kpN K)) (rI F) ++ HF cy AD (rgD R)) rfl ?_
    refine v_istore hC dL_law_167 (by decide) [(5, .int (nI 1)), (0, .ref b), (1, .ref h0), (2, .ref z0), (3, .ref oa), (4, .int (nI i))] rfl rfl ?_
    refine v_aload_n hC dL_law_169 rfl 3 rfl rfl ?_
    refine v_aload_n hC dL_law_170 rfl 1 rfl rfl ?_
    refine v_iload hC dL_law_171 5 rfl rfl ?_
    refine v_iconst hC (v := (nI 1)) dL_law_173 (by decide) rfl ?_
    refine v_iadd hC dL_law_174 rfl ?_
    refine l_sld hC hX9 hbl hbA (l_in hLen hi (by decide)) dL_law_175 rfl ?_
    refine l_callV hC (n := 1) (As := [.int (xs (((nI i) + (nI 1))).toNatClampNeg)]) (st := []) (mX8_append l g cy z0 (z 0) (z 1) (z 2) (z 3) (z 4) (z 5) rf (nI L) (nI ct) sp ou (rI T) (rI N) (rI M) (rI (diN D)) (rI (kpN K)) (rI F) (xs (((nI i) + (nI 1))).toNatClampNeg) h8) (WR.sel [false, false, false, false, false, false, false, false, false, false, false, false, false, false, false, false, false, false, false, false, false, false, false, false, false, false, false, false, false, false, false, false, false, false, false, false, false, true, true, true, true, true, true, true] rfl) gL_law_X8_append rfl rfl rfl (by decide +kernel) ⟨Nat.le_of_ble_eq_true rfl, Nat.le_of_ble_eq_true rfl⟩ 37 rfl rfl rfl (Nat.le_of_ble_eq_true rfl) rfl ⟨by show cells + 2 + 0 ≤ 601024; omega, by show slots + 12 + 0 ≤ 7293034; omega⟩ dL_law_176 rfl ?_
    refine v_eqw (ws' := LX cy h0 a AD z0 z oa O (FT N) (FT M') (nI o) (nI ct) (nI (F 0)) (nI (F 1)) (FT (P 0)) (FT (P 1)) (nI L) (rI T) (nI 1) (nI L) (nI ct) sp ou (rI T) (rI N) (rI M) (rI (diN D)) (rI (kpN K)) (rI F) ++ HF cy AD (rgD R)) rfl ?_
    refine v_istore hC dL_law_179 (by decide) [(6, .int (nI 0)), (5, .int (nI 1)), (0, .ref b), (1, .ref h0), (2, .ref z0), (3, .ref oa), (4, .int (nI i))] rfl rfl ?_
    refine v_aload_n hC dL_law_181 rfl 4 rfl rfl ?_
    refine l_callR hC (n := 0) (As := []) (st := []) (mX8_thrown l g cy z0 (z 0) (z 1) (z 2) (z 3) (z 4) (z 5) (nI 1) (nI L) (nI ct) sp ou (rI T) (rI N) (rI M) (rI (diN D)) (rI (kpN K)) (rI F) rfl) (WR.sel (Y := wsel [false, false, false, false, false, false, false, false, false, false, false, false, false, false, false, false, false, false, false, false, false, false, false, false, false, false, false, false, false, false, false, false, false, false, false, false, false, true, true, true, true, true, true, true] (LX cy h0 a AD z0 z oa O (FT N) (FT M') (nI o) (nI ct) (nI (F 0)) (nI (F 1)) (FT (P 0)) (FT (P 1)) (nI L) (rI T) (nI 1) (nI L) (nI ct) sp ou (rI T) (rI N) (rI M) (rI (diN D)) (rI (kpN K)) (rI F))) [false, false, false, false, false, false, false, false, false, false, false, false, false, false, false, false, false, false, false, false, false, false, false, false, false, false, false, false, false, false, false, false, false, false, false, false, false, true, true, true, true, true, true, true] rfl) gL_law_X8_thrown rfl rfl rfl (by decide +kernel) ⟨Nat.le_of_ble_eq_true rfl, Nat.le_of_ble_eq_true rfl⟩ 37 rfl rfl rfl (Nat.le_of_ble_eq_true rfl) rfl ⟨by show cells + 2 + 0 ≤ 601024; omega, by show slots + 12 + 0 ≤ 7293034; omega⟩ dL_law_182 rfl ?_
    refine v_iload hC dL_law_185 1 rfl rfl ?_
    refine v_icmp_eq hC (tgt := 192) dL_law_187 (by decide) rfl (fun _ => ?_) (fun h9 => absurd rfl h9)
    refine v_iload hC dL_law_192 1 rfl rfl ?_
    refine v_if_ne hC (tgt := 209) dL_law_194 (by decide) rfl (fun _ => ?_) (fun h9 => absurd h9 (by decide))
    refine v_goto hC (tgt := 1561) dL_law_209 (by decide) ?_
    refine v_sub [2, 3, 4, 5, 6] (lv' := [(0, .ref b), (1, .ref h0), (2, .ref z0), (3, .ref oa), (4, .int (nI i))]) rfl ?_
    refine v_widen (k := cells + 4) (n := slots + 24) (by omega) (by omega) ?_
    exact k hI.up
  · refine v_aload_n hC dL_law_156 rfl 1 rfl rfl ?_
    refine v_aload_n hC dL_law_157 rfl 0 rfl rfl ?_
    refine v_iload hC dL_law_158 4 rfl rfl ?_
    refine v_iconst hC (v := (nI 1)) dL_law_160 (by decide) rfl ?_
    refine v_iadd hC dL_law_161 rfl ?_
    refine l_sld hC hX9 hbl hbA (l_in hLen hi (by decide)) dL_law_162 rfl ?_
    refine v_aload_n hC dL_law_163 rfl 3 rfl rfl ?_
    refine l_callS hC hX (n := 3) (As := [.ref h0, .int (xs (((nI i) + (nI 1))).toNatClampNeg), .ref oa]) (st := []) (fun sz => mL_append_x1 l hX.1 g cy tt sa sz h0 (a 0) (a 7) (a 14) (a 16) (a 24) (a 32) (a 33) (a 34) (nI L) (rI T) (xs (((nI i) + (nI 1))).toNatClampNeg) oa O h7) (WR.sel [true, true, false, false, false, false, false, false, false, false, false, false, false, false, false, false, false, false, false, false, false, false, false, false, false, false, false, false, false, false, false, false, false, false, true, true, true, false, false, false, false, false, false, false] rfl) gL_law_L_append rfl rfl rfl (by decide +kernel) ⟨Nat.le_of_ble_eq_true rfl, Nat.le_of_ble_eq_true rfl⟩ rfl (Nat.le_of_ble_eq_true rfl) rfl ⟨by show cells + 2 ≤ 601024; omega, by show slots + 12 ≤ 7293034; omega⟩ dL_law_164 rfl ?_
    refine v_eqw (ws' := LX cy h0 a AD z0 z oa O (FT N) (FT M') (nI o) (nI ct) (nI (F 0)) (nI (F 1)) (FT (P 0)) (FT (P 1)) (nI L) (rI T) rf (nI L) (nI ct) sp ou (rI T) (rI N) (rI M) (rI (diN D)) (rI (kpN K)) (rI F) ++ HF cy AD (rgD R)) rfl ?_
    refine v_istore hC dL_law_167 (by decide) [(5, .int (nI 2)), (0, .ref b), (1, .ref h0), (2, .ref z0), (3, .ref oa), (4, .int (nI i))] rfl rfl ?_
    refine v_aload_n hC dL_law_169 rfl 3 rfl rfl ?_
    refine v_aload_n hC dL_law_170 rfl 1 rfl rfl ?_
    refine v_iload hC dL_law_171 5 rfl rfl ?_
    refine v_iconst hC (v := (nI 1)) dL_law_173 (by decide) rfl ?_
    refine v_iadd hC dL_law_174 rfl ?_
    refine l_sld hC hX9 hbl hbA (l_in hLen hi (by decide)) dL_law_175 rfl ?_
    refine l_callV hC (n := 1) (As := [.int (xs (((nI i) + (nI 1))).toNatClampNeg)]) (st := []) (mX8_append l g cy z0 (z 0) (z 1) (z 2) (z 3) (z 4) (z 5) rf (nI L) (nI ct) sp ou (rI T) (rI N) (rI M) (rI (diN D)) (rI (kpN K)) (rI F) (xs (((nI i) + (nI 1))).toNatClampNeg) h8) (WR.sel [false, false, false, false, false, false, false, false, false, false, false, false, false, false, false, false, false, false, false, false, false, false, false, false, false, false, false, false, false, false, false, false, false, false, false, false, false, true, true, true, true, true, true, true] rfl) gL_law_X8_append rfl rfl rfl (by decide +kernel) ⟨Nat.le_of_ble_eq_true rfl, Nat.le_of_ble_eq_true rfl⟩ 37 rfl rfl rfl (Nat.le_of_ble_eq_true rfl) rfl ⟨by show cells + 2 + 0 ≤ 601024; omega, by show slots + 12 + 0 ≤ 7293034; omega⟩ dL_law_176 rfl ?_
    refine v_eqw (ws' := LX cy h0 a AD z0 z oa O (FT N) (FT M') (nI o) (nI ct) (nI (F 0)) (nI (F 1)) (FT (P 0)) (FT (P 1)) (nI L) (rI T) (nI 2) (nI L) (nI ct) sp ou (rI T) (rI N) (rI M) (rI (diN D)) (rI (kpN K)) (rI F) ++ HF cy AD (rgD R)) rfl ?_
    refine v_istore hC dL_law_179 (by decide) [(6, .int (nI 0)), (5, .int (nI 2)), (0, .ref b), (1, .ref h0), (2, .ref z0), (3, .ref oa), (4, .int (nI i))] rfl rfl ?_
    refine v_aload_n hC dL_law_181 rfl 4 rfl rfl ?_
    refine l_callR hC (n := 0) (As := []) (st := []) (mX8_thrown l g cy z0 (z 0) (z 1) (z 2) (z 3) (z 4) (z 5) (nI 2) (nI L) (nI ct) sp ou (rI T) (rI N) (rI M) (rI (diN D)) (rI (kpN K)) (rI F) rfl) (WR.sel (Y := wsel [false, false, false, false, false, false, false, false, false, false, false, false, false, false, false, false, false, false, false, false, false, false, false, false, false, false, false, false, false, false, false, false, false, false, false, false, false, true, true, true, true, true, true, true] (LX cy h0 a AD z0 z oa O (FT N) (FT M') (nI o) (nI ct) (nI (F 0)) (nI (F 1)) (FT (P 0)) (FT (P 1)) (nI L) (rI T) (nI 2) (nI L) (nI ct) sp ou (rI T) (rI N) (rI M) (rI (diN D)) (rI (kpN K)) (rI F))) [false, false, false, false, false, false, false, false, false, false, false, false, false, false, false, false, false, false, false, false, false, false, false, false, false, false, false, false, false, false, false, false, false, false, false, false, false, true, true, true, true, true, true, true] rfl) gL_law_X8_thrown rfl rfl rfl (by decide +kernel) ⟨Nat.le_of_ble_eq_true rfl, Nat.le_of_ble_eq_true rfl⟩ 37 rfl rfl rfl (Nat.le_of_ble_eq_true rfl) rfl ⟨by show cells + 2 + 0 ≤ 601024; omega, by show slots + 12 + 0 ≤ 7293034; omega⟩ dL_law_182 rfl ?_
    refine v_iload hC dL_law_185 1 rfl rfl ?_
    refine v_icmp_eq hC (tgt := 192) dL_law_187 (by decide) rfl (fun _ => ?_) (fun h9 => absurd rfl h9)
    refine v_iload hC dL_law_192 1 rfl rfl ?_
    refine v_if_ne hC (tgt := 209) dL_law_194 (by decide) rfl (fun _ => ?_) (fun h9 => absurd h9 (by decide))
    refine v_goto hC (tgt := 1561) dL_law_209 (by decide) ?_
    refine v_sub [2, 3, 4, 5, 6] (lv' := [(0, .ref b), (1, .ref h0), (2, .ref z0), (3, .ref oa), (4, .int (nI i))]) rfl ?_
    refine v_widen (k := cells + 4) (n := slots + 24) (by omega) (by omega) ?_
    exact k hI.up
  · refine v_aload_n hC dL_law_156 rfl 1 rfl rfl ?_
    refine v_aload_n hC dL_law_157 rfl 0 rfl rfl ?_
    refine v_iload hC dL_law_158 4 rfl rfl ?_
    refine v_iconst hC (v := (nI 1)) dL_law_160 (by decide) rfl ?_
    refine v_iadd hC dL_law_161 rfl ?_
    refine l_sld hC hX9 hbl hbA (l_in hLen hi (by decide)) dL_law_162 rfl ?_
    refine v_aload_n hC dL_law_163 rfl 3 rfl rfl ?_
    refine l_callS hC hX (n := 3) (As := [.ref h0, .int (xs (((nI i) + (nI 1))).toNatClampNeg), .ref oa]) (st := []) (fun sz => mL_append_r l hX.1 g cy tt sa sz h0 (a 0) (a 7) (a 14) (a 16) (a 24) (a 32) (a 33) (a 34) (nI L) (rI T) (xs (((nI i) + (nI 1))).toNatClampNeg) oa O h7) (WR.sel [true, true, false, false, false, false, false, false, false, false, false, false, false, false, false, false, false, false, false, false, false, false, false, false, false, false, false, false, false, false, false, false, false, false, true, true, true, false, false, false, false, false, false, false] rfl) gL_law_L_append rfl rfl rfl (by decide +kernel) ⟨Nat.le_of_ble_eq_true rfl, Nat.le_of_ble_eq_true rfl⟩ rfl (Nat.le_of_ble_eq_true rfl) rfl ⟨by show cells + 2 ≤ 601024; omega, by show slots + 12 ≤ 7293034; omega⟩ dL_law_164 rfl ?_
    refine v_eqw (ws' := LX cy h0 a AD z0 z oa (vp_updL O (nI 0).toNatClampNeg ((nI L2)).toInt64) (FT N) (FT M') (nI o) (nI ct) (nI (F 0)) (nI (F 1)) (FT (P 0)) (FT (P 1)) (nI L2) (rI T2) rf (nI L) (nI ct) sp ou (rI T) (rI N) (rI M) (rI (diN D)) (rI (kpN K)) (rI F) ++ HF cy AD (rgD R)) rfl ?_
    refine v_istore hC dL_law_167 (by decide) [(5, .int (nI 0)), (0, .ref b), (1, .ref h0), (2, .ref z0), (3, .ref oa), (4, .int (nI i))] rfl rfl ?_
    refine v_aload_n hC dL_law_169 rfl 3 rfl rfl ?_
    refine v_aload_n hC dL_law_170 rfl 1 rfl rfl ?_
    refine v_iload hC dL_law_171 5 rfl rfl ?_
    refine v_iconst hC (v := (nI 1)) dL_law_173 (by decide) rfl ?_
    refine v_iadd hC dL_law_174 rfl ?_
    refine l_sld hC hX9 hbl hbA (l_in hLen hi (by decide)) dL_law_175 rfl ?_
    refine l_callV hC (n := 1) (As := [.int (xs (((nI i) + (nI 1))).toNatClampNeg)]) (st := []) (mX8_append l g cy z0 (z 0) (z 1) (z 2) (z 3) (z 4) (z 5) rf (nI L) (nI ct) sp ou (rI T) (rI N) (rI M) (rI (diN D)) (rI (kpN K)) (rI F) (xs (((nI i) + (nI 1))).toNatClampNeg) h8) (WR.sel [false, false, false, false, false, false, false, false, false, false, false, false, false, false, false, false, false, false, false, false, false, false, false, false, false, false, false, false, false, false, false, false, false, false, false, false, false, true, true, true, true, true, true, true] rfl) gL_law_X8_append rfl rfl rfl (by decide +kernel) ⟨Nat.le_of_ble_eq_true rfl, Nat.le_of_ble_eq_true rfl⟩ 37 rfl rfl rfl (Nat.le_of_ble_eq_true rfl) rfl ⟨by show cells + 2 + 0 ≤ 601024; omega, by show slots + 12 + 0 ≤ 7293034; omega⟩ dL_law_176 rfl ?_
    refine v_eqw (ws' := LX cy h0 a AD z0 z oa (vp_updL O (nI 0).toNatClampNeg ((nI L2)).toInt64) (FT N) (FT M') (nI o) (nI ct) (nI (F 0)) (nI (F 1)) (FT (P 0)) (FT (P 1)) (nI L2) (rI T2) (nI 0) (nI L2) (nI ct) sp ou (rI T2) (rI N) (rI M) (rI (diN D)) (rI (kpN K)) (rI F) ++ HF cy AD (rgD R)) rfl ?_
    refine v_istore hC dL_law_179 (by decide) [(6, .int (nI L2)), (5, .int (nI 0)), (0, .ref b), (1, .ref h0), (2, .ref z0), (3, .ref oa), (4, .int (nI i))] rfl rfl ?_
    refine v_aload_n hC dL_law_181 rfl 4 rfl rfl ?_
    refine l_callR hC (n := 0) (As := []) (st := []) (mX8_thrown l g cy z0 (z 0) (z 1) (z 2) (z 3) (z 4) (z 5) (nI 0) (nI L2) (nI ct) sp ou (rI T2) (rI N) (rI M) (rI (diN D)) (rI (kpN K)) (rI F) rfl) (WR.sel (Y := wsel [false, false, false, false, false, false, false, false, false, false, false, false, false, false, false, false, false, false, false, false, false, false, false, false, false, false, false, false, false, false, false, false, false, false, false, false, false, true, true, true, true, true, true, true] (LX cy h0 a AD z0 z oa (vp_updL O (nI 0).toNatClampNeg ((nI L2)).toInt64) (FT N) (FT M') (nI o) (nI ct) (nI (F 0)) (nI (F 1)) (FT (P 0)) (FT (P 1)) (nI L2) (rI T2) (nI 0) (nI L2) (nI ct) sp ou (rI T2) (rI N) (rI M) (rI (diN D)) (rI (kpN K)) (rI F))) [false, false, false, false, false, false, false, false, false, false, false, false, false, false, false, false, false, false, false, false, false, false, false, false, false, false, false, false, false, false, false, false, false, false, false, false, false, true, true, true, true, true, true, true] rfl) gL_law_X8_thrown rfl rfl rfl (by decide +kernel) ⟨Nat.le_of_ble_eq_true rfl, Nat.le_of_ble_eq_true rfl⟩ 37 rfl rfl rfl (Nat.le_of_ble_eq_true rfl) rfl ⟨by show cells + 2 + 0 ≤ 601024; omega, by show slots + 12 + 0 ≤ 7293034; omega⟩ dL_law_182 rfl ?_
    refine v_iload hC dL_law_185 1 rfl rfl ?_
    refine v_icmp_eq hC (tgt := 192) dL_law_187 (by decide) rfl (fun _ => ?_) (fun h9 => absurd rfl h9)
    refine v_iload hC dL_law_192 1 rfl rfl ?_
    refine v_if_ne hC (tgt := 209) dL_law_194 (by decide) rfl (fun h9 => absurd (show nI 0 = 0 from rfl) h9) (fun _ => ?_)
    refine v_aload_n hC dL_law_197 rfl 5 rfl rfl ?_
    refine v_iconst hC (v := (nI 0)) dL_law_198 (by decide) rfl ?_
    refine l_lald hC 0 rfl (by decide) dL_law_199 rfl ?_
    refine v_eqs (st' := [.long ((nI L2)).toInt64]) (by rw [vp_updL_at]) ?_
    refine v_iload hC dL_law_200 0 rfl rfl ?_
    refine v_i2l hC dL_law_202 rfl ?_
    refine v_lcmp hC dL_law_203 rfl ?_
    refine v_if_eq hC (tgt := 209) dL_law_204 (by decide) rfl (fun _ => ?_) (fun h9 => absurd (lg_self _) h9)
    refine v_goto hC (tgt := 1561) dL_law_209 (by decide) ?_
    refine v_sub [2, 3, 4, 5, 6] (lv' := [(0, .ref b), (1, .ref h0), (2, .ref z0), (3, .ref oa), (4, .int (nI i))]) rfl ?_
    refine v_widen (k := cells + 4) (n := slots + 24) (by omega) (by omega) ?_
    exact k (hI.up.setT hT2)

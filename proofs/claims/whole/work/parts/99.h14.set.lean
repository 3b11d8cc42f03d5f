/-! ===== the law: set ===== -/
theorem lc_set {p : Program} {l : Launch} {e : Env} {s : State} {m : MethodId} {args : Array Value} {below : List Frame} {meth : Method} {c : Code} {cells slots : Nat} {Q : State → Prop} {g : va_G} {cy : Nat → ClassId} {A : Nat → Prop} {tt sa : Nat → Nat} {b Len : Nat} {xs : Nat → Int32} {h0 z0 oa : Nat} {a z : Nat → Nat} {AD : Nat → Nat → Nat} (hC : CX p s m args meth c g cy 7 cL_law wsL_law RL) (hX : XL l s tt sa A) (hX9 : va_X b Len xs s s.heap) (hbl : b < s.heap.size) (hbA : ¬ A b) (hLen : Len ≤ 3072) {i t : Nat} (hi : i + 6 ≤ Len) (ht : t < 9000) {N M' M : Nat → Nat} {o ct : Nat} {R D : Nat → Nat → Nat} {F : Nat → Nat} {P K : Nat → Nat → Nat} {T : Nat → Nat} {L : Nat} {rf sp ou : Int32} {O : Nat → Int64} (hI : LI t N M o ct R D F P K T L) (hcs : cells + 4 ≤ 601024 ∧ slots + 24 ≤ 7293034)
    (k : ∀ {N M' M : Nat → Nat} {o ct : Nat} {R D : Nat → Nat → Nat} {F : Nat → Nat} {P K : Nat → Nat → Nat} {T : Nat → Nat} {L : Nat} {rf sp ou : Int32} {O : Nat → Int64}, LI (t + 1) N M o ct R D F P K T L → V p l e room_1 s m args below meth c g 7 (cells + 4) (slots + 24) Q A A (LX cy h0 a AD z0 z oa O (FT N) (FT M') (nI o) (nI ct) (nI (F 0)) (nI (F 1)) (FT (P 0)) (FT (P 1)) (nI L) (rI T) rf (nI L) (nI ct) sp ou (rI T) (rI N) (rI M) (rI (diN D)) (rI (kpN K)) (rI F) ++ HF cy AD (rgD R)) 1561 [(0, .ref b), (1, .ref h0), (2, .ref z0), (3, .ref oa), (4, .int (nI i))] []) : V p l e room_1 s m args below meth c g 7 cells slots Q A A (LX cy h0 a AD z0 z oa O (FT N) (FT M') (nI o) (nI ct) (nI (F 0)) (nI (F 1)) (FT (P 0)) (FT (P 1)) (nI L) (rI T) rf (nI L) (nI ct) sp ou (rI T) (rI N) (rI M) (rI (diN D)) (rI (kpN K)) (rI F) ++ HF cy AD (rgD R)) 864 [(0, .ref b), (1, .ref h0), (2, .ref z0), (3, .ref oa), (4, .int (nI i))] [] := by
  obtain ⟨ht1, hN, hM, hH, hDi, hSl, hKi, hTx⟩ := id hI
  rcases c_set rf (xs (nI i + nI 1).toNatClampNeg) (xs (nI i + nI 2).toNatClampNeg) hN  hH with ⟨h7, h8⟩ | ⟨v, N2, hN2, hF, h7, h8⟩
  · refine v_aload_n hC dL_law_864 rfl 1 rfl rfl ?_
    refine v_aload_n hC dL_law_865 rfl 0 rfl rfl ?_
    refine v_iload hC dL_law_866 4 rfl rfl ?_
    refine v_iconst hC (v := (nI 1)) dL_law_868 (by decide) rfl ?_
    refine v_iadd hC dL_law_869 rfl ?_
    refine l_sld hC hX9 hbl hbA (l_in hLen hi (by decide)) dL_law_870 rfl ?_
    refine v_aload_n hC dL_law_871 rfl 0 rfl rfl ?_
    refine v_iload hC dL_law_872 4 rfl rfl ?_
    refine v_iconst hC (v := (nI 2)) dL_law_874 (by decide) rfl ?_
    refine v_iadd hC dL_law_875 rfl ?_
    refine l_sld hC hX9 hbl hbA (l_in hLen hi (by decide)) dL_law_876 rfl ?_
    refine v_aload_n hC dL_law_877 rfl 3 rfl rfl ?_
    refine l_callS hC hX (n := 4) (As := [.ref h0, .int (xs (((nI i) + (nI 1))).toNatClampNeg), .int (xs (((nI i) + (nI 2))).toNatClampNeg), .ref oa]) (st := []) (fun sz => mL_set_x0 l hX.1 g cy tt sa sz h0 (a 0) (a 7) (a 14) (a 16) (a 24) (a 32) (a 15) (a 1) (a 2) (a 3) (a 4) (a 5) (a 6) AD (nI o) (nI ct) (nI (N 0)) (nI (N 1)) (nI (N 2)) (nI (N 3)) (nI (N 4)) (nI (N 5)) (nI (N 6)) (rI (exR N)) (rI (scR N)) (rI (seR N)) (rgD R) (xs (((nI i) + (nI 1))).toNatClampNeg) (xs (((nI i) + (nI 2))).toNatClampNeg) oa O h7) (WR.selH (Y := wsel [true, true, true, true, false, false, false, false, false, false, false, false, false, false, false, false, false, false, false, false, true, true, true, true, true, true, true, false, false, false, false, false, false, false, false, false, false, false, false, false, false, false, false, false] (LX cy h0 a AD z0 z oa O (FT N) (FT M') (nI o) (nI ct) (nI (F 0)) (nI (F 1)) (FT (P 0)) (FT (P 1)) (nI L) (rI T) rf (nI L) (nI ct) sp ou (rI T) (rI N) (rI M) (rI (diN D)) (rI (kpN K)) (rI F))) (RD2 := (rgD R)) [true, true, true, true, false, false, false, false, false, false, false, false, false, false, false, false, false, false, false, false, true, true, true, true, true, true, true, false, false, false, false, false, false, false, false, false, false, false, false, false, false, false, false, false] rfl) gL_law_L_set rfl rfl rfl (by decide +kernel) ⟨Nat.le_of_ble_eq_true rfl, Nat.le_of_ble_eq_true rfl⟩ rfl (Nat.le_of_ble_eq_true rfl) rfl ⟨by show cells + 1 ≤ 601024; omega, by show slots + 6 ≤ 7293034; omega⟩ dL_law_878 rfl ?_
    refine v_eqw (ws' := LX cy h0 a AD z0 z oa O (FT N) (FT M') (nI o) (nI ct) (nI (F 0)) (nI (F 1)) (FT (P 0)) (FT (P 1)) (nI L) (rI T) rf (nI L) (nI ct) sp ou (rI T) (rI N) (rI M) (rI (diN D)) (rI (kpN K)) (rI F) ++ HF cy AD (rgD R)) rfl ?_
    refine v_istore hC dL_law_881 (by decide) [(5, .int (nI 1)), (0, .ref b), (1, .ref h0), (2, .ref z0), (3, .ref oa), (4, .int (nI i))] rfl rfl ?_
    refine v_aload_n hC dL_law_883 rfl 3 rfl rfl ?_
    refine v_aload_n hC dL_law_884 rfl 1 rfl rfl ?_
    refine v_iload hC dL_law_885 5 rfl rfl ?_
    refine v_iconst hC (v := (nI 1)) dL_law_887 (by decide) rfl ?_
    refine v_iadd hC dL_law_888 rfl ?_
    refine l_sld hC hX9 hbl hbA (l_in hLen hi (by decide)) dL_law_889 rfl ?_
    refine v_aload_n hC dL_law_890 rfl 1 rfl rfl ?_
    refine v_iload hC dL_law_891 5 rfl rfl ?_
    refine v_iconst hC (v := (nI 2)) dL_law_893 (by decide) rfl ?_
    refine v_iadd hC dL_law_894 rfl ?_
    refine l_sld hC hX9 hbl hbA (l_in hLen hi (by decide)) dL_law_895 rfl ?_
    refine l_callV hC (n := 2) (As := [.int (xs (((nI i) + (nI 1))).toNatClampNeg), .int (xs (((nI i) + (nI 2))).toNatClampNeg)]) (st := []) (mX8_set l g cy z0 (z 0) (z 1) (z 2) (z 3) (z 4) (z 5) rf (nI L) (nI ct) sp ou (rI T) (rI N) (rI M) (rI (diN D)) (rI (kpN K)) (rI F) (xs (((nI i) + (nI 1))).toNatClampNeg) (xs (((nI i) + (nI 2))).toNatClampNeg) h8) (WR.sel [false, false, false, false, false, false, false, false, false, false, false, false, false, false, false, false, false, false, false, false, false, false, false, false, false, false, false, false, false, false, false, false, false, false, false, false, false, true, true, true, true, true, true, true] rfl) gL_law_X8_set rfl rfl rfl (by decide +kernel) ⟨Nat.le_of_ble_eq_true rfl, Nat.le_of_ble_eq_true rfl⟩ 37 rfl rfl rfl (Nat.le_of_ble_eq_true rfl) rfl ⟨by show cells + 1 + 0 ≤ 601024; omega, by show slots + 6 + 0 ≤ 7293034; omega⟩ dL_law_896 rfl ?_
    refine v_eqw (ws' := LX cy h0 a AD z0 z oa O (FT N) (FT M') (nI o) (nI ct) (nI (F 0)) (nI (F 1)) (FT (P 0)) (FT (P 1)) (nI L) (rI T) (nI 1) (nI L) (nI ct) sp ou (rI T) (rI N) (rI M) (rI (diN D)) (rI (kpN K)) (rI F) ++ HF cy AD (rgD R)) rfl ?_
    refine v_istore hC dL_law_899 (by decide) [(6, .int (nI 0)), (5, .int (nI 1)), (0, .ref b), (1, .ref h0), (2, .ref z0), (3, .ref oa), (4, .int (nI i))] rfl rfl ?_
    refine v_aload_n hC dL_law_901 rfl 4 rfl rfl ?_
    refine l_callR hC (n := 0) (As := []) (st := []) (mX8_thrown l g cy z0 (z 0) (z 1) (z 2) (z 3) (z 4) (z 5) (nI 1) (nI L) (nI ct) sp ou (rI T) (rI N) (rI M) (rI (diN D)) (rI (kpN K)) (rI F) rfl) (WR.sel (Y := wsel [false, false, false, false, false, false, false, false, false, false, false, false, false, false, false, false, false, false, false, false, false, false, false, false, false, false, false, false, false, false, false, false, false, false, false, false, false, true, true, true, true, true, true, true] (LX cy h0 a AD z0 z oa O (FT N) (FT M') (nI o) (nI ct) (nI (F 0)) (nI (F 1)) (FT (P 0)) (FT (P 1)) (nI L) (rI T) (nI 1) (nI L) (nI ct) sp ou (rI T) (rI N) (rI M) (rI (diN D)) (rI (kpN K)) (rI F))) [false, false, false, false, false, false, false, false, false, false, false, false, false, false, false, false, false, false, false, false, false, false, false, false, false, false, false, false, false, false, false, false, false, false, false, false, false, true, true, true, true, true, true, true] rfl) gL_law_X8_thrown rfl rfl rfl (by decide +kernel) ⟨Nat.le_of_ble_eq_true rfl, Nat.le_of_ble_eq_true rfl⟩ 37 rfl rfl rfl (Nat.le_of_ble_eq_true rfl) rfl ⟨by show cells + 1 + 0 ≤ 601024; omega, by show slots + 6 + 0 ≤ 7293034; omega⟩ dL_law_902 rfl ?_
    refine v_iload hC dL_law_905 1 rfl rfl ?_
    refine v_icmp_eq hC (tgt := 912) dL_law_907 (by decide) rfl (fun _ => ?_) (fun h9 => absurd rfl h9)
    refine v_iload hC dL_law_912 1 rfl rfl ?_
    refine v_if_ne hC (tgt := 929) dL_law_914 (by decide) rfl (fun _ => ?_) (fun h9 => absurd h9 (by decide))
    refine v_goto hC (tgt := 1561) dL_law_929 (by decide) ?_
    refine v_sub [2, 3, 4, 5, 6] (lv' := [(0, .ref b), (1, .ref h0), (2, .ref z0), (3, .ref oa), (4, .int (nI i))]) rfl ?_
    refine v_widen (k := cells + 4) (n := slots + 24) (by omega) (by omega) ?_
    exact k hI.up
  · refine v_aload_n hC dL_law_864 rfl 1 rfl rfl ?_
    refine v_aload_n hC dL_law_865 rfl 0 rfl rfl ?_
    refine v_iload hC dL_law_866 4 rfl rfl ?_
    refine v_iconst hC (v := (nI 1)) dL_law_868 (by decide) rfl ?_
    refine v_iadd hC dL_law_869 rfl ?_
    refine l_sld hC hX9 hbl hbA (l_in hLen hi (by decide)) dL_law_870 rfl ?_
    refine v_aload_n hC dL_law_871 rfl 0 rfl rfl ?_
    refine v_iload hC dL_law_872 4 rfl rfl ?_
    refine v_iconst hC (v := (nI 2)) dL_law_874 (by decide) rfl ?_
    refine v_iadd hC dL_law_875 rfl ?_
    refine l_sld hC hX9 hbl hbA (l_in hLen hi (by decide)) dL_law_876 rfl ?_
    refine v_aload_n hC dL_law_877 rfl 3 rfl rfl ?_
    refine l_callS hC hX (n := 4) (As := [.ref h0, .int (xs (((nI i) + (nI 1))).toNatClampNeg), .int (xs (((nI i) + (nI 2))).toNatClampNeg), .ref oa]) (st := []) (fun sz => mL_set_r l hX.1 g cy tt sa sz h0 (a 0) (a 7) (a 14) (a 16) (a 24) (a 32) (a 15) (a 1) (a 2) (a 3) (a 4) (a 5) (a 6) AD (nI o) (nI ct) (nI (N 0)) (nI (N 1)) (nI (N 2)) (nI (N 3)) (nI (N 4)) (nI (N 5)) (nI (N 6)) (rI (exR N)) (rI (scR N)) (rI (seR N)) (rgD R) (xs (((nI i) + (nI 1))).toNatClampNeg) (xs (((nI i) + (nI 2))).toNatClampNeg) oa O h7) (WR.selH (Y := wsel [true, true, true, true, false, false, false, false, false, false, false, false, false, false, false, false, false, false, false, false, true, true, true, true, true, true, true, false, false, false, false, false, false, false, false, false, false, false, false, false, false, false, false, false] (LX cy h0 a AD z0 z oa (vp_updL O (nI 0).toNatClampNeg (v).toInt64) (nI (N 0), nI (N 1), nI (N 2), nI (N 3), nI (N 4), nI (N 5), nI (N 6), rI (exR N), rI (scR N), rI (seR N2)) (FT M') (nI (remO o ct)) (nI (remC ct)) (nI (F 0)) (nI (F 1)) (FT (P 0)) (FT (P 1)) (nI L) (rI T) rf (nI L) (nI ct) sp ou (rI T) (rI N) (rI M) (rI (diN D)) (rI (kpN K)) (rI F))) (RD2 := (rgD (remR R o ct N))) [true, true, true, true, false, false, false, false, false, false, false, false, false, false, false, false, false, false, false, false, true, true, true, true, true, true, true, false, false, false, false, false, false, false, false, false, false, false, false, false, false, false, false, false] rfl) gL_law_L_set rfl rfl rfl (by decide +kernel) ⟨Nat.le_of_ble_eq_true rfl, Nat.le_of_ble_eq_true rfl⟩ rfl (Nat.le_of_ble_eq_true rfl) rfl ⟨by show cells + 1 ≤ 601024; omega, by show slots + 6 ≤ 7293034; omega⟩ dL_law_878 rfl ?_
    refine v_eqw (ws' := LX cy h0 a AD z0 z oa (vp_updL O (nI 0).toNatClampNeg (v).toInt64) (nI (N 0), nI (N 1), nI (N 2), nI (N 3), nI (N 4), nI (N 5), nI (N 6), rI (exR N), rI (scR N), rI (seR N2)) (FT M') (nI (remO o ct)) (nI (remC ct)) (nI (F 0)) (nI (F 1)) (FT (P 0)) (FT (P 1)) (nI L) (rI T) rf (nI L) (nI ct) sp ou (rI T) (rI N) (rI M) (rI (diN D)) (rI (kpN K)) (rI F) ++ HF cy AD (rgD (remR R o ct N))) rfl ?_
    refine v_istore hC dL_law_881 (by decide) [(5, .int (nI 0)), (0, .ref b), (1, .ref h0), (2, .ref z0), (3, .ref oa), (4, .int (nI i))] rfl rfl ?_
    refine v_aload_n hC dL_law_883 rfl 3 rfl rfl ?_
    refine v_aload_n hC dL_law_884 rfl 1 rfl rfl ?_
    refine v_iload hC dL_law_885 5 rfl rfl ?_
    refine v_iconst hC (v := (nI 1)) dL_law_887 (by decide) rfl ?_
    refine v_iadd hC dL_law_888 rfl ?_
    refine l_sld hC hX9 hbl hbA (l_in hLen hi (by decide)) dL_law_889 rfl ?_
    refine v_aload_n hC dL_law_890 rfl 1 rfl rfl ?_
    refine v_iload hC dL_law_891 5 rfl rfl ?_
    refine v_iconst hC (v := (nI 2)) dL_law_893 (by decide) rfl ?_
    refine v_iadd hC dL_law_894 rfl ?_
    refine l_sld hC hX9 hbl hbA (l_in hLen hi (by decide)) dL_law_895 rfl ?_
    refine l_callV hC (n := 2) (As := [.int (xs (((nI i) + (nI 1))).toNatClampNeg), .int (xs (((nI i) + (nI 2))).toNatClampNeg)]) (st := []) (mX8_set l g cy z0 (z 0) (z 1) (z 2) (z 3) (z 4) (z 5) rf (nI L) (nI ct) sp ou (rI T) (rI N) (rI M) (rI (diN D)) (rI (kpN K)) (rI F) (xs (((nI i) + (nI 1))).toNatClampNeg) (xs (((nI i) + (nI 2))).toNatClampNeg) h8) (WR.sel [false, false, false, false, false, false, false, false, false, false, false, false, false, false, false, false, false, false, false, false, false, false, false, false, false, false, false, false, false, false, false, false, false, false, false, false, false, true, true, true, true, true, true, true] rfl) gL_law_X8_set rfl rfl rfl (by decide +kernel) ⟨Nat.le_of_ble_eq_true rfl, Nat.le_of_ble_eq_true rfl⟩ 37 rfl rfl rfl (Nat.le_of_ble_eq_true rfl) rfl ⟨by show cells + 1 + 0 ≤ 601024; omega, by show slots + 6 + 0 ≤ 7293034; omega⟩ dL_law_896 rfl ?_
    refine v_eqw (ws' := LX cy h0 a AD z0 z oa (vp_updL O (nI 0).toNatClampNeg (v).toInt64) (nI (N 0), nI (N 1), nI (N 2), nI (N 3), nI (N 4), nI (N 5), nI (N 6), rI (exR N), rI (scR N), rI (seR N2)) (FT M') (nI (remO o ct)) (nI (remC ct)) (nI (F 0)) (nI (F 1)) (FT (P 0)) (FT (P 1)) (nI L) (rI T) (nI 0) (nI L) (nI (remC ct)) sp ou (rI T) (rI N2) (rI M) (rI (diN (reD D ct N))) (rI (kpN K)) (rI F) ++ HF cy AD (rgD (remR R o ct N))) rfl ?_
    refine v_istore hC dL_law_899 (by decide) [(6, .int v), (5, .int (nI 0)), (0, .ref b), (1, .ref h0), (2, .ref z0), (3, .ref oa), (4, .int (nI i))] rfl rfl ?_
    refine v_aload_n hC dL_law_901 rfl 4 rfl rfl ?_
    refine l_callR hC (n := 0) (As := []) (st := []) (mX8_thrown l g cy z0 (z 0) (z 1) (z 2) (z 3) (z 4) (z 5) (nI 0) (nI L) (nI (remC ct)) sp ou (rI T) (rI N2) (rI M) (rI (diN (reD D ct N))) (rI (kpN K)) (rI F) rfl) (WR.sel (Y := wsel [false, false, false, false, false, false, false, false, false, false, false, false, false, false, false, false, false, false, false, false, false, false, false, false, false, false, false, false, false, false, false, false, false, false, false, false, false, true, true, true, true, true, true, true] (LX cy h0 a AD z0 z oa (vp_updL O (nI 0).toNatClampNeg (v).toInt64) (nI (N 0), nI (N 1), nI (N 2), nI (N 3), nI (N 4), nI (N 5), nI (N 6), rI (exR N), rI (scR N), rI (seR N2)) (FT M') (nI (remO o ct)) (nI (remC ct)) (nI (F 0)) (nI (F 1)) (FT (P 0)) (FT (P 1)) (nI L) (rI T) (nI 0) (nI L) (nI (remC ct)) sp ou (rI T) (rI N2) (rI M) (rI (diN (reD D ct N))) (rI (kpN K)) (rI F))) [false, false, false, false, false, false, false, false, false, false, false, false, false, false, false, false, false, false, false, false, false, false, false, false, false, false, false, false, false, false, false, false, false, false, false, false, false, true, true, true, true, true, true, true] rfl) gL_law_X8_thrown rfl rfl rfl (by decide +kernel) ⟨Nat.le_of_ble_eq_true rfl, Nat.le_of_ble_eq_true rfl⟩ 37 rfl rfl rfl (Nat.le_of_ble_eq_true rfl) rfl ⟨by show cells + 1 + 0 ≤ 601024; omega, by show slots + 6 + 0 ≤ 7293034; omega⟩ dL_law_902 rfl ?_
    refine v_iload hC dL_law_905 1 rfl rfl ?_
    refine v_icmp_eq hC (tgt := 912) dL_law_907 (by decide) rfl (fun _ => ?_) (fun h9 => absurd rfl h9)
    refine v_iload hC dL_law_912 1 rfl rfl ?_
    refine v_if_ne hC (tgt := 929) dL_law_914 (by decide) rfl (fun h9 => absurd (show nI 0 = 0 from rfl) h9) (fun _ => ?_)
    refine v_aload_n hC dL_law_917 rfl 5 rfl rfl ?_
    refine v_iconst hC (v := (nI 0)) dL_law_918 (by decide) rfl ?_
    refine l_lald hC 0 rfl (by decide) dL_law_919 rfl ?_
    refine v_eqs (st' := [.long (v).toInt64]) (by rw [vp_updL_at]) ?_
    refine v_iload hC dL_law_920 0 rfl rfl ?_
    refine v_i2l hC dL_law_922 rfl ?_
    refine v_lcmp hC dL_law_923 rfl ?_
    refine v_if_eq hC (tgt := 929) dL_law_924 (by decide) rfl (fun _ => ?_) (fun h9 => absurd (lg_self _) h9)
    refine v_goto hC (tgt := 1561) dL_law_929 (by decide) ?_
    refine v_sub [2, 3, 4, 5, 6] (lv' := [(0, .ref b), (1, .ref h0), (2, .ref z0), (3, .ref oa), (4, .int (nI i))]) rfl ?_
    refine v_widen (k := cells + 4) (n := slots + 24) (by omega) (by omega) ?_
    rw [← hF]
    exact k (hI.act hN2)

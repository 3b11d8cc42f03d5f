/-! ===== the law: sceneOf ===== -/
theorem lc_sceneOf {p : Program} {l : Launch} {e : Env} {s : State} {m : MethodId} {args : Array Value} {below : List Frame} {meth : Method} {c : Code} {cells slots : Nat} {Q : State → Prop} {g : va_G} {cy : Nat → ClassId} {A : Nat → Prop} {tt sa : Nat → Nat} {b Len : Nat} {xs : Nat → Int32} {h0 z0 oa : Nat} {a z : Nat → Nat} {AD : Nat → Nat → Nat} (hC : CX p s m args meth c g cy 7 cL_law wsL_law RL) (hX : XL l s tt sa A) (hX9 : va_X b Len xs s s.heap) (hbl : b < s.heap.size) (hbA : ¬ A b) (hLen : Len ≤ 3072) {i t : Nat} (hi : i + 6 ≤ Len) (ht : t < 9000) {N M' M : Nat → Nat} {o ct : Nat} {R D : Nat → Nat → Nat} {F : Nat → Nat} {P K : Nat → Nat → Nat} {T : Nat → Nat} {L : Nat} {rf sp ou : Int32} {O : Nat → Int64} (hI : LI t N M o ct R D F P K T L) (hcs : cells + 4 ≤ 601024 ∧ slots + 24 ≤ 7293034)
    (k : ∀ {N M' M : Nat → Nat} {o ct : Nat} {R D : Nat → Nat → Nat} {F : Nat → Nat} {P K : Nat → Nat → Nat} {T : Nat → Nat} {L : Nat} {rf sp ou : Int32} {O : Nat → Int64}, LI (t + 1) N M o ct R D F P K T L → V p l e room_1 s m args below meth c g 7 (cells + 4) (slots + 24) Q A A (LX cy h0 a AD z0 z oa O (FT N) (FT M') (nI o) (nI ct) (nI (F 0)) (nI (F 1)) (FT (P 0)) (FT (P 1)) (nI L) (rI T) rf (nI L) (nI ct) sp ou (rI T) (rI N) (rI M) (rI (diN D)) (rI (kpN K)) (rI F) ++ HF cy AD (rgD R)) 1561 [(0, .ref b), (1, .ref h0), (2, .ref z0), (3, .ref oa), (4, .int (nI i))] []) : V p l e room_1 s m args below meth c g 7 cells slots Q A A (LX cy h0 a AD z0 z oa O (FT N) (FT M') (nI o) (nI ct) (nI (F 0)) (nI (F 1)) (FT (P 0)) (FT (P 1)) (nI L) (rI T) rf (nI L) (nI ct) sp ou (rI T) (rI N) (rI M) (rI (diN D)) (rI (kpN K)) (rI F) ++ HF cy AD (rgD R)) 406 [(0, .ref b), (1, .ref h0), (2, .ref z0), (3, .ref oa), (4, .int (nI i))] [] := by
  obtain ⟨ht1, hN, hM, hH, hDi, hSl, hKi, hTx⟩ := id hI
  rcases c_sceneOf rf (xs (nI i + nI 1).toNatClampNeg) (xs (nI i + nI 2).toNatClampNeg) hN (by omega) with ⟨h7, h8⟩ | ⟨h7, h8⟩ | ⟨v, h7, h8⟩
  · refine v_aload_n hC dL_law_406 rfl 1 rfl rfl ?_
    refine v_aload_n hC dL_law_407 rfl 0 rfl rfl ?_
    refine v_iload hC dL_law_408 4 rfl rfl ?_
    refine v_iconst hC (v := (nI 1)) dL_law_410 (by decide) rfl ?_
    refine v_iadd hC dL_law_411 rfl ?_
    refine l_sld hC hX9 hbl hbA (l_in hLen hi (by decide)) dL_law_412 rfl ?_
    refine v_aload_n hC dL_law_413 rfl 0 rfl rfl ?_
    refine v_iload hC dL_law_414 4 rfl rfl ?_
    refine v_iconst hC (v := (nI 2)) dL_law_416 (by decide) rfl ?_
    refine v_iadd hC dL_law_417 rfl ?_
    refine l_sld hC hX9 hbl hbA (l_in hLen hi (by decide)) dL_law_418 rfl ?_
    refine v_aload_n hC dL_law_419 rfl 3 rfl rfl ?_
    refine l_callS hC hX (n := 4) (As := [.ref h0, .int (xs (((nI i) + (nI 1))).toNatClampNeg), .int (xs (((nI i) + (nI 2))).toNatClampNeg), .ref oa]) (st := []) (fun sz => mL_sceneOf_x2 l hX.1 g cy tt sa sz h0 (a 0) (a 7) (a 14) (a 16) (a 24) (a 32) (a 1) (a 2) (a 3) (a 4) (a 5) (a 6) (nI (N 0)) (nI (N 1)) (nI (N 2)) (nI (N 3)) (nI (N 4)) (nI (N 5)) (nI (N 6)) (rI (exR N)) (rI (scR N)) (rI (seR N)) (xs (((nI i) + (nI 1))).toNatClampNeg) (xs (((nI i) + (nI 2))).toNatClampNeg) oa O h7) (WR.sel [true, true, false, false, false, false, false, false, false, false, false, false, false, false, false, false, false, false, false, false, true, true, true, true, true, true, true, false, false, false, false, false, false, false, false, false, false, false, false, false, false, false, false, false] rfl) gL_law_L_sceneOf rfl rfl rfl (by decide +kernel) ⟨Nat.le_of_ble_eq_true rfl, Nat.le_of_ble_eq_true rfl⟩ rfl (Nat.le_of_ble_eq_true rfl) rfl ⟨by show cells + 2 ≤ 601024; omega, by show slots + 12 ≤ 7293034; omega⟩ dL_law_420 rfl ?_
    refine v_eqw (ws' := LX cy h0 a AD z0 z oa O (FT N) (FT M') (nI o) (nI ct) (nI (F 0)) (nI (F 1)) (FT (P 0)) (FT (P 1)) (nI L) (rI T) rf (nI L) (nI ct) sp ou (rI T) (rI N) (rI M) (rI (diN D)) (rI (kpN K)) (rI F) ++ HF cy AD (rgD R)) rfl ?_
    refine v_istore hC dL_law_423 (by decide) [(5, .int (nI 1)), (0, .ref b), (1, .ref h0), (2, .ref z0), (3, .ref oa), (4, .int (nI i))] rfl rfl ?_
    refine v_aload_n hC dL_law_425 rfl 3 rfl rfl ?_
    refine v_aload_n hC dL_law_426 rfl 1 rfl rfl ?_
    refine v_iload hC dL_law_427 5 rfl rfl ?_
    refine v_iconst hC (v := (nI 1)) dL_law_429 (by decide) rfl ?_
    refine v_iadd hC dL_law_430 rfl ?_
    refine l_sld hC hX9 hbl hbA (l_in hLen hi (by decide)) dL_law_431 rfl ?_
    refine v_aload_n hC dL_law_432 rfl 1 rfl rfl ?_
    refine v_iload hC dL_law_433 5 rfl rfl ?_
    refine v_iconst hC (v := (nI 2)) dL_law_435 (by decide) rfl ?_
    refine v_iadd hC dL_law_436 rfl ?_
    refine l_sld hC hX9 hbl hbA (l_in hLen hi (by decide)) dL_law_437 rfl ?_
    refine l_callV hC (n := 2) (As := [.int (xs (((nI i) + (nI 1))).toNatClampNeg), .int (xs (((nI i) + (nI 2))).toNatClampNeg)]) (st := []) (mX8_sceneOf l g cy z0 (z 0) (z 1) (z 2) (z 3) (z 4) (z 5) rf (nI L) (nI ct) sp ou (rI T) (rI N) (rI M) (rI (diN D)) (rI (kpN K)) (rI F) (xs (((nI i) + (nI 1))).toNatClampNeg) (xs (((nI i) + (nI 2))).toNatClampNeg) h8) (WR.sel [false, false, false, false, false, false, false, false, false, false, false, false, false, false, false, false, false, false, false, false, false, false, false, false, false, false, false, false, false, false, false, false, false, false, false, false, false, true, true, true, true, true, true, true] rfl) gL_law_X8_sceneOf rfl rfl rfl (by decide +kernel) ⟨Nat.le_of_ble_eq_true rfl, Nat.le_of_ble_eq_true rfl⟩ 37 rfl rfl rfl (Nat.le_of_ble_eq_true rfl) rfl ⟨by show cells + 2 + 0 ≤ 601024; omega, by show slots + 12 + 0 ≤ 7293034; omega⟩ dL_law_438 rfl ?_
    refine v_eqw (ws' := LX cy h0 a AD z0 z oa O (FT N) (FT M') (nI o) (nI ct) (nI (F 0)) (nI (F 1)) (FT (P 0)) (FT (P 1)) (nI L) (rI T) (nI 1) (nI L) (nI ct) sp ou (rI T) (rI N) (rI M) (rI (diN D)) (rI (kpN K)) (rI F) ++ HF cy AD (rgD R)) rfl ?_
    refine v_istore hC dL_law_441 (by decide) [(6, .int (nI 0)), (5, .int (nI 1)), (0, .ref b), (1, .ref h0), (2, .ref z0), (3, .ref oa), (4, .int (nI i))] rfl rfl ?_
    refine v_aload_n hC dL_law_443 rfl 4 rfl rfl ?_
    refine l_callR hC (n := 0) (As := []) (st := []) (mX8_thrown l g cy z0 (z 0) (z 1) (z 2) (z 3) (z 4) (z 5) (nI 1) (nI L) (nI ct) sp ou (rI T) (rI N) (rI M) (rI (diN D)) (rI (kpN K)) (rI F) rfl) (WR.sel (Y := wsel [false, false, false, false, false, false, false, false, false, false, false, false, false, false, false, false, false, false, false, false, false, false, false, false, false, false, false, false, false, false, false, false, false, false, false, false, false, true, true, true, true, true, true, true] (LX cy h0 a AD z0 z oa O (FT N) (FT M') (nI o) (nI ct) (nI (F 0)) (nI (F 1)) (FT (P 0)) (FT (P 1)) (nI L) (rI T) (nI 1) (nI L) (nI ct) sp ou (rI T) (rI N) (rI M) (rI (diN D)) (rI (kpN K)) (rI F))) [false, false, false, false, false, false, false, false, false, false, false, false, false, false, false, false, false, false, false, false, false, false, false, false, false, false, false, false, false, false, false, false, false, false, false, false, false, true, true, true, true, true, true, true] rfl) gL_law_X8_thrown rfl rfl rfl (by decide +kernel) ⟨Nat.le_of_ble_eq_true rfl, Nat.le_of_ble_eq_true rfl⟩ 37 rfl rfl rfl (Nat.le_of_ble_eq_true rfl) rfl ⟨by show cells + 2 + 0 ≤ 601024; omega, by show slots + 12 + 0 ≤ 7293034; omega⟩ dL_law_444 rfl ?_
    refine v_iload hC dL_law_447 1 rfl rfl ?_
    refine v_icmp_eq hC (tgt := 454) dL_law_449 (by decide) rfl (fun _ => ?_) (fun h9 => absurd rfl h9)
    refine v_iload hC dL_law_454 1 rfl rfl ?_
    refine v_if_ne hC (tgt := 471) dL_law_456 (by decide) rfl (fun _ => ?_) (fun h9 => absurd h9 (by decide))
    refine v_goto hC (tgt := 1561) dL_law_471 (by decide) ?_
    refine v_sub [2, 3, 4, 5, 6] (lv' := [(0, .ref b), (1, .ref h0), (2, .ref z0), (3, .ref oa), (4, .int (nI i))]) rfl ?_
    refine v_widen (k := cells + 4) (n := slots + 24) (by omega) (by omega) ?_
    exact k hI.up
  · refine v_aload_n hC dL_law_406 rfl 1 rfl rfl ?_
    refine v_aload_n hC dL_law_407 rfl 0 rfl rfl ?_
    refine v_iload hC dL_law_408 4 rfl rfl ?_
    refine v_iconst hC (v := (nI 1)) dL_law_410 (by decide) rfl ?_
    refine v_iadd hC dL_law_411 rfl ?_
    refine l_sld hC hX9 hbl hbA (l_in hLen hi (by decide)) dL_law_412 rfl ?_
    refine v_aload_n hC dL_law_413 rfl 0 rfl rfl ?_
    refine v_iload hC dL_law_414 4 rfl rfl ?_
    refine v_iconst hC (v := (nI 2)) dL_law_416 (by decide) rfl ?_
    refine v_iadd hC dL_law_417 rfl ?_
    refine l_sld hC hX9 hbl hbA (l_in hLen hi (by decide)) dL_law_418 rfl ?_
    refine v_aload_n hC dL_law_419 rfl 3 rfl rfl ?_
    refine l_callS hC hX (n := 4) (As := [.ref h0, .int (xs (((nI i) + (nI 1))).toNatClampNeg), .int (xs (((nI i) + (nI 2))).toNatClampNeg), .ref oa]) (st := []) (fun sz => mL_sceneOf_x0 l hX.1 g cy tt sa sz h0 (a 0) (a 7) (a 14) (a 16) (a 24) (a 32) (a 1) (a 2) (a 3) (a 4) (a 5) (a 6) (nI (N 0)) (nI (N 1)) (nI (N 2)) (nI (N 3)) (nI (N 4)) (nI (N 5)) (nI (N 6)) (rI (exR N)) (rI (scR N)) (rI (seR N)) (xs (((nI i) + (nI 1))).toNatClampNeg) (xs (((nI i) + (nI 2))).toNatClampNeg) oa O h7) (WR.sel [true, true, false, false, false, false, false, false, false, false, false, false, false, false, false, false, false, false, false, false, true, true, true, true, true, true, true, false, false, false, false, false, false, false, false, false, false, false, false, false, false, false, false, false] rfl) gL_law_L_sceneOf rfl rfl rfl (by decide +kernel) ⟨Nat.le_of_ble_eq_true rfl, Nat.le_of_ble_eq_true rfl⟩ rfl (Nat.le_of_ble_eq_true rfl) rfl ⟨by show cells + 2 ≤ 601024; omega, by show slots + 12 ≤ 7293034; omega⟩ dL_law_420 rfl ?_
    refine v_eqw (ws' := LX cy h0 a AD z0 z oa O (FT N) (FT M') (nI o) (nI ct) (nI (F 0)) (nI (F 1)) (FT (P 0)) (FT (P 1)) (nI L) (rI T) rf (nI L) (nI ct) sp ou (rI T) (rI N) (rI M) (rI (diN D)) (rI (kpN K)) (rI F) ++ HF cy AD (rgD R)) rfl ?_
    refine v_istore hC dL_law_423 (by decide) [(5, .int (nI 2)), (0, .ref b), (1, .ref h0), (2, .ref z0), (3, .ref oa), (4, .int (nI i))] rfl rfl ?_
    refine v_aload_n hC dL_law_425 rfl 3 rfl rfl ?_
    refine v_aload_n hC dL_law_426 rfl 1 rfl rfl ?_
    refine v_iload hC dL_law_427 5 rfl rfl ?_
    refine v_iconst hC (v := (nI 1)) dL_law_429 (by decide) rfl ?_
    refine v_iadd hC dL_law_430 rfl ?_
    refine l_sld hC hX9 hbl hbA (l_in hLen hi (by decide)) dL_law_431 rfl ?_
    refine v_aload_n hC dL_law_432 rfl 1 rfl rfl ?_
    refine v_iload hC dL_law_433 5 rfl rfl ?_
    refine v_iconst hC (v := (nI 2)) dL_law_435 (by decide) rfl ?_
    refine v_iadd hC dL_law_436 rfl ?_
    refine l_sld hC hX9 hbl hbA (l_in hLen hi (by decide)) dL_law_437 rfl ?_
    refine l_callV hC (n := 2) (As := [.int (xs (((nI i) + (nI 1))).toNatClampNeg), .int (xs (((nI i) + (nI 2))).toNatClampNeg)]) (st := []) (mX8_sceneOf l g cy z0 (z 0) (z 1) (z 2) (z 3) (z 4) (z 5) rf (nI L) (nI ct) sp ou (rI T) (rI N) (rI M) (rI (diN D)) (rI (kpN K)) (rI F) (xs (((nI i) + (nI 1))).toNatClampNeg) (xs (((nI i) + (nI 2))).toNatClampNeg) h8) (WR.sel [false, false, false, false, false, false, false, false, false, false, false, false, false, false, false, false, false, false, false, false, false, false, false, false, false, false, false, false, false, false, false, false, false, false, false, false, false, true, true, true, true, true, true, true] rfl) gL_law_X8_sceneOf rfl rfl rfl (by decide +kernel) ⟨Nat.le_of_ble_eq_true rfl, Nat.le_of_ble_eq_true rfl⟩ 37 rfl rfl rfl (Nat.le_of_ble_eq_true rfl) rfl ⟨by show cells + 2 + 0 ≤ 601024; omega, by show slots + 12 + 0 ≤ 7293034; omega⟩ dL_law_438 rfl ?_
    refine v_eqw (ws' := LX cy h0 a AD z0 z oa O (FT N) (FT M') (nI o) (nI ct) (nI (F 0)) (nI (F 1)) (FT (P 0)) (FT (P 1)) (nI L) (rI T) (nI 2) (nI L) (nI ct) sp ou (rI T) (rI N) (rI M) (rI (diN D)) (rI (kpN K)) (rI F) ++ HF cy AD (rgD R)) rfl ?_
    refine v_istore hC dL_law_441 (by decide) [(6, .int (nI 0)), (5, .int (nI 2)), (0, .ref b), (1, .ref h0), (2, .ref z0), (3, .ref oa), (4, .int (nI i))] rfl rfl ?_
    refine v_aload_n hC dL_law_443 rfl 4 rfl rfl ?_
    refine l_callR hC (n := 0) (As := []) (st := []) (mX8_thrown l g cy z0 (z 0) (z 1) (z 2) (z 3) (z 4) (z 5) (nI 2) (nI L) (nI ct) sp ou (rI T) (rI N) (rI M) (rI (diN D)) (rI (kpN K)) (rI F) rfl) (WR.sel (Y := wsel [false, false, false, false, false, false, false, false, false, false, false, false, false, false, false, false, false, false, false, false, false, false, false, false, false, false, false, false, false, false, false, false, false, false, false, false, false, true, true, true, true, true, true, true] (LX cy h0 a AD z0 z oa O (FT N) (FT M') (nI o) (nI ct) (nI (F 0)) (nI (F 1)) (FT (P 0)) (FT (P 1)) (nI L) (rI T) (nI 2) (nI L) (nI ct) sp ou (rI T) (rI N) (rI M) (rI (diN D)) (rI (kpN K)) (rI F))) [false, false, false, false, false, false, false, false, false, false, false, false, false, false, false, false, false, false, false, false, false, false, false, false, false, false, false, false, false, false, false, false, false, false, false, false, false, true, true, true, true, true, true, true] rfl) gL_law_X8_thrown rfl rfl rfl (by decide +kernel) ⟨Nat.le_of_ble_eq_true rfl, Nat.le_of_ble_eq_true rfl⟩ 37 rfl rfl rfl (Nat.le_of_ble_eq_true rfl) rfl ⟨by show cells + 2 + 0 ≤ 601024; omega, by show slots + 12 + 0 ≤ 7293034; omega⟩ dL_law_444 rfl ?_
    refine v_iload hC dL_law_447 1 rfl rfl ?_
    refine v_icmp_eq hC (tgt := 454) dL_law_449 (by decide) rfl (fun _ => ?_) (fun h9 => absurd rfl h9)
    refine v_iload hC dL_law_454 1 rfl rfl ?_
    refine v_if_ne hC (tgt := 471) dL_law_456 (by decide) rfl (fun _ => ?_) (fun h9 => absurd h9 (by decide))
    refine v_goto hC (tgt := 1561) dL_law_471 (by decide) ?_
    refine v_sub [2, 3, 4, 5, 6] (lv' := [(0, .ref b), (1, .ref h0), (2, .ref z0), (3, .ref oa), (4, .int (nI i))]) rfl ?_
    refine v_widen (k := cells + 4) (n := slots + 24) (by omega) (by omega) ?_
    exact k hI.up
  · refine v_aload_n hC dL_law_406 rfl 1 rfl rfl ?_
    refine v_aload_n hC dL_law_407 rfl 0 rfl rfl ?_
    refine v_iload hC dL_law_408 4 rfl rfl ?_
    refine v_iconst hC (v := (nI 1)) dL_law_410 (by decide) rfl ?_
    refine v_iadd hC dL_law_411 rfl ?_
    refine l_sld hC hX9 hbl hbA (l_in hLen hi (by decide)) dL_law_412 rfl ?_
    refine v_aload_n hC dL_law_413 rfl 0 rfl rfl ?_
    refine v_iload hC dL_law_414 4 rfl rfl ?_
    refine v_iconst hC (v := (nI 2)) dL_law_416 (by decide) rfl ?_
    refine v_iadd hC dL_law_417 rfl ?_
    refine l_sld hC hX9 hbl hbA (l_in hLen hi (by decide)) dL_law_418 rfl ?_
    refine v_aload_n hC dL_law_419 rfl 3 rfl rfl ?_
    refine l_callS hC hX (n := 4) (As := [.ref h0, .int (xs (((nI i) + (nI 1))).toNatClampNeg), .int (xs (((nI i) + (nI 2))).toNatClampNeg), .ref oa]) (st := []) (fun sz => mL_sceneOf_r l hX.1 g cy tt sa sz h0 (a 0) (a 7) (a 14) (a 16) (a 24) (a 32) (a 1) (a 2) (a 3) (a 4) (a 5) (a 6) (nI (N 0)) (nI (N 1)) (nI (N 2)) (nI (N 3)) (nI (N 4)) (nI (N 5)) (nI (N 6)) (rI (exR N)) (rI (scR N)) (rI (seR N)) (xs (((nI i) + (nI 1))).toNatClampNeg) (xs (((nI i) + (nI 2))).toNatClampNeg) oa O h7) (WR.sel [true, true, false, false, false, false, false, false, false, false, false, false, false, false, false, false, false, false, false, false, true, true, true, true, true, true, true, false, false, false, false, false, false, false, false, false, false, false, false, false, false, false, false, false] rfl) gL_law_L_sceneOf rfl rfl rfl (by decide +kernel) ⟨Nat.le_of_ble_eq_true rfl, Nat.le_of_ble_eq_true rfl⟩ rfl (Nat.le_of_ble_eq_true rfl) rfl ⟨by show cells + 2 ≤ 601024; omega, by show slots + 12 ≤ 7293034; omega⟩ dL_law_420 rfl ?_
    refine v_eqw (ws' := LX cy h0 a AD z0 z oa (vp_updL O (nI 0).toNatClampNeg (v).toInt64) (FT N) (FT M') (nI o) (nI ct) (nI (F 0)) (nI (F 1)) (FT (P 0)) (FT (P 1)) (nI L) (rI T) rf (nI L) (nI ct) sp ou (rI T) (rI N) (rI M) (rI (diN D)) (rI (kpN K)) (rI F) ++ HF cy AD (rgD R)) rfl ?_
    refine v_istore hC dL_law_423 (by decide) [(5, .int (nI 0)), (0, .ref b), (1, .ref h0), (2, .ref z0), (3, .ref oa), (4, .int (nI i))] rfl rfl ?_
    refine v_aload_n hC dL_law_425 rfl 3 rfl rfl ?_
    refine v_aload_n hC dL_law_426 rfl 1 rfl rfl ?_
    refine v_iload hC dL_law_427 5 rfl rfl ?_
    refine v_iconst hC (v := (nI 1)) dL_law_429 (by decide) rfl ?_
    refine v_iadd hC dL_law_430 rfl ?_
    refine l_sld hC hX9 hbl hbA (l_in hLen hi (by decide)) dL_law_431 rfl ?_
    refine v_aload_n hC dL_law_432 rfl 1 rfl rfl ?_
    refine v_iload hC dL_law_433 5 rfl rfl ?_
    refine v_iconst hC (v := (nI 2)) dL_law_435 (by decide) rfl ?_
    refine v_iadd hC dL_law_436 rfl ?_
    refine l_sld hC hX9 hbl hbA (l_in hLen hi (by decide)) dL_law_437 rfl ?_
    refine l_callV hC (n := 2) (As := [.int (xs (((nI i) + (nI 1))).toNatClampNeg), .int (xs (((nI i) + (nI 2))).toNatClampNeg)]) (st := []) (mX8_sceneOf l g cy z0 (z 0) (z 1) (z 2) (z 3) (z 4) (z 5) rf (nI L) (nI ct) sp ou (rI T) (rI N) (rI M) (rI (diN D)) (rI (kpN K)) (rI F) (xs (((nI i) + (nI 1))).toNatClampNeg) (xs (((nI i) + (nI 2))).toNatClampNeg) h8) (WR.sel [false, false, false, false, false, false, false, false, false, false, false, false, false, false, false, false, false, false, false, false, false, false, false, false, false, false, false, false, false, false, false, false, false, false, false, false, false, true, true, true, true, true, true, true] rfl) gL_law_X8_sceneOf rfl rfl rfl (by decide +kernel) ⟨Nat.le_of_ble_eq_true rfl, Nat.le_of_ble_eq_true rfl⟩ 37 rfl rfl rfl (Nat.le_of_ble_eq_true rfl) rfl ⟨by show cells + 2 + 0 ≤ 601024; omega, by show slots + 12 + 0 ≤ 7293034; omega⟩ dL_law_438 rfl ?_
    refine v_eqw (ws' := LX cy h0 a AD z0 z oa (vp_updL O (nI 0).toNatClampNeg (v).toInt64) (FT N) (FT M') (nI o) (nI ct) (nI (F 0)) (nI (F 1)) (FT (P 0)) (FT (P 1)) (nI L) (rI T) (nI 0) (nI L) (nI ct) sp ou (rI T) (rI N) (rI M) (rI (diN D)) (rI (kpN K)) (rI F) ++ HF cy AD (rgD R)) rfl ?_
    refine v_istore hC dL_law_441 (by decide) [(6, .int v), (5, .int (nI 0)), (0, .ref b), (1, .ref h0), (2, .ref z0), (3, .ref oa), (4, .int (nI i))] rfl rfl ?_
    refine v_aload_n hC dL_law_443 rfl 4 rfl rfl ?_
    refine l_callR hC (n := 0) (As := []) (st := []) (mX8_thrown l g cy z0 (z 0) (z 1) (z 2) (z 3) (z 4) (z 5) (nI 0) (nI L) (nI ct) sp ou (rI T) (rI N) (rI M) (rI (diN D)) (rI (kpN K)) (rI F) rfl) (WR.sel (Y := wsel [false, false, false, false, false, false, false, false, false, false, false, false, false, false, false, false, false, false, false, false, false, false, false, false, false, false, false, false, false, false, false, false, false, false, false, false, false, true, true, true, true, true, true, true] (LX cy h0 a AD z0 z oa (vp_updL O (nI 0).toNatClampNeg (v).toInt64) (FT N) (FT M') (nI o) (nI ct) (nI (F 0)) (nI (F 1)) (FT (P 0)) (FT (P 1)) (nI L) (rI T) (nI 0) (nI L) (nI ct) sp ou (rI T) (rI N) (rI M) (rI (diN D)) (rI (kpN K)) (rI F))) [false, false, false, false, false, false, false, false, false, false, false, false, false, false, false, false, false, false, false, false, false, false, false, false, false, false, false, false, false, false, false, false, false, false, false, false, false, true, true, true, true, true, true, true] rfl) gL_law_X8_thrown rfl rfl rfl (by decide +kernel) ⟨Nat.le_of_ble_eq_true rfl, Nat.le_of_ble_eq_true rfl⟩ 37 rfl rfl rfl (Nat.le_of_ble_eq_true rfl) rfl ⟨by show cells + 2 + 0 ≤ 601024; omega, by show slots + 12 + 0 ≤ 7293034; omega⟩ dL_law_444 rfl ?_
    refine v_iload hC dL_law_447 1 rfl rfl ?_
    refine v_icmp_eq hC (tgt := 454) dL_law_449 (by decide) rfl (fun _ => ?_) (fun h9 => absurd rfl h9)
    refine v_iload hC dL_law_454 1 rfl rfl ?_
    refine v_if_ne hC (tgt := 471) dL_law_456 (by decide) rfl (fun h9 => absurd (show nI 0 = 0 from rfl) h9) (fun _ => ?_)
    refine v_aload_n hC dL_law_459 rfl 5 rfl rfl ?_
    refine v_iconst hC (v := (nI 0)) dL_law_460 (by decide) rfl ?_
    refine l_lald hC 0 rfl (by decide) dL_law_461 rfl ?_
    refine v_eqs (st' := [.long (v).toInt64]) (by rw [vp_updL_at]) ?_
    refine v_iload hC dL_law_462 0 rfl rfl ?_
    refine v_i2l hC dL_law_464 rfl ?_
    refine v_lcmp hC dL_law_465 rfl ?_
    refine v_if_eq hC (tgt := 471) dL_law_466 (by decide) rfl (fun _ => ?_) (fun h9 => absurd (lg_self _) h9)
    refine v_goto hC (tgt := 1561) dL_law_471 (by decide) ?_
    refine v_sub [2, 3, 4, 5, 6] (lv' := [(0, .ref b), (1, .ref h0), (2, .ref z0), (3, .ref oa), (4, .int (nI i))]) rfl ?_
    refine v_widen (k := cells + 4) (n := slots + 24) (by omega) (by omega) ?_
    exact k hI.up

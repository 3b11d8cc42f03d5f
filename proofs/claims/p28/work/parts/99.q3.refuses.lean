/-! ===== the law: refuses ===== -/
def pL_refuses_681 (N : Nat → Nat)  (s0 : Int32) : Option (Int32) := bz s0
def pL_refuses_680 (N : Nat → Nat)   : Option (Int32) := pL_refuses_681 N  (nI 0)
def pL_refuses_332 (N : Nat → Nat)  (y1 : Int32) (y2 : Int32) (y3 : Int32) (s0 : Int32) (s4 : Int32) : Option (Int32) := (gSc s4 (nI 1) (nI 0) (nI 0) s0).bind fun v1 => if v1 = (-9999002) then (gSh N y3).bind fun v4 => if v4 = (-9999001) then (gRe N y3 (nI 0) (nI 0)).bind fun v7 => if v7 = (-9999001) then (gRe N (nI 0) y2 (nI 0)).bind fun v10 => if v10 = (-9999001) then (gRe N (nI 0) (nI 0) y2).bind fun v13 => if v13 = (-9999001) then (gRe N (nI 0) (nI 0) (nI 0)).bind fun v16 => if v16 = (-9999003) then (gSe (nI 0) (y1 - y1 / (nI 240) * (nI 240))).bind fun v19 => if v19 = (-9999002) then (gSe (y1 - y1 / (nI 3) * (nI 3)) ((nI 961) + (y1 - y1 / (nI 9) * (nI 9)))).bind fun v22 => if v22 = (-9999002) then (gSe (nI 1) (-(y1 - y1 / (nI 9) * (nI 9)))).bind fun v25 => if v25 = (-9999002) then (gSe ((nI 3) + (y1 - y1 / (nI 9) * (nI 9))) (nI 50)).bind fun v28 => if v28 = (-9999002) then if (aWo N y3 (nI 9)) = (-9999001) then if (aWo N (nI 0) ((nI 4) + (y1 - y1 / (nI 9) * (nI 9)))) = (-9999002) then if (aWh N y3 (nI 0)) = (-9999001) then if (aWh N (nI 0) y2) = (-9999001) then if (aLa N y3) = (-9999001) then if (aOr N y3 y3) = (-9999001) then if (aOr N (nI 0) (nI 0)) = (-9999002) then (gSl ((nI 2) + (y1 - y1 / (nI 50) * (nI 50)))).bind fun v45 => if v45 = (-9999001) then (gSl ((-1) - (y1 - y1 / (nI 9) * (nI 9)))).bind fun v48 => if v48 = (-9999001) then if rsB (nI 0) 0 = true then if rsB (nI 1) (100000 + y1.toInt64) = true then if (aSm N y1.toInt64 ((nI 61) + (y1 - y1 / (nI 9) * (nI 9)))) = (-9999002) then pL_refuses_681 N  (nI 1) else pL_refuses_680 N   else none else none else pL_refuses_680 N   else pL_refuses_680 N   else pL_refuses_680 N   else pL_refuses_680 N   else pL_refuses_680 N   else pL_refuses_680 N   else pL_refuses_680 N   else pL_refuses_680 N   else pL_refuses_680 N   else pL_refuses_680 N   else pL_refuses_680 N   else pL_refuses_680 N   else pL_refuses_680 N   else pL_refuses_680 N   else pL_refuses_680 N   else pL_refuses_680 N   else pL_refuses_680 N   else pL_refuses_680 N   else pL_refuses_680 N  
def pL_refuses_247 (N : Nat → Nat)  (y1 : Int32) (y2 : Int32) (y3 : Int32) (s0 : Int32) (s1 : Int32) : Option (Int32) := (gSc s1 s0 (nI 0) (nI 0) (nI 60)).bind fun v1 => if v1 = (-9999002) then (gSc (y1 - y1 / (nI 5) * (nI 5)) (nI 1) ((nI 10) + (y1 - y1 / (nI 9) * (nI 9))) (nI 0) (nI 60)).bind fun v4 => if v4 = (-9999002) then (gSc (y1 - y1 / (nI 5) * (nI 5)) (nI 1) (nI 0) ((nI 4) + (y1 - y1 / (nI 9) * (nI 9))) (nI 60)).bind fun v7 => if v7 = (-9999002) then if (y1 - y1 / (nI 2) * (nI 2)) = 0 then pL_refuses_332 N  y1 y2 y3 (y1 - y1 / (nI 10) * (nI 10)) (y1 - y1 / (nI 5) * (nI 5)) else pL_refuses_332 N  y1 y2 y3 ((nI 241) + (y1 - y1 / (nI 99) * (nI 99))) (y1 - y1 / (nI 5) * (nI 5)) else pL_refuses_680 N   else pL_refuses_680 N   else pL_refuses_680 N  
def pL_refuses_53 (N : Nat → Nat)  (y1 : Int32) (y2 : Int32) (y3 : Int32) (s0 : Int32) : Option (Int32) := if ¬ nb s0 256 = true then if (aAb N ((nI 9) + (y1 - y1 / (nI 50) * (nI 50)))) = (-9999002) then if (aEx N y2 (nI 9)) = (-9999001) then if (aEx N (nI 0) ((nI 7) + (y1 - y1 / (nI 9) * (nI 9)))) = (-9999002) then if (aSc N y3 (nI 9)) = (-9999001) then if (aSc N (nI 0) ((nI 9) + (y1 - y1 / (nI 9) * (nI 9)))) = (-9999002) then if (aSe N ((nI 3) + (y1 - y1 / (nI 9) * (nI 9)))) = (-9999002) then (gEx ((nI 5) + (y1 - y1 / (nI 9) * (nI 9))) (nI 0)).bind fun v15 => if v15 = (-9999002) then (gEx (y1 - y1 / (nI 5) * (nI 5)) ((nI 14) + (y1 - y1 / (nI 9) * (nI 9)))).bind fun v18 => if v18 = (-9999002) then (gEx ((-1) - (y1 - y1 / (nI 9) * (nI 9))) (nI 0)).bind fun v21 => if v21 = (-9999002) then if (y1 - y1 / (nI 2) * (nI 2)) = 0 then pL_refuses_247 N  y1 y2 y3 (nI 0) (y1 - y1 / (nI 5) * (nI 5)) else pL_refuses_247 N  y1 y2 y3 ((nI 7) + (y1 - y1 / (nI 9) * (nI 9))) (y1 - y1 / (nI 5) * (nI 5)) else pL_refuses_680 N   else pL_refuses_680 N   else pL_refuses_680 N   else pL_refuses_680 N   else pL_refuses_680 N   else pL_refuses_680 N   else pL_refuses_680 N   else pL_refuses_680 N   else pL_refuses_680 N   else none
def pL_refuses (N : Nat → Nat) (x1 : Int32) : Option (Int32) := if (x1 - x1 / (nI 2) * (nI 2)) = 0 then pL_refuses_53 N  x1 ((aAb N (nI 0)) + (x1 - x1 / (nI 50) * (nI 50))) ((aAb N (nI 1)) + (x1 - x1 / (nI 50) * (nI 50))) ((-1) - (x1 - x1 / (nI 9) * (nI 9))) else pL_refuses_53 N  x1 ((aAb N (nI 0)) + (x1 - x1 / (nI 50) * (nI 50))) ((aAb N (nI 1)) + (x1 - x1 / (nI 50) * (nI 50))) ((nI 256) + (x1 - x1 / (nI 9) * (nI 9)))
abbrev rmL_refuses : Room := { frames := 11, cells := 73, slots := 438, locals := 216 }
set_option maxHeartbeats 4000000 in
set_option maxRecDepth 100000 in
theorem bL_refuses_681 {p : Program} {l : Launch} {e : Env} {s : State} {m : MethodId} {args : Array Value} {below : List Frame} {meth : Method} {c9 : Code} {g : va_G} {cy : Nat → ClassId} {tt sa : Nat → Nat} {A9 : Nat → Prop} (hC : CX p s m args meth c9 g cy 4 cL_refuses wsM_refuses RL) (hr : meth.sig.returnType = some .boolean) (hX : XL l s tt sa A9) {A : AA} {T : Nat} (hT9 : T < 8000) {S : SS} {res : Int32} : ∀  (s0 : Int32) (H : HH) (t cells slots : Nat) (hI : RP t S H) (ht : t + 0 ≤ T) (hc : cells + 0 ≤ 73) (hs : slots + 6 * 0 ≤ 438) (h : pL_refuses_681 S.1  s0 = some res), V p l e (headSpec wsM_refuses rmL_refuses).room s m args below meth c9 g 4 cells slots (MQ below (QE g A9 res (WP cy A T S)) args s 73 438 A9) A9 A9 (WO cy A S H) 681 [] [.int s0] := by
  intro  s0 H t cells slots hI ht hc hs h
  unfold pL_refuses_681 at h
  obtain ⟨e9, hn⟩ := bz_g h
  exact v_irE2 hC (by omega) (by omega) hr hn e9 dL_refuses_681 ⟨_, hI.up (by omega), rfl⟩
set_option maxHeartbeats 4000000 in
set_option maxRecDepth 100000 in
theorem bL_refuses_680 {p : Program} {l : Launch} {e : Env} {s : State} {m : MethodId} {args : Array Value} {below : List Frame} {meth : Method} {c9 : Code} {g : va_G} {cy : Nat → ClassId} {tt sa : Nat → Nat} {A9 : Nat → Prop} (hC : CX p s m args meth c9 g cy 4 cL_refuses wsM_refuses RL) (hr : meth.sig.returnType = some .boolean) (hX : XL l s tt sa A9) {A : AA} {T : Nat} (hT9 : T < 8000) {S : SS} {res : Int32} : ∀   (H : HH) (t cells slots : Nat) (hI : RP t S H) (ht : t + 0 ≤ T) (hc : cells + 0 ≤ 73) (hs : slots + 6 * 0 ≤ 438) (h : pL_refuses_680 S.1   = some res), V p l e (headSpec wsM_refuses rmL_refuses).room s m args below meth c9 g 4 cells slots (MQ below (QE g A9 res (WP cy A T S)) args s 73 438 A9) A9 A9 (WO cy A S H) 680 [] [] := by
  intro   H t cells slots hI ht hc hs h
  unfold pL_refuses_680 at h
  refine v_iconst hC (v := (nI 0)) dL_refuses_680 (by decide) rfl ?_
  exact bL_refuses_681 hC hr hX hT9  _ _ _ _ _ hI (by omega) (by omega) (by omega) h
set_option maxHeartbeats 4000000 in
set_option maxRecDepth 100000 in
theorem bL_refuses_332 {p : Program} {l : Launch} {e : Env} {s : State} {m : MethodId} {args : Array Value} {below : List Frame} {meth : Method} {c9 : Code} {g : va_G} {cy : Nat → ClassId} {tt sa : Nat → Nat} {A9 : Nat → Prop} (hC : CX p s m args meth c9 g cy 4 cL_refuses wsM_refuses RL) (hr : meth.sig.returnType = some .boolean) (hX : XL l s tt sa A9) {A : AA} {T : Nat} (hT9 : T < 8000) {S : SS} {res : Int32} : ∀  (y1 : Int32) (y2 : Int32) (y3 : Int32) (s0 : Int32) (s4 : Int32) (H : HH) (t cells slots : Nat) (hI : RP t S H) (ht : t + 12 ≤ T) (hc : cells + 47 ≤ 73) (hs : slots + 6 * 47 ≤ 438) (h : pL_refuses_332 S.1  y1 y2 y3 s0 s4 = some res), V p l e (headSpec wsM_refuses rmL_refuses).room s m args below meth c9 g 4 cells slots (MQ below (QE g A9 res (WP cy A T S)) args s 73 438 A9) A9 A9 (WO cy A S H) 332 [(0, .ref A.1), (1, .int y1), (2, .int y2), (3, .int y3)] [.int s0, .int (nI 0), .int (nI 0), .int (nI 1), .int s4, .ref A.1] := by
  intro  y1 y2 y3 s0 s4 H t cells slots hI ht hc hs h
  unfold pL_refuses_332 at h
  obtain ⟨v1, hv1, h⟩ := bind_g h
  refine l_callE hC hX (n := 6) (As := [.ref A.1, .int s4, .int (nI 1), .int (nI 0), .int (nI 0), .int s0]) (st := []) (fun w => w) (fun sz => mR_adds l hX.1 g cy tt sa sz A s4 (nI 1) (nI 0) (nI 0) s0 hI (by omega) hv1) (WR.full rfl) (fun w9 h9 => WR.full (WP_fst h9)) (goodIn_w gM_adds) rfl rfl rfl (by decide +kernel) ⟨Nat.le_of_ble_eq_true rfl, Nat.le_of_ble_eq_true rfl⟩ rfl (Nat.le_of_ble_eq_true rfl) rfl ⟨by show _ + 2 ≤ 73; omega, by show _ + 12 ≤ 438; omega⟩ dL_refuses_332 rfl (fun w9 h9 => ?_)
  obtain ⟨H2, hI3, rfl⟩ := h9
  refine v_eqw (ws' := WO cy A S H2) rfl ?_
  refine v_ldc hC (v := (-9999002)) dL_refuses_335 (List.mem_cons_of_mem _ kW_15) rfl ?_
  refine v_icmp_ne hC (tgt := 680) dL_refuses_337 (by decide) rfl (fun c => ?_) (fun c => ?_)
  · have h := ite_f c h
    exact v_sub [] (lv' := []) rfl (bL_refuses_680 hC hr hX hT9   _ _ _ _ hI3 (by omega) (by omega) (by omega) h)
  · have h := ite_t c h
    refine v_aload_n hC dL_refuses_340 rfl 0 rfl rfl ?_
    refine v_bipush hC (v := (nI 7)) dL_refuses_341 (by decide) rfl ?_
    refine v_iload_n hC dL_refuses_343 rfl 3 rfl rfl ?_
    refine v_iconst hC (v := (nI 0)) dL_refuses_344 (by decide) rfl ?_
    refine v_iconst hC (v := (nI 0)) dL_refuses_345 (by decide) rfl ?_
    obtain ⟨v4, hv4, h⟩ := bind_g h
    refine l_callF hC hX (n := 5) (As := [.ref A.1, .int (nI 7), .int y3, .int (nI 0), .int (nI 0)]) (st := []) (fun w => w) (fun sz => mR_Shoot l hX.1 g cy tt sa sz A y3 (nI 0) (nI 0) hI3 (by omega) hv4) (WR.full rfl) (fun w9 h9 => WR.full (WP_fst h9)) (goodIn_w gM_call) rfl rfl rfl (by decide +kernel) ⟨Nat.le_of_ble_eq_true rfl, Nat.le_of_ble_eq_true rfl⟩ rfl (Nat.le_of_ble_eq_true rfl) rfl ⟨by show _ + 2 ≤ 73; omega, by show _ + 12 ≤ 438; omega⟩ dL_refuses_346 rfl (fun w9 h9 => ?_)
    obtain ⟨H5, hI6, rfl⟩ := h9
    refine v_eqw (ws' := WO cy A S H5) rfl ?_
    refine v_ldc hC (v := (-9999001)) dL_refuses_349 (List.mem_cons_of_mem _ kW_44) rfl ?_
    refine v_icmp_ne hC (tgt := 680) dL_refuses_351 (by decide) rfl (fun c => ?_) (fun c => ?_)
    · have h := ite_f c h
      exact v_sub [] (lv' := []) rfl (bL_refuses_680 hC hr hX hT9   _ _ _ _ hI6 (by omega) (by omega) (by omega) h)
    · have h := ite_t c h
      refine v_aload_n hC dL_refuses_354 rfl 0 rfl rfl ?_
      refine v_bipush hC (v := (nI 8)) dL_refuses_355 (by decide) rfl ?_
      refine v_iload_n hC dL_refuses_357 rfl 3 rfl rfl ?_
      refine v_iconst hC (v := (nI 0)) dL_refuses_358 (by decide) rfl ?_
      refine v_iconst hC (v := (nI 0)) dL_refuses_359 (by decide) rfl ?_
      obtain ⟨v7, hv7, h⟩ := bind_g h
      refine l_callF hC hX (n := 5) (As := [.ref A.1, .int (nI 8), .int y3, .int (nI 0), .int (nI 0)]) (st := []) (fun w => w) (fun sz => mR_Replace l hX.1 g cy tt sa sz A y3 (nI 0) (nI 0) hI6 (by omega) hv7) (WR.full rfl) (fun w9 h9 => WR.full (WP_fst h9)) (goodIn_w gM_call) rfl rfl rfl (by decide +kernel) ⟨Nat.le_of_ble_eq_true rfl, Nat.le_of_ble_eq_true rfl⟩ rfl (Nat.le_of_ble_eq_true rfl) rfl ⟨by show _ + 4 ≤ 73; omega, by show _ + 24 ≤ 438; omega⟩ dL_refuses_360 rfl (fun w9 h9 => ?_)
      obtain ⟨H8, hI9, rfl⟩ := h9
      refine v_eqw (ws' := WO cy A S H8) rfl ?_
      refine v_ldc hC (v := (-9999001)) dL_refuses_363 (List.mem_cons_of_mem _ kW_44) rfl ?_
      refine v_icmp_ne hC (tgt := 680) dL_refuses_365 (by decide) rfl (fun c => ?_) (fun c => ?_)
      · have h := ite_f c h
        exact v_sub [] (lv' := []) rfl (bL_refuses_680 hC hr hX hT9   _ _ _ _ hI9 (by omega) (by omega) (by omega) h)
      · have h := ite_t c h
        refine v_aload_n hC dL_refuses_368 rfl 0 rfl rfl ?_
        refine v_bipush hC (v := (nI 8)) dL_refuses_369 (by decide) rfl ?_
        refine v_iconst hC (v := (nI 0)) dL_refuses_371 (by decide) rfl ?_
        refine v_iload_n hC dL_refuses_372 rfl 2 rfl rfl ?_
        refine v_iconst hC (v := (nI 0)) dL_refuses_373 (by decide) rfl ?_
        obtain ⟨v10, hv10, h⟩ := bind_g h
        refine l_callF hC hX (n := 5) (As := [.ref A.1, .int (nI 8), .int (nI 0), .int y2, .int (nI 0)]) (st := []) (fun w => w) (fun sz => mR_Replace l hX.1 g cy tt sa sz A (nI 0) y2 (nI 0) hI9 (by omega) hv10) (WR.full rfl) (fun w9 h9 => WR.full (WP_fst h9)) (goodIn_w gM_call) rfl rfl rfl (by decide +kernel) ⟨Nat.le_of_ble_eq_true rfl, Nat.le_of_ble_eq_true rfl⟩ rfl (Nat.le_of_ble_eq_true rfl) rfl ⟨by show _ + 4 ≤ 73; omega, by show _ + 24 ≤ 438; omega⟩ dL_refuses_374 rfl (fun w9 h9 => ?_)
        obtain ⟨H11, hI12, rfl⟩ := h9
        refine v_eqw (ws' := WO cy A S H11) rfl ?_
        refine v_ldc hC (v := (-9999001)) dL_refuses_377 (List.mem_cons_of_mem _ kW_44) rfl ?_
        refine v_icmp_ne hC (tgt := 680) dL_refuses_379 (by decide) rfl (fun c => ?_) (fun c => ?_)
        · have h := ite_f c h
          exact v_sub [] (lv' := []) rfl (bL_refuses_680 hC hr hX hT9   _ _ _ _ hI12 (by omega) (by omega) (by omega) h)
        · have h := ite_t c h
          refine v_aload_n hC dL_refuses_382 rfl 0 rfl rfl ?_
          refine v_bipush hC (v := (nI 8)) dL_refuses_383 (by decide) rfl ?_
          refine v_iconst hC (v := (nI 0)) dL_refuses_385 (by decide) rfl ?_
          refine v_iconst hC (v := (nI 0)) dL_refuses_386 (by decide) rfl ?_
          refine v_iload_n hC dL_refuses_387 rfl 2 rfl rfl ?_
          obtain ⟨v13, hv13, h⟩ := bind_g h
          refine l_callF hC hX (n := 5) (As := [.ref A.1, .int (nI 8), .int (nI 0), .int (nI 0), .int y2]) (st := []) (fun w => w) (fun sz => mR_Replace l hX.1 g cy tt sa sz A (nI 0) (nI 0) y2 hI12 (by omega) hv13) (WR.full rfl) (fun w9 h9 => WR.full (WP_fst h9)) (goodIn_w gM_call) rfl rfl rfl (by decide +kernel) ⟨Nat.le_of_ble_eq_true rfl, Nat.le_of_ble_eq_true rfl⟩ rfl (Nat.le_of_ble_eq_true rfl) rfl ⟨by show _ + 4 ≤ 73; omega, by show _ + 24 ≤ 438; omega⟩ dL_refuses_388 rfl (fun w9 h9 => ?_)
          obtain ⟨H14, hI15, rfl⟩ := h9
          refine v_eqw (ws' := WO cy A S H14) rfl ?_
          refine v_ldc hC (v := (-9999001)) dL_refuses_391 (List.mem_cons_of_mem _ kW_44) rfl ?_
          refine v_icmp_ne hC (tgt := 680) dL_refuses_393 (by decide) rfl (fun c => ?_) (fun c => ?_)
          · have h := ite_f c h
            exact v_sub [] (lv' := []) rfl (bL_refuses_680 hC hr hX hT9   _ _ _ _ hI15 (by omega) (by omega) (by omega) h)
          · have h := ite_t c h
            refine v_aload_n hC dL_refuses_396 rfl 0 rfl rfl ?_
            refine v_bipush hC (v := (nI 8)) dL_refuses_397 (by decide) rfl ?_
            refine v_iconst hC (v := (nI 0)) dL_refuses_399 (by decide) rfl ?_
            refine v_iconst hC (v := (nI 0)) dL_refuses_400 (by decide) rfl ?_
            refine v_iconst hC (v := (nI 0)) dL_refuses_401 (by decide) rfl ?_
            obtain ⟨v16, hv16, h⟩ := bind_g h
            refine l_callF hC hX (n := 5) (As := [.ref A.1, .int (nI 8), .int (nI 0), .int (nI 0), .int (nI 0)]) (st := []) (fun w => w) (fun sz => mR_Replace l hX.1 g cy tt sa sz A (nI 0) (nI 0) (nI 0) hI15 (by omega) hv16) (WR.full rfl) (fun w9 h9 => WR.full (WP_fst h9)) (goodIn_w gM_call) rfl rfl rfl (by decide +kernel) ⟨Nat.le_of_ble_eq_true rfl, Nat.le_of_ble_eq_true rfl⟩ rfl (Nat.le_of_ble_eq_true rfl) rfl ⟨by show _ + 4 ≤ 73; omega, by show _ + 24 ≤ 438; omega⟩ dL_refuses_402 rfl (fun w9 h9 => ?_)
            obtain ⟨H17, hI18, rfl⟩ := h9
            refine v_eqw (ws' := WO cy A S H17) rfl ?_
            refine v_ldc hC (v := (-9999003)) dL_refuses_405 (List.mem_cons_of_mem _ kW_18) rfl ?_
            refine v_icmp_ne hC (tgt := 680) dL_refuses_407 (by decide) rfl (fun c => ?_) (fun c => ?_)
            · have h := ite_f c h
              exact v_sub [] (lv' := []) rfl (bL_refuses_680 hC hr hX hT9   _ _ _ _ hI18 (by omega) (by omega) (by omega) h)
            · have h := ite_t c h
              refine v_aload_n hC dL_refuses_410 rfl 0 rfl rfl ?_
              refine v_bipush hC (v := (nI 9)) dL_refuses_411 (by decide) rfl ?_
              refine v_iconst hC (v := (nI 0)) dL_refuses_413 (by decide) rfl ?_
              refine v_iload_n hC dL_refuses_414 rfl 1 rfl rfl ?_
              refine v_sipush hC (v := (nI 240)) dL_refuses_415 (by decide) rfl ?_
              refine v_irem hC dL_refuses_418 (by decide) rfl ?_
              refine v_iconst hC (v := (nI 0)) dL_refuses_419 (by decide) rfl ?_
              obtain ⟨v19, hv19, h⟩ := bind_g h
              refine l_callF hC hX (n := 5) (As := [.ref A.1, .int (nI 9), .int (nI 0), .int (y1 - y1 / (nI 240) * (nI 240)), .int (nI 0)]) (st := []) (fun w => w) (fun sz => mR_Lay l hX.1 g cy tt sa sz A (nI 0) (y1 - y1 / (nI 240) * (nI 240)) (nI 0) hI18 (by omega) hv19) (WR.full rfl) (fun w9 h9 => WR.full (WP_fst h9)) (goodIn_w gM_call) rfl rfl rfl (by decide +kernel) ⟨Nat.le_of_ble_eq_true rfl, Nat.le_of_ble_eq_true rfl⟩ rfl (Nat.le_of_ble_eq_true rfl) rfl ⟨by show _ + 1 ≤ 73; omega, by show _ + 6 ≤ 438; omega⟩ dL_refuses_420 rfl (fun w9 h9 => ?_)
              obtain ⟨H20, hI21, rfl⟩ := h9
              refine v_eqw (ws' := WO cy A S H20) rfl ?_
              refine v_ldc hC (v := (-9999002)) dL_refuses_423 (List.mem_cons_of_mem _ kW_15) rfl ?_
              refine v_icmp_ne hC (tgt := 680) dL_refuses_425 (by decide) rfl (fun c => ?_) (fun c => ?_)
              · have h := ite_f c h
                exact v_sub [] (lv' := []) rfl (bL_refuses_680 hC hr hX hT9   _ _ _ _ hI21 (by omega) (by omega) (by omega) h)
              · have h := ite_t c h
                refine v_aload_n hC dL_refuses_428 rfl 0 rfl rfl ?_
                refine v_bipush hC (v := (nI 9)) dL_refuses_429 (by decide) rfl ?_
                refine v_iload_n hC dL_refuses_431 rfl 1 rfl rfl ?_
                refine v_iconst hC (v := (nI 3)) dL_refuses_432 (by decide) rfl ?_
                refine v_irem hC dL_refuses_433 (by decide) rfl ?_
                refine v_sipush hC (v := (nI 961)) dL_refuses_434 (by decide) rfl ?_
                refine v_iload_n hC dL_refuses_437 rfl 1 rfl rfl ?_
                refine v_bipush hC (v := (nI 9)) dL_refuses_438 (by decide) rfl ?_
                refine v_irem hC dL_refuses_440 (by decide) rfl ?_
                refine v_iadd hC dL_refuses_441 rfl ?_
                refine v_iconst hC (v := (nI 0)) dL_refuses_442 (by decide) rfl ?_
                obtain ⟨v22, hv22, h⟩ := bind_g h
                refine l_callF hC hX (n := 5) (As := [.ref A.1, .int (nI 9), .int (y1 - y1 / (nI 3) * (nI 3)), .int ((nI 961) + (y1 - y1 / (nI 9) * (nI 9))), .int (nI 0)]) (st := []) (fun w => w) (fun sz => mR_Lay l hX.1 g cy tt sa sz A (y1 - y1 / (nI 3) * (nI 3)) ((nI 961) + (y1 - y1 / (nI 9) * (nI 9))) (nI 0) hI21 (by omega) hv22) (WR.full rfl) (fun w9 h9 => WR.full (WP_fst h9)) (goodIn_w gM_call) rfl rfl rfl (by decide +kernel) ⟨Nat.le_of_ble_eq_true rfl, Nat.le_of_ble_eq_true rfl⟩ rfl (Nat.le_of_ble_eq_true rfl) rfl ⟨by show _ + 1 ≤ 73; omega, by show _ + 6 ≤ 438; omega⟩ dL_refuses_443 rfl (fun w9 h9 => ?_)
                obtain ⟨H23, hI24, rfl⟩ := h9
                refine v_eqw (ws' := WO cy A S H23) rfl ?_
                refine v_ldc hC (v := (-9999002)) dL_refuses_446 (List.mem_cons_of_mem _ kW_15) rfl ?_
                refine v_icmp_ne hC (tgt := 680) dL_refuses_448 (by decide) rfl (fun c => ?_) (fun c => ?_)
                · have h := ite_f c h
                  exact v_sub [] (lv' := []) rfl (bL_refuses_680 hC hr hX hT9   _ _ _ _ hI24 (by omega) (by omega) (by omega) h)
                · have h := ite_t c h
                  refine v_aload_n hC dL_refuses_451 rfl 0 rfl rfl ?_
                  refine v_bipush hC (v := (nI 9)) dL_refuses_452 (by decide) rfl ?_
                  refine v_iconst hC (v := (nI 1)) dL_refuses_454 (by decide) rfl ?_
                  refine v_iload_n hC dL_refuses_455 rfl 1 rfl rfl ?_
                  refine v_bipush hC (v := (nI 9)) dL_refuses_456 (by decide) rfl ?_
                  refine v_irem hC dL_refuses_458 (by decide) rfl ?_
                  refine v_ineg hC dL_refuses_459 rfl ?_
                  refine v_iconst hC (v := (nI 0)) dL_refuses_460 (by decide) rfl ?_
                  obtain ⟨v25, hv25, h⟩ := bind_g h
                  refine l_callF hC hX (n := 5) (As := [.ref A.1, .int (nI 9), .int (nI 1), .int (-(y1 - y1 / (nI 9) * (nI 9))), .int (nI 0)]) (st := []) (fun w => w) (fun sz => mR_Lay l hX.1 g cy tt sa sz A (nI 1) (-(y1 - y1 / (nI 9) * (nI 9))) (nI 0) hI24 (by omega) hv25) (WR.full rfl) (fun w9 h9 => WR.full (WP_fst h9)) (goodIn_w gM_call) rfl rfl rfl (by decide +kernel) ⟨Nat.le_of_ble_eq_true rfl, Nat.le_of_ble_eq_true rfl⟩ rfl (Nat.le_of_ble_eq_true rfl) rfl ⟨by show _ + 1 ≤ 73; omega, by show _ + 6 ≤ 438; omega⟩ dL_refuses_461 rfl (fun w9 h9 => ?_)
                  obtain ⟨H26, hI27, rfl⟩ := h9
                  refine v_eqw (ws' := WO cy A S H26) rfl ?_
                  refine v_ldc hC (v := (-9999002)) dL_refuses_464 (List.mem_cons_of_mem _ kW_15) rfl ?_
                  refine v_icmp_ne hC (tgt := 680) dL_refuses_466 (by decide) rfl (fun c => ?_) (fun c => ?_)
                  · have h := ite_f c h
                    exact v_sub [] (lv' := []) rfl (bL_refuses_680 hC hr hX hT9   _ _ _ _ hI27 (by omega) (by omega) (by omega) h)
                  · have h := ite_t c h
                    refine v_aload_n hC dL_refuses_469 rfl 0 rfl rfl ?_
                    refine v_bipush hC (v := (nI 9)) dL_refuses_470 (by decide) rfl ?_
                    refine v_iconst hC (v := (nI 3)) dL_refuses_472 (by decide) rfl ?_
                    refine v_iload_n hC dL_refuses_473 rfl 1 rfl rfl ?_
                    refine v_bipush hC (v := (nI 9)) dL_refuses_474 (by decide) rfl ?_
                    refine v_irem hC dL_refuses_476 (by decide) rfl ?_
                    refine v_iadd hC dL_refuses_477 rfl ?_
                    refine v_bipush hC (v := (nI 50)) dL_refuses_478 (by decide) rfl ?_
                    refine v_iconst hC (v := (nI 0)) dL_refuses_480 (by decide) rfl ?_
                    obtain ⟨v28, hv28, h⟩ := bind_g h
                    refine l_callF hC hX (n := 5) (As := [.ref A.1, .int (nI 9), .int ((nI 3) + (y1 - y1 / (nI 9) * (nI 9))), .int (nI 50), .int (nI 0)]) (st := []) (fun w => w) (fun sz => mR_Lay l hX.1 g cy tt sa sz A ((nI 3) + (y1 - y1 / (nI 9) * (nI 9))) (nI 50) (nI 0) hI27 (by omega) hv28) (WR.full rfl) (fun w9 h9 => WR.full (WP_fst h9)) (goodIn_w gM_call) rfl rfl rfl (by decide +kernel) ⟨Nat.le_of_ble_eq_true rfl, Nat.le_of_ble_eq_true rfl⟩ rfl (Nat.le_of_ble_eq_true rfl) rfl ⟨by show _ + 1 ≤ 73; omega, by show _ + 6 ≤ 438; omega⟩ dL_refuses_481 rfl (fun w9 h9 => ?_)
                    obtain ⟨H29, hI30, rfl⟩ := h9
                    refine v_eqw (ws' := WO cy A S H29) rfl ?_
                    refine v_ldc hC (v := (-9999002)) dL_refuses_484 (List.mem_cons_of_mem _ kW_15) rfl ?_
                    refine v_icmp_ne hC (tgt := 680) dL_refuses_486 (by decide) rfl (fun c => ?_) (fun c => ?_)
                    · have h := ite_f c h
                      exact v_sub [] (lv' := []) rfl (bL_refuses_680 hC hr hX hT9   _ _ _ _ hI30 (by omega) (by omega) (by omega) h)
                    · have h := ite_t c h
                      refine v_aload_n hC dL_refuses_489 rfl 0 rfl rfl ?_
                      refine v_bipush hC (v := (nI 11)) dL_refuses_490 (by decide) rfl ?_
                      refine v_iload_n hC dL_refuses_492 rfl 3 rfl rfl ?_
                      refine v_bipush hC (v := (nI 9)) dL_refuses_493 (by decide) rfl ?_
                      refine v_iconst hC (v := (nI 0)) dL_refuses_495 (by decide) rfl ?_
                      refine l_callF hC hX (n := 5) (As := [.ref A.1, .int (nI 11), .int y3, .int (nI 9), .int (nI 0)]) (st := []) (fun w => w) (fun sz => mC_Would l hX.1 g cy tt sa sz A y3 (nI 9) (nI 0) hI30 (by omega)) (WR.full rfl) (fun w9 h9 => WR.full (WP_fst h9)) (goodIn_w gM_call) rfl rfl rfl (by decide +kernel) ⟨Nat.le_of_ble_eq_true rfl, Nat.le_of_ble_eq_true rfl⟩ rfl (Nat.le_of_ble_eq_true rfl) rfl ⟨by show _ + 2 ≤ 73; omega, by show _ + 12 ≤ 438; omega⟩ dL_refuses_496 rfl (fun w9 h9 => ?_)
                      obtain ⟨H31, hI32, rfl⟩ := h9
                      refine v_eqw (ws' := WO cy A S H31) rfl ?_
                      refine v_ldc hC (v := (-9999001)) dL_refuses_499 (List.mem_cons_of_mem _ kW_44) rfl ?_
                      refine v_icmp_ne hC (tgt := 680) dL_refuses_501 (by decide) rfl (fun c => ?_) (fun c => ?_)
                      · have h := ite_f c h
                        exact v_sub [] (lv' := []) rfl (bL_refuses_680 hC hr hX hT9   _ _ _ _ hI32 (by omega) (by omega) (by omega) h)
                      · have h := ite_t c h
                        refine v_aload_n hC dL_refuses_504 rfl 0 rfl rfl ?_
                        refine v_bipush hC (v := (nI 11)) dL_refuses_505 (by decide) rfl ?_
                        refine v_iconst hC (v := (nI 0)) dL_refuses_507 (by decide) rfl ?_
                        refine v_iconst hC (v := (nI 4)) dL_refuses_508 (by decide) rfl ?_
                        refine v_iload_n hC dL_refuses_509 rfl 1 rfl rfl ?_
                        refine v_bipush hC (v := (nI 9)) dL_refuses_510 (by decide) rfl ?_
                        refine v_irem hC dL_refuses_512 (by decide) rfl ?_
                        refine v_iadd hC dL_refuses_513 rfl ?_
                        refine v_iconst hC (v := (nI 0)) dL_refuses_514 (by decide) rfl ?_
                        refine l_callF hC hX (n := 5) (As := [.ref A.1, .int (nI 11), .int (nI 0), .int ((nI 4) + (y1 - y1 / (nI 9) * (nI 9))), .int (nI 0)]) (st := []) (fun w => w) (fun sz => mC_Would l hX.1 g cy tt sa sz A (nI 0) ((nI 4) + (y1 - y1 / (nI 9) * (nI 9))) (nI 0) hI32 (by omega)) (WR.full rfl) (fun w9 h9 => WR.full (WP_fst h9)) (goodIn_w gM_call) rfl rfl rfl (by decide +kernel) ⟨Nat.le_of_ble_eq_true rfl, Nat.le_of_ble_eq_true rfl⟩ rfl (Nat.le_of_ble_eq_true rfl) rfl ⟨by show _ + 2 ≤ 73; omega, by show _ + 12 ≤ 438; omega⟩ dL_refuses_515 rfl (fun w9 h9 => ?_)
                        obtain ⟨H33, hI34, rfl⟩ := h9
                        refine v_eqw (ws' := WO cy A S H33) rfl ?_
                        refine v_ldc hC (v := (-9999002)) dL_refuses_518 (List.mem_cons_of_mem _ kW_15) rfl ?_
                        refine v_icmp_ne hC (tgt := 680) dL_refuses_520 (by decide) rfl (fun c => ?_) (fun c => ?_)
                        · have h := ite_f c h
                          exact v_sub [] (lv' := []) rfl (bL_refuses_680 hC hr hX hT9   _ _ _ _ hI34 (by omega) (by omega) (by omega) h)
                        · have h := ite_t c h
                          refine v_aload_n hC dL_refuses_523 rfl 0 rfl rfl ?_
                          refine v_bipush hC (v := (nI 12)) dL_refuses_524 (by decide) rfl ?_
                          refine v_iload_n hC dL_refuses_526 rfl 3 rfl rfl ?_
                          refine v_iconst hC (v := (nI 0)) dL_refuses_527 (by decide) rfl ?_
                          refine v_iconst hC (v := (nI 0)) dL_refuses_528 (by decide) rfl ?_
                          refine l_callF hC hX (n := 5) (As := [.ref A.1, .int (nI 12), .int y3, .int (nI 0), .int (nI 0)]) (st := []) (fun w => w) (fun sz => mC_Why l hX.1 g cy tt sa sz A y3 (nI 0) (nI 0) hI34 (by omega)) (WR.full rfl) (fun w9 h9 => WR.full (WP_fst h9)) (goodIn_w gM_call) rfl rfl rfl (by decide +kernel) ⟨Nat.le_of_ble_eq_true rfl, Nat.le_of_ble_eq_true rfl⟩ rfl (Nat.le_of_ble_eq_true rfl) rfl ⟨by show _ + 2 ≤ 73; omega, by show _ + 12 ≤ 438; omega⟩ dL_refuses_529 rfl (fun w9 h9 => ?_)
                          obtain ⟨H35, hI36, rfl⟩ := h9
                          refine v_eqw (ws' := WO cy A S H35) rfl ?_
                          refine v_ldc hC (v := (-9999001)) dL_refuses_532 (List.mem_cons_of_mem _ kW_44) rfl ?_
                          refine v_icmp_ne hC (tgt := 680) dL_refuses_534 (by decide) rfl (fun c => ?_) (fun c => ?_)
                          · have h := ite_f c h
                            exact v_sub [] (lv' := []) rfl (bL_refuses_680 hC hr hX hT9   _ _ _ _ hI36 (by omega) (by omega) (by omega) h)
                          · have h := ite_t c h
                            refine v_aload_n hC dL_refuses_537 rfl 0 rfl rfl ?_
                            refine v_bipush hC (v := (nI 12)) dL_refuses_538 (by decide) rfl ?_
                            refine v_iconst hC (v := (nI 0)) dL_refuses_540 (by decide) rfl ?_
                            refine v_iload_n hC dL_refuses_541 rfl 2 rfl rfl ?_
                            refine v_iconst hC (v := (nI 0)) dL_refuses_542 (by decide) rfl ?_
                            refine l_callF hC hX (n := 5) (As := [.ref A.1, .int (nI 12), .int (nI 0), .int y2, .int (nI 0)]) (st := []) (fun w => w) (fun sz => mC_Why l hX.1 g cy tt sa sz A (nI 0) y2 (nI 0) hI36 (by omega)) (WR.full rfl) (fun w9 h9 => WR.full (WP_fst h9)) (goodIn_w gM_call) rfl rfl rfl (by decide +kernel) ⟨Nat.le_of_ble_eq_true rfl, Nat.le_of_ble_eq_true rfl⟩ rfl (Nat.le_of_ble_eq_true rfl) rfl ⟨by show _ + 2 ≤ 73; omega, by show _ + 12 ≤ 438; omega⟩ dL_refuses_543 rfl (fun w9 h9 => ?_)
                            obtain ⟨H37, hI38, rfl⟩ := h9
                            refine v_eqw (ws' := WO cy A S H37) rfl ?_
                            refine v_ldc hC (v := (-9999001)) dL_refuses_546 (List.mem_cons_of_mem _ kW_44) rfl ?_
                            refine v_icmp_ne hC (tgt := 680) dL_refuses_548 (by decide) rfl (fun c => ?_) (fun c => ?_)
                            · have h := ite_f c h
                              exact v_sub [] (lv' := []) rfl (bL_refuses_680 hC hr hX hT9   _ _ _ _ hI38 (by omega) (by omega) (by omega) h)
                            · have h := ite_t c h
                              refine v_aload_n hC dL_refuses_551 rfl 0 rfl rfl ?_
                              refine v_bipush hC (v := (nI 13)) dL_refuses_552 (by decide) rfl ?_
                              refine v_iload_n hC dL_refuses_554 rfl 3 rfl rfl ?_
                              refine v_iconst hC (v := (nI 0)) dL_refuses_555 (by decide) rfl ?_
                              refine v_iconst hC (v := (nI 0)) dL_refuses_556 (by decide) rfl ?_
                              refine l_callF hC hX (n := 5) (As := [.ref A.1, .int (nI 13), .int y3, .int (nI 0), .int (nI 0)]) (st := []) (fun w => w) (fun sz => mC_Lacks l hX.1 g cy tt sa sz A y3 (nI 0) (nI 0) hI38 (by omega)) (WR.full rfl) (fun w9 h9 => WR.full (WP_fst h9)) (goodIn_w gM_call) rfl rfl rfl (by decide +kernel) ⟨Nat.le_of_ble_eq_true rfl, Nat.le_of_ble_eq_true rfl⟩ rfl (Nat.le_of_ble_eq_true rfl) rfl ⟨by show _ + 1 ≤ 73; omega, by show _ + 6 ≤ 438; omega⟩ dL_refuses_557 rfl (fun w9 h9 => ?_)
                              obtain ⟨H39, hI40, rfl⟩ := h9
                              refine v_eqw (ws' := WO cy A S H39) rfl ?_
                              refine v_ldc hC (v := (-9999001)) dL_refuses_560 (List.mem_cons_of_mem _ kW_44) rfl ?_
                              refine v_icmp_ne hC (tgt := 680) dL_refuses_562 (by decide) rfl (fun c => ?_) (fun c => ?_)
                              · have h := ite_f c h
                                exact v_sub [] (lv' := []) rfl (bL_refuses_680 hC hr hX hT9   _ _ _ _ hI40 (by omega) (by omega) (by omega) h)
                              · have h := ite_t c h
                                refine v_aload_n hC dL_refuses_565 rfl 0 rfl rfl ?_
                                refine v_bipush hC (v := (nI 14)) dL_refuses_566 (by decide) rfl ?_
                                refine v_iload_n hC dL_refuses_568 rfl 3 rfl rfl ?_
                                refine v_iload_n hC dL_refuses_569 rfl 3 rfl rfl ?_
                                refine v_iconst hC (v := (nI 0)) dL_refuses_570 (by decide) rfl ?_
                                refine l_callF hC hX (n := 5) (As := [.ref A.1, .int (nI 14), .int y3, .int y3, .int (nI 0)]) (st := []) (fun w => w) (fun sz => mC_Order l hX.1 g cy tt sa sz A y3 y3 (nI 0) hI40 (by omega)) (WR.full rfl) (fun w9 h9 => WR.full (WP_fst h9)) (goodIn_w gM_call) rfl rfl rfl (by decide +kernel) ⟨Nat.le_of_ble_eq_true rfl, Nat.le_of_ble_eq_true rfl⟩ rfl (Nat.le_of_ble_eq_true rfl) rfl ⟨by show _ + 3 ≤ 73; omega, by show _ + 18 ≤ 438; omega⟩ dL_refuses_571 rfl (fun w9 h9 => ?_)
                                obtain ⟨H41, hI42, rfl⟩ := h9
                                refine v_eqw (ws' := WO cy A S H41) rfl ?_
                                refine v_ldc hC (v := (-9999001)) dL_refuses_574 (List.mem_cons_of_mem _ kW_44) rfl ?_
                                refine v_icmp_ne hC (tgt := 680) dL_refuses_576 (by decide) rfl (fun c => ?_) (fun c => ?_)
                                · have h := ite_f c h
                                  exact v_sub [] (lv' := []) rfl (bL_refuses_680 hC hr hX hT9   _ _ _ _ hI42 (by omega) (by omega) (by omega) h)
                                · have h := ite_t c h
                                  refine v_aload_n hC dL_refuses_579 rfl 0 rfl rfl ?_
                                  refine v_bipush hC (v := (nI 14)) dL_refuses_580 (by decide) rfl ?_
                                  refine v_iconst hC (v := (nI 0)) dL_refuses_582 (by decide) rfl ?_
                                  refine v_iconst hC (v := (nI 0)) dL_refuses_583 (by decide) rfl ?_
                                  refine v_iconst hC (v := (nI 0)) dL_refuses_584 (by decide) rfl ?_
                                  refine l_callF hC hX (n := 5) (As := [.ref A.1, .int (nI 14), .int (nI 0), .int (nI 0), .int (nI 0)]) (st := []) (fun w => w) (fun sz => mC_Order l hX.1 g cy tt sa sz A (nI 0) (nI 0) (nI 0) hI42 (by omega)) (WR.full rfl) (fun w9 h9 => WR.full (WP_fst h9)) (goodIn_w gM_call) rfl rfl rfl (by decide +kernel) ⟨Nat.le_of_ble_eq_true rfl, Nat.le_of_ble_eq_true rfl⟩ rfl (Nat.le_of_ble_eq_true rfl) rfl ⟨by show _ + 3 ≤ 73; omega, by show _ + 18 ≤ 438; omega⟩ dL_refuses_585 rfl (fun w9 h9 => ?_)
                                  obtain ⟨H43, hI44, rfl⟩ := h9
                                  refine v_eqw (ws' := WO cy A S H43) rfl ?_
                                  refine v_ldc hC (v := (-9999002)) dL_refuses_588 (List.mem_cons_of_mem _ kW_15) rfl ?_
                                  refine v_icmp_ne hC (tgt := 680) dL_refuses_590 (by decide) rfl (fun c => ?_) (fun c => ?_)
                                  · have h := ite_f c h
                                    exact v_sub [] (lv' := []) rfl (bL_refuses_680 hC hr hX hT9   _ _ _ _ hI44 (by omega) (by omega) (by omega) h)
                                  · have h := ite_t c h
                                    refine v_aload_n hC dL_refuses_593 rfl 0 rfl rfl ?_
                                    refine v_bipush hC (v := (nI 15)) dL_refuses_594 (by decide) rfl ?_
                                    refine v_iconst hC (v := (nI 2)) dL_refuses_596 (by decide) rfl ?_
                                    refine v_iload_n hC dL_refuses_597 rfl 1 rfl rfl ?_
                                    refine v_bipush hC (v := (nI 50)) dL_refuses_598 (by decide) rfl ?_
                                    refine v_irem hC dL_refuses_600 (by decide) rfl ?_
                                    refine v_iadd hC dL_refuses_601 rfl ?_
                                    refine v_iconst hC (v := (nI 0)) dL_refuses_602 (by decide) rfl ?_
                                    refine v_iconst hC (v := (nI 0)) dL_refuses_603 (by decide) rfl ?_
                                    obtain ⟨v45, hv45, h⟩ := bind_g h
                                    refine l_callF hC hX (n := 5) (As := [.ref A.1, .int (nI 15), .int ((nI 2) + (y1 - y1 / (nI 50) * (nI 50))), .int (nI 0), .int (nI 0)]) (st := []) (fun w => w) (fun sz => mR_Keep l hX.1 g cy tt sa sz A ((nI 2) + (y1 - y1 / (nI 50) * (nI 50))) (nI 0) (nI 0) hI44 (by omega) hv45) (WR.full rfl) (fun w9 h9 => WR.full (WP_fst h9)) (goodIn_w gM_call) rfl rfl rfl (by decide +kernel) ⟨Nat.le_of_ble_eq_true rfl, Nat.le_of_ble_eq_true rfl⟩ rfl (Nat.le_of_ble_eq_true rfl) rfl ⟨by show _ + 1 ≤ 73; omega, by show _ + 6 ≤ 438; omega⟩ dL_refuses_604 rfl (fun w9 h9 => ?_)
                                    obtain ⟨H46, hI47, rfl⟩ := h9
                                    refine v_eqw (ws' := WO cy A S H46) rfl ?_
                                    refine v_ldc hC (v := (-9999001)) dL_refuses_607 (List.mem_cons_of_mem _ kW_44) rfl ?_
                                    refine v_icmp_ne hC (tgt := 680) dL_refuses_609 (by decide) rfl (fun c => ?_) (fun c => ?_)
                                    · have h := ite_f c h
                                      exact v_sub [] (lv' := []) rfl (bL_refuses_680 hC hr hX hT9   _ _ _ _ hI47 (by omega) (by omega) (by omega) h)
                                    · have h := ite_t c h
                                      refine v_aload_n hC dL_refuses_612 rfl 0 rfl rfl ?_
                                      refine v_bipush hC (v := (nI 16)) dL_refuses_613 (by decide) rfl ?_
                                      refine v_iconst hC (v := (-1)) dL_refuses_615 (by decide) rfl ?_
                                      refine v_iload_n hC dL_refuses_616 rfl 1 rfl rfl ?_
                                      refine v_bipush hC (v := (nI 9)) dL_refuses_617 (by decide) rfl ?_
                                      refine v_irem hC dL_refuses_619 (by decide) rfl ?_
                                      refine v_isub hC dL_refuses_620 rfl ?_
                                      refine v_iconst hC (v := (nI 0)) dL_refuses_621 (by decide) rfl ?_
                                      refine v_iconst hC (v := (nI 0)) dL_refuses_622 (by decide) rfl ?_
                                      obtain ⟨v48, hv48, h⟩ := bind_g h
                                      refine l_callF hC hX (n := 5) (As := [.ref A.1, .int (nI 16), .int ((-1) - (y1 - y1 / (nI 9) * (nI 9))), .int (nI 0), .int (nI 0)]) (st := []) (fun w => w) (fun sz => mR_Back l hX.1 g cy tt sa sz A ((-1) - (y1 - y1 / (nI 9) * (nI 9))) (nI 0) (nI 0) hI47 (by omega) hv48) (WR.full rfl) (fun w9 h9 => WR.full (WP_fst h9)) (goodIn_w gM_call) rfl rfl rfl (by decide +kernel) ⟨Nat.le_of_ble_eq_true rfl, Nat.le_of_ble_eq_true rfl⟩ rfl (Nat.le_of_ble_eq_true rfl) rfl ⟨by show _ + 2 ≤ 73; omega, by show _ + 12 ≤ 438; omega⟩ dL_refuses_623 rfl (fun w9 h9 => ?_)
                                      obtain ⟨H49, hI50, rfl⟩ := h9
                                      refine v_eqw (ws' := WO cy A S H49) rfl ?_
                                      refine v_ldc hC (v := (-9999001)) dL_refuses_626 (List.mem_cons_of_mem _ kW_44) rfl ?_
                                      refine v_icmp_ne hC (tgt := 680) dL_refuses_628 (by decide) rfl (fun c => ?_) (fun c => ?_)
                                      · have h := ite_f c h
                                        exact v_sub [] (lv' := []) rfl (bL_refuses_680 hC hr hX hT9   _ _ _ _ hI50 (by omega) (by omega) (by omega) h)
                                      · have h := ite_t c h
                                        refine v_aload_n hC dL_refuses_631 rfl 0 rfl rfl ?_
                                        refine v_iconst hC (v := (nI 0)) dL_refuses_632 (by decide) rfl ?_
                                        refine v_lconst hC (v := 0) dL_refuses_633 rfl rfl ?_
                                        obtain ⟨hb1, h⟩ := ite_g h
                                        refine l_callE hC hX (n := 3) (As := [.ref A.1, .int (nI 0), .long 0]) (st := []) (fun w => w) (fun sz => mL_doScript l hX.1 g cy tt sa sz A (nI 0) 0 hI50 (by omega) hb1) (WR.full rfl) (fun w9 h9 => WR.full (WP_fst h9)) (goodIn_w gM_doScript) rfl rfl rfl (by decide +kernel) ⟨Nat.le_of_ble_eq_true rfl, Nat.le_of_ble_eq_true rfl⟩ rfl (Nat.le_of_ble_eq_true rfl) rfl ⟨by show _ + 2 ≤ 73; omega, by show _ + 12 ≤ 438; omega⟩ dL_refuses_634 rfl (fun w9 h9 => ?_)
                                        obtain ⟨H51, hI52, rfl⟩ := h9
                                        refine v_eqw (ws' := WO cy A S H51) rfl ?_
                                        refine v_ldc hC (v := (-9999002)) dL_refuses_637 (List.mem_cons_of_mem _ kW_15) rfl ?_
                                        refine v_icmp_ne hC (tgt := 680) dL_refuses_639 (by decide) rfl (fun c => absurd rfl c) (fun _ => ?_)
                                        refine v_aload_n hC dL_refuses_642 rfl 0 rfl rfl ?_
                                        refine v_iconst hC (v := (nI 1)) dL_refuses_643 (by decide) rfl ?_
                                        refine v_ldc2 hC (v := 100000) dL_refuses_644 (List.mem_cons_of_mem _ kW_156) rfl ?_
                                        refine v_iload_n hC dL_refuses_647 rfl 1 rfl rfl ?_
                                        refine v_i2l hC dL_refuses_648 rfl ?_
                                        refine v_ladd hC dL_refuses_649 rfl ?_
                                        obtain ⟨hb1, h⟩ := ite_g h
                                        refine l_callE hC hX (n := 3) (As := [.ref A.1, .int (nI 1), .long (100000 + y1.toInt64)]) (st := []) (fun w => w) (fun sz => mL_doScript l hX.1 g cy tt sa sz A (nI 1) (100000 + y1.toInt64) hI52 (by omega) hb1) (WR.full rfl) (fun w9 h9 => WR.full (WP_fst h9)) (goodIn_w gM_doScript) rfl rfl rfl (by decide +kernel) ⟨Nat.le_of_ble_eq_true rfl, Nat.le_of_ble_eq_true rfl⟩ rfl (Nat.le_of_ble_eq_true rfl) rfl ⟨by show _ + 2 ≤ 73; omega, by show _ + 12 ≤ 438; omega⟩ dL_refuses_650 rfl (fun w9 h9 => ?_)
                                        obtain ⟨H53, hI54, rfl⟩ := h9
                                        refine v_eqw (ws' := WO cy A S H53) rfl ?_
                                        refine v_ldc hC (v := (-9999002)) dL_refuses_653 (List.mem_cons_of_mem _ kW_15) rfl ?_
                                        refine v_icmp_ne hC (tgt := 680) dL_refuses_655 (by decide) rfl (fun c => absurd rfl c) (fun _ => ?_)
                                        refine v_aload_n hC dL_refuses_658 rfl 0 rfl rfl ?_
                                        refine v_iload_n hC dL_refuses_659 rfl 1 rfl rfl ?_
                                        refine v_i2l hC dL_refuses_660 rfl ?_
                                        refine v_bipush hC (v := (nI 61)) dL_refuses_661 (by decide) rfl ?_
                                        refine v_iload_n hC dL_refuses_663 rfl 1 rfl rfl ?_
                                        refine v_bipush hC (v := (nI 9)) dL_refuses_664 (by decide) rfl ?_
                                        refine v_irem hC dL_refuses_666 (by decide) rfl ?_
                                        refine v_iadd hC dL_refuses_667 rfl ?_
                                        refine l_callE hC hX (n := 3) (As := [.ref A.1, .long y1.toInt64, .int ((nI 61) + (y1 - y1 / (nI 9) * (nI 9)))]) (st := []) (fun w => w) (fun sz => mL_doSimulate l hX.1 g cy tt sa sz A y1.toInt64 ((nI 61) + (y1 - y1 / (nI 9) * (nI 9))) hI54 (by omega)) (WR.full rfl) (fun w9 h9 => WR.full (WP_fst h9)) (goodIn_w gM_doSimulate) rfl rfl rfl (by decide +kernel) ⟨Nat.le_of_ble_eq_true rfl, Nat.le_of_ble_eq_true rfl⟩ rfl (Nat.le_of_ble_eq_true rfl) rfl ⟨by show _ + 1 ≤ 73; omega, by show _ + 6 ≤ 438; omega⟩ dL_refuses_668 rfl (fun w9 h9 => ?_)
                                        obtain ⟨H55, hI56, rfl⟩ := h9
                                        refine v_eqw (ws' := WO cy A S H55) rfl ?_
                                        refine v_ldc hC (v := (-9999002)) dL_refuses_671 (List.mem_cons_of_mem _ kW_15) rfl ?_
                                        refine v_icmp_ne hC (tgt := 680) dL_refuses_673 (by decide) rfl (fun c => ?_) (fun c => ?_)
                                        · have h := ite_f c h
                                          exact v_sub [] (lv' := []) rfl (bL_refuses_680 hC hr hX hT9   _ _ _ _ hI56 (by omega) (by omega) (by omega) h)
                                        · have h := ite_t c h
                                          refine v_iconst hC (v := (nI 1)) dL_refuses_676 (by decide) rfl ?_
                                          refine v_goto hC (tgt := 681) dL_refuses_677 (by decide) ?_
                                          exact v_sub [] (lv' := []) rfl (bL_refuses_681 hC hr hX hT9  _ _ _ _ _ hI56 (by omega) (by omega) (by omega) h)
set_option maxHeartbeats 4000000 in
set_option maxRecDepth 100000 in
theorem bL_refuses_247 {p : Program} {l : Launch} {e : Env} {s : State} {m : MethodId} {args : Array Value} {below : List Frame} {meth : Method} {c9 : Code} {g : va_G} {cy : Nat → ClassId} {tt sa : Nat → Nat} {A9 : Nat → Prop} (hC : CX p s m args meth c9 g cy 4 cL_refuses wsM_refuses RL) (hr : meth.sig.returnType = some .boolean) (hX : XL l s tt sa A9) {A : AA} {T : Nat} (hT9 : T < 8000) {S : SS} {res : Int32} : ∀  (y1 : Int32) (y2 : Int32) (y3 : Int32) (s0 : Int32) (s1 : Int32) (H : HH) (t cells slots : Nat) (hI : RP t S H) (ht : t + 15 ≤ T) (hc : cells + 53 ≤ 73) (hs : slots + 6 * 53 ≤ 438) (h : pL_refuses_247 S.1  y1 y2 y3 s0 s1 = some res), V p l e (headSpec wsM_refuses rmL_refuses).room s m args below meth c9 g 4 cells slots (MQ below (QE g A9 res (WP cy A T S)) args s 73 438 A9) A9 A9 (WO cy A S H) 247 [(0, .ref A.1), (1, .int y1), (2, .int y2), (3, .int y3)] [.int s0, .int s1, .ref A.1] := by
  intro  y1 y2 y3 s0 s1 H t cells slots hI ht hc hs h
  unfold pL_refuses_247 at h
  refine v_iconst hC (v := (nI 0)) dL_refuses_247 (by decide) rfl ?_
  refine v_iconst hC (v := (nI 0)) dL_refuses_248 (by decide) rfl ?_
  refine v_bipush hC (v := (nI 60)) dL_refuses_249 (by decide) rfl ?_
  obtain ⟨v1, hv1, h⟩ := bind_g h
  refine l_callE hC hX (n := 6) (As := [.ref A.1, .int s1, .int s0, .int (nI 0), .int (nI 0), .int (nI 60)]) (st := []) (fun w => w) (fun sz => mR_adds l hX.1 g cy tt sa sz A s1 s0 (nI 0) (nI 0) (nI 60) hI (by omega) hv1) (WR.full rfl) (fun w9 h9 => WR.full (WP_fst h9)) (goodIn_w gM_adds) rfl rfl rfl (by decide +kernel) ⟨Nat.le_of_ble_eq_true rfl, Nat.le_of_ble_eq_true rfl⟩ rfl (Nat.le_of_ble_eq_true rfl) rfl ⟨by show _ + 2 ≤ 73; omega, by show _ + 12 ≤ 438; omega⟩ dL_refuses_251 rfl (fun w9 h9 => ?_)
  obtain ⟨H2, hI3, rfl⟩ := h9
  refine v_eqw (ws' := WO cy A S H2) rfl ?_
  refine v_ldc hC (v := (-9999002)) dL_refuses_254 (List.mem_cons_of_mem _ kW_15) rfl ?_
  refine v_icmp_ne hC (tgt := 680) dL_refuses_256 (by decide) rfl (fun c => ?_) (fun c => ?_)
  · have h := ite_f c h
    exact v_sub [] (lv' := []) rfl (bL_refuses_680 hC hr hX hT9   _ _ _ _ hI3 (by omega) (by omega) (by omega) h)
  · have h := ite_t c h
    refine v_aload_n hC dL_refuses_259 rfl 0 rfl rfl ?_
    refine v_iload_n hC dL_refuses_260 rfl 1 rfl rfl ?_
    refine v_iconst hC (v := (nI 5)) dL_refuses_261 (by decide) rfl ?_
    refine v_irem hC dL_refuses_262 (by decide) rfl ?_
    refine v_iconst hC (v := (nI 1)) dL_refuses_263 (by decide) rfl ?_
    refine v_bipush hC (v := (nI 10)) dL_refuses_264 (by decide) rfl ?_
    refine v_iload_n hC dL_refuses_266 rfl 1 rfl rfl ?_
    refine v_bipush hC (v := (nI 9)) dL_refuses_267 (by decide) rfl ?_
    refine v_irem hC dL_refuses_269 (by decide) rfl ?_
    refine v_iadd hC dL_refuses_270 rfl ?_
    refine v_iconst hC (v := (nI 0)) dL_refuses_271 (by decide) rfl ?_
    refine v_bipush hC (v := (nI 60)) dL_refuses_272 (by decide) rfl ?_
    obtain ⟨v4, hv4, h⟩ := bind_g h
    refine l_callE hC hX (n := 6) (As := [.ref A.1, .int (y1 - y1 / (nI 5) * (nI 5)), .int (nI 1), .int ((nI 10) + (y1 - y1 / (nI 9) * (nI 9))), .int (nI 0), .int (nI 60)]) (st := []) (fun w => w) (fun sz => mR_adds l hX.1 g cy tt sa sz A (y1 - y1 / (nI 5) * (nI 5)) (nI 1) ((nI 10) + (y1 - y1 / (nI 9) * (nI 9))) (nI 0) (nI 60) hI3 (by omega) hv4) (WR.full rfl) (fun w9 h9 => WR.full (WP_fst h9)) (goodIn_w gM_adds) rfl rfl rfl (by decide +kernel) ⟨Nat.le_of_ble_eq_true rfl, Nat.le_of_ble_eq_true rfl⟩ rfl (Nat.le_of_ble_eq_true rfl) rfl ⟨by show _ + 2 ≤ 73; omega, by show _ + 12 ≤ 438; omega⟩ dL_refuses_274 rfl (fun w9 h9 => ?_)
    obtain ⟨H5, hI6, rfl⟩ := h9
    refine v_eqw (ws' := WO cy A S H5) rfl ?_
    refine v_ldc hC (v := (-9999002)) dL_refuses_277 (List.mem_cons_of_mem _ kW_15) rfl ?_
    refine v_icmp_ne hC (tgt := 680) dL_refuses_279 (by decide) rfl (fun c => ?_) (fun c => ?_)
    · have h := ite_f c h
      exact v_sub [] (lv' := []) rfl (bL_refuses_680 hC hr hX hT9   _ _ _ _ hI6 (by omega) (by omega) (by omega) h)
    · have h := ite_t c h
      refine v_aload_n hC dL_refuses_282 rfl 0 rfl rfl ?_
      refine v_iload_n hC dL_refuses_283 rfl 1 rfl rfl ?_
      refine v_iconst hC (v := (nI 5)) dL_refuses_284 (by decide) rfl ?_
      refine v_irem hC dL_refuses_285 (by decide) rfl ?_
      refine v_iconst hC (v := (nI 1)) dL_refuses_286 (by decide) rfl ?_
      refine v_iconst hC (v := (nI 0)) dL_refuses_287 (by decide) rfl ?_
      refine v_iconst hC (v := (nI 4)) dL_refuses_288 (by decide) rfl ?_
      refine v_iload_n hC dL_refuses_289 rfl 1 rfl rfl ?_
      refine v_bipush hC (v := (nI 9)) dL_refuses_290 (by decide) rfl ?_
      refine v_irem hC dL_refuses_292 (by decide) rfl ?_
      refine v_iadd hC dL_refuses_293 rfl ?_
      refine v_bipush hC (v := (nI 60)) dL_refuses_294 (by decide) rfl ?_
      obtain ⟨v7, hv7, h⟩ := bind_g h
      refine l_callE hC hX (n := 6) (As := [.ref A.1, .int (y1 - y1 / (nI 5) * (nI 5)), .int (nI 1), .int (nI 0), .int ((nI 4) + (y1 - y1 / (nI 9) * (nI 9))), .int (nI 60)]) (st := []) (fun w => w) (fun sz => mR_adds l hX.1 g cy tt sa sz A (y1 - y1 / (nI 5) * (nI 5)) (nI 1) (nI 0) ((nI 4) + (y1 - y1 / (nI 9) * (nI 9))) (nI 60) hI6 (by omega) hv7) (WR.full rfl) (fun w9 h9 => WR.full (WP_fst h9)) (goodIn_w gM_adds) rfl rfl rfl (by decide +kernel) ⟨Nat.le_of_ble_eq_true rfl, Nat.le_of_ble_eq_true rfl⟩ rfl (Nat.le_of_ble_eq_true rfl) rfl ⟨by show _ + 2 ≤ 73; omega, by show _ + 12 ≤ 438; omega⟩ dL_refuses_296 rfl (fun w9 h9 => ?_)
      obtain ⟨H8, hI9, rfl⟩ := h9
      refine v_eqw (ws' := WO cy A S H8) rfl ?_
      refine v_ldc hC (v := (-9999002)) dL_refuses_299 (List.mem_cons_of_mem _ kW_15) rfl ?_
      refine v_icmp_ne hC (tgt := 680) dL_refuses_301 (by decide) rfl (fun c => ?_) (fun c => ?_)
      · have h := ite_f c h
        exact v_sub [] (lv' := []) rfl (bL_refuses_680 hC hr hX hT9   _ _ _ _ hI9 (by omega) (by omega) (by omega) h)
      · have h := ite_t c h
        refine v_aload_n hC dL_refuses_304 rfl 0 rfl rfl ?_
        refine v_iload_n hC dL_refuses_305 rfl 1 rfl rfl ?_
        refine v_iconst hC (v := (nI 5)) dL_refuses_306 (by decide) rfl ?_
        refine v_irem hC dL_refuses_307 (by decide) rfl ?_
        refine v_iconst hC (v := (nI 1)) dL_refuses_308 (by decide) rfl ?_
        refine v_iconst hC (v := (nI 0)) dL_refuses_309 (by decide) rfl ?_
        refine v_iconst hC (v := (nI 0)) dL_refuses_310 (by decide) rfl ?_
        refine v_iload_n hC dL_refuses_311 rfl 1 rfl rfl ?_
        refine v_iconst hC (v := (nI 2)) dL_refuses_312 (by decide) rfl ?_
        refine v_irem hC dL_refuses_313 (by decide) rfl ?_
        refine v_if_ne hC (tgt := 324) dL_refuses_314 (by decide) rfl (fun c => ?_) (fun c => ?_)
        · have h := ite_f c h
          refine v_sipush hC (v := (nI 241)) dL_refuses_324 (by decide) rfl ?_
          refine v_iload_n hC dL_refuses_327 rfl 1 rfl rfl ?_
          refine v_bipush hC (v := (nI 99)) dL_refuses_328 (by decide) rfl ?_
          refine v_irem hC dL_refuses_330 (by decide) rfl ?_
          refine v_iadd hC dL_refuses_331 rfl ?_
          exact bL_refuses_332 hC hr hX hT9  _ _ _ _ _ _ _ _ _ hI9 (by omega) (by omega) (by omega) h
        · have h := ite_t c h
          refine v_iload_n hC dL_refuses_317 rfl 1 rfl rfl ?_
          refine v_bipush hC (v := (nI 10)) dL_refuses_318 (by decide) rfl ?_
          refine v_irem hC dL_refuses_320 (by decide) rfl ?_
          refine v_goto hC (tgt := 332) dL_refuses_321 (by decide) ?_
          exact bL_refuses_332 hC hr hX hT9  _ _ _ _ _ _ _ _ _ hI9 (by omega) (by omega) (by omega) h
set_option maxHeartbeats 4000000 in
set_option maxRecDepth 100000 in
theorem bL_refuses_53 {p : Program} {l : Launch} {e : Env} {s : State} {m : MethodId} {args : Array Value} {below : List Frame} {meth : Method} {c9 : Code} {g : va_G} {cy : Nat → ClassId} {tt sa : Nat → Nat} {A9 : Nat → Prop} (hC : CX p s m args meth c9 g cy 4 cL_refuses wsM_refuses RL) (hr : meth.sig.returnType = some .boolean) (hX : XL l s tt sa A9) {A : AA} {T : Nat} (hT9 : T < 8000) {S : SS} {res : Int32} : ∀  (y1 : Int32) (y2 : Int32) (y3 : Int32) (s0 : Int32) (H : HH) (t cells slots : Nat) (hI : RP t S H) (ht : t + 18 ≤ T) (hc : cells + 71 ≤ 73) (hs : slots + 6 * 71 ≤ 438) (h : pL_refuses_53 S.1  y1 y2 y3 s0 = some res), V p l e (headSpec wsM_refuses rmL_refuses).room s m args below meth c9 g 4 cells slots (MQ below (QE g A9 res (WP cy A T S)) args s 73 438 A9) A9 A9 (WO cy A S H) 53 [(0, .ref A.1), (1, .int y1), (2, .int y2), (3, .int y3)] [.int s0, .int (nI 0), .ref A.1] := by
  intro  y1 y2 y3 s0 H t cells slots hI ht hc hs h
  unfold pL_refuses_53 at h
  refine v_iconst hC (v := (nI 0)) dL_refuses_53 (by decide) rfl ?_
  refine v_iconst hC (v := (nI 0)) dL_refuses_54 (by decide) rfl ?_
  obtain ⟨hb1, h⟩ := ite_g h
  refine l_callF hC hX (n := 5) (As := [.ref A.1, .int (nI 0), .int s0, .int (nI 0), .int (nI 0)]) (st := []) (fun w => w) (fun sz => mC_Append l hX.1 g cy tt sa sz A s0 (nI 0) (nI 0) hI (by omega) hb1) (WR.full rfl) (fun w9 h9 => WR.full (WP_fst h9)) (goodIn_w gM_call) rfl rfl rfl (by decide +kernel) ⟨Nat.le_of_ble_eq_true rfl, Nat.le_of_ble_eq_true rfl⟩ rfl (Nat.le_of_ble_eq_true rfl) rfl ⟨by show _ + 2 ≤ 73; omega, by show _ + 12 ≤ 438; omega⟩ dL_refuses_55 rfl (fun w9 h9 => ?_)
  obtain ⟨H1, hI2, rfl⟩ := h9
  refine v_eqw (ws' := WO cy A S H1) rfl ?_
  refine v_ldc hC (v := (-9999002)) dL_refuses_58 (List.mem_cons_of_mem _ kW_15) rfl ?_
  refine v_icmp_ne hC (tgt := 680) dL_refuses_60 (by decide) rfl (fun c => absurd rfl c) (fun _ => ?_)
  refine v_aload_n hC dL_refuses_63 rfl 0 rfl rfl ?_
  refine v_iconst hC (v := (nI 2)) dL_refuses_64 (by decide) rfl ?_
  refine v_bipush hC (v := (nI 9)) dL_refuses_65 (by decide) rfl ?_
  refine v_iload_n hC dL_refuses_67 rfl 1 rfl rfl ?_
  refine v_bipush hC (v := (nI 50)) dL_refuses_68 (by decide) rfl ?_
  refine v_irem hC dL_refuses_70 (by decide) rfl ?_
  refine v_iadd hC dL_refuses_71 rfl ?_
  refine v_iconst hC (v := (nI 0)) dL_refuses_72 (by decide) rfl ?_
  refine v_iconst hC (v := (nI 0)) dL_refuses_73 (by decide) rfl ?_
  refine l_callF hC hX (n := 5) (As := [.ref A.1, .int (nI 2), .int ((nI 9) + (y1 - y1 / (nI 50) * (nI 50))), .int (nI 0), .int (nI 0)]) (st := []) (fun w => w) (fun sz => mC_About l hX.1 g cy tt sa sz A ((nI 9) + (y1 - y1 / (nI 50) * (nI 50))) (nI 0) (nI 0) hI2 (by omega)) (WR.full rfl) (fun w9 h9 => WR.full (WP_fst h9)) (goodIn_w gM_call) rfl rfl rfl (by decide +kernel) ⟨Nat.le_of_ble_eq_true rfl, Nat.le_of_ble_eq_true rfl⟩ rfl (Nat.le_of_ble_eq_true rfl) rfl ⟨by show _ + 1 ≤ 73; omega, by show _ + 6 ≤ 438; omega⟩ dL_refuses_74 rfl (fun w9 h9 => ?_)
  obtain ⟨H3, hI4, rfl⟩ := h9
  refine v_eqw (ws' := WO cy A S H3) rfl ?_
  refine v_ldc hC (v := (-9999002)) dL_refuses_77 (List.mem_cons_of_mem _ kW_15) rfl ?_
  refine v_icmp_ne hC (tgt := 680) dL_refuses_79 (by decide) rfl (fun c => ?_) (fun c => ?_)
  · have h := ite_f c h
    exact v_sub [] (lv' := []) rfl (bL_refuses_680 hC hr hX hT9   _ _ _ _ hI4 (by omega) (by omega) (by omega) h)
  · have h := ite_t c h
    refine v_aload_n hC dL_refuses_82 rfl 0 rfl rfl ?_
    refine v_iconst hC (v := (nI 3)) dL_refuses_83 (by decide) rfl ?_
    refine v_iload_n hC dL_refuses_84 rfl 2 rfl rfl ?_
    refine v_bipush hC (v := (nI 9)) dL_refuses_85 (by decide) rfl ?_
    refine v_iconst hC (v := (nI 0)) dL_refuses_87 (by decide) rfl ?_
    refine l_callF hC hX (n := 5) (As := [.ref A.1, .int (nI 3), .int y2, .int (nI 9), .int (nI 0)]) (st := []) (fun w => w) (fun sz => mC_Extra l hX.1 g cy tt sa sz A y2 (nI 9) (nI 0) hI4 (by omega)) (WR.full rfl) (fun w9 h9 => WR.full (WP_fst h9)) (goodIn_w gM_call) rfl rfl rfl (by decide +kernel) ⟨Nat.le_of_ble_eq_true rfl, Nat.le_of_ble_eq_true rfl⟩ rfl (Nat.le_of_ble_eq_true rfl) rfl ⟨by show _ + 2 ≤ 73; omega, by show _ + 12 ≤ 438; omega⟩ dL_refuses_88 rfl (fun w9 h9 => ?_)
    obtain ⟨H5, hI6, rfl⟩ := h9
    refine v_eqw (ws' := WO cy A S H5) rfl ?_
    refine v_ldc hC (v := (-9999001)) dL_refuses_91 (List.mem_cons_of_mem _ kW_44) rfl ?_
    refine v_icmp_ne hC (tgt := 680) dL_refuses_93 (by decide) rfl (fun c => ?_) (fun c => ?_)
    · have h := ite_f c h
      exact v_sub [] (lv' := []) rfl (bL_refuses_680 hC hr hX hT9   _ _ _ _ hI6 (by omega) (by omega) (by omega) h)
    · have h := ite_t c h
      refine v_aload_n hC dL_refuses_96 rfl 0 rfl rfl ?_
      refine v_iconst hC (v := (nI 3)) dL_refuses_97 (by decide) rfl ?_
      refine v_iconst hC (v := (nI 0)) dL_refuses_98 (by decide) rfl ?_
      refine v_bipush hC (v := (nI 7)) dL_refuses_99 (by decide) rfl ?_
      refine v_iload_n hC dL_refuses_101 rfl 1 rfl rfl ?_
      refine v_bipush hC (v := (nI 9)) dL_refuses_102 (by decide) rfl ?_
      refine v_irem hC dL_refuses_104 (by decide) rfl ?_
      refine v_iadd hC dL_refuses_105 rfl ?_
      refine v_iconst hC (v := (nI 0)) dL_refuses_106 (by decide) rfl ?_
      refine l_callF hC hX (n := 5) (As := [.ref A.1, .int (nI 3), .int (nI 0), .int ((nI 7) + (y1 - y1 / (nI 9) * (nI 9))), .int (nI 0)]) (st := []) (fun w => w) (fun sz => mC_Extra l hX.1 g cy tt sa sz A (nI 0) ((nI 7) + (y1 - y1 / (nI 9) * (nI 9))) (nI 0) hI6 (by omega)) (WR.full rfl) (fun w9 h9 => WR.full (WP_fst h9)) (goodIn_w gM_call) rfl rfl rfl (by decide +kernel) ⟨Nat.le_of_ble_eq_true rfl, Nat.le_of_ble_eq_true rfl⟩ rfl (Nat.le_of_ble_eq_true rfl) rfl ⟨by show _ + 2 ≤ 73; omega, by show _ + 12 ≤ 438; omega⟩ dL_refuses_107 rfl (fun w9 h9 => ?_)
      obtain ⟨H7, hI8, rfl⟩ := h9
      refine v_eqw (ws' := WO cy A S H7) rfl ?_
      refine v_ldc hC (v := (-9999002)) dL_refuses_110 (List.mem_cons_of_mem _ kW_15) rfl ?_
      refine v_icmp_ne hC (tgt := 680) dL_refuses_112 (by decide) rfl (fun c => ?_) (fun c => ?_)
      · have h := ite_f c h
        exact v_sub [] (lv' := []) rfl (bL_refuses_680 hC hr hX hT9   _ _ _ _ hI8 (by omega) (by omega) (by omega) h)
      · have h := ite_t c h
        refine v_aload_n hC dL_refuses_115 rfl 0 rfl rfl ?_
        refine v_iconst hC (v := (nI 4)) dL_refuses_116 (by decide) rfl ?_
        refine v_iload_n hC dL_refuses_117 rfl 3 rfl rfl ?_
        refine v_bipush hC (v := (nI 9)) dL_refuses_118 (by decide) rfl ?_
        refine v_iconst hC (v := (nI 0)) dL_refuses_120 (by decide) rfl ?_
        refine l_callF hC hX (n := 5) (As := [.ref A.1, .int (nI 4), .int y3, .int (nI 9), .int (nI 0)]) (st := []) (fun w => w) (fun sz => mC_Scene l hX.1 g cy tt sa sz A y3 (nI 9) (nI 0) hI8 (by omega)) (WR.full rfl) (fun w9 h9 => WR.full (WP_fst h9)) (goodIn_w gM_call) rfl rfl rfl (by decide +kernel) ⟨Nat.le_of_ble_eq_true rfl, Nat.le_of_ble_eq_true rfl⟩ rfl (Nat.le_of_ble_eq_true rfl) rfl ⟨by show _ + 2 ≤ 73; omega, by show _ + 12 ≤ 438; omega⟩ dL_refuses_121 rfl (fun w9 h9 => ?_)
        obtain ⟨H9, hI10, rfl⟩ := h9
        refine v_eqw (ws' := WO cy A S H9) rfl ?_
        refine v_ldc hC (v := (-9999001)) dL_refuses_124 (List.mem_cons_of_mem _ kW_44) rfl ?_
        refine v_icmp_ne hC (tgt := 680) dL_refuses_126 (by decide) rfl (fun c => ?_) (fun c => ?_)
        · have h := ite_f c h
          exact v_sub [] (lv' := []) rfl (bL_refuses_680 hC hr hX hT9   _ _ _ _ hI10 (by omega) (by omega) (by omega) h)
        · have h := ite_t c h
          refine v_aload_n hC dL_refuses_129 rfl 0 rfl rfl ?_
          refine v_iconst hC (v := (nI 4)) dL_refuses_130 (by decide) rfl ?_
          refine v_iconst hC (v := (nI 0)) dL_refuses_131 (by decide) rfl ?_
          refine v_bipush hC (v := (nI 9)) dL_refuses_132 (by decide) rfl ?_
          refine v_iload_n hC dL_refuses_134 rfl 1 rfl rfl ?_
          refine v_bipush hC (v := (nI 9)) dL_refuses_135 (by decide) rfl ?_
          refine v_irem hC dL_refuses_137 (by decide) rfl ?_
          refine v_iadd hC dL_refuses_138 rfl ?_
          refine v_iconst hC (v := (nI 0)) dL_refuses_139 (by decide) rfl ?_
          refine l_callF hC hX (n := 5) (As := [.ref A.1, .int (nI 4), .int (nI 0), .int ((nI 9) + (y1 - y1 / (nI 9) * (nI 9))), .int (nI 0)]) (st := []) (fun w => w) (fun sz => mC_Scene l hX.1 g cy tt sa sz A (nI 0) ((nI 9) + (y1 - y1 / (nI 9) * (nI 9))) (nI 0) hI10 (by omega)) (WR.full rfl) (fun w9 h9 => WR.full (WP_fst h9)) (goodIn_w gM_call) rfl rfl rfl (by decide +kernel) ⟨Nat.le_of_ble_eq_true rfl, Nat.le_of_ble_eq_true rfl⟩ rfl (Nat.le_of_ble_eq_true rfl) rfl ⟨by show _ + 2 ≤ 73; omega, by show _ + 12 ≤ 438; omega⟩ dL_refuses_140 rfl (fun w9 h9 => ?_)
          obtain ⟨H11, hI12, rfl⟩ := h9
          refine v_eqw (ws' := WO cy A S H11) rfl ?_
          refine v_ldc hC (v := (-9999002)) dL_refuses_143 (List.mem_cons_of_mem _ kW_15) rfl ?_
          refine v_icmp_ne hC (tgt := 680) dL_refuses_145 (by decide) rfl (fun c => ?_) (fun c => ?_)
          · have h := ite_f c h
            exact v_sub [] (lv' := []) rfl (bL_refuses_680 hC hr hX hT9   _ _ _ _ hI12 (by omega) (by omega) (by omega) h)
          · have h := ite_t c h
            refine v_aload_n hC dL_refuses_148 rfl 0 rfl rfl ?_
            refine v_iconst hC (v := (nI 5)) dL_refuses_149 (by decide) rfl ?_
            refine v_iconst hC (v := (nI 3)) dL_refuses_150 (by decide) rfl ?_
            refine v_iload_n hC dL_refuses_151 rfl 1 rfl rfl ?_
            refine v_bipush hC (v := (nI 9)) dL_refuses_152 (by decide) rfl ?_
            refine v_irem hC dL_refuses_154 (by decide) rfl ?_
            refine v_iadd hC dL_refuses_155 rfl ?_
            refine v_iconst hC (v := (nI 0)) dL_refuses_156 (by decide) rfl ?_
            refine v_iconst hC (v := (nI 0)) dL_refuses_157 (by decide) rfl ?_
            refine l_callF hC hX (n := 5) (As := [.ref A.1, .int (nI 5), .int ((nI 3) + (y1 - y1 / (nI 9) * (nI 9))), .int (nI 0), .int (nI 0)]) (st := []) (fun w => w) (fun sz => mC_Setting l hX.1 g cy tt sa sz A ((nI 3) + (y1 - y1 / (nI 9) * (nI 9))) (nI 0) (nI 0) hI12 (by omega)) (WR.full rfl) (fun w9 h9 => WR.full (WP_fst h9)) (goodIn_w gM_call) rfl rfl rfl (by decide +kernel) ⟨Nat.le_of_ble_eq_true rfl, Nat.le_of_ble_eq_true rfl⟩ rfl (Nat.le_of_ble_eq_true rfl) rfl ⟨by show _ + 1 ≤ 73; omega, by show _ + 6 ≤ 438; omega⟩ dL_refuses_158 rfl (fun w9 h9 => ?_)
            obtain ⟨H13, hI14, rfl⟩ := h9
            refine v_eqw (ws' := WO cy A S H13) rfl ?_
            refine v_ldc hC (v := (-9999002)) dL_refuses_161 (List.mem_cons_of_mem _ kW_15) rfl ?_
            refine v_icmp_ne hC (tgt := 680) dL_refuses_163 (by decide) rfl (fun c => ?_) (fun c => ?_)
            · have h := ite_f c h
              exact v_sub [] (lv' := []) rfl (bL_refuses_680 hC hr hX hT9   _ _ _ _ hI14 (by omega) (by omega) (by omega) h)
            · have h := ite_t c h
              refine v_aload_n hC dL_refuses_166 rfl 0 rfl rfl ?_
              refine v_bipush hC (v := (nI 6)) dL_refuses_167 (by decide) rfl ?_
              refine v_iconst hC (v := (nI 5)) dL_refuses_169 (by decide) rfl ?_
              refine v_iload_n hC dL_refuses_170 rfl 1 rfl rfl ?_
              refine v_bipush hC (v := (nI 9)) dL_refuses_171 (by decide) rfl ?_
              refine v_irem hC dL_refuses_173 (by decide) rfl ?_
              refine v_iadd hC dL_refuses_174 rfl ?_
              refine v_iconst hC (v := (nI 0)) dL_refuses_175 (by decide) rfl ?_
              refine v_iconst hC (v := (nI 0)) dL_refuses_176 (by decide) rfl ?_
              obtain ⟨v15, hv15, h⟩ := bind_g h
              refine l_callF hC hX (n := 5) (As := [.ref A.1, .int (nI 6), .int ((nI 5) + (y1 - y1 / (nI 9) * (nI 9))), .int (nI 0), .int (nI 0)]) (st := []) (fun w => w) (fun sz => mR_Add l hX.1 g cy tt sa sz A ((nI 5) + (y1 - y1 / (nI 9) * (nI 9))) (nI 0) (nI 0) hI14 (by omega) hv15) (WR.full rfl) (fun w9 h9 => WR.full (WP_fst h9)) (goodIn_w gM_call) rfl rfl rfl (by decide +kernel) ⟨Nat.le_of_ble_eq_true rfl, Nat.le_of_ble_eq_true rfl⟩ rfl (Nat.le_of_ble_eq_true rfl) rfl ⟨by show _ + 2 ≤ 73; omega, by show _ + 12 ≤ 438; omega⟩ dL_refuses_177 rfl (fun w9 h9 => ?_)
              obtain ⟨H16, hI17, rfl⟩ := h9
              refine v_eqw (ws' := WO cy A S H16) rfl ?_
              refine v_ldc hC (v := (-9999002)) dL_refuses_180 (List.mem_cons_of_mem _ kW_15) rfl ?_
              refine v_icmp_ne hC (tgt := 680) dL_refuses_182 (by decide) rfl (fun c => ?_) (fun c => ?_)
              · have h := ite_f c h
                exact v_sub [] (lv' := []) rfl (bL_refuses_680 hC hr hX hT9   _ _ _ _ hI17 (by omega) (by omega) (by omega) h)
              · have h := ite_t c h
                refine v_aload_n hC dL_refuses_185 rfl 0 rfl rfl ?_
                refine v_bipush hC (v := (nI 6)) dL_refuses_186 (by decide) rfl ?_
                refine v_iload_n hC dL_refuses_188 rfl 1 rfl rfl ?_
                refine v_iconst hC (v := (nI 5)) dL_refuses_189 (by decide) rfl ?_
                refine v_irem hC dL_refuses_190 (by decide) rfl ?_
                refine v_bipush hC (v := (nI 14)) dL_refuses_191 (by decide) rfl ?_
                refine v_iload_n hC dL_refuses_193 rfl 1 rfl rfl ?_
                refine v_bipush hC (v := (nI 9)) dL_refuses_194 (by decide) rfl ?_
                refine v_irem hC dL_refuses_196 (by decide) rfl ?_
                refine v_iadd hC dL_refuses_197 rfl ?_
                refine v_iconst hC (v := (nI 0)) dL_refuses_198 (by decide) rfl ?_
                obtain ⟨v18, hv18, h⟩ := bind_g h
                refine l_callF hC hX (n := 5) (As := [.ref A.1, .int (nI 6), .int (y1 - y1 / (nI 5) * (nI 5)), .int ((nI 14) + (y1 - y1 / (nI 9) * (nI 9))), .int (nI 0)]) (st := []) (fun w => w) (fun sz => mR_Add l hX.1 g cy tt sa sz A (y1 - y1 / (nI 5) * (nI 5)) ((nI 14) + (y1 - y1 / (nI 9) * (nI 9))) (nI 0) hI17 (by omega) hv18) (WR.full rfl) (fun w9 h9 => WR.full (WP_fst h9)) (goodIn_w gM_call) rfl rfl rfl (by decide +kernel) ⟨Nat.le_of_ble_eq_true rfl, Nat.le_of_ble_eq_true rfl⟩ rfl (Nat.le_of_ble_eq_true rfl) rfl ⟨by show _ + 2 ≤ 73; omega, by show _ + 12 ≤ 438; omega⟩ dL_refuses_199 rfl (fun w9 h9 => ?_)
                obtain ⟨H19, hI20, rfl⟩ := h9
                refine v_eqw (ws' := WO cy A S H19) rfl ?_
                refine v_ldc hC (v := (-9999002)) dL_refuses_202 (List.mem_cons_of_mem _ kW_15) rfl ?_
                refine v_icmp_ne hC (tgt := 680) dL_refuses_204 (by decide) rfl (fun c => ?_) (fun c => ?_)
                · have h := ite_f c h
                  exact v_sub [] (lv' := []) rfl (bL_refuses_680 hC hr hX hT9   _ _ _ _ hI20 (by omega) (by omega) (by omega) h)
                · have h := ite_t c h
                  refine v_aload_n hC dL_refuses_207 rfl 0 rfl rfl ?_
                  refine v_bipush hC (v := (nI 6)) dL_refuses_208 (by decide) rfl ?_
                  refine v_iconst hC (v := (-1)) dL_refuses_210 (by decide) rfl ?_
                  refine v_iload_n hC dL_refuses_211 rfl 1 rfl rfl ?_
                  refine v_bipush hC (v := (nI 9)) dL_refuses_212 (by decide) rfl ?_
                  refine v_irem hC dL_refuses_214 (by decide) rfl ?_
                  refine v_isub hC dL_refuses_215 rfl ?_
                  refine v_iconst hC (v := (nI 0)) dL_refuses_216 (by decide) rfl ?_
                  refine v_iconst hC (v := (nI 0)) dL_refuses_217 (by decide) rfl ?_
                  obtain ⟨v21, hv21, h⟩ := bind_g h
                  refine l_callF hC hX (n := 5) (As := [.ref A.1, .int (nI 6), .int ((-1) - (y1 - y1 / (nI 9) * (nI 9))), .int (nI 0), .int (nI 0)]) (st := []) (fun w => w) (fun sz => mR_Add l hX.1 g cy tt sa sz A ((-1) - (y1 - y1 / (nI 9) * (nI 9))) (nI 0) (nI 0) hI20 (by omega) hv21) (WR.full rfl) (fun w9 h9 => WR.full (WP_fst h9)) (goodIn_w gM_call) rfl rfl rfl (by decide +kernel) ⟨Nat.le_of_ble_eq_true rfl, Nat.le_of_ble_eq_true rfl⟩ rfl (Nat.le_of_ble_eq_true rfl) rfl ⟨by show _ + 2 ≤ 73; omega, by show _ + 12 ≤ 438; omega⟩ dL_refuses_218 rfl (fun w9 h9 => ?_)
                  obtain ⟨H22, hI23, rfl⟩ := h9
                  refine v_eqw (ws' := WO cy A S H22) rfl ?_
                  refine v_ldc hC (v := (-9999002)) dL_refuses_221 (List.mem_cons_of_mem _ kW_15) rfl ?_
                  refine v_icmp_ne hC (tgt := 680) dL_refuses_223 (by decide) rfl (fun c => ?_) (fun c => ?_)
                  · have h := ite_f c h
                    exact v_sub [] (lv' := []) rfl (bL_refuses_680 hC hr hX hT9   _ _ _ _ hI23 (by omega) (by omega) (by omega) h)
                  · have h := ite_t c h
                    refine v_aload_n hC dL_refuses_226 rfl 0 rfl rfl ?_
                    refine v_iload_n hC dL_refuses_227 rfl 1 rfl rfl ?_
                    refine v_iconst hC (v := (nI 5)) dL_refuses_228 (by decide) rfl ?_
                    refine v_irem hC dL_refuses_229 (by decide) rfl ?_
                    refine v_iload_n hC dL_refuses_230 rfl 1 rfl rfl ?_
                    refine v_iconst hC (v := (nI 2)) dL_refuses_231 (by decide) rfl ?_
                    refine v_irem hC dL_refuses_232 (by decide) rfl ?_
                    refine v_if_ne hC (tgt := 240) dL_refuses_233 (by decide) rfl (fun c => ?_) (fun c => ?_)
                    · have h := ite_f c h
                      refine v_bipush hC (v := (nI 7)) dL_refuses_240 (by decide) rfl ?_
                      refine v_iload_n hC dL_refuses_242 rfl 1 rfl rfl ?_
                      refine v_bipush hC (v := (nI 9)) dL_refuses_243 (by decide) rfl ?_
                      refine v_irem hC dL_refuses_245 (by decide) rfl ?_
                      refine v_iadd hC dL_refuses_246 rfl ?_
                      exact bL_refuses_247 hC hr hX hT9  _ _ _ _ _ _ _ _ _ hI23 (by omega) (by omega) (by omega) h
                    · have h := ite_t c h
                      refine v_iconst hC (v := (nI 0)) dL_refuses_236 (by decide) rfl ?_
                      refine v_goto hC (tgt := 247) dL_refuses_237 (by decide) ?_
                      exact bL_refuses_247 hC hr hX hT9  _ _ _ _ _ _ _ _ _ hI23 (by omega) (by omega) (by omega) h
set_option maxHeartbeats 4000000 in
set_option maxRecDepth 100000 in
theorem mL_refuses (l : Launch) (hlst : l.stackTraces = false) (g : va_G) (cy : Nat → ClassId) (tt sa : Nat → Nat) (sz : Nat) (A : AA) {t : Nat} {S : SS} {H : HH} (x1 : Int32) (hI : RP t S H) (ht9 : (t + 18) < 8000) {res : Int32} (h : pL_refuses S.1 x1 = some res) : Met l yL_refuses wsM_refuses rmL_refuses (PN [.ref A.1, .int x1] g cy tt sa sz (WO cy A S H)) (QE g (va_A (WO cy A S H) sz) res (WP cy A (t + 18) S)) 73 438 (va_A (WO cy A S H) sz) := by
  obtain ⟨T, hTe⟩ : ∃ T, T = (t + 18) := ⟨_, rfl⟩
  have hT9 : T < 8000 := by omega
  have ht : t + 18 ≤ T := by omega
  rw [← hTe]
  refine m_ofVN (cc := cL_refuses) (nL := 4) (ret := some .boolean) hlst RL rfl (by decide) rfl [(0, .ref A.1), (1, .int x1)] rfl (Nat.le_of_ble_eq_true rfl) ?_
  intro p e s m args below meth c9 hC hr hX
  generalize (va_A (WO cy A S H) sz) = A9 at hX ⊢
  obtain ⟨cells, hce⟩ : ∃ cells, cells = 0 := ⟨_, rfl⟩
  obtain ⟨slots, hse⟩ : ∃ slots, slots = 0 := ⟨_, rfl⟩
  have hc : cells + 73 ≤ 73 := by omega
  have hs : slots + 6 * 73 ≤ 438 := by omega
  refine v_widen (k := cells) (n := slots) (by omega) (by omega) ?_
  unfold pL_refuses at h
  refine v_aload_n hC dL_refuses_0 rfl 0 rfl rfl ?_
  refine v_iconst hC (v := (nI 2)) dL_refuses_1 (by decide) rfl ?_
  refine v_iconst hC (v := (nI 0)) dL_refuses_2 (by decide) rfl ?_
  refine v_iconst hC (v := (nI 0)) dL_refuses_3 (by decide) rfl ?_
  refine v_iconst hC (v := (nI 0)) dL_refuses_4 (by decide) rfl ?_
  refine l_callF hC hX (n := 5) (As := [.ref A.1, .int (nI 2), .int (nI 0), .int (nI 0), .int (nI 0)]) (st := []) (fun w => w) (fun sz => mC_About l hX.1 g cy tt sa sz A (nI 0) (nI 0) (nI 0) hI (by omega)) (WR.full rfl) (fun w9 h9 => WR.full (WP_fst h9)) (goodIn_w gM_call) rfl rfl rfl (by decide +kernel) ⟨Nat.le_of_ble_eq_true rfl, Nat.le_of_ble_eq_true rfl⟩ rfl (Nat.le_of_ble_eq_true rfl) rfl ⟨by show _ + 1 ≤ 73; omega, by show _ + 6 ≤ 438; omega⟩ dL_refuses_5 rfl (fun w9 h9 => ?_)
  obtain ⟨H1, hI2, rfl⟩ := h9
  refine v_eqw (ws' := WO cy A S H1) rfl ?_
  refine v_iload_n hC dL_refuses_8 rfl 1 rfl rfl ?_
  refine v_bipush hC (v := (nI 50)) dL_refuses_9 (by decide) rfl ?_
  refine v_irem hC dL_refuses_11 (by decide) rfl ?_
  refine v_iadd hC dL_refuses_12 rfl ?_
  refine v_istore_n hC dL_refuses_13 rfl (by decide) [(2, .int ((aAb S.1 (nI 0)) + (x1 - x1 / (nI 50) * (nI 50)))), (0, .ref A.1), (1, .int x1)] rfl rfl ?_
  refine v_aload_n hC dL_refuses_14 rfl 1 rfl rfl ?_
  refine v_iconst hC (v := (nI 2)) dL_refuses_15 (by decide) rfl ?_
  refine v_iconst hC (v := (nI 1)) dL_refuses_16 (by decide) rfl ?_
  refine v_iconst hC (v := (nI 0)) dL_refuses_17 (by decide) rfl ?_
  refine v_iconst hC (v := (nI 0)) dL_refuses_18 (by decide) rfl ?_
  refine l_callF hC hX (n := 5) (As := [.ref A.1, .int (nI 2), .int (nI 1), .int (nI 0), .int (nI 0)]) (st := []) (fun w => w) (fun sz => mC_About l hX.1 g cy tt sa sz A (nI 1) (nI 0) (nI 0) hI2 (by omega)) (WR.full rfl) (fun w9 h9 => WR.full (WP_fst h9)) (goodIn_w gM_call) rfl rfl rfl (by decide +kernel) ⟨Nat.le_of_ble_eq_true rfl, Nat.le_of_ble_eq_true rfl⟩ rfl (Nat.le_of_ble_eq_true rfl) rfl ⟨by show _ + 1 ≤ 73; omega, by show _ + 6 ≤ 438; omega⟩ dL_refuses_19 rfl (fun w9 h9 => ?_)
  obtain ⟨H3, hI4, rfl⟩ := h9
  refine v_eqw (ws' := WO cy A S H3) rfl ?_
  refine v_iload_n hC dL_refuses_22 rfl 2 rfl rfl ?_
  refine v_bipush hC (v := (nI 50)) dL_refuses_23 (by decide) rfl ?_
  refine v_irem hC dL_refuses_25 (by decide) rfl ?_
  refine v_iadd hC dL_refuses_26 rfl ?_
  refine v_istore_n hC dL_refuses_27 rfl (by decide) [(3, .int ((aAb S.1 (nI 1)) + (x1 - x1 / (nI 50) * (nI 50)))), (2, .int ((aAb S.1 (nI 0)) + (x1 - x1 / (nI 50) * (nI 50)))), (0, .ref A.1), (1, .int x1)] rfl rfl ?_
  refine v_aload_n hC dL_refuses_28 rfl 2 rfl rfl ?_
  refine v_iconst hC (v := (nI 0)) dL_refuses_29 (by decide) rfl ?_
  refine v_iload_n hC dL_refuses_30 rfl 3 rfl rfl ?_
  refine v_iconst hC (v := (nI 2)) dL_refuses_31 (by decide) rfl ?_
  refine v_irem hC dL_refuses_32 (by decide) rfl ?_
  refine v_if_ne hC (tgt := 45) dL_refuses_33 (by decide) rfl (fun c => ?_) (fun c => ?_)
  · have h := ite_f c h
    refine v_sipush hC (v := (nI 256)) dL_refuses_45 (by decide) rfl ?_
    refine v_iload_n hC dL_refuses_48 rfl 3 rfl rfl ?_
    refine v_bipush hC (v := (nI 9)) dL_refuses_49 (by decide) rfl ?_
    refine v_irem hC dL_refuses_51 (by decide) rfl ?_
    refine v_iadd hC dL_refuses_52 rfl ?_
    exact v_sub [2, 3, 1, 0] (lv' := [(0, .ref A.1), (1, .int x1), (2, .int ((aAb S.1 (nI 0)) + (x1 - x1 / (nI 50) * (nI 50)))), (3, .int ((aAb S.1 (nI 1)) + (x1 - x1 / (nI 50) * (nI 50))))]) rfl (bL_refuses_53 hC hr hX hT9  _ _ _ _ _ _ _ _ hI4 (by omega) (by omega) (by omega) h)
  · have h := ite_t c h
    refine v_iconst hC (v := (-1)) dL_refuses_36 (by decide) rfl ?_
    refine v_iload_n hC dL_refuses_37 rfl 3 rfl rfl ?_
    refine v_bipush hC (v := (nI 9)) dL_refuses_38 (by decide) rfl ?_
    refine v_irem hC dL_refuses_40 (by decide) rfl ?_
    refine v_isub hC dL_refuses_41 rfl ?_
    refine v_goto hC (tgt := 53) dL_refuses_42 (by decide) ?_
    exact v_sub [2, 3, 1, 0] (lv' := [(0, .ref A.1), (1, .int x1), (2, .int ((aAb S.1 (nI 0)) + (x1 - x1 / (nI 50) * (nI 50)))), (3, .int ((aAb S.1 (nI 1)) + (x1 - x1 / (nI 50) * (nI 50))))]) rfl (bL_refuses_53 hC hr hX hT9  _ _ _ _ _ _ _ _ hI4 (by omega) (by omega) (by omega) h)

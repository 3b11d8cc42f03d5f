/-! ===== the law: scene ===== -/
def pL_scene_61   (S : SS) (U : SS) (s0 : Int32) : Option (Int32 × SS × SS) := (bz s0).bind fun b1 => some (b1, S, U)
def pL_scene_60   (S : SS) (U : SS) : Option (Int32 × SS × SS) := pL_scene_61   S U (nI 0)
def pL_scene_291   (S : SS) (U : SS) (s0 : Int32) : Option (Int32 × SS × SS) := (bz s0).bind fun b1 => some (b1, S, U)
def pL_scene_290   (S : SS) (U : SS) : Option (Int32 × SS × SS) := pL_scene_291   S U (nI 0)
def pL_scene_226   (S : SS) (U : SS) (y3 : Int32) (y4 : Int32) (y7 : Int32) (s0 : Int32) : Option (Int32 × SS × SS) := if s0 = 0 then pL_scene_290   S U else (pL_thrown ((fUn S).1)).bind fun v3 => if v3 = 0 then (pL_thrown ((fUn U).1)).bind fun v6 => if v6 = 0 then (pL_spent ((fUn S).2).1).bind fun v7 => if v7 = y7 then if (aWo ((fUn S).2).1 y3 (nI 0)) = y4 then pL_scene_291   ((fUn S).2) ((fUn U).2) (nI 1) else pL_scene_290   ((fUn S).2) ((fUn U).2) else pL_scene_290   ((fUn S).2) ((fUn U).2) else pL_scene_290   ((fUn S).2) ((fUn U).2) else pL_scene_290   ((fUn S).2) U
def pL_scene_225   (S : SS) (U : SS) (y3 : Int32) (y4 : Int32) (y7 : Int32) : Option (Int32 × SS × SS) := pL_scene_226   S U y3 y4 y7 (nI 0)
def pL_scene  (S : SS) (U : SS) (x2 : Int32) : Option (Int32 × SS × SS) := if ¬ (aAb S.1 (nI 1)) = 0 then if (aWo S.1 (x2 - x2 / (aAb S.1 (nI 1)) * (aAb S.1 (nI 1))) (nI 0)) = (-1) then if ((fSh S (x2 - x2 / (aAb S.1 (nI 1)) * (aAb S.1 (nI 1)))).1) = (-9999003) then if ((fSh U (x2 - x2 / (aAb S.1 (nI 1)) * (aAb S.1 (nI 1)))).1) = (-9999003) then pL_scene_61   ((fSh S (x2 - x2 / (aAb S.1 (nI 1)) * (aAb S.1 (nI 1)))).2) ((fSh U (x2 - x2 / (aAb S.1 (nI 1)) * (aAb S.1 (nI 1)))).2) (nI 1) else pL_scene_60   ((fSh S (x2 - x2 / (aAb S.1 (nI 1)) * (aAb S.1 (nI 1)))).2) ((fSh U (x2 - x2 / (aAb S.1 (nI 1)) * (aAb S.1 (nI 1)))).2) else pL_scene_60   ((fSh S (x2 - x2 / (aAb S.1 (nI 1)) * (aAb S.1 (nI 1)))).2) U else (pL_spent S.1).bind fun v11 => if ((fSh S (x2 - x2 / (aAb S.1 (nI 1)) * (aAb S.1 (nI 1)))).1) = (aWo S.1 (x2 - x2 / (aAb S.1 (nI 1)) * (aAb S.1 (nI 1))) (nI 0)) then if ((fSh U (x2 - x2 / (aAb S.1 (nI 1)) * (aAb S.1 (nI 1)))).1) = (aWo S.1 (x2 - x2 / (aAb S.1 (nI 1)) * (aAb S.1 (nI 1))) (nI 0)) then (pL_spent ((fSh S (x2 - x2 / (aAb S.1 (nI 1)) * (aAb S.1 (nI 1)))).2).1).bind fun v22 => if v22 = (v11 + ((aWo S.1 (x2 - x2 / (aAb S.1 (nI 1)) * (aAb S.1 (nI 1))) (nI 1)) + (aWo S.1 (x2 - x2 / (aAb S.1 (nI 1)) * (aAb S.1 (nI 1))) (nI 2)))) then if (aAb ((fSh S (x2 - x2 / (aAb S.1 (nI 1)) * (aAb S.1 (nI 1)))).2).1 (nI 7)) = ((aAb S.1 (nI 7)) + (aWo S.1 (x2 - x2 / (aAb S.1 (nI 1)) * (aAb S.1 (nI 1))) (nI 3))) then if (aAb ((fSh S (x2 - x2 / (aAb S.1 (nI 1)) * (aAb S.1 (nI 1)))).2).1 (nI 2)) = ((aAb S.1 (nI 2)) + (nI 1)) then if (aSc ((fSh S (x2 - x2 / (aAb S.1 (nI 1)) * (aAb S.1 (nI 1)))).2).1 (x2 - x2 / (aAb S.1 (nI 1)) * (aAb S.1 (nI 1))) (nI 6)) = (aWo S.1 (x2 - x2 / (aAb S.1 (nI 1)) * (aAb S.1 (nI 1))) (nI 0)) then if ((fSh ((fSh S (x2 - x2 / (aAb S.1 (nI 1)) * (aAb S.1 (nI 1)))).2) (x2 - x2 / (aAb S.1 (nI 1)) * (aAb S.1 (nI 1)))).1) = (-9999003) then pL_scene_226   ((fSh ((fSh S (x2 - x2 / (aAb S.1 (nI 1)) * (aAb S.1 (nI 1)))).2) (x2 - x2 / (aAb S.1 (nI 1)) * (aAb S.1 (nI 1)))).2) ((fSh U (x2 - x2 / (aAb S.1 (nI 1)) * (aAb S.1 (nI 1)))).2) (x2 - x2 / (aAb S.1 (nI 1)) * (aAb S.1 (nI 1))) (aWo S.1 (x2 - x2 / (aAb S.1 (nI 1)) * (aAb S.1 (nI 1))) (nI 0)) v11 (nI 1) else pL_scene_225   ((fSh ((fSh S (x2 - x2 / (aAb S.1 (nI 1)) * (aAb S.1 (nI 1)))).2) (x2 - x2 / (aAb S.1 (nI 1)) * (aAb S.1 (nI 1)))).2) ((fSh U (x2 - x2 / (aAb S.1 (nI 1)) * (aAb S.1 (nI 1)))).2) (x2 - x2 / (aAb S.1 (nI 1)) * (aAb S.1 (nI 1))) (aWo S.1 (x2 - x2 / (aAb S.1 (nI 1)) * (aAb S.1 (nI 1))) (nI 0)) v11 else pL_scene_225   ((fSh S (x2 - x2 / (aAb S.1 (nI 1)) * (aAb S.1 (nI 1)))).2) ((fSh U (x2 - x2 / (aAb S.1 (nI 1)) * (aAb S.1 (nI 1)))).2) (x2 - x2 / (aAb S.1 (nI 1)) * (aAb S.1 (nI 1))) (aWo S.1 (x2 - x2 / (aAb S.1 (nI 1)) * (aAb S.1 (nI 1))) (nI 0)) v11 else pL_scene_225   ((fSh S (x2 - x2 / (aAb S.1 (nI 1)) * (aAb S.1 (nI 1)))).2) ((fSh U (x2 - x2 / (aAb S.1 (nI 1)) * (aAb S.1 (nI 1)))).2) (x2 - x2 / (aAb S.1 (nI 1)) * (aAb S.1 (nI 1))) (aWo S.1 (x2 - x2 / (aAb S.1 (nI 1)) * (aAb S.1 (nI 1))) (nI 0)) v11 else pL_scene_225   ((fSh S (x2 - x2 / (aAb S.1 (nI 1)) * (aAb S.1 (nI 1)))).2) ((fSh U (x2 - x2 / (aAb S.1 (nI 1)) * (aAb S.1 (nI 1)))).2) (x2 - x2 / (aAb S.1 (nI 1)) * (aAb S.1 (nI 1))) (aWo S.1 (x2 - x2 / (aAb S.1 (nI 1)) * (aAb S.1 (nI 1))) (nI 0)) v11 else pL_scene_225   ((fSh S (x2 - x2 / (aAb S.1 (nI 1)) * (aAb S.1 (nI 1)))).2) ((fSh U (x2 - x2 / (aAb S.1 (nI 1)) * (aAb S.1 (nI 1)))).2) (x2 - x2 / (aAb S.1 (nI 1)) * (aAb S.1 (nI 1))) (aWo S.1 (x2 - x2 / (aAb S.1 (nI 1)) * (aAb S.1 (nI 1))) (nI 0)) v11 else pL_scene_225   ((fSh S (x2 - x2 / (aAb S.1 (nI 1)) * (aAb S.1 (nI 1)))).2) ((fSh U (x2 - x2 / (aAb S.1 (nI 1)) * (aAb S.1 (nI 1)))).2) (x2 - x2 / (aAb S.1 (nI 1)) * (aAb S.1 (nI 1))) (aWo S.1 (x2 - x2 / (aAb S.1 (nI 1)) * (aAb S.1 (nI 1))) (nI 0)) v11 else pL_scene_225   ((fSh S (x2 - x2 / (aAb S.1 (nI 1)) * (aAb S.1 (nI 1)))).2) U (x2 - x2 / (aAb S.1 (nI 1)) * (aAb S.1 (nI 1))) (aWo S.1 (x2 - x2 / (aAb S.1 (nI 1)) * (aAb S.1 (nI 1))) (nI 0)) v11 else none
abbrev rmL_scene : Room := { frames := 11, cells := 31, slots := 186, locals := 201 }
set_option maxHeartbeats 4000000 in
set_option maxRecDepth 100000 in
theorem bL_scene_61 {p : Program} {l : Launch} {e : Env} {s : State} {m : MethodId} {args : Array Value} {below : List Frame} {meth : Method} {c9 : Code} {g : va_G} {cy : Nat → ClassId} {tt sa : Nat → Nat} {A9 : Nat → Prop} (hC : CX p s m args meth c9 g cy 11 cL_scene wsM_scene RL) (hr : meth.sig.returnType = some .boolean) (hX : XL l s tt sa A9) {A B : AA} {T T2 : Nat} (hT9 : T < 8000) (hU9 : T2 < 8000) {res : Int32 × SS × SS} : ∀  (S : SS) (U : SS) (s0 : Int32) (H : HH) (I : HH) (t u cells slots : Nat) (hI : RP t S H) (hJ : RP u U I) (ht : t + 0 ≤ T) (hu : u + 0 ≤ T2) (hc : cells + 0 ≤ 31) (hs : slots + 6 * 0 ≤ 186) (h : pL_scene_61   S U s0 = some res), V p l e (headSpec wsM_scene rmL_scene).room s m args below meth c9 g 11 cells slots (MQ below (QE g A9 res.1 (WP2 cy A B T res.2.1 T2 res.2.2)) args s 31 186 A9) A9 A9 (WO cy A S H ++ WO cy B U I) 61 [] [.int s0] := by
  intro  S U s0 H I t u cells slots hI hJ ht hu hc hs h
  unfold pL_scene_61 at h
  obtain ⟨b1, hb9, h⟩ := bind_g h
  obtain ⟨e9, hn⟩ := bz_g hb9
  obtain rfl := Option.some.inj h
  exact v_irE2 hC (by omega) (by omega) hr hn e9 dL_scene_61 ⟨_, _, hI.up (by omega), hJ.up (by omega), rfl⟩
set_option maxHeartbeats 4000000 in
set_option maxRecDepth 100000 in
theorem bL_scene_60 {p : Program} {l : Launch} {e : Env} {s : State} {m : MethodId} {args : Array Value} {below : List Frame} {meth : Method} {c9 : Code} {g : va_G} {cy : Nat → ClassId} {tt sa : Nat → Nat} {A9 : Nat → Prop} (hC : CX p s m args meth c9 g cy 11 cL_scene wsM_scene RL) (hr : meth.sig.returnType = some .boolean) (hX : XL l s tt sa A9) {A B : AA} {T T2 : Nat} (hT9 : T < 8000) (hU9 : T2 < 8000) {res : Int32 × SS × SS} : ∀  (S : SS) (U : SS) (H : HH) (I : HH) (t u cells slots : Nat) (hI : RP t S H) (hJ : RP u U I) (ht : t + 0 ≤ T) (hu : u + 0 ≤ T2) (hc : cells + 0 ≤ 31) (hs : slots + 6 * 0 ≤ 186) (h : pL_scene_60   S U = some res), V p l e (headSpec wsM_scene rmL_scene).room s m args below meth c9 g 11 cells slots (MQ below (QE g A9 res.1 (WP2 cy A B T res.2.1 T2 res.2.2)) args s 31 186 A9) A9 A9 (WO cy A S H ++ WO cy B U I) 60 [] [] := by
  intro  S U H I t u cells slots hI hJ ht hu hc hs h
  unfold pL_scene_60 at h
  refine v_iconst hC (v := (nI 0)) dL_scene_60 (by decide) rfl ?_
  exact bL_scene_61 hC hr hX hT9 hU9  _ _ _ _ _ _ _ _ _ hI hJ (by omega) (by omega) (by omega) (by omega) h
set_option maxHeartbeats 4000000 in
set_option maxRecDepth 100000 in
theorem bL_scene_291 {p : Program} {l : Launch} {e : Env} {s : State} {m : MethodId} {args : Array Value} {below : List Frame} {meth : Method} {c9 : Code} {g : va_G} {cy : Nat → ClassId} {tt sa : Nat → Nat} {A9 : Nat → Prop} (hC : CX p s m args meth c9 g cy 11 cL_scene wsM_scene RL) (hr : meth.sig.returnType = some .boolean) (hX : XL l s tt sa A9) {A B : AA} {T T2 : Nat} (hT9 : T < 8000) (hU9 : T2 < 8000) {res : Int32 × SS × SS} : ∀  (S : SS) (U : SS) (s0 : Int32) (H : HH) (I : HH) (t u cells slots : Nat) (hI : RP t S H) (hJ : RP u U I) (ht : t + 0 ≤ T) (hu : u + 0 ≤ T2) (hc : cells + 0 ≤ 31) (hs : slots + 6 * 0 ≤ 186) (h : pL_scene_291   S U s0 = some res), V p l e (headSpec wsM_scene rmL_scene).room s m args below meth c9 g 11 cells slots (MQ below (QE g A9 res.1 (WP2 cy A B T res.2.1 T2 res.2.2)) args s 31 186 A9) A9 A9 (WO cy A S H ++ WO cy B U I) 291 [] [.int s0] := by
  intro  S U s0 H I t u cells slots hI hJ ht hu hc hs h
  unfold pL_scene_291 at h
  obtain ⟨b1, hb9, h⟩ := bind_g h
  obtain ⟨e9, hn⟩ := bz_g hb9
  obtain rfl := Option.some.inj h
  exact v_irE2 hC (by omega) (by omega) hr hn e9 dL_scene_291 ⟨_, _, hI.up (by omega), hJ.up (by omega), rfl⟩
set_option maxHeartbeats 4000000 in
set_option maxRecDepth 100000 in
theorem bL_scene_290 {p : Program} {l : Launch} {e : Env} {s : State} {m : MethodId} {args : Array Value} {below : List Frame} {meth : Method} {c9 : Code} {g : va_G} {cy : Nat → ClassId} {tt sa : Nat → Nat} {A9 : Nat → Prop} (hC : CX p s m args meth c9 g cy 11 cL_scene wsM_scene RL) (hr : meth.sig.returnType = some .boolean) (hX : XL l s tt sa A9) {A B : AA} {T T2 : Nat} (hT9 : T < 8000) (hU9 : T2 < 8000) {res : Int32 × SS × SS} : ∀  (S : SS) (U : SS) (H : HH) (I : HH) (t u cells slots : Nat) (hI : RP t S H) (hJ : RP u U I) (ht : t + 0 ≤ T) (hu : u + 0 ≤ T2) (hc : cells + 0 ≤ 31) (hs : slots + 6 * 0 ≤ 186) (h : pL_scene_290   S U = some res), V p l e (headSpec wsM_scene rmL_scene).room s m args below meth c9 g 11 cells slots (MQ below (QE g A9 res.1 (WP2 cy A B T res.2.1 T2 res.2.2)) args s 31 186 A9) A9 A9 (WO cy A S H ++ WO cy B U I) 290 [] [] := by
  intro  S U H I t u cells slots hI hJ ht hu hc hs h
  unfold pL_scene_290 at h
  refine v_iconst hC (v := (nI 0)) dL_scene_290 (by decide) rfl ?_
  exact bL_scene_291 hC hr hX hT9 hU9  _ _ _ _ _ _ _ _ _ hI hJ (by omega) (by omega) (by omega) (by omega) h
set_option maxHeartbeats 4000000 in
set_option maxRecDepth 100000 in
theorem bL_scene_226 {p : Program} {l : Launch} {e : Env} {s : State} {m : MethodId} {args : Array Value} {below : List Frame} {meth : Method} {c9 : Code} {g : va_G} {cy : Nat → ClassId} {tt sa : Nat → Nat} {A9 : Nat → Prop} (hC : CX p s m args meth c9 g cy 11 cL_scene wsM_scene RL) (hr : meth.sig.returnType = some .boolean) (hX : XL l s tt sa A9) {A B : AA} {T T2 : Nat} (hT9 : T < 8000) (hU9 : T2 < 8000) {res : Int32 × SS × SS} : ∀  (S : SS) (U : SS) (y3 : Int32) (y4 : Int32) (y7 : Int32) (s0 : Int32) (H : HH) (I : HH) (t u cells slots : Nat) (hI : RP t S H) (hJ : RP u U I) (ht : t + 1 ≤ T) (hu : u + 1 ≤ T2) (hc : cells + 6 ≤ 31) (hs : slots + 6 * 6 ≤ 186) (h : pL_scene_226   S U y3 y4 y7 s0 = some res), V p l e (headSpec wsM_scene rmL_scene).room s m args below meth c9 g 11 cells slots (MQ below (QE g A9 res.1 (WP2 cy A B T res.2.1 T2 res.2.2)) args s 31 186 A9) A9 A9 (WO cy A S H ++ WO cy B U I) 226 [(0, .ref A.1), (1, .ref B.1), (3, .int y3), (4, .int y4), (7, .int y7)] [.int s0] := by
  intro  S U y3 y4 y7 s0 H I t u cells slots hI hJ ht hu hc hs h
  unfold pL_scene_226 at h
  refine v_istore hC dL_scene_226 (by decide) [(10, .int s0), (0, .ref A.1), (1, .ref B.1), (3, .int y3), (4, .int y4), (7, .int y7)] rfl rfl ?_
  refine v_iload hC dL_scene_228 0 rfl rfl ?_
  refine v_if_eq hC (tgt := 290) dL_scene_230 (by decide) rfl (fun c => ?_) (fun c => ?_)
  · have h := ite_t c h
    exact v_sub [] (lv' := []) rfl (bL_scene_290 hC hr hX hT9 hU9  _ _ _ _ _ _ _ _ hI hJ (by omega) (by omega) (by omega) (by omega) h)
  · have h := ite_f c h
    refine v_aload_n hC dL_scene_233 rfl 1 rfl rfl ?_
    refine v_bipush hC (v := (nI 10)) dL_scene_234 (by decide) rfl ?_
    refine v_iconst hC (v := (nI 0)) dL_scene_236 (by decide) rfl ?_
    refine v_iconst hC (v := (nI 0)) dL_scene_237 (by decide) rfl ?_
    refine v_iconst hC (v := (nI 0)) dL_scene_238 (by decide) rfl ?_
    refine l_callF hC hX (n := 5) (As := [.ref A.1, .int (nI 10), .int (nI 0), .int (nI 0), .int (nI 0)]) (st := []) (fun w => w ++ WO cy B U I) (fun sz => mC_Undo l hX.1 g cy tt sa sz A (nI 0) (nI 0) (nI 0) hI (by omega)) (WR.appL (WR.full rfl)) (fun w9 h9 => WR.appL (WR.full (WP_fst h9))) (goodIn_w gM_call) rfl rfl rfl (by decide +kernel) ⟨Nat.le_of_ble_eq_true rfl, Nat.le_of_ble_eq_true rfl⟩ rfl (Nat.le_of_ble_eq_true rfl) rfl ⟨by show _ + 1 ≤ 31; omega, by show _ + 6 ≤ 186; omega⟩ dL_scene_239 rfl (fun w9 h9 => ?_)
    obtain ⟨H1, hI2, rfl⟩ := h9
    refine v_eqw (ws' := WO cy A ((fUn S).2) H1 ++ WO cy B U I) rfl ?_
    obtain ⟨v3, hv3, h⟩ := bind_g h
    refine l_callN hC (n := 1) (As := [.int ((fUn S).1)]) (st := []) (mL_thrown l g cy ((fUn S).1) hv3) (goodIn_w gM_thrown) rfl rfl rfl (by decide +kernel) ⟨Nat.le_of_ble_eq_true rfl, Nat.le_of_ble_eq_true rfl⟩ rfl (Nat.le_of_ble_eq_true rfl) rfl ⟨by show _ + 0 ≤ 31; omega, by show _ + 0 ≤ 186; omega⟩ dL_scene_242 rfl ?_
    refine v_if_ne hC (tgt := 290) dL_scene_245 (by decide) rfl (fun c => ?_) (fun c => ?_)
    · have h := ite_f c h
      exact v_sub [] (lv' := []) rfl (bL_scene_290 hC hr hX hT9 hU9  _ _ _ _ _ _ _ _ hI2 hJ (by omega) (by omega) (by omega) (by omega) h)
    · have h := ite_t c h
      refine v_aload_n hC dL_scene_248 rfl 2 rfl rfl ?_
      refine v_bipush hC (v := (nI 10)) dL_scene_249 (by decide) rfl ?_
      refine v_iconst hC (v := (nI 0)) dL_scene_251 (by decide) rfl ?_
      refine v_iconst hC (v := (nI 0)) dL_scene_252 (by decide) rfl ?_
      refine v_iconst hC (v := (nI 0)) dL_scene_253 (by decide) rfl ?_
      refine l_callF hC hX (n := 5) (As := [.ref B.1, .int (nI 10), .int (nI 0), .int (nI 0), .int (nI 0)]) (st := []) (fun w => WO cy A ((fUn S).2) H1 ++ w) (fun sz => mC_Undo l hX.1 g cy tt sa sz B (nI 0) (nI 0) (nI 0) hJ (by omega)) (WR.appR (WR.full rfl)) (fun w9 h9 => WR.appR (WR.full (WP_fst h9))) (goodIn_w gM_call) rfl rfl rfl (by decide +kernel) ⟨Nat.le_of_ble_eq_true rfl, Nat.le_of_ble_eq_true rfl⟩ rfl (Nat.le_of_ble_eq_true rfl) rfl ⟨by show _ + 1 ≤ 31; omega, by show _ + 6 ≤ 186; omega⟩ dL_scene_254 rfl (fun w9 h9 => ?_)
      obtain ⟨H4, hI5, rfl⟩ := h9
      refine v_eqw (ws' := WO cy A ((fUn S).2) H1 ++ WO cy B ((fUn U).2) H4) rfl ?_
      obtain ⟨v6, hv6, h⟩ := bind_g h
      refine l_callN hC (n := 1) (As := [.int ((fUn U).1)]) (st := []) (mL_thrown l g cy ((fUn U).1) hv6) (goodIn_w gM_thrown) rfl rfl rfl (by decide +kernel) ⟨Nat.le_of_ble_eq_true rfl, Nat.le_of_ble_eq_true rfl⟩ rfl (Nat.le_of_ble_eq_true rfl) rfl ⟨by show _ + 0 ≤ 31; omega, by show _ + 0 ≤ 186; omega⟩ dL_scene_257 rfl ?_
      refine v_if_ne hC (tgt := 290) dL_scene_260 (by decide) rfl (fun c => ?_) (fun c => ?_)
      · have h := ite_f c h
        exact v_sub [] (lv' := []) rfl (bL_scene_290 hC hr hX hT9 hU9  _ _ _ _ _ _ _ _ hI2 hI5 (by omega) (by omega) (by omega) (by omega) h)
      · have h := ite_t c h
        refine v_aload_n hC dL_scene_263 rfl 1 rfl rfl ?_
        obtain ⟨v7, hv7, h⟩ := bind_g h
        refine l_callF hC hX (n := 1) (As := [.ref A.1]) (st := []) (fun w => w ++ WO cy B ((fUn U).2) H4) (fun sz => mL_spent l hX.1 g cy tt sa sz A  hI2 (by omega) hv7) (WR.appL (WR.full rfl)) (fun w9 h9 => WR.appL (WR.full (WP_fst h9))) (goodIn_w gM_spent) rfl rfl rfl (by decide +kernel) ⟨Nat.le_of_ble_eq_true rfl, Nat.le_of_ble_eq_true rfl⟩ rfl (Nat.le_of_ble_eq_true rfl) rfl ⟨by show _ + 2 ≤ 31; omega, by show _ + 12 ≤ 186; omega⟩ dL_scene_264 rfl (fun w9 h9 => ?_)
        obtain ⟨H8, hI9, rfl⟩ := h9
        refine v_eqw (ws' := WO cy A ((fUn S).2) H8 ++ WO cy B ((fUn U).2) H4) rfl ?_
        refine v_iload hC dL_scene_267 5 rfl rfl ?_
        refine v_icmp_ne hC (tgt := 290) dL_scene_269 (by decide) rfl (fun c => ?_) (fun c => ?_)
        · have h := ite_f c h
          exact v_sub [] (lv' := []) rfl (bL_scene_290 hC hr hX hT9 hU9  _ _ _ _ _ _ _ _ hI9 hI5 (by omega) (by omega) (by omega) (by omega) h)
        · have h := ite_t c h
          refine v_aload_n hC dL_scene_272 rfl 1 rfl rfl ?_
          refine v_bipush hC (v := (nI 11)) dL_scene_273 (by decide) rfl ?_
          refine v_iload_n hC dL_scene_275 rfl 3 rfl rfl ?_
          refine v_iconst hC (v := (nI 0)) dL_scene_276 (by decide) rfl ?_
          refine v_iconst hC (v := (nI 0)) dL_scene_277 (by decide) rfl ?_
          refine l_callF hC hX (n := 5) (As := [.ref A.1, .int (nI 11), .int y3, .int (nI 0), .int (nI 0)]) (st := []) (fun w => w ++ WO cy B ((fUn U).2) H4) (fun sz => mC_Would l hX.1 g cy tt sa sz A y3 (nI 0) (nI 0) hI9 (by omega)) (WR.appL (WR.full rfl)) (fun w9 h9 => WR.appL (WR.full (WP_fst h9))) (goodIn_w gM_call) rfl rfl rfl (by decide +kernel) ⟨Nat.le_of_ble_eq_true rfl, Nat.le_of_ble_eq_true rfl⟩ rfl (Nat.le_of_ble_eq_true rfl) rfl ⟨by show _ + 2 ≤ 31; omega, by show _ + 12 ≤ 186; omega⟩ dL_scene_278 rfl (fun w9 h9 => ?_)
          obtain ⟨H10, hI11, rfl⟩ := h9
          refine v_eqw (ws' := WO cy A ((fUn S).2) H10 ++ WO cy B ((fUn U).2) H4) rfl ?_
          refine v_iload hC dL_scene_281 4 rfl rfl ?_
          refine v_icmp_ne hC (tgt := 290) dL_scene_283 (by decide) rfl (fun c => ?_) (fun c => ?_)
          · have h := ite_f c h
            exact v_sub [] (lv' := []) rfl (bL_scene_290 hC hr hX hT9 hU9  _ _ _ _ _ _ _ _ hI11 hI5 (by omega) (by omega) (by omega) (by omega) h)
          · have h := ite_t c h
            refine v_iconst hC (v := (nI 1)) dL_scene_286 (by decide) rfl ?_
            refine v_goto hC (tgt := 291) dL_scene_287 (by decide) ?_
            exact v_sub [] (lv' := []) rfl (bL_scene_291 hC hr hX hT9 hU9  _ _ _ _ _ _ _ _ _ hI11 hI5 (by omega) (by omega) (by omega) (by omega) h)
set_option maxHeartbeats 4000000 in
set_option maxRecDepth 100000 in
theorem bL_scene_225 {p : Program} {l : Launch} {e : Env} {s : State} {m : MethodId} {args : Array Value} {below : List Frame} {meth : Method} {c9 : Code} {g : va_G} {cy : Nat → ClassId} {tt sa : Nat → Nat} {A9 : Nat → Prop} (hC : CX p s m args meth c9 g cy 11 cL_scene wsM_scene RL) (hr : meth.sig.returnType = some .boolean) (hX : XL l s tt sa A9) {A B : AA} {T T2 : Nat} (hT9 : T < 8000) (hU9 : T2 < 8000) {res : Int32 × SS × SS} : ∀  (S : SS) (U : SS) (y3 : Int32) (y4 : Int32) (y7 : Int32) (H : HH) (I : HH) (t u cells slots : Nat) (hI : RP t S H) (hJ : RP u U I) (ht : t + 1 ≤ T) (hu : u + 1 ≤ T2) (hc : cells + 6 ≤ 31) (hs : slots + 6 * 6 ≤ 186) (h : pL_scene_225   S U y3 y4 y7 = some res), V p l e (headSpec wsM_scene rmL_scene).room s m args below meth c9 g 11 cells slots (MQ below (QE g A9 res.1 (WP2 cy A B T res.2.1 T2 res.2.2)) args s 31 186 A9) A9 A9 (WO cy A S H ++ WO cy B U I) 225 [(0, .ref A.1), (1, .ref B.1), (3, .int y3), (4, .int y4), (7, .int y7)] [] := by
  intro  S U y3 y4 y7 H I t u cells slots hI hJ ht hu hc hs h
  unfold pL_scene_225 at h
  refine v_iconst hC (v := (nI 0)) dL_scene_225 (by decide) rfl ?_
  exact bL_scene_226 hC hr hX hT9 hU9  _ _ _ _ _ _ _ _ _ _ _ _ hI hJ (by omega) (by omega) (by omega) (by omega) h
set_option maxHeartbeats 4000000 in
set_option maxRecDepth 100000 in
theorem mL_scene (l : Launch) (hlst : l.stackTraces = false) (g : va_G) (cy : Nat → ClassId) (tt sa : Nat → Nat) (sz : Nat) (A B : AA) {t u : Nat} {S U : SS} {H I : HH} (x2 : Int32) (hI : RP t S H) (hJ : RP u U I) (ht9 : (t + 3) < 8000) (hu9 : (u + 2) < 8000) {res : Int32 × SS × SS} (h : pL_scene  S U x2 = some res) : Met l yL_scene wsM_scene rmL_scene (PN [.ref A.1, .ref B.1, .int x2] g cy tt sa sz (WO cy A S H ++ WO cy B U I)) (QE g (va_A (WO cy A S H ++ WO cy B U I) sz) res.1 (WP2 cy A B (t + 3) res.2.1 (u + 2) res.2.2)) 31 186 (va_A (WO cy A S H ++ WO cy B U I) sz) := by
  obtain ⟨T, hTe⟩ : ∃ T, T = (t + 3) := ⟨_, rfl⟩
  have hT9 : T < 8000 := by omega
  have ht : t + 3 ≤ T := by omega
  rw [← hTe]
  obtain ⟨T2, hUe⟩ : ∃ T2, T2 = (u + 2) := ⟨_, rfl⟩
  have hU9 : T2 < 8000 := by omega
  have hu : u + 2 ≤ T2 := by omega
  rw [← hUe]
  refine m_ofVN (cc := cL_scene) (nL := 11) (ret := some .boolean) hlst RL rfl (by decide) rfl [(0, .ref A.1), (1, .ref B.1), (2, .int x2)] rfl (Nat.le_of_ble_eq_true rfl) ?_
  intro p e s m args below meth c9 hC hr hX
  generalize (va_A (WO cy A S H ++ WO cy B U I) sz) = A9 at hX ⊢
  obtain ⟨cells, hce⟩ : ∃ cells, cells = 0 := ⟨_, rfl⟩
  obtain ⟨slots, hse⟩ : ∃ slots, slots = 0 := ⟨_, rfl⟩
  have hc : cells + 31 ≤ 31 := by omega
  have hs : slots + 6 * 31 ≤ 186 := by omega
  refine v_widen (k := cells) (n := slots) (by omega) (by omega) ?_
  unfold pL_scene at h
  refine v_iload_n hC dL_scene_0 rfl 2 rfl rfl ?_
  refine v_aload_n hC dL_scene_1 rfl 0 rfl rfl ?_
  refine v_iconst hC (v := (nI 2)) dL_scene_2 (by decide) rfl ?_
  refine v_iconst hC (v := (nI 1)) dL_scene_3 (by decide) rfl ?_
  refine v_iconst hC (v := (nI 0)) dL_scene_4 (by decide) rfl ?_
  refine v_iconst hC (v := (nI 0)) dL_scene_5 (by decide) rfl ?_
  refine l_callF hC hX (n := 5) (As := [.ref A.1, .int (nI 2), .int (nI 1), .int (nI 0), .int (nI 0)]) (st := [.int x2]) (fun w => w ++ WO cy B U I) (fun sz => mC_About l hX.1 g cy tt sa sz A (nI 1) (nI 0) (nI 0) hI (by omega)) (WR.appL (WR.full rfl)) (fun w9 h9 => WR.appL (WR.full (WP_fst h9))) (goodIn_w gM_call) rfl rfl rfl (by decide +kernel) ⟨Nat.le_of_ble_eq_true rfl, Nat.le_of_ble_eq_true rfl⟩ rfl (Nat.le_of_ble_eq_true rfl) rfl ⟨by show _ + 1 ≤ 31; omega, by show _ + 6 ≤ 186; omega⟩ dL_scene_6 rfl (fun w9 h9 => ?_)
  obtain ⟨H1, hI2, rfl⟩ := h9
  refine v_eqw (ws' := WO cy A S H1 ++ WO cy B U I) rfl ?_
  obtain ⟨hn, h⟩ := ite_g h
  refine v_irem hC dL_scene_9 hn rfl ?_
  refine v_istore_n hC dL_scene_10 rfl (by decide) [(3, .int (x2 - x2 / (aAb S.1 (nI 1)) * (aAb S.1 (nI 1)))), (0, .ref A.1), (1, .ref B.1), (2, .int x2)] rfl rfl ?_
  refine v_aload_n hC dL_scene_11 rfl 1 rfl rfl ?_
  refine v_bipush hC (v := (nI 11)) dL_scene_12 (by decide) rfl ?_
  refine v_iload_n hC dL_scene_14 rfl 0 rfl rfl ?_
  refine v_iconst hC (v := (nI 0)) dL_scene_15 (by decide) rfl ?_
  refine v_iconst hC (v := (nI 0)) dL_scene_16 (by decide) rfl ?_
  refine l_callF hC hX (n := 5) (As := [.ref A.1, .int (nI 11), .int (x2 - x2 / (aAb S.1 (nI 1)) * (aAb S.1 (nI 1))), .int (nI 0), .int (nI 0)]) (st := []) (fun w => w ++ WO cy B U I) (fun sz => mC_Would l hX.1 g cy tt sa sz A (x2 - x2 / (aAb S.1 (nI 1)) * (aAb S.1 (nI 1))) (nI 0) (nI 0) hI2 (by omega)) (WR.appL (WR.full rfl)) (fun w9 h9 => WR.appL (WR.full (WP_fst h9))) (goodIn_w gM_call) rfl rfl rfl (by decide +kernel) ⟨Nat.le_of_ble_eq_true rfl, Nat.le_of_ble_eq_true rfl⟩ rfl (Nat.le_of_ble_eq_true rfl) rfl ⟨by show _ + 2 ≤ 31; omega, by show _ + 12 ≤ 186; omega⟩ dL_scene_17 rfl (fun w9 h9 => ?_)
  obtain ⟨H3, hI4, rfl⟩ := h9
  refine v_eqw (ws' := WO cy A S H3 ++ WO cy B U I) rfl ?_
  refine v_istore hC dL_scene_20 (by decide) [(4, .int (aWo S.1 (x2 - x2 / (aAb S.1 (nI 1)) * (aAb S.1 (nI 1))) (nI 0))), (3, .int (x2 - x2 / (aAb S.1 (nI 1)) * (aAb S.1 (nI 1)))), (0, .ref A.1), (1, .ref B.1), (2, .int x2)] rfl rfl ?_
  refine v_iload hC dL_scene_22 0 rfl rfl ?_
  refine v_iconst hC (v := (-1)) dL_scene_24 (by decide) rfl ?_
  refine v_icmp_ne hC (tgt := 62) dL_scene_25 (by decide) rfl (fun c => ?_) (fun c => ?_)
  · have h := ite_f c h
    refine v_aload_n hC dL_scene_62 rfl 2 rfl rfl ?_
    refine v_bipush hC (v := (nI 11)) dL_scene_63 (by decide) rfl ?_
    refine v_iload_n hC dL_scene_65 rfl 1 rfl rfl ?_
    refine v_iconst hC (v := (nI 1)) dL_scene_66 (by decide) rfl ?_
    refine v_iconst hC (v := (nI 0)) dL_scene_67 (by decide) rfl ?_
    refine l_callF hC hX (n := 5) (As := [.ref A.1, .int (nI 11), .int (x2 - x2 / (aAb S.1 (nI 1)) * (aAb S.1 (nI 1))), .int (nI 1), .int (nI 0)]) (st := []) (fun w => w ++ WO cy B U I) (fun sz => mC_Would l hX.1 g cy tt sa sz A (x2 - x2 / (aAb S.1 (nI 1)) * (aAb S.1 (nI 1))) (nI 1) (nI 0) hI4 (by omega)) (WR.appL (WR.full rfl)) (fun w9 h9 => WR.appL (WR.full (WP_fst h9))) (goodIn_w gM_call) rfl rfl rfl (by decide +kernel) ⟨Nat.le_of_ble_eq_true rfl, Nat.le_of_ble_eq_true rfl⟩ rfl (Nat.le_of_ble_eq_true rfl) rfl ⟨by show _ + 2 ≤ 31; omega, by show _ + 12 ≤ 186; omega⟩ dL_scene_68 rfl (fun w9 h9 => ?_)
    obtain ⟨H5, hI6, rfl⟩ := h9
    refine v_eqw (ws' := WO cy A S H5 ++ WO cy B U I) rfl ?_
    refine v_aload_n hC dL_scene_71 rfl 2 rfl rfl ?_
    refine v_bipush hC (v := (nI 11)) dL_scene_72 (by decide) rfl ?_
    refine v_iload_n hC dL_scene_74 rfl 1 rfl rfl ?_
    refine v_iconst hC (v := (nI 2)) dL_scene_75 (by decide) rfl ?_
    refine v_iconst hC (v := (nI 0)) dL_scene_76 (by decide) rfl ?_
    refine l_callF hC hX (n := 5) (As := [.ref A.1, .int (nI 11), .int (x2 - x2 / (aAb S.1 (nI 1)) * (aAb S.1 (nI 1))), .int (nI 2), .int (nI 0)]) (st := [.int (aWo S.1 (x2 - x2 / (aAb S.1 (nI 1)) * (aAb S.1 (nI 1))) (nI 1))]) (fun w => w ++ WO cy B U I) (fun sz => mC_Would l hX.1 g cy tt sa sz A (x2 - x2 / (aAb S.1 (nI 1)) * (aAb S.1 (nI 1))) (nI 2) (nI 0) hI6 (by omega)) (WR.appL (WR.full rfl)) (fun w9 h9 => WR.appL (WR.full (WP_fst h9))) (goodIn_w gM_call) rfl rfl rfl (by decide +kernel) ⟨Nat.le_of_ble_eq_true rfl, Nat.le_of_ble_eq_true rfl⟩ rfl (Nat.le_of_ble_eq_true rfl) rfl ⟨by show _ + 2 ≤ 31; omega, by show _ + 12 ≤ 186; omega⟩ dL_scene_77 rfl (fun w9 h9 => ?_)
    obtain ⟨H7, hI8, rfl⟩ := h9
    refine v_eqw (ws' := WO cy A S H7 ++ WO cy B U I) rfl ?_
    refine v_iadd hC dL_scene_80 rfl ?_
    refine v_istore hC dL_scene_81 (by decide) [(5, .int ((aWo S.1 (x2 - x2 / (aAb S.1 (nI 1)) * (aAb S.1 (nI 1))) (nI 1)) + (aWo S.1 (x2 - x2 / (aAb S.1 (nI 1)) * (aAb S.1 (nI 1))) (nI 2)))), (4, .int (aWo S.1 (x2 - x2 / (aAb S.1 (nI 1)) * (aAb S.1 (nI 1))) (nI 0))), (3, .int (x2 - x2 / (aAb S.1 (nI 1)) * (aAb S.1 (nI 1)))), (0, .ref A.1), (1, .ref B.1), (2, .int x2)] rfl rfl ?_
    refine v_aload_n hC dL_scene_83 rfl 3 rfl rfl ?_
    refine v_bipush hC (v := (nI 11)) dL_scene_84 (by decide) rfl ?_
    refine v_iload_n hC dL_scene_86 rfl 2 rfl rfl ?_
    refine v_iconst hC (v := (nI 3)) dL_scene_87 (by decide) rfl ?_
    refine v_iconst hC (v := (nI 0)) dL_scene_88 (by decide) rfl ?_
    refine l_callF hC hX (n := 5) (As := [.ref A.1, .int (nI 11), .int (x2 - x2 / (aAb S.1 (nI 1)) * (aAb S.1 (nI 1))), .int (nI 3), .int (nI 0)]) (st := []) (fun w => w ++ WO cy B U I) (fun sz => mC_Would l hX.1 g cy tt sa sz A (x2 - x2 / (aAb S.1 (nI 1)) * (aAb S.1 (nI 1))) (nI 3) (nI 0) hI8 (by omega)) (WR.appL (WR.full rfl)) (fun w9 h9 => WR.appL (WR.full (WP_fst h9))) (goodIn_w gM_call) rfl rfl rfl (by decide +kernel) ⟨Nat.le_of_ble_eq_true rfl, Nat.le_of_ble_eq_true rfl⟩ rfl (Nat.le_of_ble_eq_true rfl) rfl ⟨by show _ + 2 ≤ 31; omega, by show _ + 12 ≤ 186; omega⟩ dL_scene_89 rfl (fun w9 h9 => ?_)
    obtain ⟨H9, hI10, rfl⟩ := h9
    refine v_eqw (ws' := WO cy A S H9 ++ WO cy B U I) rfl ?_
    refine v_istore hC dL_scene_92 (by decide) [(6, .int (aWo S.1 (x2 - x2 / (aAb S.1 (nI 1)) * (aAb S.1 (nI 1))) (nI 3))), (5, .int ((aWo S.1 (x2 - x2 / (aAb S.1 (nI 1)) * (aAb S.1 (nI 1))) (nI 1)) + (aWo S.1 (x2 - x2 / (aAb S.1 (nI 1)) * (aAb S.1 (nI 1))) (nI 2)))), (4, .int (aWo S.1 (x2 - x2 / (aAb S.1 (nI 1)) * (aAb S.1 (nI 1))) (nI 0))), (3, .int (x2 - x2 / (aAb S.1 (nI 1)) * (aAb S.1 (nI 1)))), (0, .ref A.1), (1, .ref B.1), (2, .int x2)] rfl rfl ?_
    refine v_aload_n hC dL_scene_94 rfl 4 rfl rfl ?_
    obtain ⟨v11, hv11, h⟩ := bind_g h
    refine l_callF hC hX (n := 1) (As := [.ref A.1]) (st := []) (fun w => w ++ WO cy B U I) (fun sz => mL_spent l hX.1 g cy tt sa sz A  hI10 (by omega) hv11) (WR.appL (WR.full rfl)) (fun w9 h9 => WR.appL (WR.full (WP_fst h9))) (goodIn_w gM_spent) rfl rfl rfl (by decide +kernel) ⟨Nat.le_of_ble_eq_true rfl, Nat.le_of_ble_eq_true rfl⟩ rfl (Nat.le_of_ble_eq_true rfl) rfl ⟨by show _ + 2 ≤ 31; omega, by show _ + 12 ≤ 186; omega⟩ dL_scene_95 rfl (fun w9 h9 => ?_)
    obtain ⟨H12, hI13, rfl⟩ := h9
    refine v_eqw (ws' := WO cy A S H12 ++ WO cy B U I) rfl ?_
    refine v_istore hC dL_scene_98 (by decide) [(7, .int v11), (6, .int (aWo S.1 (x2 - x2 / (aAb S.1 (nI 1)) * (aAb S.1 (nI 1))) (nI 3))), (5, .int ((aWo S.1 (x2 - x2 / (aAb S.1 (nI 1)) * (aAb S.1 (nI 1))) (nI 1)) + (aWo S.1 (x2 - x2 / (aAb S.1 (nI 1)) * (aAb S.1 (nI 1))) (nI 2)))), (4, .int (aWo S.1 (x2 - x2 / (aAb S.1 (nI 1)) * (aAb S.1 (nI 1))) (nI 0))), (3, .int (x2 - x2 / (aAb S.1 (nI 1)) * (aAb S.1 (nI 1)))), (0, .ref A.1), (1, .ref B.1), (2, .int x2)] rfl rfl ?_
    refine v_aload_n hC dL_scene_100 rfl 5 rfl rfl ?_
    refine v_iconst hC (v := (nI 2)) dL_scene_101 (by decide) rfl ?_
    refine v_bipush hC (v := (nI 7)) dL_scene_102 (by decide) rfl ?_
    refine v_iconst hC (v := (nI 0)) dL_scene_104 (by decide) rfl ?_
    refine v_iconst hC (v := (nI 0)) dL_scene_105 (by decide) rfl ?_
    refine l_callF hC hX (n := 5) (As := [.ref A.1, .int (nI 2), .int (nI 7), .int (nI 0), .int (nI 0)]) (st := []) (fun w => w ++ WO cy B U I) (fun sz => mC_About l hX.1 g cy tt sa sz A (nI 7) (nI 0) (nI 0) hI13 (by omega)) (WR.appL (WR.full rfl)) (fun w9 h9 => WR.appL (WR.full (WP_fst h9))) (goodIn_w gM_call) rfl rfl rfl (by decide +kernel) ⟨Nat.le_of_ble_eq_true rfl, Nat.le_of_ble_eq_true rfl⟩ rfl (Nat.le_of_ble_eq_true rfl) rfl ⟨by show _ + 1 ≤ 31; omega, by show _ + 6 ≤ 186; omega⟩ dL_scene_106 rfl (fun w9 h9 => ?_)
    obtain ⟨H14, hI15, rfl⟩ := h9
    refine v_eqw (ws' := WO cy A S H14 ++ WO cy B U I) rfl ?_
    refine v_istore hC dL_scene_109 (by decide) [(8, .int (aAb S.1 (nI 7))), (7, .int v11), (6, .int (aWo S.1 (x2 - x2 / (aAb S.1 (nI 1)) * (aAb S.1 (nI 1))) (nI 3))), (5, .int ((aWo S.1 (x2 - x2 / (aAb S.1 (nI 1)) * (aAb S.1 (nI 1))) (nI 1)) + (aWo S.1 (x2 - x2 / (aAb S.1 (nI 1)) * (aAb S.1 (nI 1))) (nI 2)))), (4, .int (aWo S.1 (x2 - x2 / (aAb S.1 (nI 1)) * (aAb S.1 (nI 1))) (nI 0))), (3, .int (x2 - x2 / (aAb S.1 (nI 1)) * (aAb S.1 (nI 1)))), (0, .ref A.1), (1, .ref B.1), (2, .int x2)] rfl rfl ?_
    refine v_aload_n hC dL_scene_111 rfl 6 rfl rfl ?_
    refine v_iconst hC (v := (nI 2)) dL_scene_112 (by decide) rfl ?_
    refine v_iconst hC (v := (nI 2)) dL_scene_113 (by decide) rfl ?_
    refine v_iconst hC (v := (nI 0)) dL_scene_114 (by decide) rfl ?_
    refine v_iconst hC (v := (nI 0)) dL_scene_115 (by decide) rfl ?_
    refine l_callF hC hX (n := 5) (As := [.ref A.1, .int (nI 2), .int (nI 2), .int (nI 0), .int (nI 0)]) (st := []) (fun w => w ++ WO cy B U I) (fun sz => mC_About l hX.1 g cy tt sa sz A (nI 2) (nI 0) (nI 0) hI15 (by omega)) (WR.appL (WR.full rfl)) (fun w9 h9 => WR.appL (WR.full (WP_fst h9))) (goodIn_w gM_call) rfl rfl rfl (by decide +kernel) ⟨Nat.le_of_ble_eq_true rfl, Nat.le_of_ble_eq_true rfl⟩ rfl (Nat.le_of_ble_eq_true rfl) rfl ⟨by show _ + 1 ≤ 31; omega, by show _ + 6 ≤ 186; omega⟩ dL_scene_116 rfl (fun w9 h9 => ?_)
    obtain ⟨H16, hI17, rfl⟩ := h9
    refine v_eqw (ws' := WO cy A S H16 ++ WO cy B U I) rfl ?_
    refine v_istore hC dL_scene_119 (by decide) [(9, .int (aAb S.1 (nI 2))), (8, .int (aAb S.1 (nI 7))), (7, .int v11), (6, .int (aWo S.1 (x2 - x2 / (aAb S.1 (nI 1)) * (aAb S.1 (nI 1))) (nI 3))), (5, .int ((aWo S.1 (x2 - x2 / (aAb S.1 (nI 1)) * (aAb S.1 (nI 1))) (nI 1)) + (aWo S.1 (x2 - x2 / (aAb S.1 (nI 1)) * (aAb S.1 (nI 1))) (nI 2)))), (4, .int (aWo S.1 (x2 - x2 / (aAb S.1 (nI 1)) * (aAb S.1 (nI 1))) (nI 0))), (3, .int (x2 - x2 / (aAb S.1 (nI 1)) * (aAb S.1 (nI 1)))), (0, .ref A.1), (1, .ref B.1), (2, .int x2)] rfl rfl ?_
    refine v_aload_n hC dL_scene_121 rfl 7 rfl rfl ?_
    refine v_bipush hC (v := (nI 7)) dL_scene_122 (by decide) rfl ?_
    refine v_iload_n hC dL_scene_124 rfl 6 rfl rfl ?_
    refine v_iconst hC (v := (nI 0)) dL_scene_125 (by decide) rfl ?_
    refine v_iconst hC (v := (nI 0)) dL_scene_126 (by decide) rfl ?_
    refine l_callF hC hX (n := 5) (As := [.ref A.1, .int (nI 7), .int (x2 - x2 / (aAb S.1 (nI 1)) * (aAb S.1 (nI 1))), .int (nI 0), .int (nI 0)]) (st := []) (fun w => w ++ WO cy B U I) (fun sz => mC_Shoot l hX.1 g cy tt sa sz A (x2 - x2 / (aAb S.1 (nI 1)) * (aAb S.1 (nI 1))) (nI 0) (nI 0) hI17 (by omega)) (WR.appL (WR.full rfl)) (fun w9 h9 => WR.appL (WR.full (WP_fst h9))) (goodIn_w gM_call) rfl rfl rfl (by decide +kernel) ⟨Nat.le_of_ble_eq_true rfl, Nat.le_of_ble_eq_true rfl⟩ rfl (Nat.le_of_ble_eq_true rfl) rfl ⟨by show _ + 2 ≤ 31; omega, by show _ + 12 ≤ 186; omega⟩ dL_scene_127 rfl (fun w9 h9 => ?_)
    obtain ⟨H18, hI19, rfl⟩ := h9
    refine v_eqw (ws' := WO cy A ((fSh S (x2 - x2 / (aAb S.1 (nI 1)) * (aAb S.1 (nI 1)))).2) H18 ++ WO cy B U I) rfl ?_
    refine v_iload hC dL_scene_130 5 rfl rfl ?_
    refine v_icmp_ne hC (tgt := 225) dL_scene_132 (by decide) rfl (fun c => ?_) (fun c => ?_)
    · have h := ite_f c h
      exact v_sub [7, 8, 6, 5, 2] (lv' := [(0, .ref A.1), (1, .ref B.1), (3, .int (x2 - x2 / (aAb S.1 (nI 1)) * (aAb S.1 (nI 1)))), (4, .int (aWo S.1 (x2 - x2 / (aAb S.1 (nI 1)) * (aAb S.1 (nI 1))) (nI 0))), (7, .int v11)]) rfl (bL_scene_225 hC hr hX hT9 hU9  _ _ _ _ _ _ _ _ _ _ _ hI19 hJ (by omega) (by omega) (by omega) (by omega) h)
    · have h := ite_t c h
      refine v_aload_n hC dL_scene_135 rfl 8 rfl rfl ?_
      refine v_bipush hC (v := (nI 7)) dL_scene_136 (by decide) rfl ?_
      refine v_iload_n hC dL_scene_138 rfl 6 rfl rfl ?_
      refine v_iconst hC (v := (nI 0)) dL_scene_139 (by decide) rfl ?_
      refine v_iconst hC (v := (nI 0)) dL_scene_140 (by decide) rfl ?_
      refine l_callF hC hX (n := 5) (As := [.ref B.1, .int (nI 7), .int (x2 - x2 / (aAb S.1 (nI 1)) * (aAb S.1 (nI 1))), .int (nI 0), .int (nI 0)]) (st := []) (fun w => WO cy A ((fSh S (x2 - x2 / (aAb S.1 (nI 1)) * (aAb S.1 (nI 1)))).2) H18 ++ w) (fun sz => mC_Shoot l hX.1 g cy tt sa sz B (x2 - x2 / (aAb S.1 (nI 1)) * (aAb S.1 (nI 1))) (nI 0) (nI 0) hJ (by omega)) (WR.appR (WR.full rfl)) (fun w9 h9 => WR.appR (WR.full (WP_fst h9))) (goodIn_w gM_call) rfl rfl rfl (by decide +kernel) ⟨Nat.le_of_ble_eq_true rfl, Nat.le_of_ble_eq_true rfl⟩ rfl (Nat.le_of_ble_eq_true rfl) rfl ⟨by show _ + 2 ≤ 31; omega, by show _ + 12 ≤ 186; omega⟩ dL_scene_141 rfl (fun w9 h9 => ?_)
      obtain ⟨H20, hI21, rfl⟩ := h9
      refine v_eqw (ws' := WO cy A ((fSh S (x2 - x2 / (aAb S.1 (nI 1)) * (aAb S.1 (nI 1)))).2) H18 ++ WO cy B ((fSh U (x2 - x2 / (aAb S.1 (nI 1)) * (aAb S.1 (nI 1)))).2) H20) rfl ?_
      refine v_iload hC dL_scene_144 5 rfl rfl ?_
      refine v_icmp_ne hC (tgt := 225) dL_scene_146 (by decide) rfl (fun c => ?_) (fun c => ?_)
      · have h := ite_f c h
        exact v_sub [7, 8, 6, 5, 2] (lv' := [(0, .ref A.1), (1, .ref B.1), (3, .int (x2 - x2 / (aAb S.1 (nI 1)) * (aAb S.1 (nI 1)))), (4, .int (aWo S.1 (x2 - x2 / (aAb S.1 (nI 1)) * (aAb S.1 (nI 1))) (nI 0))), (7, .int v11)]) rfl (bL_scene_225 hC hr hX hT9 hU9  _ _ _ _ _ _ _ _ _ _ _ hI19 hI21 (by omega) (by omega) (by omega) (by omega) h)
      · have h := ite_t c h
        refine v_aload_n hC dL_scene_149 rfl 7 rfl rfl ?_
        obtain ⟨v22, hv22, h⟩ := bind_g h
        refine l_callF hC hX (n := 1) (As := [.ref A.1]) (st := []) (fun w => w ++ WO cy B ((fSh U (x2 - x2 / (aAb S.1 (nI 1)) * (aAb S.1 (nI 1)))).2) H20) (fun sz => mL_spent l hX.1 g cy tt sa sz A  hI19 (by omega) hv22) (WR.appL (WR.full rfl)) (fun w9 h9 => WR.appL (WR.full (WP_fst h9))) (goodIn_w gM_spent) rfl rfl rfl (by decide +kernel) ⟨Nat.le_of_ble_eq_true rfl, Nat.le_of_ble_eq_true rfl⟩ rfl (Nat.le_of_ble_eq_true rfl) rfl ⟨by show _ + 2 ≤ 31; omega, by show _ + 12 ≤ 186; omega⟩ dL_scene_150 rfl (fun w9 h9 => ?_)
        obtain ⟨H23, hI24, rfl⟩ := h9
        refine v_eqw (ws' := WO cy A ((fSh S (x2 - x2 / (aAb S.1 (nI 1)) * (aAb S.1 (nI 1)))).2) H23 ++ WO cy B ((fSh U (x2 - x2 / (aAb S.1 (nI 1)) * (aAb S.1 (nI 1)))).2) H20) rfl ?_
        refine v_iload hC dL_scene_153 2 rfl rfl ?_
        refine v_iload hC dL_scene_155 4 rfl rfl ?_
        refine v_iadd hC dL_scene_157 rfl ?_
        refine v_icmp_ne hC (tgt := 225) dL_scene_158 (by decide) rfl (fun c => ?_) (fun c => ?_)
        · have h := ite_f c h
          exact v_sub [7, 8, 6, 5, 2] (lv' := [(0, .ref A.1), (1, .ref B.1), (3, .int (x2 - x2 / (aAb S.1 (nI 1)) * (aAb S.1 (nI 1)))), (4, .int (aWo S.1 (x2 - x2 / (aAb S.1 (nI 1)) * (aAb S.1 (nI 1))) (nI 0))), (7, .int v11)]) rfl (bL_scene_225 hC hr hX hT9 hU9  _ _ _ _ _ _ _ _ _ _ _ hI24 hI21 (by omega) (by omega) (by omega) (by omega) h)
        · have h := ite_t c h
          refine v_aload_n hC dL_scene_161 rfl 7 rfl rfl ?_
          refine v_iconst hC (v := (nI 2)) dL_scene_162 (by decide) rfl ?_
          refine v_bipush hC (v := (nI 7)) dL_scene_163 (by decide) rfl ?_
          refine v_iconst hC (v := (nI 0)) dL_scene_165 (by decide) rfl ?_
          refine v_iconst hC (v := (nI 0)) dL_scene_166 (by decide) rfl ?_
          refine l_callF hC hX (n := 5) (As := [.ref A.1, .int (nI 2), .int (nI 7), .int (nI 0), .int (nI 0)]) (st := []) (fun w => w ++ WO cy B ((fSh U (x2 - x2 / (aAb S.1 (nI 1)) * (aAb S.1 (nI 1)))).2) H20) (fun sz => mC_About l hX.1 g cy tt sa sz A (nI 7) (nI 0) (nI 0) hI24 (by omega)) (WR.appL (WR.full rfl)) (fun w9 h9 => WR.appL (WR.full (WP_fst h9))) (goodIn_w gM_call) rfl rfl rfl (by decide +kernel) ⟨Nat.le_of_ble_eq_true rfl, Nat.le_of_ble_eq_true rfl⟩ rfl (Nat.le_of_ble_eq_true rfl) rfl ⟨by show _ + 1 ≤ 31; omega, by show _ + 6 ≤ 186; omega⟩ dL_scene_167 rfl (fun w9 h9 => ?_)
          obtain ⟨H25, hI26, rfl⟩ := h9
          refine v_eqw (ws' := WO cy A ((fSh S (x2 - x2 / (aAb S.1 (nI 1)) * (aAb S.1 (nI 1)))).2) H25 ++ WO cy B ((fSh U (x2 - x2 / (aAb S.1 (nI 1)) * (aAb S.1 (nI 1)))).2) H20) rfl ?_
          refine v_iload hC dL_scene_170 1 rfl rfl ?_
          refine v_iload hC dL_scene_172 3 rfl rfl ?_
          refine v_iadd hC dL_scene_174 rfl ?_
          refine v_icmp_ne hC (tgt := 225) dL_scene_175 (by decide) rfl (fun c => ?_) (fun c => ?_)
          · have h := ite_f c h
            exact v_sub [7, 8, 6, 5, 2] (lv' := [(0, .ref A.1), (1, .ref B.1), (3, .int (x2 - x2 / (aAb S.1 (nI 1)) * (aAb S.1 (nI 1)))), (4, .int (aWo S.1 (x2 - x2 / (aAb S.1 (nI 1)) * (aAb S.1 (nI 1))) (nI 0))), (7, .int v11)]) rfl (bL_scene_225 hC hr hX hT9 hU9  _ _ _ _ _ _ _ _ _ _ _ hI26 hI21 (by omega) (by omega) (by omega) (by omega) h)
          · have h := ite_t c h
            refine v_aload_n hC dL_scene_178 rfl 7 rfl rfl ?_
            refine v_iconst hC (v := (nI 2)) dL_scene_179 (by decide) rfl ?_
            refine v_iconst hC (v := (nI 2)) dL_scene_180 (by decide) rfl ?_
            refine v_iconst hC (v := (nI 0)) dL_scene_181 (by decide) rfl ?_
            refine v_iconst hC (v := (nI 0)) dL_scene_182 (by decide) rfl ?_
            refine l_callF hC hX (n := 5) (As := [.ref A.1, .int (nI 2), .int (nI 2), .int (nI 0), .int (nI 0)]) (st := []) (fun w => w ++ WO cy B ((fSh U (x2 - x2 / (aAb S.1 (nI 1)) * (aAb S.1 (nI 1)))).2) H20) (fun sz => mC_About l hX.1 g cy tt sa sz A (nI 2) (nI 0) (nI 0) hI26 (by omega)) (WR.appL (WR.full rfl)) (fun w9 h9 => WR.appL (WR.full (WP_fst h9))) (goodIn_w gM_call) rfl rfl rfl (by decide +kernel) ⟨Nat.le_of_ble_eq_true rfl, Nat.le_of_ble_eq_true rfl⟩ rfl (Nat.le_of_ble_eq_true rfl) rfl ⟨by show _ + 1 ≤ 31; omega, by show _ + 6 ≤ 186; omega⟩ dL_scene_183 rfl (fun w9 h9 => ?_)
            obtain ⟨H27, hI28, rfl⟩ := h9
            refine v_eqw (ws' := WO cy A ((fSh S (x2 - x2 / (aAb S.1 (nI 1)) * (aAb S.1 (nI 1)))).2) H27 ++ WO cy B ((fSh U (x2 - x2 / (aAb S.1 (nI 1)) * (aAb S.1 (nI 1)))).2) H20) rfl ?_
            refine v_iload hC dL_scene_186 0 rfl rfl ?_
            refine v_iconst hC (v := (nI 1)) dL_scene_188 (by decide) rfl ?_
            refine v_iadd hC dL_scene_189 rfl ?_
            refine v_icmp_ne hC (tgt := 225) dL_scene_190 (by decide) rfl (fun c => ?_) (fun c => ?_)
            · have h := ite_f c h
              exact v_sub [7, 8, 6, 5, 2] (lv' := [(0, .ref A.1), (1, .ref B.1), (3, .int (x2 - x2 / (aAb S.1 (nI 1)) * (aAb S.1 (nI 1)))), (4, .int (aWo S.1 (x2 - x2 / (aAb S.1 (nI 1)) * (aAb S.1 (nI 1))) (nI 0))), (7, .int v11)]) rfl (bL_scene_225 hC hr hX hT9 hU9  _ _ _ _ _ _ _ _ _ _ _ hI28 hI21 (by omega) (by omega) (by omega) (by omega) h)
            · have h := ite_t c h
              refine v_aload_n hC dL_scene_193 rfl 7 rfl rfl ?_
              refine v_iconst hC (v := (nI 4)) dL_scene_194 (by decide) rfl ?_
              refine v_iload_n hC dL_scene_195 rfl 6 rfl rfl ?_
              refine v_bipush hC (v := (nI 6)) dL_scene_196 (by decide) rfl ?_
              refine v_iconst hC (v := (nI 0)) dL_scene_198 (by decide) rfl ?_
              refine l_callF hC hX (n := 5) (As := [.ref A.1, .int (nI 4), .int (x2 - x2 / (aAb S.1 (nI 1)) * (aAb S.1 (nI 1))), .int (nI 6), .int (nI 0)]) (st := []) (fun w => w ++ WO cy B ((fSh U (x2 - x2 / (aAb S.1 (nI 1)) * (aAb S.1 (nI 1)))).2) H20) (fun sz => mC_Scene l hX.1 g cy tt sa sz A (x2 - x2 / (aAb S.1 (nI 1)) * (aAb S.1 (nI 1))) (nI 6) (nI 0) hI28 (by omega)) (WR.appL (WR.full rfl)) (fun w9 h9 => WR.appL (WR.full (WP_fst h9))) (goodIn_w gM_call) rfl rfl rfl (by decide +kernel) ⟨Nat.le_of_ble_eq_true rfl, Nat.le_of_ble_eq_true rfl⟩ rfl (Nat.le_of_ble_eq_true rfl) rfl ⟨by show _ + 2 ≤ 31; omega, by show _ + 12 ≤ 186; omega⟩ dL_scene_199 rfl (fun w9 h9 => ?_)
              obtain ⟨H29, hI30, rfl⟩ := h9
              refine v_eqw (ws' := WO cy A ((fSh S (x2 - x2 / (aAb S.1 (nI 1)) * (aAb S.1 (nI 1)))).2) H29 ++ WO cy B ((fSh U (x2 - x2 / (aAb S.1 (nI 1)) * (aAb S.1 (nI 1)))).2) H20) rfl ?_
              refine v_iload hC dL_scene_202 5 rfl rfl ?_
              refine v_icmp_ne hC (tgt := 225) dL_scene_204 (by decide) rfl (fun c => ?_) (fun c => ?_)
              · have h := ite_f c h
                exact v_sub [7, 8, 6, 5, 2] (lv' := [(0, .ref A.1), (1, .ref B.1), (3, .int (x2 - x2 / (aAb S.1 (nI 1)) * (aAb S.1 (nI 1)))), (4, .int (aWo S.1 (x2 - x2 / (aAb S.1 (nI 1)) * (aAb S.1 (nI 1))) (nI 0))), (7, .int v11)]) rfl (bL_scene_225 hC hr hX hT9 hU9  _ _ _ _ _ _ _ _ _ _ _ hI30 hI21 (by omega) (by omega) (by omega) (by omega) h)
              · have h := ite_t c h
                refine v_aload_n hC dL_scene_207 rfl 7 rfl rfl ?_
                refine v_bipush hC (v := (nI 7)) dL_scene_208 (by decide) rfl ?_
                refine v_iload_n hC dL_scene_210 rfl 6 rfl rfl ?_
                refine v_iconst hC (v := (nI 0)) dL_scene_211 (by decide) rfl ?_
                refine v_iconst hC (v := (nI 0)) dL_scene_212 (by decide) rfl ?_
                refine l_callF hC hX (n := 5) (As := [.ref A.1, .int (nI 7), .int (x2 - x2 / (aAb S.1 (nI 1)) * (aAb S.1 (nI 1))), .int (nI 0), .int (nI 0)]) (st := []) (fun w => w ++ WO cy B ((fSh U (x2 - x2 / (aAb S.1 (nI 1)) * (aAb S.1 (nI 1)))).2) H20) (fun sz => mC_Shoot l hX.1 g cy tt sa sz A (x2 - x2 / (aAb S.1 (nI 1)) * (aAb S.1 (nI 1))) (nI 0) (nI 0) hI30 (by omega)) (WR.appL (WR.full rfl)) (fun w9 h9 => WR.appL (WR.full (WP_fst h9))) (goodIn_w gM_call) rfl rfl rfl (by decide +kernel) ⟨Nat.le_of_ble_eq_true rfl, Nat.le_of_ble_eq_true rfl⟩ rfl (Nat.le_of_ble_eq_true rfl) rfl ⟨by show _ + 2 ≤ 31; omega, by show _ + 12 ≤ 186; omega⟩ dL_scene_213 rfl (fun w9 h9 => ?_)
                obtain ⟨H31, hI32, rfl⟩ := h9
                refine v_eqw (ws' := WO cy A ((fSh ((fSh S (x2 - x2 / (aAb S.1 (nI 1)) * (aAb S.1 (nI 1)))).2) (x2 - x2 / (aAb S.1 (nI 1)) * (aAb S.1 (nI 1)))).2) H31 ++ WO cy B ((fSh U (x2 - x2 / (aAb S.1 (nI 1)) * (aAb S.1 (nI 1)))).2) H20) rfl ?_
                refine v_ldc hC (v := (-9999003)) dL_scene_216 (List.mem_cons_of_mem _ kW_18) rfl ?_
                refine v_icmp_ne hC (tgt := 225) dL_scene_218 (by decide) rfl (fun c => ?_) (fun c => ?_)
                · have h := ite_f c h
                  exact v_sub [7, 8, 6, 5, 2] (lv' := [(0, .ref A.1), (1, .ref B.1), (3, .int (x2 - x2 / (aAb S.1 (nI 1)) * (aAb S.1 (nI 1)))), (4, .int (aWo S.1 (x2 - x2 / (aAb S.1 (nI 1)) * (aAb S.1 (nI 1))) (nI 0))), (7, .int v11)]) rfl (bL_scene_225 hC hr hX hT9 hU9  _ _ _ _ _ _ _ _ _ _ _ hI32 hI21 (by omega) (by omega) (by omega) (by omega) h)
                · have h := ite_t c h
                  refine v_iconst hC (v := (nI 1)) dL_scene_221 (by decide) rfl ?_
                  refine v_goto hC (tgt := 226) dL_scene_222 (by decide) ?_
                  exact v_sub [7, 8, 6, 5, 2] (lv' := [(0, .ref A.1), (1, .ref B.1), (3, .int (x2 - x2 / (aAb S.1 (nI 1)) * (aAb S.1 (nI 1)))), (4, .int (aWo S.1 (x2 - x2 / (aAb S.1 (nI 1)) * (aAb S.1 (nI 1))) (nI 0))), (7, .int v11)]) rfl (bL_scene_226 hC hr hX hT9 hU9  _ _ _ _ _ _ _ _ _ _ _ _ hI32 hI21 (by omega) (by omega) (by omega) (by omega) h)
  · have h := ite_t c h
    refine v_aload_n hC dL_scene_28 rfl 2 rfl rfl ?_
    refine v_bipush hC (v := (nI 7)) dL_scene_29 (by decide) rfl ?_
    refine v_iload_n hC dL_scene_31 rfl 1 rfl rfl ?_
    refine v_iconst hC (v := (nI 0)) dL_scene_32 (by decide) rfl ?_
    refine v_iconst hC (v := (nI 0)) dL_scene_33 (by decide) rfl ?_
    refine l_callF hC hX (n := 5) (As := [.ref A.1, .int (nI 7), .int (x2 - x2 / (aAb S.1 (nI 1)) * (aAb S.1 (nI 1))), .int (nI 0), .int (nI 0)]) (st := []) (fun w => w ++ WO cy B U I) (fun sz => mC_Shoot l hX.1 g cy tt sa sz A (x2 - x2 / (aAb S.1 (nI 1)) * (aAb S.1 (nI 1))) (nI 0) (nI 0) hI4 (by omega)) (WR.appL (WR.full rfl)) (fun w9 h9 => WR.appL (WR.full (WP_fst h9))) (goodIn_w gM_call) rfl rfl rfl (by decide +kernel) ⟨Nat.le_of_ble_eq_true rfl, Nat.le_of_ble_eq_true rfl⟩ rfl (Nat.le_of_ble_eq_true rfl) rfl ⟨by show _ + 2 ≤ 31; omega, by show _ + 12 ≤ 186; omega⟩ dL_scene_34 rfl (fun w9 h9 => ?_)
    obtain ⟨H33, hI34, rfl⟩ := h9
    refine v_eqw (ws' := WO cy A ((fSh S (x2 - x2 / (aAb S.1 (nI 1)) * (aAb S.1 (nI 1)))).2) H33 ++ WO cy B U I) rfl ?_
    refine v_ldc hC (v := (-9999003)) dL_scene_37 (List.mem_cons_of_mem _ kW_18) rfl ?_
    refine v_icmp_ne hC (tgt := 60) dL_scene_39 (by decide) rfl (fun c => ?_) (fun c => ?_)
    · have h := ite_f c h
      exact v_sub [] (lv' := []) rfl (bL_scene_60 hC hr hX hT9 hU9  _ _ _ _ _ _ _ _ hI34 hJ (by omega) (by omega) (by omega) (by omega) h)
    · have h := ite_t c h
      refine v_aload_n hC dL_scene_42 rfl 3 rfl rfl ?_
      refine v_bipush hC (v := (nI 7)) dL_scene_43 (by decide) rfl ?_
      refine v_iload_n hC dL_scene_45 rfl 1 rfl rfl ?_
      refine v_iconst hC (v := (nI 0)) dL_scene_46 (by decide) rfl ?_
      refine v_iconst hC (v := (nI 0)) dL_scene_47 (by decide) rfl ?_
      refine l_callF hC hX (n := 5) (As := [.ref B.1, .int (nI 7), .int (x2 - x2 / (aAb S.1 (nI 1)) * (aAb S.1 (nI 1))), .int (nI 0), .int (nI 0)]) (st := []) (fun w => WO cy A ((fSh S (x2 - x2 / (aAb S.1 (nI 1)) * (aAb S.1 (nI 1)))).2) H33 ++ w) (fun sz => mC_Shoot l hX.1 g cy tt sa sz B (x2 - x2 / (aAb S.1 (nI 1)) * (aAb S.1 (nI 1))) (nI 0) (nI 0) hJ (by omega)) (WR.appR (WR.full rfl)) (fun w9 h9 => WR.appR (WR.full (WP_fst h9))) (goodIn_w gM_call) rfl rfl rfl (by decide +kernel) ⟨Nat.le_of_ble_eq_true rfl, Nat.le_of_ble_eq_true rfl⟩ rfl (Nat.le_of_ble_eq_true rfl) rfl ⟨by show _ + 2 ≤ 31; omega, by show _ + 12 ≤ 186; omega⟩ dL_scene_48 rfl (fun w9 h9 => ?_)
      obtain ⟨H35, hI36, rfl⟩ := h9
      refine v_eqw (ws' := WO cy A ((fSh S (x2 - x2 / (aAb S.1 (nI 1)) * (aAb S.1 (nI 1)))).2) H33 ++ WO cy B ((fSh U (x2 - x2 / (aAb S.1 (nI 1)) * (aAb S.1 (nI 1)))).2) H35) rfl ?_
      refine v_ldc hC (v := (-9999003)) dL_scene_51 (List.mem_cons_of_mem _ kW_18) rfl ?_
      refine v_icmp_ne hC (tgt := 60) dL_scene_53 (by decide) rfl (fun c => ?_) (fun c => ?_)
      · have h := ite_f c h
        exact v_sub [] (lv' := []) rfl (bL_scene_60 hC hr hX hT9 hU9  _ _ _ _ _ _ _ _ hI34 hI36 (by omega) (by omega) (by omega) (by omega) h)
      · have h := ite_t c h
        refine v_iconst hC (v := (nI 1)) dL_scene_56 (by decide) rfl ?_
        refine v_goto hC (tgt := 61) dL_scene_57 (by decide) ?_
        exact v_sub [] (lv' := []) rfl (bL_scene_61 hC hr hX hT9 hU9  _ _ _ _ _ _ _ _ _ hI34 hI36 (by omega) (by omega) (by omega) (by omega) h)

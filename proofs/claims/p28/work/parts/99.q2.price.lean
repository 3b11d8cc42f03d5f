/-! ===== the law: price ===== -/
def pL_price_128   (S : SS) (s0 : Int32) : Option (Int32 × SS) := some (s0, S)
def pL_price_122   (S : SS) : Option (Int32 × SS) := pL_price_128   S (-1)
def pL_price_96   (S : SS) (y4 : Int32) (y5 : Int32) (y6 : Int32) (s0 : Int32) : Option (Int32 × SS) := if s0 = 0 then pL_price_128   S (-9) else if y4 = (-9999003) then pL_price_122   S else if y5 = (-9999003) then pL_price_122   S else pL_price_128   S y6
def pL_price_91   (S : SS) (y4 : Int32) (y5 : Int32) (y6 : Int32) : Option (Int32 × SS) := pL_price_96   S y4 y5 y6 (nI 1)
def pL_price_95   (S : SS) (y4 : Int32) (y5 : Int32) (y6 : Int32) : Option (Int32 × SS) := pL_price_96   S y4 y5 y6 (nI 0)
def pL_price_69   (S : SS) (y4 : Int32) (y5 : Int32) (y6 : Int32) : Option (Int32 × SS) := if y4 = (-9999003) then pL_price_91   S y4 y5 y6 else (pL_thrown ((fUn S).1)).bind fun v3 => if v3 = 0 then pL_price_91   ((fUn S).2) y4 y5 y6 else pL_price_95   ((fUn S).2) y4 y5 y6
def pL_price_37   (S : SS) (y3 : Int32) (y4 : Int32) (s0 : Int32) : Option (Int32 × SS) := (pL_spent S.1).bind fun v1 => if s0 = (-9999003) then pL_price_69   S y4 s0 (v1 - y3) else (pL_thrown ((fUn S).1)).bind fun v6 => if v6 = 0 then pL_price_69   ((fUn S).2) y4 s0 (v1 - y3) else pL_price_95   ((fUn S).2) y4 s0 (v1 - y3)
def pL_price  (S : SS) (x1 : Int32) (x2 : Int32) : Option (Int32 × SS) := (pL_spent S.1).bind fun v1 => if ((fSh S x1).1) = (-9999003) then pL_price_37   ((fSh S x1).2) v1 ((fSh S x1).1) (-9999003) else pL_price_37   ((fSh ((fSh S x1).2) x2).2) v1 ((fSh S x1).1) ((fSh ((fSh S x1).2) x2).1)
abbrev rmL_price : Room := { frames := 11, cells := 10, slots := 60, locals := 199 }
set_option maxHeartbeats 4000000 in
set_option maxRecDepth 100000 in
theorem bL_price_128 {p : Program} {l : Launch} {e : Env} {s : State} {m : MethodId} {args : Array Value} {below : List Frame} {meth : Method} {c9 : Code} {g : va_G} {cy : Nat → ClassId} {tt sa : Nat → Nat} {A9 : Nat → Prop} (hC : CX p s m args meth c9 g cy 8 cL_price wsM_price RL) (hr : meth.sig.returnType = some .int) (hX : XL l s tt sa A9) {A : AA} {T : Nat} (hT9 : T < 8000) {res : Int32 × SS} : ∀  (S : SS) (s0 : Int32) (H : HH) (t cells slots : Nat) (hI : RP t S H) (ht : t + 0 ≤ T) (hc : cells + 0 ≤ 10) (hs : slots + 6 * 0 ≤ 60) (h : pL_price_128   S s0 = some res), V p l e (headSpec wsM_price rmL_price).room s m args below meth c9 g 8 cells slots (MQ below (QE g A9 res.1 (WP cy A T res.2)) args s 10 60 A9) A9 A9 (WO cy A S H) 128 [] [.int s0] := by
  intro  S s0 H t cells slots hI ht hc hs h
  unfold pL_price_128 at h
  obtain rfl := Option.some.inj h
  exact v_irE2 hC (by omega) (by omega) hr rfl rfl dL_price_128 ⟨_, hI.up (by omega), rfl⟩
set_option maxHeartbeats 4000000 in
set_option maxRecDepth 100000 in
theorem bL_price_122 {p : Program} {l : Launch} {e : Env} {s : State} {m : MethodId} {args : Array Value} {below : List Frame} {meth : Method} {c9 : Code} {g : va_G} {cy : Nat → ClassId} {tt sa : Nat → Nat} {A9 : Nat → Prop} (hC : CX p s m args meth c9 g cy 8 cL_price wsM_price RL) (hr : meth.sig.returnType = some .int) (hX : XL l s tt sa A9) {A : AA} {T : Nat} (hT9 : T < 8000) {res : Int32 × SS} : ∀  (S : SS) (H : HH) (t cells slots : Nat) (hI : RP t S H) (ht : t + 0 ≤ T) (hc : cells + 0 ≤ 10) (hs : slots + 6 * 0 ≤ 60) (h : pL_price_122   S = some res), V p l e (headSpec wsM_price rmL_price).room s m args below meth c9 g 8 cells slots (MQ below (QE g A9 res.1 (WP cy A T res.2)) args s 10 60 A9) A9 A9 (WO cy A S H) 122 [] [] := by
  intro  S H t cells slots hI ht hc hs h
  unfold pL_price_122 at h
  refine v_iconst hC (v := (-1)) dL_price_122 (by decide) rfl ?_
  refine v_goto hC (tgt := 128) dL_price_123 (by decide) ?_
  exact bL_price_128 hC hr hX hT9  _ _ _ _ _ _ hI (by omega) (by omega) (by omega) h
set_option maxHeartbeats 4000000 in
set_option maxRecDepth 100000 in
theorem bL_price_96 {p : Program} {l : Launch} {e : Env} {s : State} {m : MethodId} {args : Array Value} {below : List Frame} {meth : Method} {c9 : Code} {g : va_G} {cy : Nat → ClassId} {tt sa : Nat → Nat} {A9 : Nat → Prop} (hC : CX p s m args meth c9 g cy 8 cL_price wsM_price RL) (hr : meth.sig.returnType = some .int) (hX : XL l s tt sa A9) {A : AA} {T : Nat} (hT9 : T < 8000) {res : Int32 × SS} : ∀  (S : SS) (y4 : Int32) (y5 : Int32) (y6 : Int32) (s0 : Int32) (H : HH) (t cells slots : Nat) (hI : RP t S H) (ht : t + 0 ≤ T) (hc : cells + 0 ≤ 10) (hs : slots + 6 * 0 ≤ 60) (h : pL_price_96   S y4 y5 y6 s0 = some res), V p l e (headSpec wsM_price rmL_price).room s m args below meth c9 g 8 cells slots (MQ below (QE g A9 res.1 (WP cy A T res.2)) args s 10 60 A9) A9 A9 (WO cy A S H) 96 [(4, .int y4), (5, .int y5), (6, .int y6)] [.int s0] := by
  intro  S y4 y5 y6 s0 H t cells slots hI ht hc hs h
  unfold pL_price_96 at h
  refine v_istore hC dL_price_96 (by decide) [(7, .int s0), (4, .int y4), (5, .int y5), (6, .int y6)] rfl rfl ?_
  refine v_iload hC dL_price_98 0 rfl rfl ?_
  refine v_if_ne hC (tgt := 108) dL_price_100 (by decide) rfl (fun c => ?_) (fun c => ?_)
  · have h := ite_f c h
    refine v_iload hC dL_price_108 1 rfl rfl ?_
    refine v_ldc hC (v := (-9999003)) dL_price_110 (List.mem_cons_of_mem _ kW_18) rfl ?_
    refine v_icmp_eq hC (tgt := 122) dL_price_112 (by decide) rfl (fun c => ?_) (fun c => ?_)
    · have h := ite_t c h
      exact v_sub [] (lv' := []) rfl (bL_price_122 hC hr hX hT9  _ _ _ _ _ hI (by omega) (by omega) (by omega) h)
    · have h := ite_f c h
      refine v_iload hC dL_price_115 2 rfl rfl ?_
      refine v_ldc hC (v := (-9999003)) dL_price_117 (List.mem_cons_of_mem _ kW_18) rfl ?_
      refine v_icmp_ne hC (tgt := 126) dL_price_119 (by decide) rfl (fun c => ?_) (fun c => ?_)
      · have h := ite_f c h
        refine v_iload hC dL_price_126 3 rfl rfl ?_
        exact v_sub [] (lv' := []) rfl (bL_price_128 hC hr hX hT9  _ _ _ _ _ _ hI (by omega) (by omega) (by omega) h)
      · have h := ite_t c h
        exact v_sub [] (lv' := []) rfl (bL_price_122 hC hr hX hT9  _ _ _ _ _ hI (by omega) (by omega) (by omega) h)
  · have h := ite_t c h
    refine v_bipush hC (v := (-9)) dL_price_103 (by decide) rfl ?_
    refine v_goto hC (tgt := 128) dL_price_105 (by decide) ?_
    exact v_sub [] (lv' := []) rfl (bL_price_128 hC hr hX hT9  _ _ _ _ _ _ hI (by omega) (by omega) (by omega) h)
set_option maxHeartbeats 4000000 in
set_option maxRecDepth 100000 in
theorem bL_price_91 {p : Program} {l : Launch} {e : Env} {s : State} {m : MethodId} {args : Array Value} {below : List Frame} {meth : Method} {c9 : Code} {g : va_G} {cy : Nat → ClassId} {tt sa : Nat → Nat} {A9 : Nat → Prop} (hC : CX p s m args meth c9 g cy 8 cL_price wsM_price RL) (hr : meth.sig.returnType = some .int) (hX : XL l s tt sa A9) {A : AA} {T : Nat} (hT9 : T < 8000) {res : Int32 × SS} : ∀  (S : SS) (y4 : Int32) (y5 : Int32) (y6 : Int32) (H : HH) (t cells slots : Nat) (hI : RP t S H) (ht : t + 0 ≤ T) (hc : cells + 0 ≤ 10) (hs : slots + 6 * 0 ≤ 60) (h : pL_price_91   S y4 y5 y6 = some res), V p l e (headSpec wsM_price rmL_price).room s m args below meth c9 g 8 cells slots (MQ below (QE g A9 res.1 (WP cy A T res.2)) args s 10 60 A9) A9 A9 (WO cy A S H) 91 [(4, .int y4), (5, .int y5), (6, .int y6)] [] := by
  intro  S y4 y5 y6 H t cells slots hI ht hc hs h
  unfold pL_price_91 at h
  refine v_iconst hC (v := (nI 1)) dL_price_91 (by decide) rfl ?_
  refine v_goto hC (tgt := 96) dL_price_92 (by decide) ?_
  exact bL_price_96 hC hr hX hT9  _ _ _ _ _ _ _ _ _ hI (by omega) (by omega) (by omega) h
set_option maxHeartbeats 4000000 in
set_option maxRecDepth 100000 in
theorem bL_price_95 {p : Program} {l : Launch} {e : Env} {s : State} {m : MethodId} {args : Array Value} {below : List Frame} {meth : Method} {c9 : Code} {g : va_G} {cy : Nat → ClassId} {tt sa : Nat → Nat} {A9 : Nat → Prop} (hC : CX p s m args meth c9 g cy 8 cL_price wsM_price RL) (hr : meth.sig.returnType = some .int) (hX : XL l s tt sa A9) {A : AA} {T : Nat} (hT9 : T < 8000) {res : Int32 × SS} : ∀  (S : SS) (y4 : Int32) (y5 : Int32) (y6 : Int32) (H : HH) (t cells slots : Nat) (hI : RP t S H) (ht : t + 0 ≤ T) (hc : cells + 0 ≤ 10) (hs : slots + 6 * 0 ≤ 60) (h : pL_price_95   S y4 y5 y6 = some res), V p l e (headSpec wsM_price rmL_price).room s m args below meth c9 g 8 cells slots (MQ below (QE g A9 res.1 (WP cy A T res.2)) args s 10 60 A9) A9 A9 (WO cy A S H) 95 [(4, .int y4), (5, .int y5), (6, .int y6)] [] := by
  intro  S y4 y5 y6 H t cells slots hI ht hc hs h
  unfold pL_price_95 at h
  refine v_iconst hC (v := (nI 0)) dL_price_95 (by decide) rfl ?_
  exact bL_price_96 hC hr hX hT9  _ _ _ _ _ _ _ _ _ hI (by omega) (by omega) (by omega) h
set_option maxHeartbeats 4000000 in
set_option maxRecDepth 100000 in
theorem bL_price_69 {p : Program} {l : Launch} {e : Env} {s : State} {m : MethodId} {args : Array Value} {below : List Frame} {meth : Method} {c9 : Code} {g : va_G} {cy : Nat → ClassId} {tt sa : Nat → Nat} {A9 : Nat → Prop} (hC : CX p s m args meth c9 g cy 8 cL_price wsM_price RL) (hr : meth.sig.returnType = some .int) (hX : XL l s tt sa A9) {A : AA} {T : Nat} (hT9 : T < 8000) {res : Int32 × SS} : ∀  (S : SS) (y4 : Int32) (y5 : Int32) (y6 : Int32) (H : HH) (t cells slots : Nat) (hI : RP t S H) (ht : t + 1 ≤ T) (hc : cells + 1 ≤ 10) (hs : slots + 6 * 1 ≤ 60) (h : pL_price_69   S y4 y5 y6 = some res), V p l e (headSpec wsM_price rmL_price).room s m args below meth c9 g 8 cells slots (MQ below (QE g A9 res.1 (WP cy A T res.2)) args s 10 60 A9) A9 A9 (WO cy A S H) 69 [(0, .ref A.1), (4, .int y4), (5, .int y5), (6, .int y6)] [] := by
  intro  S y4 y5 y6 H t cells slots hI ht hc hs h
  unfold pL_price_69 at h
  refine v_iload hC dL_price_69 1 rfl rfl ?_
  refine v_ldc hC (v := (-9999003)) dL_price_71 (List.mem_cons_of_mem _ kW_18) rfl ?_
  refine v_icmp_eq hC (tgt := 91) dL_price_73 (by decide) rfl (fun c => ?_) (fun c => ?_)
  · have h := ite_t c h
    exact v_sub [1, 2, 3] (lv' := [(4, .int y4), (5, .int y5), (6, .int y6)]) rfl (bL_price_91 hC hr hX hT9  _ _ _ _ _ _ _ _ hI (by omega) (by omega) (by omega) h)
  · have h := ite_f c h
    refine v_aload_n hC dL_price_76 rfl 0 rfl rfl ?_
    refine v_bipush hC (v := (nI 10)) dL_price_77 (by decide) rfl ?_
    refine v_iconst hC (v := (nI 0)) dL_price_79 (by decide) rfl ?_
    refine v_iconst hC (v := (nI 0)) dL_price_80 (by decide) rfl ?_
    refine v_iconst hC (v := (nI 0)) dL_price_81 (by decide) rfl ?_
    refine l_callF hC hX (n := 5) (As := [.ref A.1, .int (nI 10), .int (nI 0), .int (nI 0), .int (nI 0)]) (st := []) (fun w => w) (fun sz => mC_Undo l hX.1 g cy tt sa sz A (nI 0) (nI 0) (nI 0) hI (by omega)) (WR.full rfl) (fun w9 h9 => WR.full (WP_fst h9)) (goodIn_w gM_call) rfl rfl rfl (by decide +kernel) ⟨Nat.le_of_ble_eq_true rfl, Nat.le_of_ble_eq_true rfl⟩ rfl (Nat.le_of_ble_eq_true rfl) rfl ⟨by show _ + 1 ≤ 10; omega, by show _ + 6 ≤ 60; omega⟩ dL_price_82 rfl (fun w9 h9 => ?_)
    obtain ⟨H1, hI2, rfl⟩ := h9
    refine v_eqw (ws' := WO cy A ((fUn S).2) H1) rfl ?_
    obtain ⟨v3, hv3, h⟩ := bind_g h
    refine l_callN hC (n := 1) (As := [.int ((fUn S).1)]) (st := []) (mL_thrown l g cy ((fUn S).1) hv3) (goodIn_w gM_thrown) rfl rfl rfl (by decide +kernel) ⟨Nat.le_of_ble_eq_true rfl, Nat.le_of_ble_eq_true rfl⟩ rfl (Nat.le_of_ble_eq_true rfl) rfl ⟨by show _ + 0 ≤ 10; omega, by show _ + 0 ≤ 60; omega⟩ dL_price_85 rfl ?_
    refine v_if_ne hC (tgt := 95) dL_price_88 (by decide) rfl (fun c => ?_) (fun c => ?_)
    · have h := ite_f c h
      exact v_sub [1, 2, 3] (lv' := [(4, .int y4), (5, .int y5), (6, .int y6)]) rfl (bL_price_95 hC hr hX hT9  _ _ _ _ _ _ _ _ hI2 (by omega) (by omega) (by omega) h)
    · have h := ite_t c h
      exact v_sub [1, 2, 3] (lv' := [(4, .int y4), (5, .int y5), (6, .int y6)]) rfl (bL_price_91 hC hr hX hT9  _ _ _ _ _ _ _ _ hI2 (by omega) (by omega) (by omega) h)
set_option maxHeartbeats 4000000 in
set_option maxRecDepth 100000 in
theorem bL_price_37 {p : Program} {l : Launch} {e : Env} {s : State} {m : MethodId} {args : Array Value} {below : List Frame} {meth : Method} {c9 : Code} {g : va_G} {cy : Nat → ClassId} {tt sa : Nat → Nat} {A9 : Nat → Prop} (hC : CX p s m args meth c9 g cy 8 cL_price wsM_price RL) (hr : meth.sig.returnType = some .int) (hX : XL l s tt sa A9) {A : AA} {T : Nat} (hT9 : T < 8000) {res : Int32 × SS} : ∀  (S : SS) (y3 : Int32) (y4 : Int32) (s0 : Int32) (H : HH) (t cells slots : Nat) (hI : RP t S H) (ht : t + 2 ≤ T) (hc : cells + 4 ≤ 10) (hs : slots + 6 * 4 ≤ 60) (h : pL_price_37   S y3 y4 s0 = some res), V p l e (headSpec wsM_price rmL_price).room s m args below meth c9 g 8 cells slots (MQ below (QE g A9 res.1 (WP cy A T res.2)) args s 10 60 A9) A9 A9 (WO cy A S H) 37 [(0, .ref A.1), (3, .int y3), (4, .int y4)] [.int s0] := by
  intro  S y3 y4 s0 H t cells slots hI ht hc hs h
  unfold pL_price_37 at h
  refine v_istore hC dL_price_37 (by decide) [(5, .int s0), (0, .ref A.1), (3, .int y3), (4, .int y4)] rfl rfl ?_
  refine v_aload_n hC dL_price_39 rfl 1 rfl rfl ?_
  obtain ⟨v1, hv1, h⟩ := bind_g h
  refine l_callF hC hX (n := 1) (As := [.ref A.1]) (st := []) (fun w => w) (fun sz => mL_spent l hX.1 g cy tt sa sz A  hI (by omega) hv1) (WR.full rfl) (fun w9 h9 => WR.full (WP_fst h9)) (goodIn_w gM_spent) rfl rfl rfl (by decide +kernel) ⟨Nat.le_of_ble_eq_true rfl, Nat.le_of_ble_eq_true rfl⟩ rfl (Nat.le_of_ble_eq_true rfl) rfl ⟨by show _ + 2 ≤ 10; omega, by show _ + 12 ≤ 60; omega⟩ dL_price_40 rfl (fun w9 h9 => ?_)
  obtain ⟨H2, hI3, rfl⟩ := h9
  refine v_eqw (ws' := WO cy A S H2) rfl ?_
  refine v_iload_n hC dL_price_43 rfl 2 rfl rfl ?_
  refine v_isub hC dL_price_44 rfl ?_
  refine v_istore hC dL_price_45 (by decide) [(6, .int (v1 - y3)), (5, .int s0), (0, .ref A.1), (3, .int y3), (4, .int y4)] rfl rfl ?_
  refine v_iload hC dL_price_47 1 rfl rfl ?_
  refine v_ldc hC (v := (-9999003)) dL_price_49 (List.mem_cons_of_mem _ kW_18) rfl ?_
  refine v_icmp_eq hC (tgt := 69) dL_price_51 (by decide) rfl (fun c => ?_) (fun c => ?_)
  · have h := ite_t c h
    exact v_sub [2, 4, 1, 0] (lv' := [(0, .ref A.1), (4, .int y4), (5, .int s0), (6, .int (v1 - y3))]) rfl (bL_price_69 hC hr hX hT9  _ _ _ _ _ _ _ _ hI3 (by omega) (by omega) (by omega) h)
  · have h := ite_f c h
    refine v_aload_n hC dL_price_54 rfl 2 rfl rfl ?_
    refine v_bipush hC (v := (nI 10)) dL_price_55 (by decide) rfl ?_
    refine v_iconst hC (v := (nI 0)) dL_price_57 (by decide) rfl ?_
    refine v_iconst hC (v := (nI 0)) dL_price_58 (by decide) rfl ?_
    refine v_iconst hC (v := (nI 0)) dL_price_59 (by decide) rfl ?_
    refine l_callF hC hX (n := 5) (As := [.ref A.1, .int (nI 10), .int (nI 0), .int (nI 0), .int (nI 0)]) (st := []) (fun w => w) (fun sz => mC_Undo l hX.1 g cy tt sa sz A (nI 0) (nI 0) (nI 0) hI3 (by omega)) (WR.full rfl) (fun w9 h9 => WR.full (WP_fst h9)) (goodIn_w gM_call) rfl rfl rfl (by decide +kernel) ⟨Nat.le_of_ble_eq_true rfl, Nat.le_of_ble_eq_true rfl⟩ rfl (Nat.le_of_ble_eq_true rfl) rfl ⟨by show _ + 1 ≤ 10; omega, by show _ + 6 ≤ 60; omega⟩ dL_price_60 rfl (fun w9 h9 => ?_)
    obtain ⟨H4, hI5, rfl⟩ := h9
    refine v_eqw (ws' := WO cy A ((fUn S).2) H4) rfl ?_
    obtain ⟨v6, hv6, h⟩ := bind_g h
    refine l_callN hC (n := 1) (As := [.int ((fUn S).1)]) (st := []) (mL_thrown l g cy ((fUn S).1) hv6) (goodIn_w gM_thrown) rfl rfl rfl (by decide +kernel) ⟨Nat.le_of_ble_eq_true rfl, Nat.le_of_ble_eq_true rfl⟩ rfl (Nat.le_of_ble_eq_true rfl) rfl ⟨by show _ + 0 ≤ 10; omega, by show _ + 0 ≤ 60; omega⟩ dL_price_63 rfl ?_
    refine v_if_ne hC (tgt := 95) dL_price_66 (by decide) rfl (fun c => ?_) (fun c => ?_)
    · have h := ite_f c h
      exact v_sub [4, 1, 0] (lv' := [(4, .int y4), (5, .int s0), (6, .int (v1 - y3))]) rfl (bL_price_95 hC hr hX hT9  _ _ _ _ _ _ _ _ hI5 (by omega) (by omega) (by omega) h)
    · have h := ite_t c h
      exact v_sub [2, 4, 1, 0] (lv' := [(0, .ref A.1), (4, .int y4), (5, .int s0), (6, .int (v1 - y3))]) rfl (bL_price_69 hC hr hX hT9  _ _ _ _ _ _ _ _ hI5 (by omega) (by omega) (by omega) h)
set_option maxHeartbeats 4000000 in
set_option maxRecDepth 100000 in
theorem mL_price (l : Launch) (hlst : l.stackTraces = false) (g : va_G) (cy : Nat → ClassId) (tt sa : Nat → Nat) (sz : Nat) (A : AA) {t : Nat} {S : SS} {H : HH} (x1 : Int32) (x2 : Int32) (hI : RP t S H) (ht9 : (t + 4) < 8000) {res : Int32 × SS} (h : pL_price  S x1 x2 = some res) : Met l yL_price wsM_price rmL_price (PN [.ref A.1, .int x1, .int x2] g cy tt sa sz (WO cy A S H)) (QE g (va_A (WO cy A S H) sz) res.1 (WP cy A (t + 4) res.2)) 10 60 (va_A (WO cy A S H) sz) := by
  obtain ⟨T, hTe⟩ : ∃ T, T = (t + 4) := ⟨_, rfl⟩
  have hT9 : T < 8000 := by omega
  have ht : t + 4 ≤ T := by omega
  rw [← hTe]
  refine m_ofVN (cc := cL_price) (nL := 8) (ret := some .int) hlst RL rfl (by decide) rfl [(0, .ref A.1), (1, .int x1), (2, .int x2)] rfl (Nat.le_of_ble_eq_true rfl) ?_
  intro p e s m args below meth c9 hC hr hX
  generalize (va_A (WO cy A S H) sz) = A9 at hX ⊢
  obtain ⟨cells, hce⟩ : ∃ cells, cells = 0 := ⟨_, rfl⟩
  obtain ⟨slots, hse⟩ : ∃ slots, slots = 0 := ⟨_, rfl⟩
  have hc : cells + 10 ≤ 10 := by omega
  have hs : slots + 6 * 10 ≤ 60 := by omega
  refine v_widen (k := cells) (n := slots) (by omega) (by omega) ?_
  unfold pL_price at h
  refine v_aload_n hC dL_price_0 rfl 0 rfl rfl ?_
  obtain ⟨v1, hv1, h⟩ := bind_g h
  refine l_callF hC hX (n := 1) (As := [.ref A.1]) (st := []) (fun w => w) (fun sz => mL_spent l hX.1 g cy tt sa sz A  hI (by omega) hv1) (WR.full rfl) (fun w9 h9 => WR.full (WP_fst h9)) (goodIn_w gM_spent) rfl rfl rfl (by decide +kernel) ⟨Nat.le_of_ble_eq_true rfl, Nat.le_of_ble_eq_true rfl⟩ rfl (Nat.le_of_ble_eq_true rfl) rfl ⟨by show _ + 2 ≤ 10; omega, by show _ + 12 ≤ 60; omega⟩ dL_price_1 rfl (fun w9 h9 => ?_)
  obtain ⟨H2, hI3, rfl⟩ := h9
  refine v_eqw (ws' := WO cy A S H2) rfl ?_
  refine v_istore_n hC dL_price_4 rfl (by decide) [(3, .int v1), (0, .ref A.1), (1, .int x1), (2, .int x2)] rfl rfl ?_
  refine v_aload_n hC dL_price_5 rfl 1 rfl rfl ?_
  refine v_bipush hC (v := (nI 7)) dL_price_6 (by decide) rfl ?_
  refine v_iload_n hC dL_price_8 rfl 2 rfl rfl ?_
  refine v_iconst hC (v := (nI 0)) dL_price_9 (by decide) rfl ?_
  refine v_iconst hC (v := (nI 0)) dL_price_10 (by decide) rfl ?_
  refine l_callF hC hX (n := 5) (As := [.ref A.1, .int (nI 7), .int x1, .int (nI 0), .int (nI 0)]) (st := []) (fun w => w) (fun sz => mC_Shoot l hX.1 g cy tt sa sz A x1 (nI 0) (nI 0) hI3 (by omega)) (WR.full rfl) (fun w9 h9 => WR.full (WP_fst h9)) (goodIn_w gM_call) rfl rfl rfl (by decide +kernel) ⟨Nat.le_of_ble_eq_true rfl, Nat.le_of_ble_eq_true rfl⟩ rfl (Nat.le_of_ble_eq_true rfl) rfl ⟨by show _ + 2 ≤ 10; omega, by show _ + 12 ≤ 60; omega⟩ dL_price_11 rfl (fun w9 h9 => ?_)
  obtain ⟨H4, hI5, rfl⟩ := h9
  refine v_eqw (ws' := WO cy A ((fSh S x1).2) H4) rfl ?_
  refine v_istore hC dL_price_14 (by decide) [(4, .int ((fSh S x1).1)), (3, .int v1), (0, .ref A.1), (1, .int x1), (2, .int x2)] rfl rfl ?_
  refine v_iload hC dL_price_16 0 rfl rfl ?_
  refine v_ldc hC (v := (-9999003)) dL_price_18 (List.mem_cons_of_mem _ kW_18) rfl ?_
  refine v_icmp_ne hC (tgt := 28) dL_price_20 (by decide) rfl (fun c => ?_) (fun c => ?_)
  · have h := ite_f c h
    refine v_aload_n hC dL_price_28 rfl 2 rfl rfl ?_
    refine v_bipush hC (v := (nI 7)) dL_price_29 (by decide) rfl ?_
    refine v_iload_n hC dL_price_31 rfl 4 rfl rfl ?_
    refine v_iconst hC (v := (nI 0)) dL_price_32 (by decide) rfl ?_
    refine v_iconst hC (v := (nI 0)) dL_price_33 (by decide) rfl ?_
    refine l_callF hC hX (n := 5) (As := [.ref A.1, .int (nI 7), .int x2, .int (nI 0), .int (nI 0)]) (st := []) (fun w => w) (fun sz => mC_Shoot l hX.1 g cy tt sa sz A x2 (nI 0) (nI 0) hI5 (by omega)) (WR.full rfl) (fun w9 h9 => WR.full (WP_fst h9)) (goodIn_w gM_call) rfl rfl rfl (by decide +kernel) ⟨Nat.le_of_ble_eq_true rfl, Nat.le_of_ble_eq_true rfl⟩ rfl (Nat.le_of_ble_eq_true rfl) rfl ⟨by show _ + 2 ≤ 10; omega, by show _ + 12 ≤ 60; omega⟩ dL_price_34 rfl (fun w9 h9 => ?_)
    obtain ⟨H6, hI7, rfl⟩ := h9
    refine v_eqw (ws' := WO cy A ((fSh ((fSh S x1).2) x2).2) H6) rfl ?_
    exact v_sub [2, 1, 0] (lv' := [(0, .ref A.1), (3, .int v1), (4, .int ((fSh S x1).1))]) rfl (bL_price_37 hC hr hX hT9  _ _ _ _ _ _ _ _ hI7 (by omega) (by omega) (by omega) h)
  · have h := ite_t c h
    refine v_ldc hC (v := (-9999003)) dL_price_23 (List.mem_cons_of_mem _ kW_18) rfl ?_
    refine v_goto hC (tgt := 37) dL_price_25 (by decide) ?_
    exact v_sub [2, 1, 0] (lv' := [(0, .ref A.1), (3, .int v1), (4, .int ((fSh S x1).1))]) rfl (bL_price_37 hC hr hX hT9  _ _ _ _ _ _ _ _ hI5 (by omega) (by omega) (by omega) h)

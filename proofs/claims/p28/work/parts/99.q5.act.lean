/-! ===== the law: act ===== -/
def pL_act_100   (S : SS) (y1 : Int32) : Option (Int32 × SS) := some ((fEx S ((y1 / (nI 16)) - (y1 / (nI 16)) / (nI 2) * (nI 2)) ((y1 / (nI 32)) - (y1 / (nI 32)) / (nI 8) * (nI 8))).1, ((fEx S ((y1 / (nI 16)) - (y1 / (nI 16)) / (nI 2) * (nI 2)) ((y1 / (nI 32)) - (y1 / (nI 32)) / (nI 8) * (nI 8))).2))
def pL_act_121   (S : SS) (y1 : Int32) : Option (Int32 × SS) := some ((fSc S ((y1 / (nI 16)) - (y1 / (nI 16)) / (nI 2) * (nI 2)) ((nI 1) + ((y1 / (nI 32)) - (y1 / (nI 32)) / (nI 3) * (nI 3))) ((y1 / (nI 96)) - (y1 / (nI 96)) / (nI 2) * (nI 2)) ((y1 / (nI 192)) - (y1 / (nI 192)) / (nI 2) * (nI 2)) ((nI 10) + ((y1 / (nI 384)) - (y1 / (nI 384)) / (nI 231) * (nI 231)))).1, ((fSc S ((y1 / (nI 16)) - (y1 / (nI 16)) / (nI 2) * (nI 2)) ((nI 1) + ((y1 / (nI 32)) - (y1 / (nI 32)) / (nI 3) * (nI 3))) ((y1 / (nI 96)) - (y1 / (nI 96)) / (nI 2) * (nI 2)) ((y1 / (nI 192)) - (y1 / (nI 192)) / (nI 2) * (nI 2)) ((nI 10) + ((y1 / (nI 384)) - (y1 / (nI 384)) / (nI 231) * (nI 231)))).2))
def pL_act_165   (S : SS) (y4 : Int32) : Option (Int32 × SS) := some ((fSh S y4).1, ((fSh S y4).2))
def pL_act_241   (S : SS) (s0 : Int32) : Option (Int32 × SS) := some (s0, S)
def pL_act_265   (S : SS) (s0 : Int32) : Option (Int32 × SS) := some (s0, S)
def pL_act_252   (S : SS) : Option (Int32 × SS) := pL_act_265   S (-1)
def pL_act_306   (S : SS) (s0 : Int32) : Option (Int32 × SS) := some (s0, S)
def pL_act  (S : SS) (x1 : Int32) : Option (Int32 × SS) := if ¬ (aAb S.1 (nI 1)) = 0 then if (x1 - x1 / (nI 16) * (nI 16)) = (nI 0) then pL_act_100   S x1 else if (x1 - x1 / (nI 16) * (nI 16)) = (nI 1) then pL_act_100   S x1 else if (x1 - x1 / (nI 16) * (nI 16)) = (nI 2) then pL_act_100   S x1 else if (x1 - x1 / (nI 16) * (nI 16)) = (nI 3) then pL_act_121   S x1 else if (x1 - x1 / (nI 16) * (nI 16)) = (nI 4) then pL_act_121   S x1 else if (x1 - x1 / (nI 16) * (nI 16)) = (nI 5) then pL_act_165   S ((x1 / (nI 16)) - (x1 / (nI 16)) / (aAb S.1 (nI 1)) * (aAb S.1 (nI 1))) else if (x1 - x1 / (nI 16) * (nI 16)) = (nI 6) then pL_act_165   S ((x1 / (nI 16)) - (x1 / (nI 16)) / (aAb S.1 (nI 1)) * (aAb S.1 (nI 1))) else if (x1 - x1 / (nI 16) * (nI 16)) = (nI 7) then pL_act_165   S ((x1 / (nI 16)) - (x1 / (nI 16)) / (aAb S.1 (nI 1)) * (aAb S.1 (nI 1))) else if (x1 - x1 / (nI 16) * (nI 16)) = (nI 8) then pL_act_165   S ((x1 / (nI 16)) - (x1 / (nI 16)) / (aAb S.1 (nI 1)) * (aAb S.1 (nI 1))) else if (x1 - x1 / (nI 16) * (nI 16)) = (nI 9) then if ¬ (aAb S.1 (nI 0)) = 0 then if ¬ (aAb S.1 (nI 0)) = 0 then some ((fRe S ((x1 / (nI 16)) - (x1 / (nI 16)) / (aAb S.1 (nI 1)) * (aAb S.1 (nI 1))) ((x1 / (nI 160)) - (x1 / (nI 160)) / (aAb S.1 (nI 0)) * (aAb S.1 (nI 0))) ((x1 / (nI 2240)) - (x1 / (nI 2240)) / (aAb S.1 (nI 0)) * (aAb S.1 (nI 0)))).1, ((fRe S ((x1 / (nI 16)) - (x1 / (nI 16)) / (aAb S.1 (nI 1)) * (aAb S.1 (nI 1))) ((x1 / (nI 160)) - (x1 / (nI 160)) / (aAb S.1 (nI 0)) * (aAb S.1 (nI 0))) ((x1 / (nI 2240)) - (x1 / (nI 2240)) / (aAb S.1 (nI 0)) * (aAb S.1 (nI 0)))).2)) else none else none else if (x1 - x1 / (nI 16) * (nI 16)) = (nI 10) then some ((fMe S).1, ((fMe S).2)) else if (x1 - x1 / (nI 16) * (nI 16)) = (nI 11) then if ((x1 / (nI 16)) - (x1 / (nI 16)) / (nI 3) * (nI 3)) = 0 then pL_act_241   ((fNx S).2) ((fNx S).1) else pL_act_241   ((fSe S ((x1 / (nI 16)) - (x1 / (nI 16)) / (nI 3) * (nI 3)) ((x1 / (nI 48)) - (x1 / (nI 48)) / (nI 700) * (nI 700))).2) ((fSe S ((x1 / (nI 16)) - (x1 / (nI 16)) / (nI 3) * (nI 3)) ((x1 / (nI 48)) - (x1 / (nI 48)) / (nI 700) * (nI 700))).1) else if (x1 - x1 / (nI 16) * (nI 16)) = (nI 12) then if (aAb S.1 (nI 0)) < (nI 3) then pL_act_252   S else if (nI 3) ≤ (aAb S.1 (nI 1)) then pL_act_265   ((fUn S).2) ((fUn S).1) else pL_act_252   S else if (x1 - x1 / (nI 16) * (nI 16)) = (nI 13) then if ((x1 / (nI 16)) - (x1 / (nI 16)) / (nI 2) * (nI 2)) = 0 then pL_act_306   ((fSa S ((x1 / (nI 32)) - (x1 / (nI 32)) / (nI 2) * (nI 2))).2) ((fSa S ((x1 / (nI 32)) - (x1 / (nI 32)) / (nI 2) * (nI 2))).1) else pL_act_306   ((fBa S ((x1 / (nI 32)) - (x1 / (nI 32)) / (nI 2) * (nI 2))).2) ((fBa S ((x1 / (nI 32)) - (x1 / (nI 32)) / (nI 2) * (nI 2))).1) else some ((fSh S ((x1 / (nI 16)) - (x1 / (nI 16)) / (aAb S.1 (nI 1)) * (aAb S.1 (nI 1)))).1, ((fSh S ((x1 / (nI 16)) - (x1 / (nI 16)) / (aAb S.1 (nI 1)) * (aAb S.1 (nI 1)))).2)) else none
abbrev rmL_act : Room := { frames := 11, cells := 6, slots := 36, locals := 202 }
set_option maxHeartbeats 4000000 in
set_option maxRecDepth 100000 in
theorem bL_act_100 {p : Program} {l : Launch} {e : Env} {s : State} {m : MethodId} {args : Array Value} {below : List Frame} {meth : Method} {c9 : Code} {g : va_G} {cy : Nat → ClassId} {tt sa : Nat → Nat} {A9 : Nat → Prop} (hC : CX p s m args meth c9 g cy 5 cL_act wsM_act RL) (hr : meth.sig.returnType = some .int) (hX : XL l s tt sa A9) {A : AA} {T : Nat} (hT9 : T < 8000) {res : Int32 × SS} : ∀  (S : SS) (y1 : Int32) (H : HH) (t cells slots : Nat) (hI : RP t S H) (ht : t + 1 ≤ T) (hc : cells + 2 ≤ 6) (hs : slots + 6 * 2 ≤ 36) (h : pL_act_100   S y1 = some res), V p l e (headSpec wsM_act rmL_act).room s m args below meth c9 g 5 cells slots (MQ below (QE g A9 res.1 (WP cy A T res.2)) args s 6 36 A9) A9 A9 (WO cy A S H) 100 [(0, .ref A.1), (1, .int y1)] [] := by
  intro  S y1 H t cells slots hI ht hc hs h
  unfold pL_act_100 at h
  refine v_aload_n hC dL_act_100 rfl 0 rfl rfl ?_
  refine v_bipush hC (v := (nI 6)) dL_act_101 (by decide) rfl ?_
  refine v_iload_n hC dL_act_103 rfl 1 rfl rfl ?_
  refine v_bipush hC (v := (nI 16)) dL_act_104 (by decide) rfl ?_
  refine v_idiv hC dL_act_106 (by decide) rfl ?_
  refine v_iconst hC (v := (nI 2)) dL_act_107 (by decide) rfl ?_
  refine v_irem hC dL_act_108 (by decide) rfl ?_
  refine v_iload_n hC dL_act_109 rfl 1 rfl rfl ?_
  refine v_bipush hC (v := (nI 32)) dL_act_110 (by decide) rfl ?_
  refine v_idiv hC dL_act_112 (by decide) rfl ?_
  refine v_bipush hC (v := (nI 8)) dL_act_113 (by decide) rfl ?_
  refine v_irem hC dL_act_115 (by decide) rfl ?_
  refine v_iconst hC (v := (nI 0)) dL_act_116 (by decide) rfl ?_
  refine l_callF hC hX (n := 5) (As := [.ref A.1, .int (nI 6), .int ((y1 / (nI 16)) - (y1 / (nI 16)) / (nI 2) * (nI 2)), .int ((y1 / (nI 32)) - (y1 / (nI 32)) / (nI 8) * (nI 8)), .int (nI 0)]) (st := []) (fun w => w) (fun sz => mC_Add l hX.1 g cy tt sa sz A ((y1 / (nI 16)) - (y1 / (nI 16)) / (nI 2) * (nI 2)) ((y1 / (nI 32)) - (y1 / (nI 32)) / (nI 8) * (nI 8)) (nI 0) hI (by omega)) (WR.full rfl) (fun w9 h9 => WR.full (WP_fst h9)) (goodIn_w gM_call) rfl rfl rfl (by decide +kernel) ⟨Nat.le_of_ble_eq_true rfl, Nat.le_of_ble_eq_true rfl⟩ rfl (Nat.le_of_ble_eq_true rfl) rfl ⟨by show _ + 2 ≤ 6; omega, by show _ + 12 ≤ 36; omega⟩ dL_act_117 rfl (fun w9 h9 => ?_)
  obtain ⟨H1, hI2, rfl⟩ := h9
  refine v_eqw (ws' := WO cy A ((fEx S ((y1 / (nI 16)) - (y1 / (nI 16)) / (nI 2) * (nI 2)) ((y1 / (nI 32)) - (y1 / (nI 32)) / (nI 8) * (nI 8))).2) H1) rfl ?_
  obtain rfl := Option.some.inj h
  exact v_irE2 hC (by omega) (by omega) hr rfl rfl dL_act_120 ⟨_, hI2.up (by omega), rfl⟩
set_option maxHeartbeats 4000000 in
set_option maxRecDepth 100000 in
theorem bL_act_121 {p : Program} {l : Launch} {e : Env} {s : State} {m : MethodId} {args : Array Value} {below : List Frame} {meth : Method} {c9 : Code} {g : va_G} {cy : Nat → ClassId} {tt sa : Nat → Nat} {A9 : Nat → Prop} (hC : CX p s m args meth c9 g cy 5 cL_act wsM_act RL) (hr : meth.sig.returnType = some .int) (hX : XL l s tt sa A9) {A : AA} {T : Nat} (hT9 : T < 8000) {res : Int32 × SS} : ∀  (S : SS) (y1 : Int32) (H : HH) (t cells slots : Nat) (hI : RP t S H) (ht : t + 1 ≤ T) (hc : cells + 2 ≤ 6) (hs : slots + 6 * 2 ≤ 36) (h : pL_act_121   S y1 = some res), V p l e (headSpec wsM_act rmL_act).room s m args below meth c9 g 5 cells slots (MQ below (QE g A9 res.1 (WP cy A T res.2)) args s 6 36 A9) A9 A9 (WO cy A S H) 121 [(0, .ref A.1), (1, .int y1)] [] := by
  intro  S y1 H t cells slots hI ht hc hs h
  unfold pL_act_121 at h
  refine v_aload_n hC dL_act_121 rfl 0 rfl rfl ?_
  refine v_iload_n hC dL_act_122 rfl 1 rfl rfl ?_
  refine v_bipush hC (v := (nI 16)) dL_act_123 (by decide) rfl ?_
  refine v_idiv hC dL_act_125 (by decide) rfl ?_
  refine v_iconst hC (v := (nI 2)) dL_act_126 (by decide) rfl ?_
  refine v_irem hC dL_act_127 (by decide) rfl ?_
  refine v_iconst hC (v := (nI 1)) dL_act_128 (by decide) rfl ?_
  refine v_iload_n hC dL_act_129 rfl 1 rfl rfl ?_
  refine v_bipush hC (v := (nI 32)) dL_act_130 (by decide) rfl ?_
  refine v_idiv hC dL_act_132 (by decide) rfl ?_
  refine v_iconst hC (v := (nI 3)) dL_act_133 (by decide) rfl ?_
  refine v_irem hC dL_act_134 (by decide) rfl ?_
  refine v_iadd hC dL_act_135 rfl ?_
  refine v_iload_n hC dL_act_136 rfl 1 rfl rfl ?_
  refine v_bipush hC (v := (nI 96)) dL_act_137 (by decide) rfl ?_
  refine v_idiv hC dL_act_139 (by decide) rfl ?_
  refine v_iconst hC (v := (nI 2)) dL_act_140 (by decide) rfl ?_
  refine v_irem hC dL_act_141 (by decide) rfl ?_
  refine v_iload_n hC dL_act_142 rfl 1 rfl rfl ?_
  refine v_sipush hC (v := (nI 192)) dL_act_143 (by decide) rfl ?_
  refine v_idiv hC dL_act_146 (by decide) rfl ?_
  refine v_iconst hC (v := (nI 2)) dL_act_147 (by decide) rfl ?_
  refine v_irem hC dL_act_148 (by decide) rfl ?_
  refine v_bipush hC (v := (nI 10)) dL_act_149 (by decide) rfl ?_
  refine v_iload_n hC dL_act_151 rfl 1 rfl rfl ?_
  refine v_sipush hC (v := (nI 384)) dL_act_152 (by decide) rfl ?_
  refine v_idiv hC dL_act_155 (by decide) rfl ?_
  refine v_sipush hC (v := (nI 231)) dL_act_156 (by decide) rfl ?_
  refine v_irem hC dL_act_159 (by decide) rfl ?_
  refine v_iadd hC dL_act_160 rfl ?_
  refine l_callE hC hX (n := 6) (As := [.ref A.1, .int ((y1 / (nI 16)) - (y1 / (nI 16)) / (nI 2) * (nI 2)), .int ((nI 1) + ((y1 / (nI 32)) - (y1 / (nI 32)) / (nI 3) * (nI 3))), .int ((y1 / (nI 96)) - (y1 / (nI 96)) / (nI 2) * (nI 2)), .int ((y1 / (nI 192)) - (y1 / (nI 192)) / (nI 2) * (nI 2)), .int ((nI 10) + ((y1 / (nI 384)) - (y1 / (nI 384)) / (nI 231) * (nI 231)))]) (st := []) (fun w => w) (fun sz => mL_adds l hX.1 g cy tt sa sz A ((y1 / (nI 16)) - (y1 / (nI 16)) / (nI 2) * (nI 2)) ((nI 1) + ((y1 / (nI 32)) - (y1 / (nI 32)) / (nI 3) * (nI 3))) ((y1 / (nI 96)) - (y1 / (nI 96)) / (nI 2) * (nI 2)) ((y1 / (nI 192)) - (y1 / (nI 192)) / (nI 2) * (nI 2)) ((nI 10) + ((y1 / (nI 384)) - (y1 / (nI 384)) / (nI 231) * (nI 231))) hI (by omega)) (WR.full rfl) (fun w9 h9 => WR.full (WP_fst h9)) (goodIn_w gM_adds) rfl rfl rfl (by decide +kernel) ⟨Nat.le_of_ble_eq_true rfl, Nat.le_of_ble_eq_true rfl⟩ rfl (Nat.le_of_ble_eq_true rfl) rfl ⟨by show _ + 2 ≤ 6; omega, by show _ + 12 ≤ 36; omega⟩ dL_act_161 rfl (fun w9 h9 => ?_)
  obtain ⟨H1, hI2, rfl⟩ := h9
  refine v_eqw (ws' := WO cy A ((fSc S ((y1 / (nI 16)) - (y1 / (nI 16)) / (nI 2) * (nI 2)) ((nI 1) + ((y1 / (nI 32)) - (y1 / (nI 32)) / (nI 3) * (nI 3))) ((y1 / (nI 96)) - (y1 / (nI 96)) / (nI 2) * (nI 2)) ((y1 / (nI 192)) - (y1 / (nI 192)) / (nI 2) * (nI 2)) ((nI 10) + ((y1 / (nI 384)) - (y1 / (nI 384)) / (nI 231) * (nI 231)))).2) H1) rfl ?_
  obtain rfl := Option.some.inj h
  exact v_irE2 hC (by omega) (by omega) hr rfl rfl dL_act_164 ⟨_, hI2.up (by omega), rfl⟩
set_option maxHeartbeats 4000000 in
set_option maxRecDepth 100000 in
theorem bL_act_165 {p : Program} {l : Launch} {e : Env} {s : State} {m : MethodId} {args : Array Value} {below : List Frame} {meth : Method} {c9 : Code} {g : va_G} {cy : Nat → ClassId} {tt sa : Nat → Nat} {A9 : Nat → Prop} (hC : CX p s m args meth c9 g cy 5 cL_act wsM_act RL) (hr : meth.sig.returnType = some .int) (hX : XL l s tt sa A9) {A : AA} {T : Nat} (hT9 : T < 8000) {res : Int32 × SS} : ∀  (S : SS) (y4 : Int32) (H : HH) (t cells slots : Nat) (hI : RP t S H) (ht : t + 1 ≤ T) (hc : cells + 2 ≤ 6) (hs : slots + 6 * 2 ≤ 36) (h : pL_act_165   S y4 = some res), V p l e (headSpec wsM_act rmL_act).room s m args below meth c9 g 5 cells slots (MQ below (QE g A9 res.1 (WP cy A T res.2)) args s 6 36 A9) A9 A9 (WO cy A S H) 165 [(0, .ref A.1), (4, .int y4)] [] := by
  intro  S y4 H t cells slots hI ht hc hs h
  unfold pL_act_165 at h
  refine v_aload_n hC dL_act_165 rfl 0 rfl rfl ?_
  refine v_bipush hC (v := (nI 7)) dL_act_166 (by decide) rfl ?_
  refine v_iload hC dL_act_168 1 rfl rfl ?_
  refine v_iconst hC (v := (nI 0)) dL_act_170 (by decide) rfl ?_
  refine v_iconst hC (v := (nI 0)) dL_act_171 (by decide) rfl ?_
  refine l_callF hC hX (n := 5) (As := [.ref A.1, .int (nI 7), .int y4, .int (nI 0), .int (nI 0)]) (st := []) (fun w => w) (fun sz => mC_Shoot l hX.1 g cy tt sa sz A y4 (nI 0) (nI 0) hI (by omega)) (WR.full rfl) (fun w9 h9 => WR.full (WP_fst h9)) (goodIn_w gM_call) rfl rfl rfl (by decide +kernel) ⟨Nat.le_of_ble_eq_true rfl, Nat.le_of_ble_eq_true rfl⟩ rfl (Nat.le_of_ble_eq_true rfl) rfl ⟨by show _ + 2 ≤ 6; omega, by show _ + 12 ≤ 36; omega⟩ dL_act_172 rfl (fun w9 h9 => ?_)
  obtain ⟨H1, hI2, rfl⟩ := h9
  refine v_eqw (ws' := WO cy A ((fSh S y4).2) H1) rfl ?_
  obtain rfl := Option.some.inj h
  exact v_irE2 hC (by omega) (by omega) hr rfl rfl dL_act_175 ⟨_, hI2.up (by omega), rfl⟩
set_option maxHeartbeats 4000000 in
set_option maxRecDepth 100000 in
theorem bL_act_241 {p : Program} {l : Launch} {e : Env} {s : State} {m : MethodId} {args : Array Value} {below : List Frame} {meth : Method} {c9 : Code} {g : va_G} {cy : Nat → ClassId} {tt sa : Nat → Nat} {A9 : Nat → Prop} (hC : CX p s m args meth c9 g cy 5 cL_act wsM_act RL) (hr : meth.sig.returnType = some .int) (hX : XL l s tt sa A9) {A : AA} {T : Nat} (hT9 : T < 8000) {res : Int32 × SS} : ∀  (S : SS) (s0 : Int32) (H : HH) (t cells slots : Nat) (hI : RP t S H) (ht : t + 0 ≤ T) (hc : cells + 0 ≤ 6) (hs : slots + 6 * 0 ≤ 36) (h : pL_act_241   S s0 = some res), V p l e (headSpec wsM_act rmL_act).room s m args below meth c9 g 5 cells slots (MQ below (QE g A9 res.1 (WP cy A T res.2)) args s 6 36 A9) A9 A9 (WO cy A S H) 241 [] [.int s0] := by
  intro  S s0 H t cells slots hI ht hc hs h
  unfold pL_act_241 at h
  obtain rfl := Option.some.inj h
  exact v_irE2 hC (by omega) (by omega) hr rfl rfl dL_act_241 ⟨_, hI.up (by omega), rfl⟩
set_option maxHeartbeats 4000000 in
set_option maxRecDepth 100000 in
theorem bL_act_265 {p : Program} {l : Launch} {e : Env} {s : State} {m : MethodId} {args : Array Value} {below : List Frame} {meth : Method} {c9 : Code} {g : va_G} {cy : Nat → ClassId} {tt sa : Nat → Nat} {A9 : Nat → Prop} (hC : CX p s m args meth c9 g cy 5 cL_act wsM_act RL) (hr : meth.sig.returnType = some .int) (hX : XL l s tt sa A9) {A : AA} {T : Nat} (hT9 : T < 8000) {res : Int32 × SS} : ∀  (S : SS) (s0 : Int32) (H : HH) (t cells slots : Nat) (hI : RP t S H) (ht : t + 0 ≤ T) (hc : cells + 0 ≤ 6) (hs : slots + 6 * 0 ≤ 36) (h : pL_act_265   S s0 = some res), V p l e (headSpec wsM_act rmL_act).room s m args below meth c9 g 5 cells slots (MQ below (QE g A9 res.1 (WP cy A T res.2)) args s 6 36 A9) A9 A9 (WO cy A S H) 265 [] [.int s0] := by
  intro  S s0 H t cells slots hI ht hc hs h
  unfold pL_act_265 at h
  obtain rfl := Option.some.inj h
  exact v_irE2 hC (by omega) (by omega) hr rfl rfl dL_act_265 ⟨_, hI.up (by omega), rfl⟩
set_option maxHeartbeats 4000000 in
set_option maxRecDepth 100000 in
theorem bL_act_252 {p : Program} {l : Launch} {e : Env} {s : State} {m : MethodId} {args : Array Value} {below : List Frame} {meth : Method} {c9 : Code} {g : va_G} {cy : Nat → ClassId} {tt sa : Nat → Nat} {A9 : Nat → Prop} (hC : CX p s m args meth c9 g cy 5 cL_act wsM_act RL) (hr : meth.sig.returnType = some .int) (hX : XL l s tt sa A9) {A : AA} {T : Nat} (hT9 : T < 8000) {res : Int32 × SS} : ∀  (S : SS) (H : HH) (t cells slots : Nat) (hI : RP t S H) (ht : t + 0 ≤ T) (hc : cells + 0 ≤ 6) (hs : slots + 6 * 0 ≤ 36) (h : pL_act_252   S = some res), V p l e (headSpec wsM_act rmL_act).room s m args below meth c9 g 5 cells slots (MQ below (QE g A9 res.1 (WP cy A T res.2)) args s 6 36 A9) A9 A9 (WO cy A S H) 252 [] [] := by
  intro  S H t cells slots hI ht hc hs h
  unfold pL_act_252 at h
  refine v_iconst hC (v := (-1)) dL_act_252 (by decide) rfl ?_
  refine v_goto hC (tgt := 265) dL_act_253 (by decide) ?_
  exact bL_act_265 hC hr hX hT9  _ _ _ _ _ _ hI (by omega) (by omega) (by omega) h
set_option maxHeartbeats 4000000 in
set_option maxRecDepth 100000 in
theorem bL_act_306 {p : Program} {l : Launch} {e : Env} {s : State} {m : MethodId} {args : Array Value} {below : List Frame} {meth : Method} {c9 : Code} {g : va_G} {cy : Nat → ClassId} {tt sa : Nat → Nat} {A9 : Nat → Prop} (hC : CX p s m args meth c9 g cy 5 cL_act wsM_act RL) (hr : meth.sig.returnType = some .int) (hX : XL l s tt sa A9) {A : AA} {T : Nat} (hT9 : T < 8000) {res : Int32 × SS} : ∀  (S : SS) (s0 : Int32) (H : HH) (t cells slots : Nat) (hI : RP t S H) (ht : t + 0 ≤ T) (hc : cells + 0 ≤ 6) (hs : slots + 6 * 0 ≤ 36) (h : pL_act_306   S s0 = some res), V p l e (headSpec wsM_act rmL_act).room s m args below meth c9 g 5 cells slots (MQ below (QE g A9 res.1 (WP cy A T res.2)) args s 6 36 A9) A9 A9 (WO cy A S H) 306 [] [.int s0] := by
  intro  S s0 H t cells slots hI ht hc hs h
  unfold pL_act_306 at h
  obtain rfl := Option.some.inj h
  exact v_irE2 hC (by omega) (by omega) hr rfl rfl dL_act_306 ⟨_, hI.up (by omega), rfl⟩
set_option maxHeartbeats 4000000 in
set_option maxRecDepth 100000 in
theorem mL_act (l : Launch) (hlst : l.stackTraces = false) (g : va_G) (cy : Nat → ClassId) (tt sa : Nat → Nat) (sz : Nat) (A : AA) {t : Nat} {S : SS} {H : HH} (x1 : Int32) (hI : RP t S H) (ht9 : (t + 1) < 8000) {res : Int32 × SS} (h : pL_act  S x1 = some res) : Met l yL_act wsM_act rmL_act (PN [.ref A.1, .int x1] g cy tt sa sz (WO cy A S H)) (QE g (va_A (WO cy A S H) sz) res.1 (WP cy A (t + 1) res.2)) 6 36 (va_A (WO cy A S H) sz) := by
  obtain ⟨T, hTe⟩ : ∃ T, T = (t + 1) := ⟨_, rfl⟩
  have hT9 : T < 8000 := by omega
  have ht : t + 1 ≤ T := by omega
  rw [← hTe]
  refine m_ofVN (cc := cL_act) (nL := 5) (ret := some .int) hlst RL rfl (by decide) rfl [(0, .ref A.1), (1, .int x1)] rfl (Nat.le_of_ble_eq_true rfl) ?_
  intro p e s m args below meth c9 hC hr hX
  generalize (va_A (WO cy A S H) sz) = A9 at hX ⊢
  obtain ⟨cells, hce⟩ : ∃ cells, cells = 0 := ⟨_, rfl⟩
  obtain ⟨slots, hse⟩ : ∃ slots, slots = 0 := ⟨_, rfl⟩
  have hc : cells + 6 ≤ 6 := by omega
  have hs : slots + 6 * 6 ≤ 36 := by omega
  refine v_widen (k := cells) (n := slots) (by omega) (by omega) ?_
  unfold pL_act at h
  refine v_aload_n hC dL_act_0 rfl 0 rfl rfl ?_
  refine v_iconst hC (v := (nI 2)) dL_act_1 (by decide) rfl ?_
  refine v_iconst hC (v := (nI 0)) dL_act_2 (by decide) rfl ?_
  refine v_iconst hC (v := (nI 0)) dL_act_3 (by decide) rfl ?_
  refine v_iconst hC (v := (nI 0)) dL_act_4 (by decide) rfl ?_
  refine l_callF hC hX (n := 5) (As := [.ref A.1, .int (nI 2), .int (nI 0), .int (nI 0), .int (nI 0)]) (st := []) (fun w => w) (fun sz => mC_About l hX.1 g cy tt sa sz A (nI 0) (nI 0) (nI 0) hI (by omega)) (WR.full rfl) (fun w9 h9 => WR.full (WP_fst h9)) (goodIn_w gM_call) rfl rfl rfl (by decide +kernel) ⟨Nat.le_of_ble_eq_true rfl, Nat.le_of_ble_eq_true rfl⟩ rfl (Nat.le_of_ble_eq_true rfl) rfl ⟨by show _ + 1 ≤ 6; omega, by show _ + 6 ≤ 36; omega⟩ dL_act_5 rfl (fun w9 h9 => ?_)
  obtain ⟨H1, hI2, rfl⟩ := h9
  refine v_eqw (ws' := WO cy A S H1) rfl ?_
  refine v_istore_n hC dL_act_8 rfl (by decide) [(2, .int (aAb S.1 (nI 0))), (0, .ref A.1), (1, .int x1)] rfl rfl ?_
  refine v_aload_n hC dL_act_9 rfl 1 rfl rfl ?_
  refine v_iconst hC (v := (nI 2)) dL_act_10 (by decide) rfl ?_
  refine v_iconst hC (v := (nI 1)) dL_act_11 (by decide) rfl ?_
  refine v_iconst hC (v := (nI 0)) dL_act_12 (by decide) rfl ?_
  refine v_iconst hC (v := (nI 0)) dL_act_13 (by decide) rfl ?_
  refine l_callF hC hX (n := 5) (As := [.ref A.1, .int (nI 2), .int (nI 1), .int (nI 0), .int (nI 0)]) (st := []) (fun w => w) (fun sz => mC_About l hX.1 g cy tt sa sz A (nI 1) (nI 0) (nI 0) hI2 (by omega)) (WR.full rfl) (fun w9 h9 => WR.full (WP_fst h9)) (goodIn_w gM_call) rfl rfl rfl (by decide +kernel) ⟨Nat.le_of_ble_eq_true rfl, Nat.le_of_ble_eq_true rfl⟩ rfl (Nat.le_of_ble_eq_true rfl) rfl ⟨by show _ + 1 ≤ 6; omega, by show _ + 6 ≤ 36; omega⟩ dL_act_14 rfl (fun w9 h9 => ?_)
  obtain ⟨H3, hI4, rfl⟩ := h9
  refine v_eqw (ws' := WO cy A S H3) rfl ?_
  refine v_istore_n hC dL_act_17 rfl (by decide) [(3, .int (aAb S.1 (nI 1))), (2, .int (aAb S.1 (nI 0))), (0, .ref A.1), (1, .int x1)] rfl rfl ?_
  refine v_iload_n hC dL_act_18 rfl 3 rfl rfl ?_
  refine v_bipush hC (v := (nI 16)) dL_act_19 (by decide) rfl ?_
  refine v_idiv hC dL_act_21 (by decide) rfl ?_
  refine v_iload_n hC dL_act_22 rfl 0 rfl rfl ?_
  obtain ⟨hn, h⟩ := ite_g h
  refine v_irem hC dL_act_23 hn rfl ?_
  refine v_istore hC dL_act_24 (by decide) [(4, .int ((x1 / (nI 16)) - (x1 / (nI 16)) / (aAb S.1 (nI 1)) * (aAb S.1 (nI 1)))), (3, .int (aAb S.1 (nI 1))), (2, .int (aAb S.1 (nI 0))), (0, .ref A.1), (1, .int x1)] rfl rfl ?_
  refine v_iload_n hC dL_act_26 rfl 4 rfl rfl ?_
  refine v_bipush hC (v := (nI 16)) dL_act_27 (by decide) rfl ?_
  refine v_irem hC dL_act_29 (by decide) rfl ?_
  by_cases c0 : (x1 - x1 / (nI 16) * (nI 16)) = (nI 0)
  · have h := ite_t c0 h
    refine v_tswI hC (v := (nI 0)) (tgt := 100) dL_act_30 c0 (by decide) (by decide) rfl (by decide) ?_
    exact v_sub [3, 4] (lv' := [(0, .ref A.1), (1, .int x1)]) rfl (bL_act_100 hC hr hX hT9  _ _ _ _ _ _ hI4 (by omega) (by omega) (by omega) h)
  · have h := ite_f c0 h
    by_cases c1 : (x1 - x1 / (nI 16) * (nI 16)) = (nI 1)
    · have h := ite_t c1 h
      refine v_tswI hC (v := (nI 1)) (tgt := 100) dL_act_30 c1 (by decide) (by decide) rfl (by decide) ?_
      exact v_sub [3, 4] (lv' := [(0, .ref A.1), (1, .int x1)]) rfl (bL_act_100 hC hr hX hT9  _ _ _ _ _ _ hI4 (by omega) (by omega) (by omega) h)
    · have h := ite_f c1 h
      by_cases c2 : (x1 - x1 / (nI 16) * (nI 16)) = (nI 2)
      · have h := ite_t c2 h
        refine v_tswI hC (v := (nI 2)) (tgt := 100) dL_act_30 c2 (by decide) (by decide) rfl (by decide) ?_
        exact v_sub [3, 4] (lv' := [(0, .ref A.1), (1, .int x1)]) rfl (bL_act_100 hC hr hX hT9  _ _ _ _ _ _ hI4 (by omega) (by omega) (by omega) h)
      · have h := ite_f c2 h
        by_cases c3 : (x1 - x1 / (nI 16) * (nI 16)) = (nI 3)
        · have h := ite_t c3 h
          refine v_tswI hC (v := (nI 3)) (tgt := 121) dL_act_30 c3 (by decide) (by decide) rfl (by decide) ?_
          exact v_sub [3, 4] (lv' := [(0, .ref A.1), (1, .int x1)]) rfl (bL_act_121 hC hr hX hT9  _ _ _ _ _ _ hI4 (by omega) (by omega) (by omega) h)
        · have h := ite_f c3 h
          by_cases c4 : (x1 - x1 / (nI 16) * (nI 16)) = (nI 4)
          · have h := ite_t c4 h
            refine v_tswI hC (v := (nI 4)) (tgt := 121) dL_act_30 c4 (by decide) (by decide) rfl (by decide) ?_
            exact v_sub [3, 4] (lv' := [(0, .ref A.1), (1, .int x1)]) rfl (bL_act_121 hC hr hX hT9  _ _ _ _ _ _ hI4 (by omega) (by omega) (by omega) h)
          · have h := ite_f c4 h
            by_cases c5 : (x1 - x1 / (nI 16) * (nI 16)) = (nI 5)
            · have h := ite_t c5 h
              refine v_tswI hC (v := (nI 5)) (tgt := 165) dL_act_30 c5 (by decide) (by decide) rfl (by decide) ?_
              exact v_sub [3, 0] (lv' := [(0, .ref A.1), (4, .int ((x1 / (nI 16)) - (x1 / (nI 16)) / (aAb S.1 (nI 1)) * (aAb S.1 (nI 1))))]) rfl (bL_act_165 hC hr hX hT9  _ _ _ _ _ _ hI4 (by omega) (by omega) (by omega) h)
            · have h := ite_f c5 h
              by_cases c6 : (x1 - x1 / (nI 16) * (nI 16)) = (nI 6)
              · have h := ite_t c6 h
                refine v_tswI hC (v := (nI 6)) (tgt := 165) dL_act_30 c6 (by decide) (by decide) rfl (by decide) ?_
                exact v_sub [3, 0] (lv' := [(0, .ref A.1), (4, .int ((x1 / (nI 16)) - (x1 / (nI 16)) / (aAb S.1 (nI 1)) * (aAb S.1 (nI 1))))]) rfl (bL_act_165 hC hr hX hT9  _ _ _ _ _ _ hI4 (by omega) (by omega) (by omega) h)
              · have h := ite_f c6 h
                by_cases c7 : (x1 - x1 / (nI 16) * (nI 16)) = (nI 7)
                · have h := ite_t c7 h
                  refine v_tswI hC (v := (nI 7)) (tgt := 165) dL_act_30 c7 (by decide) (by decide) rfl (by decide) ?_
                  exact v_sub [3, 0] (lv' := [(0, .ref A.1), (4, .int ((x1 / (nI 16)) - (x1 / (nI 16)) / (aAb S.1 (nI 1)) * (aAb S.1 (nI 1))))]) rfl (bL_act_165 hC hr hX hT9  _ _ _ _ _ _ hI4 (by omega) (by omega) (by omega) h)
                · have h := ite_f c7 h
                  by_cases c8 : (x1 - x1 / (nI 16) * (nI 16)) = (nI 8)
                  · have h := ite_t c8 h
                    refine v_tswI hC (v := (nI 8)) (tgt := 165) dL_act_30 c8 (by decide) (by decide) rfl (by decide) ?_
                    exact v_sub [3, 0] (lv' := [(0, .ref A.1), (4, .int ((x1 / (nI 16)) - (x1 / (nI 16)) / (aAb S.1 (nI 1)) * (aAb S.1 (nI 1))))]) rfl (bL_act_165 hC hr hX hT9  _ _ _ _ _ _ hI4 (by omega) (by omega) (by omega) h)
                  · have h := ite_f c8 h
                    by_cases c9 : (x1 - x1 / (nI 16) * (nI 16)) = (nI 9)
                    · have h := ite_t c9 h
                      refine v_tswI hC (v := (nI 9)) (tgt := 176) dL_act_30 c9 (by decide) (by decide) rfl (by decide) ?_
                      refine v_aload_n hC dL_act_176 rfl 3 rfl rfl ?_
                      refine v_bipush hC (v := (nI 8)) dL_act_177 (by decide) rfl ?_
                      refine v_iload hC dL_act_179 0 rfl rfl ?_
                      refine v_iload_n hC dL_act_181 rfl 4 rfl rfl ?_
                      refine v_sipush hC (v := (nI 160)) dL_act_182 (by decide) rfl ?_
                      refine v_idiv hC dL_act_185 (by decide) rfl ?_
                      refine v_iload_n hC dL_act_186 rfl 2 rfl rfl ?_
                      obtain ⟨hn, h⟩ := ite_g h
                      refine v_irem hC dL_act_187 hn rfl ?_
                      refine v_iload_n hC dL_act_188 rfl 4 rfl rfl ?_
                      refine v_sipush hC (v := (nI 2240)) dL_act_189 (by decide) rfl ?_
                      refine v_idiv hC dL_act_192 (by decide) rfl ?_
                      refine v_iload_n hC dL_act_193 rfl 2 rfl rfl ?_
                      obtain ⟨hn, h⟩ := ite_g h
                      refine v_irem hC dL_act_194 hn rfl ?_
                      refine l_callF hC hX (n := 5) (As := [.ref A.1, .int (nI 8), .int ((x1 / (nI 16)) - (x1 / (nI 16)) / (aAb S.1 (nI 1)) * (aAb S.1 (nI 1))), .int ((x1 / (nI 160)) - (x1 / (nI 160)) / (aAb S.1 (nI 0)) * (aAb S.1 (nI 0))), .int ((x1 / (nI 2240)) - (x1 / (nI 2240)) / (aAb S.1 (nI 0)) * (aAb S.1 (nI 0)))]) (st := []) (fun w => w) (fun sz => mC_Replace l hX.1 g cy tt sa sz A ((x1 / (nI 16)) - (x1 / (nI 16)) / (aAb S.1 (nI 1)) * (aAb S.1 (nI 1))) ((x1 / (nI 160)) - (x1 / (nI 160)) / (aAb S.1 (nI 0)) * (aAb S.1 (nI 0))) ((x1 / (nI 2240)) - (x1 / (nI 2240)) / (aAb S.1 (nI 0)) * (aAb S.1 (nI 0))) hI4 (by omega)) (WR.full rfl) (fun w9 h9 => WR.full (WP_fst h9)) (goodIn_w gM_call) rfl rfl rfl (by decide +kernel) ⟨Nat.le_of_ble_eq_true rfl, Nat.le_of_ble_eq_true rfl⟩ rfl (Nat.le_of_ble_eq_true rfl) rfl ⟨by show _ + 4 ≤ 6; omega, by show _ + 24 ≤ 36; omega⟩ dL_act_195 rfl (fun w9 h9 => ?_)
                      obtain ⟨H5, hI6, rfl⟩ := h9
                      refine v_eqw (ws' := WO cy A ((fRe S ((x1 / (nI 16)) - (x1 / (nI 16)) / (aAb S.1 (nI 1)) * (aAb S.1 (nI 1))) ((x1 / (nI 160)) - (x1 / (nI 160)) / (aAb S.1 (nI 0)) * (aAb S.1 (nI 0))) ((x1 / (nI 2240)) - (x1 / (nI 2240)) / (aAb S.1 (nI 0)) * (aAb S.1 (nI 0)))).2) H5) rfl ?_
                      obtain rfl := Option.some.inj h
                      exact v_irE2 hC (by omega) (by omega) hr rfl rfl dL_act_198 ⟨_, hI6.up (by omega), rfl⟩
                    · have h := ite_f c9 h
                      by_cases c10 : (x1 - x1 / (nI 16) * (nI 16)) = (nI 10)
                      · have h := ite_t c10 h
                        refine v_tswI hC (v := (nI 10)) (tgt := 199) dL_act_30 c10 (by decide) (by decide) rfl (by decide) ?_
                        refine v_aload_n hC dL_act_199 rfl 3 rfl rfl ?_
                        refine v_meal hC hI4 (by omega) (st := []) (goodIn_w gM_meal) ⟨Nat.le_of_ble_eq_true rfl, Nat.le_of_ble_eq_true rfl⟩ (Nat.le_of_ble_eq_true rfl) ⟨by show _ + 0 ≤ 6; omega, by show _ + 0 ≤ 36; omega⟩ dL_act_200 rfl (fun H9 h9 => ?_)
                        obtain rfl := Option.some.inj h
                        exact v_irE2 hC (by omega) (by omega) hr rfl rfl dL_act_203 ⟨_, h9.up (by omega), rfl⟩
                      · have h := ite_f c10 h
                        by_cases c11 : (x1 - x1 / (nI 16) * (nI 16)) = (nI 11)
                        · have h := ite_t c11 h
                          refine v_tswI hC (v := (nI 11)) (tgt := 204) dL_act_30 c11 (by decide) (by decide) rfl (by decide) ?_
                          refine v_iload_n hC dL_act_204 rfl 4 rfl rfl ?_
                          refine v_bipush hC (v := (nI 16)) dL_act_205 (by decide) rfl ?_
                          refine v_idiv hC dL_act_207 (by decide) rfl ?_
                          refine v_iconst hC (v := (nI 3)) dL_act_208 (by decide) rfl ?_
                          refine v_irem hC dL_act_209 (by decide) rfl ?_
                          refine v_if_ne hC (tgt := 220) dL_act_210 (by decide) rfl (fun c => ?_) (fun c => ?_)
                          · have h := ite_f c h
                            refine v_aload_n hC dL_act_220 rfl 3 rfl rfl ?_
                            refine v_bipush hC (v := (nI 9)) dL_act_221 (by decide) rfl ?_
                            refine v_iload_n hC dL_act_223 rfl 4 rfl rfl ?_
                            refine v_bipush hC (v := (nI 16)) dL_act_224 (by decide) rfl ?_
                            refine v_idiv hC dL_act_226 (by decide) rfl ?_
                            refine v_iconst hC (v := (nI 3)) dL_act_227 (by decide) rfl ?_
                            refine v_irem hC dL_act_228 (by decide) rfl ?_
                            refine v_iload_n hC dL_act_229 rfl 4 rfl rfl ?_
                            refine v_bipush hC (v := (nI 48)) dL_act_230 (by decide) rfl ?_
                            refine v_idiv hC dL_act_232 (by decide) rfl ?_
                            refine v_sipush hC (v := (nI 700)) dL_act_233 (by decide) rfl ?_
                            refine v_irem hC dL_act_236 (by decide) rfl ?_
                            refine v_iconst hC (v := (nI 0)) dL_act_237 (by decide) rfl ?_
                            refine l_callF hC hX (n := 5) (As := [.ref A.1, .int (nI 9), .int ((x1 / (nI 16)) - (x1 / (nI 16)) / (nI 3) * (nI 3)), .int ((x1 / (nI 48)) - (x1 / (nI 48)) / (nI 700) * (nI 700)), .int (nI 0)]) (st := []) (fun w => w) (fun sz => mC_Lay l hX.1 g cy tt sa sz A ((x1 / (nI 16)) - (x1 / (nI 16)) / (nI 3) * (nI 3)) ((x1 / (nI 48)) - (x1 / (nI 48)) / (nI 700) * (nI 700)) (nI 0) hI4 (by omega)) (WR.full rfl) (fun w9 h9 => WR.full (WP_fst h9)) (goodIn_w gM_call) rfl rfl rfl (by decide +kernel) ⟨Nat.le_of_ble_eq_true rfl, Nat.le_of_ble_eq_true rfl⟩ rfl (Nat.le_of_ble_eq_true rfl) rfl ⟨by show _ + 1 ≤ 6; omega, by show _ + 6 ≤ 36; omega⟩ dL_act_238 rfl (fun w9 h9 => ?_)
                            obtain ⟨H9, hI10, rfl⟩ := h9
                            refine v_eqw (ws' := WO cy A ((fSe S ((x1 / (nI 16)) - (x1 / (nI 16)) / (nI 3) * (nI 3)) ((x1 / (nI 48)) - (x1 / (nI 48)) / (nI 700) * (nI 700))).2) H9) rfl ?_
                            exact v_sub [] (lv' := []) rfl (bL_act_241 hC hr hX hT9  _ _ _ _ _ _ hI10 (by omega) (by omega) (by omega) h)
                          · have h := ite_t c h
                            refine v_aload_n hC dL_act_213 rfl 3 rfl rfl ?_
                            refine v_nextDay hC hI4 (by omega) (st := []) (goodIn_w gM_nextDay) ⟨Nat.le_of_ble_eq_true rfl, Nat.le_of_ble_eq_true rfl⟩ (Nat.le_of_ble_eq_true rfl) ⟨by show _ + 0 ≤ 6; omega, by show _ + 0 ≤ 36; omega⟩ dL_act_214 rfl (fun H9 h9 => ?_)
                            refine v_goto hC (tgt := 241) dL_act_217 (by decide) ?_
                            exact v_sub [] (lv' := []) rfl (bL_act_241 hC hr hX hT9  _ _ _ _ _ _ h9 (by omega) (by omega) (by omega) h)
                        · have h := ite_f c11 h
                          by_cases c12 : (x1 - x1 / (nI 16) * (nI 16)) = (nI 12)
                          · have h := ite_t c12 h
                            refine v_tswI hC (v := (nI 12)) (tgt := 242) dL_act_30 c12 (by decide) (by decide) rfl (by decide) ?_
                            refine v_iload_n hC dL_act_242 rfl 2 rfl rfl ?_
                            refine v_iconst hC (v := (nI 3)) dL_act_243 (by decide) rfl ?_
                            refine v_icmp_lt hC (tgt := 252) dL_act_244 (by decide) rfl (fun c => ?_) (fun c => ?_)
                            · have h := ite_t c h
                              exact v_sub [] (lv' := []) rfl (bL_act_252 hC hr hX hT9  _ _ _ _ _ hI4 (by omega) (by omega) (by omega) h)
                            · have h := ite_f c h
                              refine v_iload_n hC dL_act_247 rfl 1 rfl rfl ?_
                              refine v_iconst hC (v := (nI 3)) dL_act_248 (by decide) rfl ?_
                              refine v_icmp_ge hC (tgt := 256) dL_act_249 (by decide) rfl (fun c => ?_) (fun c => ?_)
                              · have h := ite_t c h
                                refine v_aload_n hC dL_act_256 rfl 3 rfl rfl ?_
                                refine v_bipush hC (v := (nI 10)) dL_act_257 (by decide) rfl ?_
                                refine v_iconst hC (v := (nI 0)) dL_act_259 (by decide) rfl ?_
                                refine v_iconst hC (v := (nI 0)) dL_act_260 (by decide) rfl ?_
                                refine v_iconst hC (v := (nI 0)) dL_act_261 (by decide) rfl ?_
                                refine l_callF hC hX (n := 5) (As := [.ref A.1, .int (nI 10), .int (nI 0), .int (nI 0), .int (nI 0)]) (st := []) (fun w => w) (fun sz => mC_Undo l hX.1 g cy tt sa sz A (nI 0) (nI 0) (nI 0) hI4 (by omega)) (WR.full rfl) (fun w9 h9 => WR.full (WP_fst h9)) (goodIn_w gM_call) rfl rfl rfl (by decide +kernel) ⟨Nat.le_of_ble_eq_true rfl, Nat.le_of_ble_eq_true rfl⟩ rfl (Nat.le_of_ble_eq_true rfl) rfl ⟨by show _ + 1 ≤ 6; omega, by show _ + 6 ≤ 36; omega⟩ dL_act_262 rfl (fun w9 h9 => ?_)
                                obtain ⟨H13, hI14, rfl⟩ := h9
                                refine v_eqw (ws' := WO cy A ((fUn S).2) H13) rfl ?_
                                exact v_sub [] (lv' := []) rfl (bL_act_265 hC hr hX hT9  _ _ _ _ _ _ hI14 (by omega) (by omega) (by omega) h)
                              · have h := ite_f c h
                                exact v_sub [] (lv' := []) rfl (bL_act_252 hC hr hX hT9  _ _ _ _ _ hI4 (by omega) (by omega) (by omega) h)
                          · have h := ite_f c12 h
                            by_cases c13 : (x1 - x1 / (nI 16) * (nI 16)) = (nI 13)
                            · have h := ite_t c13 h
                              refine v_tswI hC (v := (nI 13)) (tgt := 266) dL_act_30 c13 (by decide) (by decide) rfl (by decide) ?_
                              refine v_iload_n hC dL_act_266 rfl 4 rfl rfl ?_
                              refine v_bipush hC (v := (nI 16)) dL_act_267 (by decide) rfl ?_
                              refine v_idiv hC dL_act_269 (by decide) rfl ?_
                              refine v_iconst hC (v := (nI 2)) dL_act_270 (by decide) rfl ?_
                              refine v_irem hC dL_act_271 (by decide) rfl ?_
                              refine v_if_ne hC (tgt := 292) dL_act_272 (by decide) rfl (fun c => ?_) (fun c => ?_)
                              · have h := ite_f c h
                                refine v_aload_n hC dL_act_292 rfl 3 rfl rfl ?_
                                refine v_bipush hC (v := (nI 16)) dL_act_293 (by decide) rfl ?_
                                refine v_iload_n hC dL_act_295 rfl 4 rfl rfl ?_
                                refine v_bipush hC (v := (nI 32)) dL_act_296 (by decide) rfl ?_
                                refine v_idiv hC dL_act_298 (by decide) rfl ?_
                                refine v_iconst hC (v := (nI 2)) dL_act_299 (by decide) rfl ?_
                                refine v_irem hC dL_act_300 (by decide) rfl ?_
                                refine v_iconst hC (v := (nI 0)) dL_act_301 (by decide) rfl ?_
                                refine v_iconst hC (v := (nI 0)) dL_act_302 (by decide) rfl ?_
                                refine l_callF hC hX (n := 5) (As := [.ref A.1, .int (nI 16), .int ((x1 / (nI 32)) - (x1 / (nI 32)) / (nI 2) * (nI 2)), .int (nI 0), .int (nI 0)]) (st := []) (fun w => w) (fun sz => mC_Back l hX.1 g cy tt sa sz A ((x1 / (nI 32)) - (x1 / (nI 32)) / (nI 2) * (nI 2)) (nI 0) (nI 0) hI4 (by omega)) (WR.full rfl) (fun w9 h9 => WR.full (WP_fst h9)) (goodIn_w gM_call) rfl rfl rfl (by decide +kernel) ⟨Nat.le_of_ble_eq_true rfl, Nat.le_of_ble_eq_true rfl⟩ rfl (Nat.le_of_ble_eq_true rfl) rfl ⟨by show _ + 2 ≤ 6; omega, by show _ + 12 ≤ 36; omega⟩ dL_act_303 rfl (fun w9 h9 => ?_)
                                obtain ⟨H15, hI16, rfl⟩ := h9
                                refine v_eqw (ws' := WO cy A ((fBa S ((x1 / (nI 32)) - (x1 / (nI 32)) / (nI 2) * (nI 2))).2) H15) rfl ?_
                                exact v_sub [] (lv' := []) rfl (bL_act_306 hC hr hX hT9  _ _ _ _ _ _ hI16 (by omega) (by omega) (by omega) h)
                              · have h := ite_t c h
                                refine v_aload_n hC dL_act_275 rfl 3 rfl rfl ?_
                                refine v_bipush hC (v := (nI 15)) dL_act_276 (by decide) rfl ?_
                                refine v_iload_n hC dL_act_278 rfl 4 rfl rfl ?_
                                refine v_bipush hC (v := (nI 32)) dL_act_279 (by decide) rfl ?_
                                refine v_idiv hC dL_act_281 (by decide) rfl ?_
                                refine v_iconst hC (v := (nI 2)) dL_act_282 (by decide) rfl ?_
                                refine v_irem hC dL_act_283 (by decide) rfl ?_
                                refine v_iconst hC (v := (nI 0)) dL_act_284 (by decide) rfl ?_
                                refine v_iconst hC (v := (nI 0)) dL_act_285 (by decide) rfl ?_
                                refine l_callF hC hX (n := 5) (As := [.ref A.1, .int (nI 15), .int ((x1 / (nI 32)) - (x1 / (nI 32)) / (nI 2) * (nI 2)), .int (nI 0), .int (nI 0)]) (st := []) (fun w => w) (fun sz => mC_Keep l hX.1 g cy tt sa sz A ((x1 / (nI 32)) - (x1 / (nI 32)) / (nI 2) * (nI 2)) (nI 0) (nI 0) hI4 (by omega)) (WR.full rfl) (fun w9 h9 => WR.full (WP_fst h9)) (goodIn_w gM_call) rfl rfl rfl (by decide +kernel) ⟨Nat.le_of_ble_eq_true rfl, Nat.le_of_ble_eq_true rfl⟩ rfl (Nat.le_of_ble_eq_true rfl) rfl ⟨by show _ + 1 ≤ 6; omega, by show _ + 6 ≤ 36; omega⟩ dL_act_286 rfl (fun w9 h9 => ?_)
                                obtain ⟨H17, hI18, rfl⟩ := h9
                                refine v_eqw (ws' := WO cy A ((fSa S ((x1 / (nI 32)) - (x1 / (nI 32)) / (nI 2) * (nI 2))).2) H17) rfl ?_
                                refine v_goto hC (tgt := 306) dL_act_289 (by decide) ?_
                                exact v_sub [] (lv' := []) rfl (bL_act_306 hC hr hX hT9  _ _ _ _ _ _ hI18 (by omega) (by omega) (by omega) h)
                            · have h := ite_f c13 h
                              refine v_tswO hC (tgt := 307) dL_act_30 (by have e0 := ne_I (z := 0) (by decide) c0; have e1 := ne_I (z := 1) (by decide) c1; have e2 := ne_I (z := 2) (by decide) c2; have e3 := ne_I (z := 3) (by decide) c3; have e4 := ne_I (z := 4) (by decide) c4; have e5 := ne_I (z := 5) (by decide) c5; have e6 := ne_I (z := 6) (by decide) c6; have e7 := ne_I (z := 7) (by decide) c7; have e8 := ne_I (z := 8) (by decide) c8; have e9 := ne_I (z := 9) (by decide) c9; have e10 := ne_I (z := 10) (by decide) c10; have e11 := ne_I (z := 11) (by decide) c11; have e12 := ne_I (z := 12) (by decide) c12; have e13 := ne_I (z := 13) (by decide) c13; omega) (by decide) ?_
                              refine v_aload_n hC dL_act_307 rfl 3 rfl rfl ?_
                              refine v_bipush hC (v := (nI 7)) dL_act_308 (by decide) rfl ?_
                              refine v_iload hC dL_act_310 0 rfl rfl ?_
                              refine v_iconst hC (v := (nI 0)) dL_act_312 (by decide) rfl ?_
                              refine v_iconst hC (v := (nI 0)) dL_act_313 (by decide) rfl ?_
                              refine l_callF hC hX (n := 5) (As := [.ref A.1, .int (nI 7), .int ((x1 / (nI 16)) - (x1 / (nI 16)) / (aAb S.1 (nI 1)) * (aAb S.1 (nI 1))), .int (nI 0), .int (nI 0)]) (st := []) (fun w => w) (fun sz => mC_Shoot l hX.1 g cy tt sa sz A ((x1 / (nI 16)) - (x1 / (nI 16)) / (aAb S.1 (nI 1)) * (aAb S.1 (nI 1))) (nI 0) (nI 0) hI4 (by omega)) (WR.full rfl) (fun w9 h9 => WR.full (WP_fst h9)) (goodIn_w gM_call) rfl rfl rfl (by decide +kernel) ⟨Nat.le_of_ble_eq_true rfl, Nat.le_of_ble_eq_true rfl⟩ rfl (Nat.le_of_ble_eq_true rfl) rfl ⟨by show _ + 2 ≤ 6; omega, by show _ + 12 ≤ 36; omega⟩ dL_act_314 rfl (fun w9 h9 => ?_)
                              obtain ⟨H19, hI20, rfl⟩ := h9
                              refine v_eqw (ws' := WO cy A ((fSh S ((x1 / (nI 16)) - (x1 / (nI 16)) / (aAb S.1 (nI 1)) * (aAb S.1 (nI 1)))).2) H19) rfl ?_
                              obtain rfl := Option.some.inj h
                              exact v_irE2 hC (by omega) (by omega) hr rfl rfl dL_act_317 ⟨_, hI20.up (by omega), rfl⟩

/-! ===== the law: both ===== -/
def pL_both_186   (S : SS) (U : SS) (s0 : Int32) : Option (Int32 × SS × SS) := (bz s0).bind fun b1 => some (b1, S, U)
def pL_both_185   (S : SS) (U : SS) : Option (Int32 × SS × SS) := pL_both_186   S U (nI 0)
def pL_both_178   (S : SS) (U : SS) (s0 : Int32) (s1 : Int32) : Option (Int32 × SS × SS) := if s1 = s0 then pL_both_186   S U (nI 1) else pL_both_185   S U
def pL_both_169   (S : SS) (U : SS) (y6 : Int32) (s0 : Int32) : Option (Int32 × SS × SS) := pL_both_178   S U y6 s0
def pL_both_143   (S : SS) (U : SS) (y4 : Int32) (y5 : Int32) (y6 : Int32) (s0 : Int32) (s1 : Int32) : Option (Int32 × SS × SS) := if s1 = s0 then if y6 = (-1) then pL_both_169   S U y6 (aOr S.1 y5 y4) else if y6 = (nI 2) then pL_both_169   S U y6 (aOr S.1 y5 y4) else pL_both_178   S U ((nI 1) - y6) (aOr S.1 y5 y4) else pL_both_185   S U
def pL_both_116   (S : SS) (U : SS) (y4 : Int32) (y5 : Int32) (y6 : Int32) (s0 : Int32) : Option (Int32 × SS × SS) := pL_both_143   S U y4 y5 y6 (-1) s0
def pL_both  (S : SS) (U : SS) (x2 : Int32) : Option (Int32 × SS × SS) := if ¬ (aAb S.1 (nI 1)) = 0 then if ¬ ((aAb S.1 (nI 1)) - (nI 1)) = 0 then if ¬ (aAb S.1 (nI 1)) = 0 then (pL_price S (x2 - x2 / (aAb S.1 (nI 1)) * (aAb S.1 (nI 1))) ((((x2 - x2 / (aAb S.1 (nI 1)) * (aAb S.1 (nI 1))) + (nI 1)) + ((x2 / (nI 16)) - (x2 / (nI 16)) / ((aAb S.1 (nI 1)) - (nI 1)) * ((aAb S.1 (nI 1)) - (nI 1)))) - (((x2 - x2 / (aAb S.1 (nI 1)) * (aAb S.1 (nI 1))) + (nI 1)) + ((x2 / (nI 16)) - (x2 / (nI 16)) / ((aAb S.1 (nI 1)) - (nI 1)) * ((aAb S.1 (nI 1)) - (nI 1)))) / (aAb S.1 (nI 1)) * (aAb S.1 (nI 1)))).bind fun v5 => (pL_price v5.2 ((((x2 - x2 / (aAb S.1 (nI 1)) * (aAb S.1 (nI 1))) + (nI 1)) + ((x2 / (nI 16)) - (x2 / (nI 16)) / ((aAb S.1 (nI 1)) - (nI 1)) * ((aAb S.1 (nI 1)) - (nI 1)))) - (((x2 - x2 / (aAb S.1 (nI 1)) * (aAb S.1 (nI 1))) + (nI 1)) + ((x2 / (nI 16)) - (x2 / (nI 16)) / ((aAb S.1 (nI 1)) - (nI 1)) * ((aAb S.1 (nI 1)) - (nI 1)))) / (aAb S.1 (nI 1)) * (aAb S.1 (nI 1))) (x2 - x2 / (aAb S.1 (nI 1)) * (aAb S.1 (nI 1)))).bind fun v8 => (pL_price U (x2 - x2 / (aAb S.1 (nI 1)) * (aAb S.1 (nI 1))) ((((x2 - x2 / (aAb S.1 (nI 1)) * (aAb S.1 (nI 1))) + (nI 1)) + ((x2 / (nI 16)) - (x2 / (nI 16)) / ((aAb S.1 (nI 1)) - (nI 1)) * ((aAb S.1 (nI 1)) - (nI 1)))) - (((x2 - x2 / (aAb S.1 (nI 1)) * (aAb S.1 (nI 1))) + (nI 1)) + ((x2 / (nI 16)) - (x2 / (nI 16)) / ((aAb S.1 (nI 1)) - (nI 1)) * ((aAb S.1 (nI 1)) - (nI 1)))) / (aAb S.1 (nI 1)) * (aAb S.1 (nI 1)))).bind fun v11 => if v11.1 = v5.1 then (pL_price v11.2 ((((x2 - x2 / (aAb S.1 (nI 1)) * (aAb S.1 (nI 1))) + (nI 1)) + ((x2 / (nI 16)) - (x2 / (nI 16)) / ((aAb S.1 (nI 1)) - (nI 1)) * ((aAb S.1 (nI 1)) - (nI 1)))) - (((x2 - x2 / (aAb S.1 (nI 1)) * (aAb S.1 (nI 1))) + (nI 1)) + ((x2 / (nI 16)) - (x2 / (nI 16)) / ((aAb S.1 (nI 1)) - (nI 1)) * ((aAb S.1 (nI 1)) - (nI 1)))) / (aAb S.1 (nI 1)) * (aAb S.1 (nI 1))) (x2 - x2 / (aAb S.1 (nI 1)) * (aAb S.1 (nI 1)))).bind fun v14 => if v14.1 = v8.1 then if v5.1 < (-1) then pL_both_185   v8.2 v14.2 else if v8.1 < (-1) then pL_both_185   v8.2 v14.2 else if v5.1 = (-1) then pL_both_116   v8.2 v14.2 (x2 - x2 / (aAb S.1 (nI 1)) * (aAb S.1 (nI 1))) ((((x2 - x2 / (aAb S.1 (nI 1)) * (aAb S.1 (nI 1))) + (nI 1)) + ((x2 / (nI 16)) - (x2 / (nI 16)) / ((aAb S.1 (nI 1)) - (nI 1)) * ((aAb S.1 (nI 1)) - (nI 1)))) - (((x2 - x2 / (aAb S.1 (nI 1)) * (aAb S.1 (nI 1))) + (nI 1)) + ((x2 / (nI 16)) - (x2 / (nI 16)) / ((aAb S.1 (nI 1)) - (nI 1)) * ((aAb S.1 (nI 1)) - (nI 1)))) / (aAb S.1 (nI 1)) * (aAb S.1 (nI 1))) (aOr S.1 (x2 - x2 / (aAb S.1 (nI 1)) * (aAb S.1 (nI 1))) ((((x2 - x2 / (aAb S.1 (nI 1)) * (aAb S.1 (nI 1))) + (nI 1)) + ((x2 / (nI 16)) - (x2 / (nI 16)) / ((aAb S.1 (nI 1)) - (nI 1)) * ((aAb S.1 (nI 1)) - (nI 1)))) - (((x2 - x2 / (aAb S.1 (nI 1)) * (aAb S.1 (nI 1))) + (nI 1)) + ((x2 / (nI 16)) - (x2 / (nI 16)) / ((aAb S.1 (nI 1)) - (nI 1)) * ((aAb S.1 (nI 1)) - (nI 1)))) / (aAb S.1 (nI 1)) * (aAb S.1 (nI 1)))) (aOr S.1 (x2 - x2 / (aAb S.1 (nI 1)) * (aAb S.1 (nI 1))) ((((x2 - x2 / (aAb S.1 (nI 1)) * (aAb S.1 (nI 1))) + (nI 1)) + ((x2 / (nI 16)) - (x2 / (nI 16)) / ((aAb S.1 (nI 1)) - (nI 1)) * ((aAb S.1 (nI 1)) - (nI 1)))) - (((x2 - x2 / (aAb S.1 (nI 1)) * (aAb S.1 (nI 1))) + (nI 1)) + ((x2 / (nI 16)) - (x2 / (nI 16)) / ((aAb S.1 (nI 1)) - (nI 1)) * ((aAb S.1 (nI 1)) - (nI 1)))) / (aAb S.1 (nI 1)) * (aAb S.1 (nI 1)))) else if v8.1 = (-1) then pL_both_116   v8.2 v14.2 (x2 - x2 / (aAb S.1 (nI 1)) * (aAb S.1 (nI 1))) ((((x2 - x2 / (aAb S.1 (nI 1)) * (aAb S.1 (nI 1))) + (nI 1)) + ((x2 / (nI 16)) - (x2 / (nI 16)) / ((aAb S.1 (nI 1)) - (nI 1)) * ((aAb S.1 (nI 1)) - (nI 1)))) - (((x2 - x2 / (aAb S.1 (nI 1)) * (aAb S.1 (nI 1))) + (nI 1)) + ((x2 / (nI 16)) - (x2 / (nI 16)) / ((aAb S.1 (nI 1)) - (nI 1)) * ((aAb S.1 (nI 1)) - (nI 1)))) / (aAb S.1 (nI 1)) * (aAb S.1 (nI 1))) (aOr S.1 (x2 - x2 / (aAb S.1 (nI 1)) * (aAb S.1 (nI 1))) ((((x2 - x2 / (aAb S.1 (nI 1)) * (aAb S.1 (nI 1))) + (nI 1)) + ((x2 / (nI 16)) - (x2 / (nI 16)) / ((aAb S.1 (nI 1)) - (nI 1)) * ((aAb S.1 (nI 1)) - (nI 1)))) - (((x2 - x2 / (aAb S.1 (nI 1)) * (aAb S.1 (nI 1))) + (nI 1)) + ((x2 / (nI 16)) - (x2 / (nI 16)) / ((aAb S.1 (nI 1)) - (nI 1)) * ((aAb S.1 (nI 1)) - (nI 1)))) / (aAb S.1 (nI 1)) * (aAb S.1 (nI 1)))) (aOr S.1 (x2 - x2 / (aAb S.1 (nI 1)) * (aAb S.1 (nI 1))) ((((x2 - x2 / (aAb S.1 (nI 1)) * (aAb S.1 (nI 1))) + (nI 1)) + ((x2 / (nI 16)) - (x2 / (nI 16)) / ((aAb S.1 (nI 1)) - (nI 1)) * ((aAb S.1 (nI 1)) - (nI 1)))) - (((x2 - x2 / (aAb S.1 (nI 1)) * (aAb S.1 (nI 1))) + (nI 1)) + ((x2 / (nI 16)) - (x2 / (nI 16)) / ((aAb S.1 (nI 1)) - (nI 1)) * ((aAb S.1 (nI 1)) - (nI 1)))) / (aAb S.1 (nI 1)) * (aAb S.1 (nI 1)))) else if v8.1 ≤ v5.1 then if v5.1 ≤ v8.1 then pL_both_143   v8.2 v14.2 (x2 - x2 / (aAb S.1 (nI 1)) * (aAb S.1 (nI 1))) ((((x2 - x2 / (aAb S.1 (nI 1)) * (aAb S.1 (nI 1))) + (nI 1)) + ((x2 / (nI 16)) - (x2 / (nI 16)) / ((aAb S.1 (nI 1)) - (nI 1)) * ((aAb S.1 (nI 1)) - (nI 1)))) - (((x2 - x2 / (aAb S.1 (nI 1)) * (aAb S.1 (nI 1))) + (nI 1)) + ((x2 / (nI 16)) - (x2 / (nI 16)) / ((aAb S.1 (nI 1)) - (nI 1)) * ((aAb S.1 (nI 1)) - (nI 1)))) / (aAb S.1 (nI 1)) * (aAb S.1 (nI 1))) (aOr S.1 (x2 - x2 / (aAb S.1 (nI 1)) * (aAb S.1 (nI 1))) ((((x2 - x2 / (aAb S.1 (nI 1)) * (aAb S.1 (nI 1))) + (nI 1)) + ((x2 / (nI 16)) - (x2 / (nI 16)) / ((aAb S.1 (nI 1)) - (nI 1)) * ((aAb S.1 (nI 1)) - (nI 1)))) - (((x2 - x2 / (aAb S.1 (nI 1)) * (aAb S.1 (nI 1))) + (nI 1)) + ((x2 / (nI 16)) - (x2 / (nI 16)) / ((aAb S.1 (nI 1)) - (nI 1)) * ((aAb S.1 (nI 1)) - (nI 1)))) / (aAb S.1 (nI 1)) * (aAb S.1 (nI 1)))) (nI 2) (aOr S.1 (x2 - x2 / (aAb S.1 (nI 1)) * (aAb S.1 (nI 1))) ((((x2 - x2 / (aAb S.1 (nI 1)) * (aAb S.1 (nI 1))) + (nI 1)) + ((x2 / (nI 16)) - (x2 / (nI 16)) / ((aAb S.1 (nI 1)) - (nI 1)) * ((aAb S.1 (nI 1)) - (nI 1)))) - (((x2 - x2 / (aAb S.1 (nI 1)) * (aAb S.1 (nI 1))) + (nI 1)) + ((x2 / (nI 16)) - (x2 / (nI 16)) / ((aAb S.1 (nI 1)) - (nI 1)) * ((aAb S.1 (nI 1)) - (nI 1)))) / (aAb S.1 (nI 1)) * (aAb S.1 (nI 1)))) else pL_both_143   v8.2 v14.2 (x2 - x2 / (aAb S.1 (nI 1)) * (aAb S.1 (nI 1))) ((((x2 - x2 / (aAb S.1 (nI 1)) * (aAb S.1 (nI 1))) + (nI 1)) + ((x2 / (nI 16)) - (x2 / (nI 16)) / ((aAb S.1 (nI 1)) - (nI 1)) * ((aAb S.1 (nI 1)) - (nI 1)))) - (((x2 - x2 / (aAb S.1 (nI 1)) * (aAb S.1 (nI 1))) + (nI 1)) + ((x2 / (nI 16)) - (x2 / (nI 16)) / ((aAb S.1 (nI 1)) - (nI 1)) * ((aAb S.1 (nI 1)) - (nI 1)))) / (aAb S.1 (nI 1)) * (aAb S.1 (nI 1))) (aOr S.1 (x2 - x2 / (aAb S.1 (nI 1)) * (aAb S.1 (nI 1))) ((((x2 - x2 / (aAb S.1 (nI 1)) * (aAb S.1 (nI 1))) + (nI 1)) + ((x2 / (nI 16)) - (x2 / (nI 16)) / ((aAb S.1 (nI 1)) - (nI 1)) * ((aAb S.1 (nI 1)) - (nI 1)))) - (((x2 - x2 / (aAb S.1 (nI 1)) * (aAb S.1 (nI 1))) + (nI 1)) + ((x2 / (nI 16)) - (x2 / (nI 16)) / ((aAb S.1 (nI 1)) - (nI 1)) * ((aAb S.1 (nI 1)) - (nI 1)))) / (aAb S.1 (nI 1)) * (aAb S.1 (nI 1)))) (nI 1) (aOr S.1 (x2 - x2 / (aAb S.1 (nI 1)) * (aAb S.1 (nI 1))) ((((x2 - x2 / (aAb S.1 (nI 1)) * (aAb S.1 (nI 1))) + (nI 1)) + ((x2 / (nI 16)) - (x2 / (nI 16)) / ((aAb S.1 (nI 1)) - (nI 1)) * ((aAb S.1 (nI 1)) - (nI 1)))) - (((x2 - x2 / (aAb S.1 (nI 1)) * (aAb S.1 (nI 1))) + (nI 1)) + ((x2 / (nI 16)) - (x2 / (nI 16)) / ((aAb S.1 (nI 1)) - (nI 1)) * ((aAb S.1 (nI 1)) - (nI 1)))) / (aAb S.1 (nI 1)) * (aAb S.1 (nI 1)))) else pL_both_143   v8.2 v14.2 (x2 - x2 / (aAb S.1 (nI 1)) * (aAb S.1 (nI 1))) ((((x2 - x2 / (aAb S.1 (nI 1)) * (aAb S.1 (nI 1))) + (nI 1)) + ((x2 / (nI 16)) - (x2 / (nI 16)) / ((aAb S.1 (nI 1)) - (nI 1)) * ((aAb S.1 (nI 1)) - (nI 1)))) - (((x2 - x2 / (aAb S.1 (nI 1)) * (aAb S.1 (nI 1))) + (nI 1)) + ((x2 / (nI 16)) - (x2 / (nI 16)) / ((aAb S.1 (nI 1)) - (nI 1)) * ((aAb S.1 (nI 1)) - (nI 1)))) / (aAb S.1 (nI 1)) * (aAb S.1 (nI 1))) (aOr S.1 (x2 - x2 / (aAb S.1 (nI 1)) * (aAb S.1 (nI 1))) ((((x2 - x2 / (aAb S.1 (nI 1)) * (aAb S.1 (nI 1))) + (nI 1)) + ((x2 / (nI 16)) - (x2 / (nI 16)) / ((aAb S.1 (nI 1)) - (nI 1)) * ((aAb S.1 (nI 1)) - (nI 1)))) - (((x2 - x2 / (aAb S.1 (nI 1)) * (aAb S.1 (nI 1))) + (nI 1)) + ((x2 / (nI 16)) - (x2 / (nI 16)) / ((aAb S.1 (nI 1)) - (nI 1)) * ((aAb S.1 (nI 1)) - (nI 1)))) / (aAb S.1 (nI 1)) * (aAb S.1 (nI 1)))) (nI 0) (aOr S.1 (x2 - x2 / (aAb S.1 (nI 1)) * (aAb S.1 (nI 1))) ((((x2 - x2 / (aAb S.1 (nI 1)) * (aAb S.1 (nI 1))) + (nI 1)) + ((x2 / (nI 16)) - (x2 / (nI 16)) / ((aAb S.1 (nI 1)) - (nI 1)) * ((aAb S.1 (nI 1)) - (nI 1)))) - (((x2 - x2 / (aAb S.1 (nI 1)) * (aAb S.1 (nI 1))) + (nI 1)) + ((x2 / (nI 16)) - (x2 / (nI 16)) / ((aAb S.1 (nI 1)) - (nI 1)) * ((aAb S.1 (nI 1)) - (nI 1)))) / (aAb S.1 (nI 1)) * (aAb S.1 (nI 1)))) else pL_both_185   v8.2 v14.2 else pL_both_185   v8.2 v11.2 else none else none else none
abbrev rmL_both : Room := { frames := 12, cells := 47, slots := 282, locals := 226 }
set_option maxHeartbeats 4000000 in
set_option maxRecDepth 100000 in
theorem bL_both_186 {p : Program} {l : Launch} {e : Env} {s : State} {m : MethodId} {args : Array Value} {below : List Frame} {meth : Method} {c9 : Code} {g : va_G} {cy : Nat → ClassId} {tt sa : Nat → Nat} {A9 : Nat → Prop} (hC : CX p s m args meth c9 g cy 9 cL_both wsM_both RL) (hr : meth.sig.returnType = some .boolean) (hX : XL l s tt sa A9) {A B : AA} {T T2 : Nat} (hT9 : T < 8000) (hU9 : T2 < 8000) {res : Int32 × SS × SS} : ∀  (S : SS) (U : SS) (s0 : Int32) (H : HH) (I : HH) (t u cells slots : Nat) (hI : RP t S H) (hJ : RP u U I) (ht : t + 0 ≤ T) (hu : u + 0 ≤ T2) (hc : cells + 0 ≤ 47) (hs : slots + 6 * 0 ≤ 282) (h : pL_both_186   S U s0 = some res), V p l e (headSpec wsM_both rmL_both).room s m args below meth c9 g 9 cells slots (MQ below (QE g A9 res.1 (WP2 cy A B T res.2.1 T2 res.2.2)) args s 47 282 A9) A9 A9 (WO cy A S H ++ WO cy B U I) 186 [] [.int s0] := by
  intro  S U s0 H I t u cells slots hI hJ ht hu hc hs h
  unfold pL_both_186 at h
  obtain ⟨b1, hb9, h⟩ := bind_g h
  obtain ⟨e9, hn⟩ := bz_g hb9
  obtain rfl := Option.some.inj h
  exact v_irE2 hC (by omega) (by omega) hr hn e9 dL_both_186 ⟨_, _, hI.up (by omega), hJ.up (by omega), rfl⟩
set_option maxHeartbeats 4000000 in
set_option maxRecDepth 100000 in
theorem bL_both_185 {p : Program} {l : Launch} {e : Env} {s : State} {m : MethodId} {args : Array Value} {below : List Frame} {meth : Method} {c9 : Code} {g : va_G} {cy : Nat → ClassId} {tt sa : Nat → Nat} {A9 : Nat → Prop} (hC : CX p s m args meth c9 g cy 9 cL_both wsM_both RL) (hr : meth.sig.returnType = some .boolean) (hX : XL l s tt sa A9) {A B : AA} {T T2 : Nat} (hT9 : T < 8000) (hU9 : T2 < 8000) {res : Int32 × SS × SS} : ∀  (S : SS) (U : SS) (H : HH) (I : HH) (t u cells slots : Nat) (hI : RP t S H) (hJ : RP u U I) (ht : t + 0 ≤ T) (hu : u + 0 ≤ T2) (hc : cells + 0 ≤ 47) (hs : slots + 6 * 0 ≤ 282) (h : pL_both_185   S U = some res), V p l e (headSpec wsM_both rmL_both).room s m args below meth c9 g 9 cells slots (MQ below (QE g A9 res.1 (WP2 cy A B T res.2.1 T2 res.2.2)) args s 47 282 A9) A9 A9 (WO cy A S H ++ WO cy B U I) 185 [] [] := by
  intro  S U H I t u cells slots hI hJ ht hu hc hs h
  unfold pL_both_185 at h
  refine v_iconst hC (v := (nI 0)) dL_both_185 (by decide) rfl ?_
  exact bL_both_186 hC hr hX hT9 hU9  _ _ _ _ _ _ _ _ _ hI hJ (by omega) (by omega) (by omega) (by omega) h
set_option maxHeartbeats 4000000 in
set_option maxRecDepth 100000 in
theorem bL_both_178 {p : Program} {l : Launch} {e : Env} {s : State} {m : MethodId} {args : Array Value} {below : List Frame} {meth : Method} {c9 : Code} {g : va_G} {cy : Nat → ClassId} {tt sa : Nat → Nat} {A9 : Nat → Prop} (hC : CX p s m args meth c9 g cy 9 cL_both wsM_both RL) (hr : meth.sig.returnType = some .boolean) (hX : XL l s tt sa A9) {A B : AA} {T T2 : Nat} (hT9 : T < 8000) (hU9 : T2 < 8000) {res : Int32 × SS × SS} : ∀  (S : SS) (U : SS) (s0 : Int32) (s1 : Int32) (H : HH) (I : HH) (t u cells slots : Nat) (hI : RP t S H) (hJ : RP u U I) (ht : t + 0 ≤ T) (hu : u + 0 ≤ T2) (hc : cells + 0 ≤ 47) (hs : slots + 6 * 0 ≤ 282) (h : pL_both_178   S U s0 s1 = some res), V p l e (headSpec wsM_both rmL_both).room s m args below meth c9 g 9 cells slots (MQ below (QE g A9 res.1 (WP2 cy A B T res.2.1 T2 res.2.2)) args s 47 282 A9) A9 A9 (WO cy A S H ++ WO cy B U I) 178 [] [.int s0, .int s1] := by
  intro  S U s0 s1 H I t u cells slots hI hJ ht hu hc hs h
  unfold pL_both_178 at h
  refine v_icmp_ne hC (tgt := 185) dL_both_178 (by decide) rfl (fun c => ?_) (fun c => ?_)
  · have h := ite_f c h
    exact bL_both_185 hC hr hX hT9 hU9  _ _ _ _ _ _ _ _ hI hJ (by omega) (by omega) (by omega) (by omega) h
  · have h := ite_t c h
    refine v_iconst hC (v := (nI 1)) dL_both_181 (by decide) rfl ?_
    refine v_goto hC (tgt := 186) dL_both_182 (by decide) ?_
    exact bL_both_186 hC hr hX hT9 hU9  _ _ _ _ _ _ _ _ _ hI hJ (by omega) (by omega) (by omega) (by omega) h
set_option maxHeartbeats 4000000 in
set_option maxRecDepth 100000 in
theorem bL_both_169 {p : Program} {l : Launch} {e : Env} {s : State} {m : MethodId} {args : Array Value} {below : List Frame} {meth : Method} {c9 : Code} {g : va_G} {cy : Nat → ClassId} {tt sa : Nat → Nat} {A9 : Nat → Prop} (hC : CX p s m args meth c9 g cy 9 cL_both wsM_both RL) (hr : meth.sig.returnType = some .boolean) (hX : XL l s tt sa A9) {A B : AA} {T T2 : Nat} (hT9 : T < 8000) (hU9 : T2 < 8000) {res : Int32 × SS × SS} : ∀  (S : SS) (U : SS) (y6 : Int32) (s0 : Int32) (H : HH) (I : HH) (t u cells slots : Nat) (hI : RP t S H) (hJ : RP u U I) (ht : t + 0 ≤ T) (hu : u + 0 ≤ T2) (hc : cells + 0 ≤ 47) (hs : slots + 6 * 0 ≤ 282) (h : pL_both_169   S U y6 s0 = some res), V p l e (headSpec wsM_both rmL_both).room s m args below meth c9 g 9 cells slots (MQ below (QE g A9 res.1 (WP2 cy A B T res.2.1 T2 res.2.2)) args s 47 282 A9) A9 A9 (WO cy A S H ++ WO cy B U I) 169 [(6, .int y6)] [.int s0] := by
  intro  S U y6 s0 H I t u cells slots hI hJ ht hu hc hs h
  unfold pL_both_169 at h
  refine v_iload hC dL_both_169 0 rfl rfl ?_
  refine v_goto hC (tgt := 178) dL_both_171 (by decide) ?_
  exact v_sub [] (lv' := []) rfl (bL_both_178 hC hr hX hT9 hU9  _ _ _ _ _ _ _ _ _ _ hI hJ (by omega) (by omega) (by omega) (by omega) h)
set_option maxHeartbeats 4000000 in
set_option maxRecDepth 100000 in
theorem bL_both_143 {p : Program} {l : Launch} {e : Env} {s : State} {m : MethodId} {args : Array Value} {below : List Frame} {meth : Method} {c9 : Code} {g : va_G} {cy : Nat → ClassId} {tt sa : Nat → Nat} {A9 : Nat → Prop} (hC : CX p s m args meth c9 g cy 9 cL_both wsM_both RL) (hr : meth.sig.returnType = some .boolean) (hX : XL l s tt sa A9) {A B : AA} {T T2 : Nat} (hT9 : T < 8000) (hU9 : T2 < 8000) {res : Int32 × SS × SS} : ∀  (S : SS) (U : SS) (y4 : Int32) (y5 : Int32) (y6 : Int32) (s0 : Int32) (s1 : Int32) (H : HH) (I : HH) (t u cells slots : Nat) (hI : RP t S H) (hJ : RP u U I) (ht : t + 0 ≤ T) (hu : u + 0 ≤ T2) (hc : cells + 3 ≤ 47) (hs : slots + 6 * 3 ≤ 282) (h : pL_both_143   S U y4 y5 y6 s0 s1 = some res), V p l e (headSpec wsM_both rmL_both).room s m args below meth c9 g 9 cells slots (MQ below (QE g A9 res.1 (WP2 cy A B T res.2.1 T2 res.2.2)) args s 47 282 A9) A9 A9 (WO cy A S H ++ WO cy B U I) 143 [(0, .ref A.1), (4, .int y4), (5, .int y5), (6, .int y6)] [.int s0, .int s1] := by
  intro  S U y4 y5 y6 s0 s1 H I t u cells slots hI hJ ht hu hc hs h
  unfold pL_both_143 at h
  refine v_icmp_ne hC (tgt := 185) dL_both_143 (by decide) rfl (fun c => ?_) (fun c => ?_)
  · have h := ite_f c h
    exact v_sub [] (lv' := []) rfl (bL_both_185 hC hr hX hT9 hU9  _ _ _ _ _ _ _ _ hI hJ (by omega) (by omega) (by omega) (by omega) h)
  · have h := ite_t c h
    refine v_aload_n hC dL_both_146 rfl 0 rfl rfl ?_
    refine v_bipush hC (v := (nI 14)) dL_both_147 (by decide) rfl ?_
    refine v_iload hC dL_both_149 2 rfl rfl ?_
    refine v_iload hC dL_both_151 1 rfl rfl ?_
    refine v_iconst hC (v := (nI 0)) dL_both_153 (by decide) rfl ?_
    refine l_callF hC hX (n := 5) (As := [.ref A.1, .int (nI 14), .int y5, .int y4, .int (nI 0)]) (st := []) (fun w => w ++ WO cy B U I) (fun sz => mC_Order l hX.1 g cy tt sa sz A y5 y4 (nI 0) hI (by omega)) (WR.appL (WR.full rfl)) (fun w9 h9 => WR.appL (WR.full (WP_fst h9))) (goodIn_w gM_call) rfl rfl rfl (by decide +kernel) ⟨Nat.le_of_ble_eq_true rfl, Nat.le_of_ble_eq_true rfl⟩ rfl (Nat.le_of_ble_eq_true rfl) rfl ⟨by show _ + 3 ≤ 47; omega, by show _ + 18 ≤ 282; omega⟩ dL_both_154 rfl (fun w9 h9 => ?_)
    obtain ⟨H1, hI2, rfl⟩ := h9
    refine v_eqw (ws' := WO cy A S H1 ++ WO cy B U I) rfl ?_
    refine v_iload hC dL_both_157 3 rfl rfl ?_
    refine v_iconst hC (v := (-1)) dL_both_159 (by decide) rfl ?_
    refine v_icmp_eq hC (tgt := 169) dL_both_160 (by decide) rfl (fun c => ?_) (fun c => ?_)
    · have h := ite_t c h
      exact v_sub [3] (lv' := [(6, .int y6)]) rfl (bL_both_169 hC hr hX hT9 hU9  _ _ _ _ _ _ _ _ _ _ hI2 hJ (by omega) (by omega) (by omega) (by omega) h)
    · have h := ite_f c h
      refine v_iload hC dL_both_163 3 rfl rfl ?_
      refine v_iconst hC (v := (nI 2)) dL_both_165 (by decide) rfl ?_
      refine v_icmp_ne hC (tgt := 174) dL_both_166 (by decide) rfl (fun c => ?_) (fun c => ?_)
      · have h := ite_f c h
        refine v_iconst hC (v := (nI 1)) dL_both_174 (by decide) rfl ?_
        refine v_iload hC dL_both_175 3 rfl rfl ?_
        refine v_isub hC dL_both_177 rfl ?_
        exact v_sub [] (lv' := []) rfl (bL_both_178 hC hr hX hT9 hU9  _ _ _ _ _ _ _ _ _ _ hI2 hJ (by omega) (by omega) (by omega) (by omega) h)
      · have h := ite_t c h
        exact v_sub [3] (lv' := [(6, .int y6)]) rfl (bL_both_169 hC hr hX hT9 hU9  _ _ _ _ _ _ _ _ _ _ hI2 hJ (by omega) (by omega) (by omega) (by omega) h)
set_option maxHeartbeats 4000000 in
set_option maxRecDepth 100000 in
theorem bL_both_116 {p : Program} {l : Launch} {e : Env} {s : State} {m : MethodId} {args : Array Value} {below : List Frame} {meth : Method} {c9 : Code} {g : va_G} {cy : Nat → ClassId} {tt sa : Nat → Nat} {A9 : Nat → Prop} (hC : CX p s m args meth c9 g cy 9 cL_both wsM_both RL) (hr : meth.sig.returnType = some .boolean) (hX : XL l s tt sa A9) {A B : AA} {T T2 : Nat} (hT9 : T < 8000) (hU9 : T2 < 8000) {res : Int32 × SS × SS} : ∀  (S : SS) (U : SS) (y4 : Int32) (y5 : Int32) (y6 : Int32) (s0 : Int32) (H : HH) (I : HH) (t u cells slots : Nat) (hI : RP t S H) (hJ : RP u U I) (ht : t + 0 ≤ T) (hu : u + 0 ≤ T2) (hc : cells + 3 ≤ 47) (hs : slots + 6 * 3 ≤ 282) (h : pL_both_116   S U y4 y5 y6 s0 = some res), V p l e (headSpec wsM_both rmL_both).room s m args below meth c9 g 9 cells slots (MQ below (QE g A9 res.1 (WP2 cy A B T res.2.1 T2 res.2.2)) args s 47 282 A9) A9 A9 (WO cy A S H ++ WO cy B U I) 116 [(0, .ref A.1), (4, .int y4), (5, .int y5), (6, .int y6)] [.int s0] := by
  intro  S U y4 y5 y6 s0 H I t u cells slots hI hJ ht hu hc hs h
  unfold pL_both_116 at h
  refine v_iconst hC (v := (-1)) dL_both_116 (by decide) rfl ?_
  refine v_goto hC (tgt := 143) dL_both_117 (by decide) ?_
  exact bL_both_143 hC hr hX hT9 hU9  _ _ _ _ _ _ _ _ _ _ _ _ _ hI hJ (by omega) (by omega) (by omega) (by omega) h
set_option maxHeartbeats 4000000 in
set_option maxRecDepth 100000 in
theorem mL_both (l : Launch) (hlst : l.stackTraces = false) (g : va_G) (cy : Nat → ClassId) (tt sa : Nat → Nat) (sz : Nat) (A B : AA) {t u : Nat} {S U : SS} {H I : HH} (x2 : Int32) (hI : RP t S H) (hJ : RP u U I) (ht9 : (t + 8) < 8000) (hu9 : (u + 8) < 8000) {res : Int32 × SS × SS} (h : pL_both  S U x2 = some res) : Met l yL_both wsM_both rmL_both (PN [.ref A.1, .ref B.1, .int x2] g cy tt sa sz (WO cy A S H ++ WO cy B U I)) (QE g (va_A (WO cy A S H ++ WO cy B U I) sz) res.1 (WP2 cy A B (t + 8) res.2.1 (u + 8) res.2.2)) 47 282 (va_A (WO cy A S H ++ WO cy B U I) sz) := by
  obtain ⟨T, hTe⟩ : ∃ T, T = (t + 8) := ⟨_, rfl⟩
  have hT9 : T < 8000 := by omega
  have ht : t + 8 ≤ T := by omega
  rw [← hTe]
  obtain ⟨T2, hUe⟩ : ∃ T2, T2 = (u + 8) := ⟨_, rfl⟩
  have hU9 : T2 < 8000 := by omega
  have hu : u + 8 ≤ T2 := by omega
  rw [← hUe]
  refine m_ofVN (cc := cL_both) (nL := 9) (ret := some .boolean) hlst RL rfl (by decide) rfl [(0, .ref A.1), (1, .ref B.1), (2, .int x2)] rfl (Nat.le_of_ble_eq_true rfl) ?_
  intro p e s m args below meth c9 hC hr hX
  generalize (va_A (WO cy A S H ++ WO cy B U I) sz) = A9 at hX ⊢
  obtain ⟨cells, hce⟩ : ∃ cells, cells = 0 := ⟨_, rfl⟩
  obtain ⟨slots, hse⟩ : ∃ slots, slots = 0 := ⟨_, rfl⟩
  have hc : cells + 47 ≤ 47 := by omega
  have hs : slots + 6 * 47 ≤ 282 := by omega
  refine v_widen (k := cells) (n := slots) (by omega) (by omega) ?_
  unfold pL_both at h
  refine v_aload_n hC dL_both_0 rfl 0 rfl rfl ?_
  refine v_iconst hC (v := (nI 2)) dL_both_1 (by decide) rfl ?_
  refine v_iconst hC (v := (nI 1)) dL_both_2 (by decide) rfl ?_
  refine v_iconst hC (v := (nI 0)) dL_both_3 (by decide) rfl ?_
  refine v_iconst hC (v := (nI 0)) dL_both_4 (by decide) rfl ?_
  refine l_callF hC hX (n := 5) (As := [.ref A.1, .int (nI 2), .int (nI 1), .int (nI 0), .int (nI 0)]) (st := []) (fun w => w ++ WO cy B U I) (fun sz => mC_About l hX.1 g cy tt sa sz A (nI 1) (nI 0) (nI 0) hI (by omega)) (WR.appL (WR.full rfl)) (fun w9 h9 => WR.appL (WR.full (WP_fst h9))) (goodIn_w gM_call) rfl rfl rfl (by decide +kernel) ⟨Nat.le_of_ble_eq_true rfl, Nat.le_of_ble_eq_true rfl⟩ rfl (Nat.le_of_ble_eq_true rfl) rfl ⟨by show _ + 1 ≤ 47; omega, by show _ + 6 ≤ 282; omega⟩ dL_both_5 rfl (fun w9 h9 => ?_)
  obtain ⟨H1, hI2, rfl⟩ := h9
  refine v_eqw (ws' := WO cy A S H1 ++ WO cy B U I) rfl ?_
  refine v_istore_n hC dL_both_8 rfl (by decide) [(3, .int (aAb S.1 (nI 1))), (0, .ref A.1), (1, .ref B.1), (2, .int x2)] rfl rfl ?_
  refine v_iload_n hC dL_both_9 rfl 3 rfl rfl ?_
  refine v_iload_n hC dL_both_10 rfl 0 rfl rfl ?_
  obtain ⟨hn, h⟩ := ite_g h
  refine v_irem hC dL_both_11 hn rfl ?_
  refine v_istore hC dL_both_12 (by decide) [(4, .int (x2 - x2 / (aAb S.1 (nI 1)) * (aAb S.1 (nI 1)))), (3, .int (aAb S.1 (nI 1))), (0, .ref A.1), (1, .ref B.1), (2, .int x2)] rfl rfl ?_
  refine v_iload hC dL_both_14 0 rfl rfl ?_
  refine v_iconst hC (v := (nI 1)) dL_both_16 (by decide) rfl ?_
  refine v_iadd hC dL_both_17 rfl ?_
  refine v_iload_n hC dL_both_18 rfl 4 rfl rfl ?_
  refine v_bipush hC (v := (nI 16)) dL_both_19 (by decide) rfl ?_
  refine v_idiv hC dL_both_21 (by decide) rfl ?_
  refine v_iload_n hC dL_both_22 rfl 1 rfl rfl ?_
  refine v_iconst hC (v := (nI 1)) dL_both_23 (by decide) rfl ?_
  refine v_isub hC dL_both_24 rfl ?_
  obtain ⟨hn, h⟩ := ite_g h
  refine v_irem hC dL_both_25 hn rfl ?_
  refine v_iadd hC dL_both_26 rfl ?_
  refine v_iload_n hC dL_both_27 rfl 1 rfl rfl ?_
  obtain ⟨hn, h⟩ := ite_g h
  refine v_irem hC dL_both_28 hn rfl ?_
  refine v_istore hC dL_both_29 (by decide) [(5, .int ((((x2 - x2 / (aAb S.1 (nI 1)) * (aAb S.1 (nI 1))) + (nI 1)) + ((x2 / (nI 16)) - (x2 / (nI 16)) / ((aAb S.1 (nI 1)) - (nI 1)) * ((aAb S.1 (nI 1)) - (nI 1)))) - (((x2 - x2 / (aAb S.1 (nI 1)) * (aAb S.1 (nI 1))) + (nI 1)) + ((x2 / (nI 16)) - (x2 / (nI 16)) / ((aAb S.1 (nI 1)) - (nI 1)) * ((aAb S.1 (nI 1)) - (nI 1)))) / (aAb S.1 (nI 1)) * (aAb S.1 (nI 1)))), (4, .int (x2 - x2 / (aAb S.1 (nI 1)) * (aAb S.1 (nI 1)))), (3, .int (aAb S.1 (nI 1))), (0, .ref A.1), (1, .ref B.1), (2, .int x2)] rfl rfl ?_
  refine v_aload_n hC dL_both_31 rfl 3 rfl rfl ?_
  refine v_bipush hC (v := (nI 14)) dL_both_32 (by decide) rfl ?_
  refine v_iload hC dL_both_34 1 rfl rfl ?_
  refine v_iload hC dL_both_36 0 rfl rfl ?_
  refine v_iconst hC (v := (nI 0)) dL_both_38 (by decide) rfl ?_
  refine l_callF hC hX (n := 5) (As := [.ref A.1, .int (nI 14), .int (x2 - x2 / (aAb S.1 (nI 1)) * (aAb S.1 (nI 1))), .int ((((x2 - x2 / (aAb S.1 (nI 1)) * (aAb S.1 (nI 1))) + (nI 1)) + ((x2 / (nI 16)) - (x2 / (nI 16)) / ((aAb S.1 (nI 1)) - (nI 1)) * ((aAb S.1 (nI 1)) - (nI 1)))) - (((x2 - x2 / (aAb S.1 (nI 1)) * (aAb S.1 (nI 1))) + (nI 1)) + ((x2 / (nI 16)) - (x2 / (nI 16)) / ((aAb S.1 (nI 1)) - (nI 1)) * ((aAb S.1 (nI 1)) - (nI 1)))) / (aAb S.1 (nI 1)) * (aAb S.1 (nI 1))), .int (nI 0)]) (st := []) (fun w => w ++ WO cy B U I) (fun sz => mC_Order l hX.1 g cy tt sa sz A (x2 - x2 / (aAb S.1 (nI 1)) * (aAb S.1 (nI 1))) ((((x2 - x2 / (aAb S.1 (nI 1)) * (aAb S.1 (nI 1))) + (nI 1)) + ((x2 / (nI 16)) - (x2 / (nI 16)) / ((aAb S.1 (nI 1)) - (nI 1)) * ((aAb S.1 (nI 1)) - (nI 1)))) - (((x2 - x2 / (aAb S.1 (nI 1)) * (aAb S.1 (nI 1))) + (nI 1)) + ((x2 / (nI 16)) - (x2 / (nI 16)) / ((aAb S.1 (nI 1)) - (nI 1)) * ((aAb S.1 (nI 1)) - (nI 1)))) / (aAb S.1 (nI 1)) * (aAb S.1 (nI 1))) (nI 0) hI2 (by omega)) (WR.appL (WR.full rfl)) (fun w9 h9 => WR.appL (WR.full (WP_fst h9))) (goodIn_w gM_call) rfl rfl rfl (by decide +kernel) ⟨Nat.le_of_ble_eq_true rfl, Nat.le_of_ble_eq_true rfl⟩ rfl (Nat.le_of_ble_eq_true rfl) rfl ⟨by show _ + 3 ≤ 47; omega, by show _ + 18 ≤ 282; omega⟩ dL_both_39 rfl (fun w9 h9 => ?_)
  obtain ⟨H3, hI4, rfl⟩ := h9
  refine v_eqw (ws' := WO cy A S H3 ++ WO cy B U I) rfl ?_
  refine v_istore hC dL_both_42 (by decide) [(6, .int (aOr S.1 (x2 - x2 / (aAb S.1 (nI 1)) * (aAb S.1 (nI 1))) ((((x2 - x2 / (aAb S.1 (nI 1)) * (aAb S.1 (nI 1))) + (nI 1)) + ((x2 / (nI 16)) - (x2 / (nI 16)) / ((aAb S.1 (nI 1)) - (nI 1)) * ((aAb S.1 (nI 1)) - (nI 1)))) - (((x2 - x2 / (aAb S.1 (nI 1)) * (aAb S.1 (nI 1))) + (nI 1)) + ((x2 / (nI 16)) - (x2 / (nI 16)) / ((aAb S.1 (nI 1)) - (nI 1)) * ((aAb S.1 (nI 1)) - (nI 1)))) / (aAb S.1 (nI 1)) * (aAb S.1 (nI 1))))), (5, .int ((((x2 - x2 / (aAb S.1 (nI 1)) * (aAb S.1 (nI 1))) + (nI 1)) + ((x2 / (nI 16)) - (x2 / (nI 16)) / ((aAb S.1 (nI 1)) - (nI 1)) * ((aAb S.1 (nI 1)) - (nI 1)))) - (((x2 - x2 / (aAb S.1 (nI 1)) * (aAb S.1 (nI 1))) + (nI 1)) + ((x2 / (nI 16)) - (x2 / (nI 16)) / ((aAb S.1 (nI 1)) - (nI 1)) * ((aAb S.1 (nI 1)) - (nI 1)))) / (aAb S.1 (nI 1)) * (aAb S.1 (nI 1)))), (4, .int (x2 - x2 / (aAb S.1 (nI 1)) * (aAb S.1 (nI 1)))), (3, .int (aAb S.1 (nI 1))), (0, .ref A.1), (1, .ref B.1), (2, .int x2)] rfl rfl ?_
  refine v_aload_n hC dL_both_44 rfl 4 rfl rfl ?_
  refine v_iload hC dL_both_45 2 rfl rfl ?_
  refine v_iload hC dL_both_47 1 rfl rfl ?_
  obtain ⟨v5, hv5, h⟩ := bind_g h
  refine l_callF hC hX (n := 3) (As := [.ref A.1, .int (x2 - x2 / (aAb S.1 (nI 1)) * (aAb S.1 (nI 1))), .int ((((x2 - x2 / (aAb S.1 (nI 1)) * (aAb S.1 (nI 1))) + (nI 1)) + ((x2 / (nI 16)) - (x2 / (nI 16)) / ((aAb S.1 (nI 1)) - (nI 1)) * ((aAb S.1 (nI 1)) - (nI 1)))) - (((x2 - x2 / (aAb S.1 (nI 1)) * (aAb S.1 (nI 1))) + (nI 1)) + ((x2 / (nI 16)) - (x2 / (nI 16)) / ((aAb S.1 (nI 1)) - (nI 1)) * ((aAb S.1 (nI 1)) - (nI 1)))) / (aAb S.1 (nI 1)) * (aAb S.1 (nI 1)))]) (st := []) (fun w => w ++ WO cy B U I) (fun sz => mL_price l hX.1 g cy tt sa sz A (x2 - x2 / (aAb S.1 (nI 1)) * (aAb S.1 (nI 1))) ((((x2 - x2 / (aAb S.1 (nI 1)) * (aAb S.1 (nI 1))) + (nI 1)) + ((x2 / (nI 16)) - (x2 / (nI 16)) / ((aAb S.1 (nI 1)) - (nI 1)) * ((aAb S.1 (nI 1)) - (nI 1)))) - (((x2 - x2 / (aAb S.1 (nI 1)) * (aAb S.1 (nI 1))) + (nI 1)) + ((x2 / (nI 16)) - (x2 / (nI 16)) / ((aAb S.1 (nI 1)) - (nI 1)) * ((aAb S.1 (nI 1)) - (nI 1)))) / (aAb S.1 (nI 1)) * (aAb S.1 (nI 1))) hI4 (by omega) hv5) (WR.appL (WR.full rfl)) (fun w9 h9 => WR.appL (WR.full (WP_fst h9))) (goodIn_w gM_price) rfl rfl rfl (by decide +kernel) ⟨Nat.le_of_ble_eq_true rfl, Nat.le_of_ble_eq_true rfl⟩ rfl (Nat.le_of_ble_eq_true rfl) rfl ⟨by show _ + 10 ≤ 47; omega, by show _ + 60 ≤ 282; omega⟩ dL_both_49 rfl (fun w9 h9 => ?_)
  obtain ⟨H6, hI7, rfl⟩ := h9
  refine v_eqw (ws' := WO cy A v5.2 H6 ++ WO cy B U I) rfl ?_
  refine v_istore hC dL_both_52 (by decide) [(7, .int v5.1), (6, .int (aOr S.1 (x2 - x2 / (aAb S.1 (nI 1)) * (aAb S.1 (nI 1))) ((((x2 - x2 / (aAb S.1 (nI 1)) * (aAb S.1 (nI 1))) + (nI 1)) + ((x2 / (nI 16)) - (x2 / (nI 16)) / ((aAb S.1 (nI 1)) - (nI 1)) * ((aAb S.1 (nI 1)) - (nI 1)))) - (((x2 - x2 / (aAb S.1 (nI 1)) * (aAb S.1 (nI 1))) + (nI 1)) + ((x2 / (nI 16)) - (x2 / (nI 16)) / ((aAb S.1 (nI 1)) - (nI 1)) * ((aAb S.1 (nI 1)) - (nI 1)))) / (aAb S.1 (nI 1)) * (aAb S.1 (nI 1))))), (5, .int ((((x2 - x2 / (aAb S.1 (nI 1)) * (aAb S.1 (nI 1))) + (nI 1)) + ((x2 / (nI 16)) - (x2 / (nI 16)) / ((aAb S.1 (nI 1)) - (nI 1)) * ((aAb S.1 (nI 1)) - (nI 1)))) - (((x2 - x2 / (aAb S.1 (nI 1)) * (aAb S.1 (nI 1))) + (nI 1)) + ((x2 / (nI 16)) - (x2 / (nI 16)) / ((aAb S.1 (nI 1)) - (nI 1)) * ((aAb S.1 (nI 1)) - (nI 1)))) / (aAb S.1 (nI 1)) * (aAb S.1 (nI 1)))), (4, .int (x2 - x2 / (aAb S.1 (nI 1)) * (aAb S.1 (nI 1)))), (3, .int (aAb S.1 (nI 1))), (0, .ref A.1), (1, .ref B.1), (2, .int x2)] rfl rfl ?_
  refine v_aload_n hC dL_both_54 rfl 5 rfl rfl ?_
  refine v_iload hC dL_both_55 2 rfl rfl ?_
  refine v_iload hC dL_both_57 3 rfl rfl ?_
  obtain ⟨v8, hv8, h⟩ := bind_g h
  refine l_callF hC hX (n := 3) (As := [.ref A.1, .int ((((x2 - x2 / (aAb S.1 (nI 1)) * (aAb S.1 (nI 1))) + (nI 1)) + ((x2 / (nI 16)) - (x2 / (nI 16)) / ((aAb S.1 (nI 1)) - (nI 1)) * ((aAb S.1 (nI 1)) - (nI 1)))) - (((x2 - x2 / (aAb S.1 (nI 1)) * (aAb S.1 (nI 1))) + (nI 1)) + ((x2 / (nI 16)) - (x2 / (nI 16)) / ((aAb S.1 (nI 1)) - (nI 1)) * ((aAb S.1 (nI 1)) - (nI 1)))) / (aAb S.1 (nI 1)) * (aAb S.1 (nI 1))), .int (x2 - x2 / (aAb S.1 (nI 1)) * (aAb S.1 (nI 1)))]) (st := []) (fun w => w ++ WO cy B U I) (fun sz => mL_price l hX.1 g cy tt sa sz A ((((x2 - x2 / (aAb S.1 (nI 1)) * (aAb S.1 (nI 1))) + (nI 1)) + ((x2 / (nI 16)) - (x2 / (nI 16)) / ((aAb S.1 (nI 1)) - (nI 1)) * ((aAb S.1 (nI 1)) - (nI 1)))) - (((x2 - x2 / (aAb S.1 (nI 1)) * (aAb S.1 (nI 1))) + (nI 1)) + ((x2 / (nI 16)) - (x2 / (nI 16)) / ((aAb S.1 (nI 1)) - (nI 1)) * ((aAb S.1 (nI 1)) - (nI 1)))) / (aAb S.1 (nI 1)) * (aAb S.1 (nI 1))) (x2 - x2 / (aAb S.1 (nI 1)) * (aAb S.1 (nI 1))) hI7 (by omega) hv8) (WR.appL (WR.full rfl)) (fun w9 h9 => WR.appL (WR.full (WP_fst h9))) (goodIn_w gM_price) rfl rfl rfl (by decide +kernel) ⟨Nat.le_of_ble_eq_true rfl, Nat.le_of_ble_eq_true rfl⟩ rfl (Nat.le_of_ble_eq_true rfl) rfl ⟨by show _ + 10 ≤ 47; omega, by show _ + 60 ≤ 282; omega⟩ dL_both_59 rfl (fun w9 h9 => ?_)
  obtain ⟨H9, hI10, rfl⟩ := h9
  refine v_eqw (ws' := WO cy A v8.2 H9 ++ WO cy B U I) rfl ?_
  refine v_istore hC dL_both_62 (by decide) [(8, .int v8.1), (7, .int v5.1), (6, .int (aOr S.1 (x2 - x2 / (aAb S.1 (nI 1)) * (aAb S.1 (nI 1))) ((((x2 - x2 / (aAb S.1 (nI 1)) * (aAb S.1 (nI 1))) + (nI 1)) + ((x2 / (nI 16)) - (x2 / (nI 16)) / ((aAb S.1 (nI 1)) - (nI 1)) * ((aAb S.1 (nI 1)) - (nI 1)))) - (((x2 - x2 / (aAb S.1 (nI 1)) * (aAb S.1 (nI 1))) + (nI 1)) + ((x2 / (nI 16)) - (x2 / (nI 16)) / ((aAb S.1 (nI 1)) - (nI 1)) * ((aAb S.1 (nI 1)) - (nI 1)))) / (aAb S.1 (nI 1)) * (aAb S.1 (nI 1))))), (5, .int ((((x2 - x2 / (aAb S.1 (nI 1)) * (aAb S.1 (nI 1))) + (nI 1)) + ((x2 / (nI 16)) - (x2 / (nI 16)) / ((aAb S.1 (nI 1)) - (nI 1)) * ((aAb S.1 (nI 1)) - (nI 1)))) - (((x2 - x2 / (aAb S.1 (nI 1)) * (aAb S.1 (nI 1))) + (nI 1)) + ((x2 / (nI 16)) - (x2 / (nI 16)) / ((aAb S.1 (nI 1)) - (nI 1)) * ((aAb S.1 (nI 1)) - (nI 1)))) / (aAb S.1 (nI 1)) * (aAb S.1 (nI 1)))), (4, .int (x2 - x2 / (aAb S.1 (nI 1)) * (aAb S.1 (nI 1)))), (3, .int (aAb S.1 (nI 1))), (0, .ref A.1), (1, .ref B.1), (2, .int x2)] rfl rfl ?_
  refine v_aload_n hC dL_both_64 rfl 7 rfl rfl ?_
  refine v_iload hC dL_both_65 4 rfl rfl ?_
  refine v_iload hC dL_both_67 3 rfl rfl ?_
  obtain ⟨v11, hv11, h⟩ := bind_g h
  refine l_callF hC hX (n := 3) (As := [.ref B.1, .int (x2 - x2 / (aAb S.1 (nI 1)) * (aAb S.1 (nI 1))), .int ((((x2 - x2 / (aAb S.1 (nI 1)) * (aAb S.1 (nI 1))) + (nI 1)) + ((x2 / (nI 16)) - (x2 / (nI 16)) / ((aAb S.1 (nI 1)) - (nI 1)) * ((aAb S.1 (nI 1)) - (nI 1)))) - (((x2 - x2 / (aAb S.1 (nI 1)) * (aAb S.1 (nI 1))) + (nI 1)) + ((x2 / (nI 16)) - (x2 / (nI 16)) / ((aAb S.1 (nI 1)) - (nI 1)) * ((aAb S.1 (nI 1)) - (nI 1)))) / (aAb S.1 (nI 1)) * (aAb S.1 (nI 1)))]) (st := []) (fun w => WO cy A v8.2 H9 ++ w) (fun sz => mL_price l hX.1 g cy tt sa sz B (x2 - x2 / (aAb S.1 (nI 1)) * (aAb S.1 (nI 1))) ((((x2 - x2 / (aAb S.1 (nI 1)) * (aAb S.1 (nI 1))) + (nI 1)) + ((x2 / (nI 16)) - (x2 / (nI 16)) / ((aAb S.1 (nI 1)) - (nI 1)) * ((aAb S.1 (nI 1)) - (nI 1)))) - (((x2 - x2 / (aAb S.1 (nI 1)) * (aAb S.1 (nI 1))) + (nI 1)) + ((x2 / (nI 16)) - (x2 / (nI 16)) / ((aAb S.1 (nI 1)) - (nI 1)) * ((aAb S.1 (nI 1)) - (nI 1)))) / (aAb S.1 (nI 1)) * (aAb S.1 (nI 1))) hJ (by omega) hv11) (WR.appR (WR.full rfl)) (fun w9 h9 => WR.appR (WR.full (WP_fst h9))) (goodIn_w gM_price) rfl rfl rfl (by decide +kernel) ⟨Nat.le_of_ble_eq_true rfl, Nat.le_of_ble_eq_true rfl⟩ rfl (Nat.le_of_ble_eq_true rfl) rfl ⟨by show _ + 10 ≤ 47; omega, by show _ + 60 ≤ 282; omega⟩ dL_both_69 rfl (fun w9 h9 => ?_)
  obtain ⟨H12, hI13, rfl⟩ := h9
  refine v_eqw (ws' := WO cy A v8.2 H9 ++ WO cy B v11.2 H12) rfl ?_
  refine v_iload hC dL_both_72 1 rfl rfl ?_
  refine v_icmp_ne hC (tgt := 185) dL_both_74 (by decide) rfl (fun c => ?_) (fun c => ?_)
  · have h := ite_f c h
    exact v_sub [] (lv' := []) rfl (bL_both_185 hC hr hX hT9 hU9  _ _ _ _ _ _ _ _ hI10 hI13 (by omega) (by omega) (by omega) (by omega) h)
  · have h := ite_t c h
    refine v_aload_n hC dL_both_77 rfl 7 rfl rfl ?_
    refine v_iload hC dL_both_78 3 rfl rfl ?_
    refine v_iload hC dL_both_80 4 rfl rfl ?_
    obtain ⟨v14, hv14, h⟩ := bind_g h
    refine l_callF hC hX (n := 3) (As := [.ref B.1, .int ((((x2 - x2 / (aAb S.1 (nI 1)) * (aAb S.1 (nI 1))) + (nI 1)) + ((x2 / (nI 16)) - (x2 / (nI 16)) / ((aAb S.1 (nI 1)) - (nI 1)) * ((aAb S.1 (nI 1)) - (nI 1)))) - (((x2 - x2 / (aAb S.1 (nI 1)) * (aAb S.1 (nI 1))) + (nI 1)) + ((x2 / (nI 16)) - (x2 / (nI 16)) / ((aAb S.1 (nI 1)) - (nI 1)) * ((aAb S.1 (nI 1)) - (nI 1)))) / (aAb S.1 (nI 1)) * (aAb S.1 (nI 1))), .int (x2 - x2 / (aAb S.1 (nI 1)) * (aAb S.1 (nI 1)))]) (st := []) (fun w => WO cy A v8.2 H9 ++ w) (fun sz => mL_price l hX.1 g cy tt sa sz B ((((x2 - x2 / (aAb S.1 (nI 1)) * (aAb S.1 (nI 1))) + (nI 1)) + ((x2 / (nI 16)) - (x2 / (nI 16)) / ((aAb S.1 (nI 1)) - (nI 1)) * ((aAb S.1 (nI 1)) - (nI 1)))) - (((x2 - x2 / (aAb S.1 (nI 1)) * (aAb S.1 (nI 1))) + (nI 1)) + ((x2 / (nI 16)) - (x2 / (nI 16)) / ((aAb S.1 (nI 1)) - (nI 1)) * ((aAb S.1 (nI 1)) - (nI 1)))) / (aAb S.1 (nI 1)) * (aAb S.1 (nI 1))) (x2 - x2 / (aAb S.1 (nI 1)) * (aAb S.1 (nI 1))) hI13 (by omega) hv14) (WR.appR (WR.full rfl)) (fun w9 h9 => WR.appR (WR.full (WP_fst h9))) (goodIn_w gM_price) rfl rfl rfl (by decide +kernel) ⟨Nat.le_of_ble_eq_true rfl, Nat.le_of_ble_eq_true rfl⟩ rfl (Nat.le_of_ble_eq_true rfl) rfl ⟨by show _ + 10 ≤ 47; omega, by show _ + 60 ≤ 282; omega⟩ dL_both_82 rfl (fun w9 h9 => ?_)
    obtain ⟨H15, hI16, rfl⟩ := h9
    refine v_eqw (ws' := WO cy A v8.2 H9 ++ WO cy B v14.2 H15) rfl ?_
    refine v_iload hC dL_both_85 0 rfl rfl ?_
    refine v_icmp_ne hC (tgt := 185) dL_both_87 (by decide) rfl (fun c => ?_) (fun c => ?_)
    · have h := ite_f c h
      exact v_sub [] (lv' := []) rfl (bL_both_185 hC hr hX hT9 hU9  _ _ _ _ _ _ _ _ hI10 hI16 (by omega) (by omega) (by omega) (by omega) h)
    · have h := ite_t c h
      refine v_iload hC dL_both_90 1 rfl rfl ?_
      refine v_iconst hC (v := (-1)) dL_both_92 (by decide) rfl ?_
      refine v_icmp_lt hC (tgt := 185) dL_both_93 (by decide) rfl (fun c => ?_) (fun c => ?_)
      · have h := ite_t c h
        exact v_sub [] (lv' := []) rfl (bL_both_185 hC hr hX hT9 hU9  _ _ _ _ _ _ _ _ hI10 hI16 (by omega) (by omega) (by omega) (by omega) h)
      · have h := ite_f c h
        refine v_iload hC dL_both_96 0 rfl rfl ?_
        refine v_iconst hC (v := (-1)) dL_both_98 (by decide) rfl ?_
        refine v_icmp_lt hC (tgt := 185) dL_both_99 (by decide) rfl (fun c => ?_) (fun c => ?_)
        · have h := ite_t c h
          exact v_sub [] (lv' := []) rfl (bL_both_185 hC hr hX hT9 hU9  _ _ _ _ _ _ _ _ hI10 hI16 (by omega) (by omega) (by omega) (by omega) h)
        · have h := ite_f c h
          refine v_iload hC dL_both_102 2 rfl rfl ?_
          refine v_iload hC dL_both_104 1 rfl rfl ?_
          refine v_iconst hC (v := (-1)) dL_both_106 (by decide) rfl ?_
          refine v_icmp_eq hC (tgt := 116) dL_both_107 (by decide) rfl (fun c => ?_) (fun c => ?_)
          · have h := ite_t c h
            exact v_sub [6, 4, 3, 2] (lv' := [(0, .ref A.1), (4, .int (x2 - x2 / (aAb S.1 (nI 1)) * (aAb S.1 (nI 1)))), (5, .int ((((x2 - x2 / (aAb S.1 (nI 1)) * (aAb S.1 (nI 1))) + (nI 1)) + ((x2 / (nI 16)) - (x2 / (nI 16)) / ((aAb S.1 (nI 1)) - (nI 1)) * ((aAb S.1 (nI 1)) - (nI 1)))) - (((x2 - x2 / (aAb S.1 (nI 1)) * (aAb S.1 (nI 1))) + (nI 1)) + ((x2 / (nI 16)) - (x2 / (nI 16)) / ((aAb S.1 (nI 1)) - (nI 1)) * ((aAb S.1 (nI 1)) - (nI 1)))) / (aAb S.1 (nI 1)) * (aAb S.1 (nI 1)))), (6, .int (aOr S.1 (x2 - x2 / (aAb S.1 (nI 1)) * (aAb S.1 (nI 1))) ((((x2 - x2 / (aAb S.1 (nI 1)) * (aAb S.1 (nI 1))) + (nI 1)) + ((x2 / (nI 16)) - (x2 / (nI 16)) / ((aAb S.1 (nI 1)) - (nI 1)) * ((aAb S.1 (nI 1)) - (nI 1)))) - (((x2 - x2 / (aAb S.1 (nI 1)) * (aAb S.1 (nI 1))) + (nI 1)) + ((x2 / (nI 16)) - (x2 / (nI 16)) / ((aAb S.1 (nI 1)) - (nI 1)) * ((aAb S.1 (nI 1)) - (nI 1)))) / (aAb S.1 (nI 1)) * (aAb S.1 (nI 1)))))]) rfl (bL_both_116 hC hr hX hT9 hU9  _ _ _ _ _ _ _ _ _ _ _ _ hI10 hI16 (by omega) (by omega) (by omega) (by omega) h)
          · have h := ite_f c h
            refine v_iload hC dL_both_110 0 rfl rfl ?_
            refine v_iconst hC (v := (-1)) dL_both_112 (by decide) rfl ?_
            refine v_icmp_ne hC (tgt := 120) dL_both_113 (by decide) rfl (fun c => ?_) (fun c => ?_)
            · have h := ite_f c h
              refine v_iload hC dL_both_120 1 rfl rfl ?_
              refine v_iload hC dL_both_122 0 rfl rfl ?_
              refine v_icmp_ge hC (tgt := 131) dL_both_124 (by decide) rfl (fun c => ?_) (fun c => ?_)
              · have h := ite_t c h
                refine v_iload hC dL_both_131 1 rfl rfl ?_
                refine v_iload hC dL_both_133 0 rfl rfl ?_
                refine v_icmp_le hC (tgt := 142) dL_both_135 (by decide) rfl (fun c => ?_) (fun c => ?_)
                · have h := ite_t c h
                  refine v_iconst hC (v := (nI 2)) dL_both_142 (by decide) rfl ?_
                  exact v_sub [6, 4, 3, 2] (lv' := [(0, .ref A.1), (4, .int (x2 - x2 / (aAb S.1 (nI 1)) * (aAb S.1 (nI 1)))), (5, .int ((((x2 - x2 / (aAb S.1 (nI 1)) * (aAb S.1 (nI 1))) + (nI 1)) + ((x2 / (nI 16)) - (x2 / (nI 16)) / ((aAb S.1 (nI 1)) - (nI 1)) * ((aAb S.1 (nI 1)) - (nI 1)))) - (((x2 - x2 / (aAb S.1 (nI 1)) * (aAb S.1 (nI 1))) + (nI 1)) + ((x2 / (nI 16)) - (x2 / (nI 16)) / ((aAb S.1 (nI 1)) - (nI 1)) * ((aAb S.1 (nI 1)) - (nI 1)))) / (aAb S.1 (nI 1)) * (aAb S.1 (nI 1)))), (6, .int (aOr S.1 (x2 - x2 / (aAb S.1 (nI 1)) * (aAb S.1 (nI 1))) ((((x2 - x2 / (aAb S.1 (nI 1)) * (aAb S.1 (nI 1))) + (nI 1)) + ((x2 / (nI 16)) - (x2 / (nI 16)) / ((aAb S.1 (nI 1)) - (nI 1)) * ((aAb S.1 (nI 1)) - (nI 1)))) - (((x2 - x2 / (aAb S.1 (nI 1)) * (aAb S.1 (nI 1))) + (nI 1)) + ((x2 / (nI 16)) - (x2 / (nI 16)) / ((aAb S.1 (nI 1)) - (nI 1)) * ((aAb S.1 (nI 1)) - (nI 1)))) / (aAb S.1 (nI 1)) * (aAb S.1 (nI 1)))))]) rfl (bL_both_143 hC hr hX hT9 hU9  _ _ _ _ _ _ _ _ _ _ _ _ _ hI10 hI16 (by omega) (by omega) (by omega) (by omega) h)
                · have h := ite_f c h
                  refine v_iconst hC (v := (nI 1)) dL_both_138 (by decide) rfl ?_
                  refine v_goto hC (tgt := 143) dL_both_139 (by decide) ?_
                  exact v_sub [6, 4, 3, 2] (lv' := [(0, .ref A.1), (4, .int (x2 - x2 / (aAb S.1 (nI 1)) * (aAb S.1 (nI 1)))), (5, .int ((((x2 - x2 / (aAb S.1 (nI 1)) * (aAb S.1 (nI 1))) + (nI 1)) + ((x2 / (nI 16)) - (x2 / (nI 16)) / ((aAb S.1 (nI 1)) - (nI 1)) * ((aAb S.1 (nI 1)) - (nI 1)))) - (((x2 - x2 / (aAb S.1 (nI 1)) * (aAb S.1 (nI 1))) + (nI 1)) + ((x2 / (nI 16)) - (x2 / (nI 16)) / ((aAb S.1 (nI 1)) - (nI 1)) * ((aAb S.1 (nI 1)) - (nI 1)))) / (aAb S.1 (nI 1)) * (aAb S.1 (nI 1)))), (6, .int (aOr S.1 (x2 - x2 / (aAb S.1 (nI 1)) * (aAb S.1 (nI 1))) ((((x2 - x2 / (aAb S.1 (nI 1)) * (aAb S.1 (nI 1))) + (nI 1)) + ((x2 / (nI 16)) - (x2 / (nI 16)) / ((aAb S.1 (nI 1)) - (nI 1)) * ((aAb S.1 (nI 1)) - (nI 1)))) - (((x2 - x2 / (aAb S.1 (nI 1)) * (aAb S.1 (nI 1))) + (nI 1)) + ((x2 / (nI 16)) - (x2 / (nI 16)) / ((aAb S.1 (nI 1)) - (nI 1)) * ((aAb S.1 (nI 1)) - (nI 1)))) / (aAb S.1 (nI 1)) * (aAb S.1 (nI 1)))))]) rfl (bL_both_143 hC hr hX hT9 hU9  _ _ _ _ _ _ _ _ _ _ _ _ _ hI10 hI16 (by omega) (by omega) (by omega) (by omega) h)
              · have h := ite_f c h
                refine v_iconst hC (v := (nI 0)) dL_both_127 (by decide) rfl ?_
                refine v_goto hC (tgt := 143) dL_both_128 (by decide) ?_
                exact v_sub [6, 4, 3, 2] (lv' := [(0, .ref A.1), (4, .int (x2 - x2 / (aAb S.1 (nI 1)) * (aAb S.1 (nI 1)))), (5, .int ((((x2 - x2 / (aAb S.1 (nI 1)) * (aAb S.1 (nI 1))) + (nI 1)) + ((x2 / (nI 16)) - (x2 / (nI 16)) / ((aAb S.1 (nI 1)) - (nI 1)) * ((aAb S.1 (nI 1)) - (nI 1)))) - (((x2 - x2 / (aAb S.1 (nI 1)) * (aAb S.1 (nI 1))) + (nI 1)) + ((x2 / (nI 16)) - (x2 / (nI 16)) / ((aAb S.1 (nI 1)) - (nI 1)) * ((aAb S.1 (nI 1)) - (nI 1)))) / (aAb S.1 (nI 1)) * (aAb S.1 (nI 1)))), (6, .int (aOr S.1 (x2 - x2 / (aAb S.1 (nI 1)) * (aAb S.1 (nI 1))) ((((x2 - x2 / (aAb S.1 (nI 1)) * (aAb S.1 (nI 1))) + (nI 1)) + ((x2 / (nI 16)) - (x2 / (nI 16)) / ((aAb S.1 (nI 1)) - (nI 1)) * ((aAb S.1 (nI 1)) - (nI 1)))) - (((x2 - x2 / (aAb S.1 (nI 1)) * (aAb S.1 (nI 1))) + (nI 1)) + ((x2 / (nI 16)) - (x2 / (nI 16)) / ((aAb S.1 (nI 1)) - (nI 1)) * ((aAb S.1 (nI 1)) - (nI 1)))) / (aAb S.1 (nI 1)) * (aAb S.1 (nI 1)))))]) rfl (bL_both_143 hC hr hX hT9 hU9  _ _ _ _ _ _ _ _ _ _ _ _ _ hI10 hI16 (by omega) (by omega) (by omega) (by omega) h)
            · have h := ite_t c h
              exact v_sub [6, 4, 3, 2] (lv' := [(0, .ref A.1), (4, .int (x2 - x2 / (aAb S.1 (nI 1)) * (aAb S.1 (nI 1)))), (5, .int ((((x2 - x2 / (aAb S.1 (nI 1)) * (aAb S.1 (nI 1))) + (nI 1)) + ((x2 / (nI 16)) - (x2 / (nI 16)) / ((aAb S.1 (nI 1)) - (nI 1)) * ((aAb S.1 (nI 1)) - (nI 1)))) - (((x2 - x2 / (aAb S.1 (nI 1)) * (aAb S.1 (nI 1))) + (nI 1)) + ((x2 / (nI 16)) - (x2 / (nI 16)) / ((aAb S.1 (nI 1)) - (nI 1)) * ((aAb S.1 (nI 1)) - (nI 1)))) / (aAb S.1 (nI 1)) * (aAb S.1 (nI 1)))), (6, .int (aOr S.1 (x2 - x2 / (aAb S.1 (nI 1)) * (aAb S.1 (nI 1))) ((((x2 - x2 / (aAb S.1 (nI 1)) * (aAb S.1 (nI 1))) + (nI 1)) + ((x2 / (nI 16)) - (x2 / (nI 16)) / ((aAb S.1 (nI 1)) - (nI 1)) * ((aAb S.1 (nI 1)) - (nI 1)))) - (((x2 - x2 / (aAb S.1 (nI 1)) * (aAb S.1 (nI 1))) + (nI 1)) + ((x2 / (nI 16)) - (x2 / (nI 16)) / ((aAb S.1 (nI 1)) - (nI 1)) * ((aAb S.1 (nI 1)) - (nI 1)))) / (aAb S.1 (nI 1)) * (aAb S.1 (nI 1)))))]) rfl (bL_both_116 hC hr hX hT9 hU9  _ _ _ _ _ _ _ _ _ _ _ _ hI10 hI16 (by omega) (by omega) (by omega) (by omega) h)

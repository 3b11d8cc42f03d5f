theorem kJ6_bitCount_0f7a4_265 : Cond.constant RJ6 265 (nI 1431655765) ∈ wsJ6_bitCount_0f7a4 := by decide +kernel
theorem kJ6_bitCount_0f7a4_266 : Cond.constant RJ6 266 (nI 858993459) ∈ wsJ6_bitCount_0f7a4 := by decide +kernel
theorem kJ6_bitCount_0f7a4_267 : Cond.constant RJ6 267 (nI 252645135) ∈ wsJ6_bitCount_0f7a4 := by decide +kernel
def pJ6_bitCount_0f7a4 (x0 : Int32) : Option (Int32) := some ((((((((x0 - (((x0.toUInt32 >>> ((nI 1).toUInt32 &&& Int32.toUInt32 31)).toInt32) &&& (nI 1431655765))) &&& (nI 858993459)) + ((((x0 - (((x0.toUInt32 >>> ((nI 1).toUInt32 &&& Int32.toUInt32 31)).toInt32) &&& (nI 1431655765))).toUInt32 >>> ((nI 2).toUInt32 &&& Int32.toUInt32 31)).toInt32) &&& (nI 858993459))) + (((((x0 - (((x0.toUInt32 >>> ((nI 1).toUInt32 &&& Int32.toUInt32 31)).toInt32) &&& (nI 1431655765))) &&& (nI 858993459)) + ((((x0 - (((x0.toUInt32 >>> ((nI 1).toUInt32 &&& Int32.toUInt32 31)).toInt32) &&& (nI 1431655765))).toUInt32 >>> ((nI 2).toUInt32 &&& Int32.toUInt32 31)).toInt32) &&& (nI 858993459))).toUInt32 >>> ((nI 4).toUInt32 &&& Int32.toUInt32 31)).toInt32)) &&& (nI 252645135)) + (((((((x0 - (((x0.toUInt32 >>> ((nI 1).toUInt32 &&& Int32.toUInt32 31)).toInt32) &&& (nI 1431655765))) &&& (nI 858993459)) + ((((x0 - (((x0.toUInt32 >>> ((nI 1).toUInt32 &&& Int32.toUInt32 31)).toInt32) &&& (nI 1431655765))).toUInt32 >>> ((nI 2).toUInt32 &&& Int32.toUInt32 31)).toInt32) &&& (nI 858993459))) + (((((x0 - (((x0.toUInt32 >>> ((nI 1).toUInt32 &&& Int32.toUInt32 31)).toInt32) &&& (nI 1431655765))) &&& (nI 858993459)) + ((((x0 - (((x0.toUInt32 >>> ((nI 1).toUInt32 &&& Int32.toUInt32 31)).toInt32) &&& (nI 1431655765))).toUInt32 >>> ((nI 2).toUInt32 &&& Int32.toUInt32 31)).toInt32) &&& (nI 858993459))).toUInt32 >>> ((nI 4).toUInt32 &&& Int32.toUInt32 31)).toInt32)) &&& (nI 252645135)).toUInt32 >>> ((nI 8).toUInt32 &&& Int32.toUInt32 31)).toInt32)) + ((((((((x0 - (((x0.toUInt32 >>> ((nI 1).toUInt32 &&& Int32.toUInt32 31)).toInt32) &&& (nI 1431655765))) &&& (nI 858993459)) + ((((x0 - (((x0.toUInt32 >>> ((nI 1).toUInt32 &&& Int32.toUInt32 31)).toInt32) &&& (nI 1431655765))).toUInt32 >>> ((nI 2).toUInt32 &&& Int32.toUInt32 31)).toInt32) &&& (nI 858993459))) + (((((x0 - (((x0.toUInt32 >>> ((nI 1).toUInt32 &&& Int32.toUInt32 31)).toInt32) &&& (nI 1431655765))) &&& (nI 858993459)) + ((((x0 - (((x0.toUInt32 >>> ((nI 1).toUInt32 &&& Int32.toUInt32 31)).toInt32) &&& (nI 1431655765))).toUInt32 >>> ((nI 2).toUInt32 &&& Int32.toUInt32 31)).toInt32) &&& (nI 858993459))).toUInt32 >>> ((nI 4).toUInt32 &&& Int32.toUInt32 31)).toInt32)) &&& (nI 252645135)) + (((((((x0 - (((x0.toUInt32 >>> ((nI 1).toUInt32 &&& Int32.toUInt32 31)).toInt32) &&& (nI 1431655765))) &&& (nI 858993459)) + ((((x0 - (((x0.toUInt32 >>> ((nI 1).toUInt32 &&& Int32.toUInt32 31)).toInt32) &&& (nI 1431655765))).toUInt32 >>> ((nI 2).toUInt32 &&& Int32.toUInt32 31)).toInt32) &&& (nI 858993459))) + (((((x0 - (((x0.toUInt32 >>> ((nI 1).toUInt32 &&& Int32.toUInt32 31)).toInt32) &&& (nI 1431655765))) &&& (nI 858993459)) + ((((x0 - (((x0.toUInt32 >>> ((nI 1).toUInt32 &&& Int32.toUInt32 31)).toInt32) &&& (nI 1431655765))).toUInt32 >>> ((nI 2).toUInt32 &&& Int32.toUInt32 31)).toInt32) &&& (nI 858993459))).toUInt32 >>> ((nI 4).toUInt32 &&& Int32.toUInt32 31)).toInt32)) &&& (nI 252645135)).toUInt32 >>> ((nI 8).toUInt32 &&& Int32.toUInt32 31)).toInt32)).toUInt32 >>> ((nI 16).toUInt32 &&& Int32.toUInt32 31)).toInt32)) &&& (nI 63))
abbrev rmJ6_bitCount_0f7a4 : Room := { frames := 0, cells := 0, slots := 0, locals := 0 }
set_option maxHeartbeats 4000000 in
set_option maxRecDepth 100000 in
theorem mJ6_bitCount_0f7a4 (l : Launch) (g : va_G) (cy : Nat → ClassId)  (x0 : Int32) {res : Int32} (h : pJ6_bitCount_0f7a4 x0 = some res) : Met l yJ6_bitCount_0f7a4 wsJ6_bitCount_0f7a4 rmJ6_bitCount_0f7a4 (PW [.int x0] g cy []) (QRi res) 0 0 nF := by
  refine m_ofV (cc := cJ6_bitCount_0f7a4) (nL := 1) (ret := (some .int)) (B := fun _ => True) RJ6 rfl (by decide) rfl [(0, .int x0)] rfl (Nat.le_of_ble_eq_true rfl) (fun h => h) ?_
  intro p e s m args below meth c hC hr
  unfold pJ6_bitCount_0f7a4 at h
  refine v_iload_n hC dJ6_bitCount_0f7a4_0 rfl 0 rfl rfl ?_
  refine v_iload_n hC dJ6_bitCount_0f7a4_1 rfl 0 rfl rfl ?_
  refine v_iconst hC (v := (nI 1)) dJ6_bitCount_0f7a4_2 (by decide) rfl ?_
  refine v_iushr hC dJ6_bitCount_0f7a4_3 rfl ?_
  refine v_ldcw hC (v := (nI 1431655765)) dJ6_bitCount_0f7a4_4 kJ6_bitCount_0f7a4_265 rfl ?_
  refine v_iand hC dJ6_bitCount_0f7a4_7 rfl ?_
  refine v_isub hC dJ6_bitCount_0f7a4_8 rfl ?_
  refine v_istore_n hC dJ6_bitCount_0f7a4_9 rfl (by decide) [(0, .int (x0 - (((x0.toUInt32 >>> ((nI 1).toUInt32 &&& Int32.toUInt32 31)).toInt32) &&& (nI 1431655765))))] rfl rfl ?_
  refine v_iload_n hC dJ6_bitCount_0f7a4_10 rfl 0 rfl rfl ?_
  refine v_ldcw hC (v := (nI 858993459)) dJ6_bitCount_0f7a4_11 kJ6_bitCount_0f7a4_266 rfl ?_
  refine v_iand hC dJ6_bitCount_0f7a4_14 rfl ?_
  refine v_iload_n hC dJ6_bitCount_0f7a4_15 rfl 0 rfl rfl ?_
  refine v_iconst hC (v := (nI 2)) dJ6_bitCount_0f7a4_16 (by decide) rfl ?_
  refine v_iushr hC dJ6_bitCount_0f7a4_17 rfl ?_
  refine v_ldcw hC (v := (nI 858993459)) dJ6_bitCount_0f7a4_18 kJ6_bitCount_0f7a4_266 rfl ?_
  refine v_iand hC dJ6_bitCount_0f7a4_21 rfl ?_
  refine v_iadd hC dJ6_bitCount_0f7a4_22 rfl ?_
  refine v_istore_n hC dJ6_bitCount_0f7a4_23 rfl (by decide) [(0, .int (((x0 - (((x0.toUInt32 >>> ((nI 1).toUInt32 &&& Int32.toUInt32 31)).toInt32) &&& (nI 1431655765))) &&& (nI 858993459)) + ((((x0 - (((x0.toUInt32 >>> ((nI 1).toUInt32 &&& Int32.toUInt32 31)).toInt32) &&& (nI 1431655765))).toUInt32 >>> ((nI 2).toUInt32 &&& Int32.toUInt32 31)).toInt32) &&& (nI 858993459))))] rfl rfl ?_
  refine v_iload_n hC dJ6_bitCount_0f7a4_24 rfl 0 rfl rfl ?_
  refine v_iload_n hC dJ6_bitCount_0f7a4_25 rfl 0 rfl rfl ?_
  refine v_iconst hC (v := (nI 4)) dJ6_bitCount_0f7a4_26 (by decide) rfl ?_
  refine v_iushr hC dJ6_bitCount_0f7a4_27 rfl ?_
  refine v_iadd hC dJ6_bitCount_0f7a4_28 rfl ?_
  refine v_ldcw hC (v := (nI 252645135)) dJ6_bitCount_0f7a4_29 kJ6_bitCount_0f7a4_267 rfl ?_
  refine v_iand hC dJ6_bitCount_0f7a4_32 rfl ?_
  refine v_istore_n hC dJ6_bitCount_0f7a4_33 rfl (by decide) [(0, .int (((((x0 - (((x0.toUInt32 >>> ((nI 1).toUInt32 &&& Int32.toUInt32 31)).toInt32) &&& (nI 1431655765))) &&& (nI 858993459)) + ((((x0 - (((x0.toUInt32 >>> ((nI 1).toUInt32 &&& Int32.toUInt32 31)).toInt32) &&& (nI 1431655765))).toUInt32 >>> ((nI 2).toUInt32 &&& Int32.toUInt32 31)).toInt32) &&& (nI 858993459))) + (((((x0 - (((x0.toUInt32 >>> ((nI 1).toUInt32 &&& Int32.toUInt32 31)).toInt32) &&& (nI 1431655765))) &&& (nI 858993459)) + ((((x0 - (((x0.toUInt32 >>> ((nI 1).toUInt32 &&& Int32.toUInt32 31)).toInt32) &&& (nI 1431655765))).toUInt32 >>> ((nI 2).toUInt32 &&& Int32.toUInt32 31)).toInt32) &&& (nI 858993459))).toUInt32 >>> ((nI 4).toUInt32 &&& Int32.toUInt32 31)).toInt32)) &&& (nI 252645135)))] rfl rfl ?_
  refine v_iload_n hC dJ6_bitCount_0f7a4_34 rfl 0 rfl rfl ?_
  refine v_iload_n hC dJ6_bitCount_0f7a4_35 rfl 0 rfl rfl ?_
  refine v_bipush hC (v := (nI 8)) dJ6_bitCount_0f7a4_36 (by decide) rfl ?_
  refine v_iushr hC dJ6_bitCount_0f7a4_38 rfl ?_
  refine v_iadd hC dJ6_bitCount_0f7a4_39 rfl ?_
  refine v_istore_n hC dJ6_bitCount_0f7a4_40 rfl (by decide) [(0, .int ((((((x0 - (((x0.toUInt32 >>> ((nI 1).toUInt32 &&& Int32.toUInt32 31)).toInt32) &&& (nI 1431655765))) &&& (nI 858993459)) + ((((x0 - (((x0.toUInt32 >>> ((nI 1).toUInt32 &&& Int32.toUInt32 31)).toInt32) &&& (nI 1431655765))).toUInt32 >>> ((nI 2).toUInt32 &&& Int32.toUInt32 31)).toInt32) &&& (nI 858993459))) + (((((x0 - (((x0.toUInt32 >>> ((nI 1).toUInt32 &&& Int32.toUInt32 31)).toInt32) &&& (nI 1431655765))) &&& (nI 858993459)) + ((((x0 - (((x0.toUInt32 >>> ((nI 1).toUInt32 &&& Int32.toUInt32 31)).toInt32) &&& (nI 1431655765))).toUInt32 >>> ((nI 2).toUInt32 &&& Int32.toUInt32 31)).toInt32) &&& (nI 858993459))).toUInt32 >>> ((nI 4).toUInt32 &&& Int32.toUInt32 31)).toInt32)) &&& (nI 252645135)) + (((((((x0 - (((x0.toUInt32 >>> ((nI 1).toUInt32 &&& Int32.toUInt32 31)).toInt32) &&& (nI 1431655765))) &&& (nI 858993459)) + ((((x0 - (((x0.toUInt32 >>> ((nI 1).toUInt32 &&& Int32.toUInt32 31)).toInt32) &&& (nI 1431655765))).toUInt32 >>> ((nI 2).toUInt32 &&& Int32.toUInt32 31)).toInt32) &&& (nI 858993459))) + (((((x0 - (((x0.toUInt32 >>> ((nI 1).toUInt32 &&& Int32.toUInt32 31)).toInt32) &&& (nI 1431655765))) &&& (nI 858993459)) + ((((x0 - (((x0.toUInt32 >>> ((nI 1).toUInt32 &&& Int32.toUInt32 31)).toInt32) &&& (nI 1431655765))).toUInt32 >>> ((nI 2).toUInt32 &&& Int32.toUInt32 31)).toInt32) &&& (nI 858993459))).toUInt32 >>> ((nI 4).toUInt32 &&& Int32.toUInt32 31)).toInt32)) &&& (nI 252645135)).toUInt32 >>> ((nI 8).toUInt32 &&& Int32.toUInt32 31)).toInt32)))] rfl rfl ?_
  refine v_iload_n hC dJ6_bitCount_0f7a4_41 rfl 0 rfl rfl ?_
  refine v_iload_n hC dJ6_bitCount_0f7a4_42 rfl 0 rfl rfl ?_
  refine v_bipush hC (v := (nI 16)) dJ6_bitCount_0f7a4_43 (by decide) rfl ?_
  refine v_iushr hC dJ6_bitCount_0f7a4_45 rfl ?_
  refine v_iadd hC dJ6_bitCount_0f7a4_46 rfl ?_
  refine v_istore_n hC dJ6_bitCount_0f7a4_47 rfl (by decide) [(0, .int (((((((x0 - (((x0.toUInt32 >>> ((nI 1).toUInt32 &&& Int32.toUInt32 31)).toInt32) &&& (nI 1431655765))) &&& (nI 858993459)) + ((((x0 - (((x0.toUInt32 >>> ((nI 1).toUInt32 &&& Int32.toUInt32 31)).toInt32) &&& (nI 1431655765))).toUInt32 >>> ((nI 2).toUInt32 &&& Int32.toUInt32 31)).toInt32) &&& (nI 858993459))) + (((((x0 - (((x0.toUInt32 >>> ((nI 1).toUInt32 &&& Int32.toUInt32 31)).toInt32) &&& (nI 1431655765))) &&& (nI 858993459)) + ((((x0 - (((x0.toUInt32 >>> ((nI 1).toUInt32 &&& Int32.toUInt32 31)).toInt32) &&& (nI 1431655765))).toUInt32 >>> ((nI 2).toUInt32 &&& Int32.toUInt32 31)).toInt32) &&& (nI 858993459))).toUInt32 >>> ((nI 4).toUInt32 &&& Int32.toUInt32 31)).toInt32)) &&& (nI 252645135)) + (((((((x0 - (((x0.toUInt32 >>> ((nI 1).toUInt32 &&& Int32.toUInt32 31)).toInt32) &&& (nI 1431655765))) &&& (nI 858993459)) + ((((x0 - (((x0.toUInt32 >>> ((nI 1).toUInt32 &&& Int32.toUInt32 31)).toInt32) &&& (nI 1431655765))).toUInt32 >>> ((nI 2).toUInt32 &&& Int32.toUInt32 31)).toInt32) &&& (nI 858993459))) + (((((x0 - (((x0.toUInt32 >>> ((nI 1).toUInt32 &&& Int32.toUInt32 31)).toInt32) &&& (nI 1431655765))) &&& (nI 858993459)) + ((((x0 - (((x0.toUInt32 >>> ((nI 1).toUInt32 &&& Int32.toUInt32 31)).toInt32) &&& (nI 1431655765))).toUInt32 >>> ((nI 2).toUInt32 &&& Int32.toUInt32 31)).toInt32) &&& (nI 858993459))).toUInt32 >>> ((nI 4).toUInt32 &&& Int32.toUInt32 31)).toInt32)) &&& (nI 252645135)).toUInt32 >>> ((nI 8).toUInt32 &&& Int32.toUInt32 31)).toInt32)) + ((((((((x0 - (((x0.toUInt32 >>> ((nI 1).toUInt32 &&& Int32.toUInt32 31)).toInt32) &&& (nI 1431655765))) &&& (nI 858993459)) + ((((x0 - (((x0.toUInt32 >>> ((nI 1).toUInt32 &&& Int32.toUInt32 31)).toInt32) &&& (nI 1431655765))).toUInt32 >>> ((nI 2).toUInt32 &&& Int32.toUInt32 31)).toInt32) &&& (nI 858993459))) + (((((x0 - (((x0.toUInt32 >>> ((nI 1).toUInt32 &&& Int32.toUInt32 31)).toInt32) &&& (nI 1431655765))) &&& (nI 858993459)) + ((((x0 - (((x0.toUInt32 >>> ((nI 1).toUInt32 &&& Int32.toUInt32 31)).toInt32) &&& (nI 1431655765))).toUInt32 >>> ((nI 2).toUInt32 &&& Int32.toUInt32 31)).toInt32) &&& (nI 858993459))).toUInt32 >>> ((nI 4).toUInt32 &&& Int32.toUInt32 31)).toInt32)) &&& (nI 252645135)) + (((((((x0 - (((x0.toUInt32 >>> ((nI 1).toUInt32 &&& Int32.toUInt32 31)).toInt32) &&& (nI 1431655765))) &&& (nI 858993459)) + ((((x0 - (((x0.toUInt32 >>> ((nI 1).toUInt32 &&& Int32.toUInt32 31)).toInt32) &&& (nI 1431655765))).toUInt32 >>> ((nI 2).toUInt32 &&& Int32.toUInt32 31)).toInt32) &&& (nI 858993459))) + (((((x0 - (((x0.toUInt32 >>> ((nI 1).toUInt32 &&& Int32.toUInt32 31)).toInt32) &&& (nI 1431655765))) &&& (nI 858993459)) + ((((x0 - (((x0.toUInt32 >>> ((nI 1).toUInt32 &&& Int32.toUInt32 31)).toInt32) &&& (nI 1431655765))).toUInt32 >>> ((nI 2).toUInt32 &&& Int32.toUInt32 31)).toInt32) &&& (nI 858993459))).toUInt32 >>> ((nI 4).toUInt32 &&& Int32.toUInt32 31)).toInt32)) &&& (nI 252645135)).toUInt32 >>> ((nI 8).toUInt32 &&& Int32.toUInt32 31)).toInt32)).toUInt32 >>> ((nI 16).toUInt32 &&& Int32.toUInt32 31)).toInt32)))] rfl rfl ?_
  refine v_iload_n hC dJ6_bitCount_0f7a4_48 rfl 0 rfl rfl ?_
  refine v_bipush hC (v := (nI 63)) dJ6_bitCount_0f7a4_49 (by decide) rfl ?_
  refine v_iand hC dJ6_bitCount_0f7a4_51 rfl ?_
  obtain rfl := Option.some.inj h
  exact v_irt hC hr rfl rfl dJ6_bitCount_0f7a4_52
theorem kX5_get_19 : Cond.fieldLink RX5 19 "CrowdFaces$Table" "cells" "[I" ∈ wsX5_get := by decide +kernel
theorem kX5_get_7 : Cond.fieldLink RX5 7 "CrowdFaces$Table" "width" "I" ∈ wsX5_get := by decide +kernel
theorem iX5_get_X5 : ∀ w ∈ wsX50, w ∈ wsX5_get := by decide +kernel
def pX5_get_44 (w : Int32) (n : Nat) (f : Nat → Int32) (s0 : Int32) : Option (Int32) := some s0
def pX5_get_43 (w : Int32) (n : Nat) (f : Nat → Int32) : Option (Int32) := pX5_get_44 w n f (nI 0)
def pX5_get (w : Int32) (n : Nat) (f : Nat → Int32) (x1 : Int32) (x2 : Int32) : Option (Int32) := if x2 < 0 then pX5_get_43 w n f else if w ≤ x2 then pX5_get_43 w n f else if ((x1 * w) + x2) < 0 then pX5_get_43 w n f else if (Int32.ofNat n) ≤ ((x1 * w) + x2) then pX5_get_43 w n f else if nb ((x1 * w) + x2) n = true then pX5_get_44 w n f (f ((x1 * w) + x2).toNatClampNeg) else none
abbrev rmX5_get : Room := { frames := 0, cells := 0, slots := 0, locals := 0 }
set_option maxHeartbeats 4000000 in
set_option maxRecDepth 100000 in
theorem bX5_get_44 {p : Program} {l : Launch} {e : Env} {s : State} {m : MethodId} {args : Array Value} {below : List Frame} {meth : Method} {c : Code} {g : va_G} {cy : Nat → ClassId} (hC : CX p s m args meth c g cy 4 cX5_get wsX5_get RX5) (hr : meth.sig.returnType = (some .int)) {h0 a0 : Nat} {res : Int32} : ∀ (w : Int32) (n : Nat) (f : Nat → Int32) (s0 : Int32)(h : pX5_get_44 w n f s0 = some res), V p l e (headSpec wsX5_get rmX5_get).room s m args below meth c g 4 0 0 (MQ below (QRi res) args s 0 0 nF) nF (fun _ => True) [(h0, .inr (3, [.int w, .ref a0])), (a0, .inl (cy 0, n, .inl f))] 44 [] [.int s0] := by
  intro w n f s0 h
  unfold pX5_get_44 at h
  obtain rfl := Option.some.inj h
  exact v_irt hC hr rfl rfl dX5_get_44
set_option maxHeartbeats 4000000 in
set_option maxRecDepth 100000 in
theorem bX5_get_43 {p : Program} {l : Launch} {e : Env} {s : State} {m : MethodId} {args : Array Value} {below : List Frame} {meth : Method} {c : Code} {g : va_G} {cy : Nat → ClassId} (hC : CX p s m args meth c g cy 4 cX5_get wsX5_get RX5) (hr : meth.sig.returnType = (some .int)) {h0 a0 : Nat} {res : Int32} : ∀ (w : Int32) (n : Nat) (f : Nat → Int32) (h : pX5_get_43 w n f = some res), V p l e (headSpec wsX5_get rmX5_get).room s m args below meth c g 4 0 0 (MQ below (QRi res) args s 0 0 nF) nF (fun _ => True) [(h0, .inr (3, [.int w, .ref a0])), (a0, .inl (cy 0, n, .inl f))] 43 [] [] := by
  intro w n f  h
  unfold pX5_get_43 at h
  refine v_iconst hC (v := (nI 0)) dX5_get_43 (by decide) rfl ?_
  exact bX5_get_44 hC hr _ _ _ _ h
set_option maxHeartbeats 4000000 in
set_option maxRecDepth 100000 in
theorem mX5_get (l : Launch) (g : va_G) (cy : Nat → ClassId) (h0 a0 : Nat) (w : Int32) (n : Nat) (f : Nat → Int32) (x1 : Int32) (x2 : Int32) {res : Int32} (h : pX5_get w n f x1 x2 = some res) : Met l yX5_get wsX5_get rmX5_get (PW [.ref h0, .int x1, .int x2] g cy [(h0, .inr (3, [.int w, .ref a0])), (a0, .inl (cy 0, n, .inl f))]) (QRi res) 0 0 nF := by
  refine m_ofV (cc := cX5_get) (nL := 4) (ret := (some .int)) (B := fun _ => True) RX5 rfl (by decide) rfl [(0, .ref h0), (1, .int x1), (2, .int x2)] rfl (Nat.le_of_ble_eq_true rfl) (fun h => h) ?_
  intro p e s m args below meth c hC hr
  unfold pX5_get at h
  refine v_iload_n hC dX5_get_0 rfl 1 rfl rfl ?_
  refine v_aload_n hC dX5_get_1 rfl 0 rfl rfl ?_
  refine v_get hC iX5_get_X5 0 rfl rfl 0 (by decide) kX5_get_7 rfl rfl dX5_get_2 rfl ?_
  refine v_imul hC dX5_get_5 rfl ?_
  refine v_iload_n hC dX5_get_6 rfl 2 rfl rfl ?_
  refine v_iadd hC dX5_get_7 rfl ?_
  refine v_istore_n hC dX5_get_8 rfl (by decide) [(3, .int ((x1 * w) + x2)), (0, .ref h0), (1, .int x1), (2, .int x2)] rfl rfl ?_
  refine v_iload_n hC dX5_get_9 rfl 3 rfl rfl ?_
  refine v_if_lt hC (tgt := 43) dX5_get_10 (by decide) rfl (fun c => ?_) (fun c => ?_)
  · have h := ite_t c h
    exact v_sub [] (lv' := []) rfl (bX5_get_43 hC hr _ _ _ h)
  · have h := ite_f c h
    refine v_iload_n hC dX5_get_13 rfl 3 rfl rfl ?_
    refine v_aload_n hC dX5_get_14 rfl 1 rfl rfl ?_
    refine v_get hC iX5_get_X5 0 rfl rfl 0 (by decide) kX5_get_7 rfl rfl dX5_get_15 rfl ?_
    refine v_icmp_ge hC (tgt := 43) dX5_get_18 (by decide) rfl (fun c => ?_) (fun c => ?_)
    · have h := ite_t c h
      exact v_sub [] (lv' := []) rfl (bX5_get_43 hC hr _ _ _ h)
    · have h := ite_f c h
      refine v_iload_n hC dX5_get_21 rfl 0 rfl rfl ?_
      refine v_if_lt hC (tgt := 43) dX5_get_22 (by decide) rfl (fun c => ?_) (fun c => ?_)
      · have h := ite_t c h
        exact v_sub [] (lv' := []) rfl (bX5_get_43 hC hr _ _ _ h)
      · have h := ite_f c h
        refine v_iload_n hC dX5_get_25 rfl 0 rfl rfl ?_
        refine v_aload_n hC dX5_get_26 rfl 1 rfl rfl ?_
        refine v_get hC iX5_get_X5 0 rfl rfl 1 (by decide) kX5_get_19 rfl rfl dX5_get_27 rfl ?_
        refine v_alen hC 1 0 rfl rfl (v := (Int32.ofNat n)) rfl dX5_get_30 rfl ?_
        refine v_icmp_ge hC (tgt := 43) dX5_get_31 (by decide) rfl (fun c => ?_) (fun c => ?_)
        · have h := ite_t c h
          exact v_sub [] (lv' := []) rfl (bX5_get_43 hC hr _ _ _ h)
        · have h := ite_f c h
          refine v_aload_n hC dX5_get_34 rfl 1 rfl rfl ?_
          refine v_get hC iX5_get_X5 0 rfl rfl 1 (by decide) kX5_get_19 rfl rfl dX5_get_35 rfl ?_
          refine v_iload_n hC dX5_get_38 rfl 0 rfl rfl ?_
          obtain ⟨hn, h⟩ := ite_g h
          refine v_iald hC 1 rfl hn dX5_get_39 rfl ?_
          refine v_goto hC (tgt := 44) dX5_get_40 (by decide) ?_
          exact v_sub [] (lv' := []) rfl (bX5_get_44 hC hr _ _ _ _ h)
theorem kX5_put_19 : Cond.fieldLink RX5 19 "CrowdFaces$Table" "cells" "[I" ∈ wsX5_put := by decide +kernel
theorem kX5_put_7 : Cond.fieldLink RX5 7 "CrowdFaces$Table" "width" "I" ∈ wsX5_put := by decide +kernel
theorem iX5_put_X5 : ∀ w ∈ wsX50, w ∈ wsX5_put := by decide +kernel
def pX5_put_45 (w : Int32) (n : Nat) (f : Nat → Int32) : Option ((Nat → Int32)) := some f
def pX5_put (w : Int32) (n : Nat) (f : Nat → Int32) (x1 : Int32) (x2 : Int32) (x3 : Int32) : Option ((Nat → Int32)) := if x2 < 0 then pX5_put_45 w n f else if w ≤ x2 then pX5_put_45 w n f else if ((x1 * w) + x2) < 0 then pX5_put_45 w n f else if (Int32.ofNat n) ≤ ((x1 * w) + x2) then pX5_put_45 w n f else if nb ((x1 * w) + x2) n = true then pX5_put_45 w n (upd f ((x1 * w) + x2).toNatClampNeg x3) else none
abbrev rmX5_put : Room := { frames := 0, cells := 0, slots := 0, locals := 0 }
set_option maxHeartbeats 4000000 in
set_option maxRecDepth 100000 in
theorem bX5_put_45 {p : Program} {l : Launch} {e : Env} {s : State} {m : MethodId} {args : Array Value} {below : List Frame} {meth : Method} {c : Code} {g : va_G} {cy : Nat → ClassId} (hC : CX p s m args meth c g cy 5 cX5_put wsX5_put RX5) (hr : meth.sig.returnType = none) {h0 a0 : Nat} {A : Nat → Prop} {res : (Nat → Int32)} : ∀ (w : Int32) (n : Nat) (f : Nat → Int32) (h : pX5_put_45 w n f = some res), V p l e (headSpec wsX5_put rmX5_put).room s m args below meth c g 5 0 0 (MQ below (QWv g A [(h0, .inr (3, [.int w, .ref a0])), (a0, .inl (cy 0, n, .inl res))]) args s 0 0 A) A A [(h0, .inr (3, [.int w, .ref a0])), (a0, .inl (cy 0, n, .inl f))] 45 [] [] := by
  intro w n f  h
  unfold pX5_put_45 at h
  obtain rfl := Option.some.inj h
  exact v_vrw hC hr dX5_put_45
set_option maxHeartbeats 4000000 in
set_option maxRecDepth 100000 in
theorem mX5_put (l : Launch) (g : va_G) (cy : Nat → ClassId) (h0 a0 : Nat) (w : Int32) (n : Nat) (f : Nat → Int32) (x1 : Int32) (x2 : Int32) (x3 : Int32) {res : (Nat → Int32)} (h : pX5_put w n f x1 x2 x3 = some res) : Met l yX5_put wsX5_put rmX5_put (PW [.ref h0, .int x1, .int x2, .int x3] g cy [(h0, .inr (3, [.int w, .ref a0])), (a0, .inl (cy 0, n, .inl f))]) (QWv g (wA [(h0, .inr (3, [.int w, .ref a0])), (a0, .inl (cy 0, n, .inl f))]) [(h0, .inr (3, [.int w, .ref a0])), (a0, .inl (cy 0, n, .inl res))]) 0 0 (wA [(h0, .inr (3, [.int w, .ref a0])), (a0, .inl (cy 0, n, .inl f))]) := by
  refine m_ofV (cc := cX5_put) (nL := 5) (ret := none) (B := (wA [(h0, .inr (3, [.int w, .ref a0])), (a0, .inl (cy 0, n, .inl f))])) RX5 rfl (by decide) rfl [(0, .ref h0), (1, .int x1), (2, .int x2), (3, .int x3)] rfl (Nat.le_of_ble_eq_true rfl) (wA.self) ?_
  intro p e s m args below meth c hC hr
  generalize (wA [(h0, .inr (3, [.int w, .ref a0])), (a0, .inl (cy 0, n, .inl f))]) = A
  unfold pX5_put at h
  refine v_iload_n hC dX5_put_0 rfl 1 rfl rfl ?_
  refine v_aload_n hC dX5_put_1 rfl 0 rfl rfl ?_
  refine v_get hC iX5_put_X5 0 rfl rfl 0 (by decide) kX5_put_7 rfl rfl dX5_put_2 rfl ?_
  refine v_imul hC dX5_put_5 rfl ?_
  refine v_iload_n hC dX5_put_6 rfl 2 rfl rfl ?_
  refine v_iadd hC dX5_put_7 rfl ?_
  refine v_istore hC dX5_put_8 (by decide) [(4, .int ((x1 * w) + x2)), (0, .ref h0), (1, .int x1), (2, .int x2), (3, .int x3)] rfl rfl ?_
  refine v_iload_n hC dX5_put_10 rfl 3 rfl rfl ?_
  refine v_if_lt hC (tgt := 45) dX5_put_11 (by decide) rfl (fun c => ?_) (fun c => ?_)
  · have h := ite_t c h
    exact v_sub [] (lv' := []) rfl (bX5_put_45 hC hr _ _ _ h)
  · have h := ite_f c h
    refine v_iload_n hC dX5_put_14 rfl 3 rfl rfl ?_
    refine v_aload_n hC dX5_put_15 rfl 1 rfl rfl ?_
    refine v_get hC iX5_put_X5 0 rfl rfl 0 (by decide) kX5_put_7 rfl rfl dX5_put_16 rfl ?_
    refine v_icmp_ge hC (tgt := 45) dX5_put_19 (by decide) rfl (fun c => ?_) (fun c => ?_)
    · have h := ite_t c h
      exact v_sub [] (lv' := []) rfl (bX5_put_45 hC hr _ _ _ h)
    · have h := ite_f c h
      refine v_iload hC dX5_put_22 0 rfl rfl ?_
      refine v_if_lt hC (tgt := 45) dX5_put_24 (by decide) rfl (fun c => ?_) (fun c => ?_)
      · have h := ite_t c h
        exact v_sub [] (lv' := []) rfl (bX5_put_45 hC hr _ _ _ h)
      · have h := ite_f c h
        refine v_iload hC dX5_put_27 0 rfl rfl ?_
        refine v_aload_n hC dX5_put_29 rfl 1 rfl rfl ?_
        refine v_get hC iX5_put_X5 0 rfl rfl 1 (by decide) kX5_put_19 rfl rfl dX5_put_30 rfl ?_
        refine v_alen hC 1 0 rfl rfl (v := (Int32.ofNat n)) rfl dX5_put_33 rfl ?_
        refine v_icmp_ge hC (tgt := 45) dX5_put_34 (by decide) rfl (fun c => ?_) (fun c => ?_)
        · have h := ite_t c h
          exact v_sub [] (lv' := []) rfl (bX5_put_45 hC hr _ _ _ h)
        · have h := ite_f c h
          refine v_aload_n hC dX5_put_37 rfl 1 rfl rfl ?_
          refine v_get hC iX5_put_X5 0 rfl rfl 1 (by decide) kX5_put_19 rfl rfl dX5_put_38 rfl ?_
          refine v_iload hC dX5_put_41 0 rfl rfl ?_
          refine v_iload_n hC dX5_put_43 rfl 4 rfl rfl ?_
          obtain ⟨hn, h⟩ := ite_g h
          refine v_iast hC 1 rfl hn dX5_put_44 [(h0, .inr (3, [.int w, .ref a0])), (a0, .inl (cy 0, n, .inl (upd f ((x1 * w) + x2).toNatClampNeg x3)))] rfl rfl ?_
          exact v_sub [] (lv' := []) rfl (bX5_put_45 hC hr _ _ _ h)
def pX5_add (w : Int32) (n : Nat) (f : Nat → Int32) (x1 : Int32) (x2 : Int32) (x3 : Int32) : Option ((Nat → Int32)) := (pX5_get w n f x1 x2).bind fun v1 => (pX5_put w n f x1 x2 (v1 + x3)).bind fun v2 => some v2
abbrev rmX5_add : Room := { frames := 1, cells := 0, slots := 0, locals := 24 }
set_option maxHeartbeats 4000000 in
set_option maxRecDepth 100000 in
theorem mX5_add (l : Launch) (g : va_G) (cy : Nat → ClassId) (h0 a0 : Nat) (w : Int32) (n : Nat) (f : Nat → Int32) (x1 : Int32) (x2 : Int32) (x3 : Int32) {res : (Nat → Int32)} (h : pX5_add w n f x1 x2 x3 = some res) : Met l yX5_add wsX5_add rmX5_add (PW [.ref h0, .int x1, .int x2, .int x3] g cy [(h0, .inr (3, [.int w, .ref a0])), (a0, .inl (cy 0, n, .inl f))]) (QWv g (wA [(h0, .inr (3, [.int w, .ref a0])), (a0, .inl (cy 0, n, .inl f))]) [(h0, .inr (3, [.int w, .ref a0])), (a0, .inl (cy 0, n, .inl res))]) 0 0 (wA [(h0, .inr (3, [.int w, .ref a0])), (a0, .inl (cy 0, n, .inl f))]) := by
  refine m_ofV (cc := cX5_add) (nL := 4) (ret := none) (B := (wA [(h0, .inr (3, [.int w, .ref a0])), (a0, .inl (cy 0, n, .inl f))])) RX5 rfl (by decide) rfl [(0, .ref h0), (1, .int x1), (2, .int x2), (3, .int x3)] rfl (Nat.le_of_ble_eq_true rfl) (wA.self) ?_
  intro p e s m args below meth c hC hr
  generalize (wA [(h0, .inr (3, [.int w, .ref a0])), (a0, .inl (cy 0, n, .inl f))]) = A
  unfold pX5_add at h
  refine v_aload_n hC dX5_add_0 rfl 0 rfl rfl ?_
  refine v_iload_n hC dX5_add_1 rfl 1 rfl rfl ?_
  refine v_iload_n hC dX5_add_2 rfl 2 rfl rfl ?_
  refine v_aload_n hC dX5_add_3 rfl 0 rfl rfl ?_
  refine v_iload_n hC dX5_add_4 rfl 1 rfl rfl ?_
  refine v_iload_n hC dX5_add_5 rfl 2 rfl rfl ?_
  obtain ⟨v1, hv1, h⟩ := bind_g h
  refine v_callVri hC (n := 2) (st := [.int x2, .int x1, .ref h0]) (mX5_get l g cy h0 a0 w n f x1 x2 hv1) gX5_add_X5_get rfl rfl rfl (by decide +kernel) ⟨Nat.le_of_ble_eq_true rfl, Nat.le_of_ble_eq_true rfl⟩ 0 rfl rfl [0, 1] rfl rfl rfl rfl (Nat.le_of_ble_eq_true rfl) rfl ⟨Nat.zero_le _, Nat.zero_le _⟩ dX5_add_6 rfl ?_
  refine v_iload_n hC dX5_add_9 rfl 3 rfl rfl ?_
  refine v_iadd hC dX5_add_10 rfl ?_
  obtain ⟨v2, hv2, h⟩ := bind_g h
  refine v_callVwv hC (n := 3) (st := []) [(h0, .inr (3, [.int w, .ref a0])), (a0, .inl (cy 0, n, .inl v2))] _ (mX5_put l g cy h0 a0 w n f x1 x2 (v1 + x3) hv2) gX5_add_X5_put rfl rfl rfl (by decide +kernel) ⟨Nat.le_of_ble_eq_true rfl, Nat.le_of_ble_eq_true rfl⟩ 0 rfl rfl [0, 1] [] rfl rfl rfl rfl rfl rfl rfl rfl rfl (Nat.le_of_ble_eq_true rfl) rfl ⟨Nat.zero_le _, Nat.zero_le _⟩ dX5_add_11 rfl ?_
  obtain rfl := Option.some.inj h
  exact v_vrw hC hr dX5_add_14
theorem kX5_fillKind_7 : Cond.fieldLink RX5 7 "CrowdFaces$Table" "width" "I" ∈ wsX5_fillKind := by decide +kernel
theorem iX5_fillKind_X5 : ∀ w ∈ wsX50, w ∈ wsX5_fillKind := by decide +kernel
def pX5_fillKind_2 : Nat → Int32 → Nat → (Nat → Int32) → Int32 → Int32 → Int32 → Option ((Nat → Int32))
  | 0, _, _, _, _, _, _ => none
  | k + 1, w, n, f, y1, y2, y3 => if w ≤ y3 then some f else (pX5_put w n f y1 y3 y2).bind fun v1 => pX5_fillKind_2 k w n v1 y1 y2 (y3 + (nI 1))
theorem pX5_fillKind_2_s {k : Nat} (w : Int32) (n : Nat) (f : Nat → Int32) (y1 : Int32) (y2 : Int32) (y3 : Int32) : pX5_fillKind_2 (k + 1) w n f y1 y2 y3 = if w ≤ y3 then some f else (pX5_put w n f y1 y3 y2).bind fun v1 => pX5_fillKind_2 k w n v1 y1 y2 (y3 + (nI 1)) := rfl
def pX5_fillKind (w : Int32) (n : Nat) (f : Nat → Int32) (x1 : Int32) (x2 : Int32) : Option ((Nat → Int32)) := pX5_fillKind_2 FU w n f x1 x2 (nI 0)
abbrev rmX5_fillKind : Room := { frames := 1, cells := 0, slots := 0, locals := 24 }
set_option maxHeartbeats 4000000 in
set_option maxRecDepth 100000 in
theorem bX5_fillKind_2 {p : Program} {l : Launch} {e : Env} {s : State} {m : MethodId} {args : Array Value} {below : List Frame} {meth : Method} {c : Code} {g : va_G} {cy : Nat → ClassId} (hC : CX p s m args meth c g cy 4 cX5_fillKind wsX5_fillKind RX5) (hr : meth.sig.returnType = none) {h0 a0 : Nat} {A : Nat → Prop} {res : (Nat → Int32)} : ∀ (k : Nat) (w : Int32) (n : Nat) (f : Nat → Int32) (y1 : Int32) (y2 : Int32) (y3 : Int32) (h : pX5_fillKind_2 k w n f y1 y2 y3 = some res), V p l e (headSpec wsX5_fillKind rmX5_fillKind).room s m args below meth c g 4 0 0 (MQ below (QWv g A [(h0, .inr (3, [.int w, .ref a0])), (a0, .inl (cy 0, n, .inl res))]) args s 0 0 A) A A [(h0, .inr (3, [.int w, .ref a0])), (a0, .inl (cy 0, n, .inl f))] 2 [(0, .ref h0), (1, .int y1), (2, .int y2), (3, .int y3)] [] := by
  intro k
  induction k with
  | zero =>
    intro w n f y1 y2 y3 h
    have h : (none : Option _) = some res := h
    cases h
  | succ k ih =>
    intro w n f y1 y2 y3 h
    rw [pX5_fillKind_2_s] at h
    refine v_iload_n hC dX5_fillKind_2 rfl 3 rfl rfl ?_
    refine v_aload_n hC dX5_fillKind_3 rfl 0 rfl rfl ?_
    refine v_get hC iX5_fillKind_X5 0 rfl rfl 0 (by decide) kX5_fillKind_7 rfl rfl dX5_fillKind_4 rfl ?_
    refine v_icmp_ge hC (tgt := 23) dX5_fillKind_7 (by decide) rfl (fun c => ?_) (fun c => ?_)
    · have h := ite_t c h
      obtain rfl := Option.some.inj h
      exact v_vrw hC hr dX5_fillKind_23
    · have h := ite_f c h
      refine v_aload_n hC dX5_fillKind_10 rfl 0 rfl rfl ?_
      refine v_iload_n hC dX5_fillKind_11 rfl 1 rfl rfl ?_
      refine v_iload_n hC dX5_fillKind_12 rfl 3 rfl rfl ?_
      refine v_iload_n hC dX5_fillKind_13 rfl 2 rfl rfl ?_
      obtain ⟨v1, hv1, h⟩ := bind_g h
      refine v_callVwv hC (n := 3) (st := []) [(h0, .inr (3, [.int w, .ref a0])), (a0, .inl (cy 0, n, .inl v1))] _ (mX5_put l g cy h0 a0 w n f y1 y3 y2 hv1) gX5_fillKind_X5_put rfl rfl rfl (by decide +kernel) ⟨Nat.le_of_ble_eq_true rfl, Nat.le_of_ble_eq_true rfl⟩ 0 rfl rfl [0, 1] [] rfl rfl rfl rfl rfl rfl rfl rfl rfl (Nat.le_of_ble_eq_true rfl) rfl ⟨Nat.zero_le _, Nat.zero_le _⟩ dX5_fillKind_14 rfl ?_
      refine v_iinc hC dX5_fillKind_17 3 rfl (v := (y3 + (nI 1))) rfl (by decide) [(3, .int (y3 + (nI 1))), (0, .ref h0), (1, .int y1), (2, .int y2)] rfl rfl ?_
      refine v_goto hC (tgt := 2) dX5_fillKind_20 (by decide) ?_
      exact v_sub [1, 2, 3, 0] (lv' := [(0, .ref h0), (1, .int y1), (2, .int y2), (3, .int (y3 + (nI 1)))]) rfl (ih _ _ _ _ _ _ h)
set_option maxHeartbeats 4000000 in
set_option maxRecDepth 100000 in
theorem mX5_fillKind (l : Launch) (g : va_G) (cy : Nat → ClassId) (h0 a0 : Nat) (w : Int32) (n : Nat) (f : Nat → Int32) (x1 : Int32) (x2 : Int32) {res : (Nat → Int32)} (h : pX5_fillKind w n f x1 x2 = some res) : Met l yX5_fillKind wsX5_fillKind rmX5_fillKind (PW [.ref h0, .int x1, .int x2] g cy [(h0, .inr (3, [.int w, .ref a0])), (a0, .inl (cy 0, n, .inl f))]) (QWv g (wA [(h0, .inr (3, [.int w, .ref a0])), (a0, .inl (cy 0, n, .inl f))]) [(h0, .inr (3, [.int w, .ref a0])), (a0, .inl (cy 0, n, .inl res))]) 0 0 (wA [(h0, .inr (3, [.int w, .ref a0])), (a0, .inl (cy 0, n, .inl f))]) := by
  refine m_ofV (cc := cX5_fillKind) (nL := 4) (ret := none) (B := (wA [(h0, .inr (3, [.int w, .ref a0])), (a0, .inl (cy 0, n, .inl f))])) RX5 rfl (by decide) rfl [(0, .ref h0), (1, .int x1), (2, .int x2)] rfl (Nat.le_of_ble_eq_true rfl) (wA.self) ?_
  intro p e s m args below meth c hC hr
  generalize (wA [(h0, .inr (3, [.int w, .ref a0])), (a0, .inl (cy 0, n, .inl f))]) = A
  unfold pX5_fillKind at h
  refine v_iconst hC (v := (nI 0)) dX5_fillKind_0 (by decide) rfl ?_
  refine v_istore_n hC dX5_fillKind_1 rfl (by decide) [(3, .int (nI 0)), (0, .ref h0), (1, .int x1), (2, .int x2)] rfl rfl ?_
  exact v_sub [1, 2, 3, 0] (lv' := [(0, .ref h0), (1, .int x1), (2, .int x2), (3, .int (nI 0))]) rfl (bX5_fillKind_2 hC hr FU _ _ _ _ _ _ h)
theorem kX5_fillAll_19 : Cond.fieldLink RX5 19 "CrowdFaces$Table" "cells" "[I" ∈ wsX5_fillAll := by decide +kernel
theorem iX5_fillAll_X5 : ∀ w ∈ wsX50, w ∈ wsX5_fillAll := by decide +kernel
def pX5_fillAll_2 : Nat → Nat → (Nat → Int32) → Int32 → Int32 → Option ((Nat → Int32))
  | 0, _, _, _, _ => none
  | k + 1, n, f, y1, y2 => if (Int32.ofNat n) ≤ y2 then some f else if nb y2 n = true then pX5_fillAll_2 k n (upd f y2.toNatClampNeg y1) y1 (y2 + (nI 1)) else none
theorem pX5_fillAll_2_s {k : Nat} (n : Nat) (f : Nat → Int32) (y1 : Int32) (y2 : Int32) : pX5_fillAll_2 (k + 1) n f y1 y2 = if (Int32.ofNat n) ≤ y2 then some f else if nb y2 n = true then pX5_fillAll_2 k n (upd f y2.toNatClampNeg y1) y1 (y2 + (nI 1)) else none := rfl
def pX5_fillAll (n : Nat) (f : Nat → Int32) (x1 : Int32) : Option ((Nat → Int32)) := pX5_fillAll_2 FU n f x1 (nI 0)
abbrev rmX5_fillAll : Room := { frames := 0, cells := 0, slots := 0, locals := 0 }
set_option maxHeartbeats 4000000 in
set_option maxRecDepth 100000 in
theorem bX5_fillAll_2 {p : Program} {l : Launch} {e : Env} {s : State} {m : MethodId} {args : Array Value} {below : List Frame} {meth : Method} {c : Code} {g : va_G} {cy : Nat → ClassId} (hC : CX p s m args meth c g cy 3 cX5_fillAll wsX5_fillAll RX5) (hr : meth.sig.returnType = none) {h0 a0 : Nat} {A : Nat → Prop} {res : (Nat → Int32)} : ∀ (k : Nat) (w : Int32) (n : Nat) (f : Nat → Int32) (y1 : Int32) (y2 : Int32) (h : pX5_fillAll_2 k n f y1 y2 = some res), V p l e (headSpec wsX5_fillAll rmX5_fillAll).room s m args below meth c g 3 0 0 (MQ below (QWv g A [(h0, .inr (3, [.int w, .ref a0])), (a0, .inl (cy 0, n, .inl res))]) args s 0 0 A) A A [(h0, .inr (3, [.int w, .ref a0])), (a0, .inl (cy 0, n, .inl f))] 2 [(0, .ref h0), (1, .int y1), (2, .int y2)] [] := by
  intro k
  induction k with
  | zero =>
    intro w n f y1 y2 h
    have h : (none : Option _) = some res := h
    cases h
  | succ k ih =>
    intro w n f y1 y2 h
    rw [pX5_fillAll_2_s] at h
    refine v_iload_n hC dX5_fillAll_2 rfl 2 rfl rfl ?_
    refine v_aload_n hC dX5_fillAll_3 rfl 0 rfl rfl ?_
    refine v_get hC iX5_fillAll_X5 0 rfl rfl 1 (by decide) kX5_fillAll_19 rfl rfl dX5_fillAll_4 rfl ?_
    refine v_alen hC 1 0 rfl rfl (v := (Int32.ofNat n)) rfl dX5_fillAll_7 rfl ?_
    refine v_icmp_ge hC (tgt := 24) dX5_fillAll_8 (by decide) rfl (fun c => ?_) (fun c => ?_)
    · have h := ite_t c h
      obtain rfl := Option.some.inj h
      exact v_vrw hC hr dX5_fillAll_24
    · have h := ite_f c h
      refine v_aload_n hC dX5_fillAll_11 rfl 0 rfl rfl ?_
      refine v_get hC iX5_fillAll_X5 0 rfl rfl 1 (by decide) kX5_fillAll_19 rfl rfl dX5_fillAll_12 rfl ?_
      refine v_iload_n hC dX5_fillAll_15 rfl 2 rfl rfl ?_
      refine v_iload_n hC dX5_fillAll_16 rfl 1 rfl rfl ?_
      obtain ⟨hn, h⟩ := ite_g h
      refine v_iast hC 1 rfl hn dX5_fillAll_17 [(h0, .inr (3, [.int w, .ref a0])), (a0, .inl (cy 0, n, .inl (upd f y2.toNatClampNeg y1)))] rfl rfl ?_
      refine v_iinc hC dX5_fillAll_18 2 rfl (v := (y2 + (nI 1))) rfl (by decide) [(2, .int (y2 + (nI 1))), (0, .ref h0), (1, .int y1)] rfl rfl ?_
      refine v_goto hC (tgt := 2) dX5_fillAll_21 (by decide) ?_
      exact v_sub [1, 2, 0] (lv' := [(0, .ref h0), (1, .int y1), (2, .int (y2 + (nI 1)))]) rfl (ih _ _ _ _ _ h)
set_option maxHeartbeats 4000000 in
set_option maxRecDepth 100000 in
theorem mX5_fillAll (l : Launch) (g : va_G) (cy : Nat → ClassId) (h0 a0 : Nat) (w : Int32) (n : Nat) (f : Nat → Int32) (x1 : Int32) {res : (Nat → Int32)} (h : pX5_fillAll n f x1 = some res) : Met l yX5_fillAll wsX5_fillAll rmX5_fillAll (PW [.ref h0, .int x1] g cy [(h0, .inr (3, [.int w, .ref a0])), (a0, .inl (cy 0, n, .inl f))]) (QWv g (wA [(h0, .inr (3, [.int w, .ref a0])), (a0, .inl (cy 0, n, .inl f))]) [(h0, .inr (3, [.int w, .ref a0])), (a0, .inl (cy 0, n, .inl res))]) 0 0 (wA [(h0, .inr (3, [.int w, .ref a0])), (a0, .inl (cy 0, n, .inl f))]) := by
  refine m_ofV (cc := cX5_fillAll) (nL := 3) (ret := none) (B := (wA [(h0, .inr (3, [.int w, .ref a0])), (a0, .inl (cy 0, n, .inl f))])) RX5 rfl (by decide) rfl [(0, .ref h0), (1, .int x1)] rfl (Nat.le_of_ble_eq_true rfl) (wA.self) ?_
  intro p e s m args below meth c hC hr
  generalize (wA [(h0, .inr (3, [.int w, .ref a0])), (a0, .inl (cy 0, n, .inl f))]) = A
  unfold pX5_fillAll at h
  refine v_iconst hC (v := (nI 0)) dX5_fillAll_0 (by decide) rfl ?_
  refine v_istore_n hC dX5_fillAll_1 rfl (by decide) [(2, .int (nI 0)), (0, .ref h0), (1, .int x1)] rfl rfl ?_
  exact v_sub [1, 2, 0] (lv' := [(0, .ref h0), (1, .int x1), (2, .int (nI 0))]) rfl (bX5_fillAll_2 hC hr FU _ _ _ _ _ h)
theorem kX5_copy_19 : Cond.fieldLink RX5 19 "CrowdFaces$Table" "cells" "[I" ∈ wsX5_copy := by decide +kernel
theorem iX5_copy_X5 : ∀ w ∈ wsX50, w ∈ wsX5_copy := by decide +kernel
def pX5_copy_38 (n : Nat) (f : Nat → Int32) (n_b : Nat) (f_b : Nat → Int32) : Option ((Nat → Int32)) := some f
def pX5_copy_2 : Nat → Nat → (Nat → Int32) → Nat → (Nat → Int32) → Int32 → Option ((Nat → Int32))
  | 0, _, _, _, _, _ => none
  | k + 1, n, f, n_b, f_b, y2 => if (Int32.ofNat n) ≤ y2 then pX5_copy_38 n f n_b f_b else if (Int32.ofNat n_b) ≤ y2 then pX5_copy_38 n f n_b f_b else if nb y2 n_b = true then if nb y2 n = true then pX5_copy_2 k n (upd f y2.toNatClampNeg (f_b y2.toNatClampNeg)) n_b f_b (y2 + (nI 1)) else none else none
theorem pX5_copy_2_s {k : Nat} (n : Nat) (f : Nat → Int32) (n_b : Nat) (f_b : Nat → Int32) (y2 : Int32) : pX5_copy_2 (k + 1) n f n_b f_b y2 = if (Int32.ofNat n) ≤ y2 then pX5_copy_38 n f n_b f_b else if (Int32.ofNat n_b) ≤ y2 then pX5_copy_38 n f n_b f_b else if nb y2 n_b = true then if nb y2 n = true then pX5_copy_2 k n (upd f y2.toNatClampNeg (f_b y2.toNatClampNeg)) n_b f_b (y2 + (nI 1)) else none else none := rfl
def pX5_copy (n : Nat) (f : Nat → Int32) (n_b : Nat) (f_b : Nat → Int32) : Option ((Nat → Int32)) := pX5_copy_2 FU n f n_b f_b (nI 0)
abbrev rmX5_copy : Room := { frames := 0, cells := 0, slots := 0, locals := 0 }
set_option maxHeartbeats 4000000 in
set_option maxRecDepth 100000 in
theorem bX5_copy_38 {p : Program} {l : Launch} {e : Env} {s : State} {m : MethodId} {args : Array Value} {below : List Frame} {meth : Method} {c : Code} {g : va_G} {cy : Nat → ClassId} (hC : CX p s m args meth c g cy 3 cX5_copy wsX5_copy RX5) (hr : meth.sig.returnType = none) {h0 a0 h1 a0_b : Nat} {A : Nat → Prop} {res : (Nat → Int32)} : ∀ (w : Int32) (n : Nat) (f : Nat → Int32) (w_b : Int32) (n_b : Nat) (f_b : Nat → Int32) (h : pX5_copy_38 n f n_b f_b = some res), V p l e (headSpec wsX5_copy rmX5_copy).room s m args below meth c g 3 0 0 (MQ below (QWv g A [(h0, .inr (3, [.int w, .ref a0])), (a0, .inl (cy 0, n, .inl res)), (h1, .inr (3, [.int w_b, .ref a0_b])), (a0_b, .inl (cy 0, n_b, .inl f_b))]) args s 0 0 A) A A [(h0, .inr (3, [.int w, .ref a0])), (a0, .inl (cy 0, n, .inl f)), (h1, .inr (3, [.int w_b, .ref a0_b])), (a0_b, .inl (cy 0, n_b, .inl f_b))] 38 [] [] := by
  intro w n f w_b n_b f_b  h
  unfold pX5_copy_38 at h
  obtain rfl := Option.some.inj h
  exact v_vrw hC hr dX5_copy_38
set_option maxHeartbeats 4000000 in
set_option maxRecDepth 100000 in
theorem bX5_copy_2 {p : Program} {l : Launch} {e : Env} {s : State} {m : MethodId} {args : Array Value} {below : List Frame} {meth : Method} {c : Code} {g : va_G} {cy : Nat → ClassId} (hC : CX p s m args meth c g cy 3 cX5_copy wsX5_copy RX5) (hr : meth.sig.returnType = none) {h0 a0 h1 a0_b : Nat} {A : Nat → Prop} {res : (Nat → Int32)} : ∀ (k : Nat) (w : Int32) (n : Nat) (f : Nat → Int32) (w_b : Int32) (n_b : Nat) (f_b : Nat → Int32) (y2 : Int32) (h : pX5_copy_2 k n f n_b f_b y2 = some res), V p l e (headSpec wsX5_copy rmX5_copy).room s m args below meth c g 3 0 0 (MQ below (QWv g A [(h0, .inr (3, [.int w, .ref a0])), (a0, .inl (cy 0, n, .inl res)), (h1, .inr (3, [.int w_b, .ref a0_b])), (a0_b, .inl (cy 0, n_b, .inl f_b))]) args s 0 0 A) A A [(h0, .inr (3, [.int w, .ref a0])), (a0, .inl (cy 0, n, .inl f)), (h1, .inr (3, [.int w_b, .ref a0_b])), (a0_b, .inl (cy 0, n_b, .inl f_b))] 2 [(0, .ref h0), (1, .ref h1), (2, .int y2)] [] := by
  intro k
  induction k with
  | zero =>
    intro w n f w_b n_b f_b y2 h
    have h : (none : Option _) = some res := h
    cases h
  | succ k ih =>
    intro w n f w_b n_b f_b y2 h
    rw [pX5_copy_2_s] at h
    refine v_iload_n hC dX5_copy_2 rfl 2 rfl rfl ?_
    refine v_aload_n hC dX5_copy_3 rfl 0 rfl rfl ?_
    refine v_get hC iX5_copy_X5 0 rfl rfl 1 (by decide) kX5_copy_19 rfl rfl dX5_copy_4 rfl ?_
    refine v_alen hC 1 0 rfl rfl (v := (Int32.ofNat n)) rfl dX5_copy_7 rfl ?_
    refine v_icmp_ge hC (tgt := 38) dX5_copy_8 (by decide) rfl (fun c => ?_) (fun c => ?_)
    · have h := ite_t c h
      exact v_sub [] (lv' := []) rfl (bX5_copy_38 hC hr _ _ _ _ _ _ h)
    · have h := ite_f c h
      refine v_iload_n hC dX5_copy_11 rfl 2 rfl rfl ?_
      refine v_aload_n hC dX5_copy_12 rfl 1 rfl rfl ?_
      refine v_get hC iX5_copy_X5 2 rfl rfl 1 (by decide) kX5_copy_19 rfl rfl dX5_copy_13 rfl ?_
      refine v_alen hC 3 0 rfl rfl (v := (Int32.ofNat n_b)) rfl dX5_copy_16 rfl ?_
      refine v_icmp_ge hC (tgt := 38) dX5_copy_17 (by decide) rfl (fun c => ?_) (fun c => ?_)
      · have h := ite_t c h
        exact v_sub [] (lv' := []) rfl (bX5_copy_38 hC hr _ _ _ _ _ _ h)
      · have h := ite_f c h
        refine v_aload_n hC dX5_copy_20 rfl 0 rfl rfl ?_
        refine v_get hC iX5_copy_X5 0 rfl rfl 1 (by decide) kX5_copy_19 rfl rfl dX5_copy_21 rfl ?_
        refine v_iload_n hC dX5_copy_24 rfl 2 rfl rfl ?_
        refine v_aload_n hC dX5_copy_25 rfl 1 rfl rfl ?_
        refine v_get hC iX5_copy_X5 2 rfl rfl 1 (by decide) kX5_copy_19 rfl rfl dX5_copy_26 rfl ?_
        refine v_iload_n hC dX5_copy_29 rfl 2 rfl rfl ?_
        obtain ⟨hn, h⟩ := ite_g h
        refine v_iald hC 3 rfl hn dX5_copy_30 rfl ?_
        obtain ⟨hn, h⟩ := ite_g h
        refine v_iast hC 1 rfl hn dX5_copy_31 [(h0, .inr (3, [.int w, .ref a0])), (a0, .inl (cy 0, n, .inl (upd f y2.toNatClampNeg (f_b y2.toNatClampNeg)))), (h1, .inr (3, [.int w_b, .ref a0_b])), (a0_b, .inl (cy 0, n_b, .inl f_b))] rfl rfl ?_
        refine v_iinc hC dX5_copy_32 2 rfl (v := (y2 + (nI 1))) rfl (by decide) [(2, .int (y2 + (nI 1))), (0, .ref h0), (1, .ref h1)] rfl rfl ?_
        refine v_goto hC (tgt := 2) dX5_copy_35 (by decide) ?_
        exact v_sub [1, 2, 0] (lv' := [(0, .ref h0), (1, .ref h1), (2, .int (y2 + (nI 1)))]) rfl (ih _ _ _ _ _ _ _ h)
set_option maxHeartbeats 4000000 in
set_option maxRecDepth 100000 in
theorem mX5_copy (l : Launch) (g : va_G) (cy : Nat → ClassId) (h0 a0 h1 a0_b : Nat) (w : Int32) (n : Nat) (f : Nat → Int32) (w_b : Int32) (n_b : Nat) (f_b : Nat → Int32)  {res : (Nat → Int32)} (h : pX5_copy n f n_b f_b = some res) : Met l yX5_copy wsX5_copy rmX5_copy (PW [.ref h0, .ref h1] g cy [(h0, .inr (3, [.int w, .ref a0])), (a0, .inl (cy 0, n, .inl f)), (h1, .inr (3, [.int w_b, .ref a0_b])), (a0_b, .inl (cy 0, n_b, .inl f_b))]) (QWv g (wA [(h0, .inr (3, [.int w, .ref a0])), (a0, .inl (cy 0, n, .inl f)), (h1, .inr (3, [.int w_b, .ref a0_b])), (a0_b, .inl (cy 0, n_b, .inl f_b))]) [(h0, .inr (3, [.int w, .ref a0])), (a0, .inl (cy 0, n, .inl res)), (h1, .inr (3, [.int w_b, .ref a0_b])), (a0_b, .inl (cy 0, n_b, .inl f_b))]) 0 0 (wA [(h0, .inr (3, [.int w, .ref a0])), (a0, .inl (cy 0, n, .inl f)), (h1, .inr (3, [.int w_b, .ref a0_b])), (a0_b, .inl (cy 0, n_b, .inl f_b))]) := by
  refine m_ofV (cc := cX5_copy) (nL := 3) (ret := none) (B := (wA [(h0, .inr (3, [.int w, .ref a0])), (a0, .inl (cy 0, n, .inl f)), (h1, .inr (3, [.int w_b, .ref a0_b])), (a0_b, .inl (cy 0, n_b, .inl f_b))])) RX5 rfl (by decide) rfl [(0, .ref h0), (1, .ref h1)] rfl (Nat.le_of_ble_eq_true rfl) (wA.self) ?_
  intro p e s m args below meth c hC hr
  generalize (wA [(h0, .inr (3, [.int w, .ref a0])), (a0, .inl (cy 0, n, .inl f)), (h1, .inr (3, [.int w_b, .ref a0_b])), (a0_b, .inl (cy 0, n_b, .inl f_b))]) = A
  unfold pX5_copy at h
  refine v_iconst hC (v := (nI 0)) dX5_copy_0 (by decide) rfl ?_
  refine v_istore_n hC dX5_copy_1 rfl (by decide) [(2, .int (nI 0)), (0, .ref h0), (1, .ref h1)] rfl rfl ?_
  exact v_sub [1, 2, 0] (lv' := [(0, .ref h0), (1, .ref h1), (2, .int (nI 0))]) rfl (bX5_copy_2 hC hr FU _ _ _ _ _ _ _ h)
def pX7_isIn_15 (s0 : Int32) : Option (Int32) := bz s0
def pX7_isIn_14  : Option (Int32) := pX7_isIn_15 (nI 0)
def pX7_isIn (x0 : Int32) (x1 : Int32) (x2 : Int32) : Option (Int32) := if x0 < x1 then pX7_isIn_14  else if x2 < x0 then pX7_isIn_14  else pX7_isIn_15 (nI 1)
abbrev rmX7_isIn : Room := { frames := 0, cells := 0, slots := 0, locals := 0 }
set_option maxHeartbeats 4000000 in
set_option maxRecDepth 100000 in
theorem bX7_isIn_15 {p : Program} {l : Launch} {e : Env} {s : State} {m : MethodId} {args : Array Value} {below : List Frame} {meth : Method} {c : Code} {g : va_G} {cy : Nat → ClassId} (hC : CX p s m args meth c g cy 3 cX7_isIn wsX7_isIn RX7) (hr : meth.sig.returnType = (some .boolean)) {res : Int32} : ∀  (s0 : Int32)(h : pX7_isIn_15 s0 = some res), V p l e (headSpec wsX7_isIn rmX7_isIn).room s m args below meth c g 3 0 0 (MQ below (QRi res) args s 0 0 nF) nF (fun _ => True) [] 15 [] [.int s0] := by
  intro  s0 h
  unfold pX7_isIn_15 at h
  obtain ⟨e9, hn⟩ := bz_g h
  exact v_irt hC hr hn e9 dX7_isIn_15
set_option maxHeartbeats 4000000 in
set_option maxRecDepth 100000 in
theorem bX7_isIn_14 {p : Program} {l : Launch} {e : Env} {s : State} {m : MethodId} {args : Array Value} {below : List Frame} {meth : Method} {c : Code} {g : va_G} {cy : Nat → ClassId} (hC : CX p s m args meth c g cy 3 cX7_isIn wsX7_isIn RX7) (hr : meth.sig.returnType = (some .boolean)) {res : Int32} : ∀ (h : pX7_isIn_14  = some res), V p l e (headSpec wsX7_isIn rmX7_isIn).room s m args below meth c g 3 0 0 (MQ below (QRi res) args s 0 0 nF) nF (fun _ => True) [] 14 [] [] := by
  intro   h
  unfold pX7_isIn_14 at h
  refine v_iconst hC (v := (nI 0)) dX7_isIn_14 (by decide) rfl ?_
  exact bX7_isIn_15 hC hr _ h
set_option maxHeartbeats 4000000 in
set_option maxRecDepth 100000 in
theorem mX7_isIn (l : Launch) (g : va_G) (cy : Nat → ClassId)  (x0 : Int32) (x1 : Int32) (x2 : Int32) {res : Int32} (h : pX7_isIn x0 x1 x2 = some res) : Met l yX7_isIn wsX7_isIn rmX7_isIn (PW [.int x0, .int x1, .int x2] g cy []) (QRi res) 0 0 nF := by
  refine m_ofV (cc := cX7_isIn) (nL := 3) (ret := (some .boolean)) (B := fun _ => True) RX7 rfl (by decide) rfl [(0, .int x0), (1, .int x1), (2, .int x2)] rfl (Nat.le_of_ble_eq_true rfl) (fun h => h) ?_
  intro p e s m args below meth c hC hr
  unfold pX7_isIn at h
  refine v_iload_n hC dX7_isIn_0 rfl 0 rfl rfl ?_
  refine v_iload_n hC dX7_isIn_1 rfl 1 rfl rfl ?_
  refine v_icmp_lt hC (tgt := 14) dX7_isIn_2 (by decide) rfl (fun c => ?_) (fun c => ?_)
  · have h := ite_t c h
    exact v_sub [] (lv' := []) rfl (bX7_isIn_14 hC hr  h)
  · have h := ite_f c h
    refine v_iload_n hC dX7_isIn_5 rfl 0 rfl rfl ?_
    refine v_iload_n hC dX7_isIn_6 rfl 2 rfl rfl ?_
    refine v_icmp_gt hC (tgt := 14) dX7_isIn_7 (by decide) rfl (fun c => ?_) (fun c => ?_)
    · have h := ite_t c h
      exact v_sub [] (lv' := []) rfl (bX7_isIn_14 hC hr  h)
    · have h := ite_f c h
      refine v_iconst hC (v := (nI 1)) dX7_isIn_10 (by decide) rfl ?_
      refine v_goto hC (tgt := 15) dX7_isIn_11 (by decide) ?_
      exact v_sub [] (lv' := []) rfl (bX7_isIn_15 hC hr _ h)
def pX7_isSetting (x0 : Int32) (x1 : Int32) : Option (Int32) := if x0 = (nI 0) then (pX7_isIn x1 (nI 240) (nI 960)).bind fun v1 => bz v1 else if x0 = (nI 1) then (pX7_isIn x1 (nI 1) (nI 99)).bind fun v2 => bz v2 else if x0 = (nI 2) then (pX7_isIn x1 (nI 0) (nI 99)).bind fun v3 => bz v3 else some (nI 0)
abbrev rmX7_isSetting : Room := { frames := 1, cells := 0, slots := 0, locals := 22 }
set_option maxHeartbeats 4000000 in
set_option maxRecDepth 100000 in
theorem mX7_isSetting (l : Launch) (g : va_G) (cy : Nat → ClassId)  (x0 : Int32) (x1 : Int32) {res : Int32} (h : pX7_isSetting x0 x1 = some res) : Met l yX7_isSetting wsX7_isSetting rmX7_isSetting (PW [.int x0, .int x1] g cy []) (QRi res) 0 0 nF := by
  refine m_ofV (cc := cX7_isSetting) (nL := 2) (ret := (some .boolean)) (B := fun _ => True) RX7 rfl (by decide) rfl [(0, .int x0), (1, .int x1)] rfl (Nat.le_of_ble_eq_true rfl) (fun h => h) ?_
  intro p e s m args below meth c hC hr
  unfold pX7_isSetting at h
  refine v_iload_n hC dX7_isSetting_0 rfl 0 rfl rfl ?_
  by_cases c0 : x0 = (nI 0)
  · have h := ite_t c0 h
    refine v_tswI hC (v := (nI 0)) (tgt := 28) dX7_isSetting_1 c0 (by decide) (by decide) rfl (by decide) ?_
    refine v_iload_n hC dX7_isSetting_28 rfl 1 rfl rfl ?_
    refine v_sipush hC (v := (nI 240)) dX7_isSetting_29 (by decide) rfl ?_
    refine v_sipush hC (v := (nI 960)) dX7_isSetting_32 (by decide) rfl ?_
    obtain ⟨v1, hv1, h⟩ := bind_g h
    refine v_callSri hC (n := 3) (st := []) (mX7_isIn l g cy x1 (nI 240) (nI 960) hv1) gX7_isSetting_X7_isIn rfl rfl rfl (by decide +kernel) ⟨Nat.le_of_ble_eq_true rfl, Nat.le_of_ble_eq_true rfl⟩ [] rfl rfl rfl rfl (Nat.le_of_ble_eq_true rfl) rfl ⟨Nat.zero_le _, Nat.zero_le _⟩ dX7_isSetting_35 rfl ?_
    obtain ⟨e9, hn⟩ := bz_g h
    exact v_irt hC hr hn e9 dX7_isSetting_38
  · have h := ite_f c0 h
    by_cases c1 : x0 = (nI 1)
    · have h := ite_t c1 h
      refine v_tswI hC (v := (nI 1)) (tgt := 39) dX7_isSetting_1 c1 (by decide) (by decide) rfl (by decide) ?_
      refine v_iload_n hC dX7_isSetting_39 rfl 1 rfl rfl ?_
      refine v_iconst hC (v := (nI 1)) dX7_isSetting_40 (by decide) rfl ?_
      refine v_bipush hC (v := (nI 99)) dX7_isSetting_41 (by decide) rfl ?_
      obtain ⟨v2, hv2, h⟩ := bind_g h
      refine v_callSri hC (n := 3) (st := []) (mX7_isIn l g cy x1 (nI 1) (nI 99) hv2) gX7_isSetting_X7_isIn rfl rfl rfl (by decide +kernel) ⟨Nat.le_of_ble_eq_true rfl, Nat.le_of_ble_eq_true rfl⟩ [] rfl rfl rfl rfl (Nat.le_of_ble_eq_true rfl) rfl ⟨Nat.zero_le _, Nat.zero_le _⟩ dX7_isSetting_43 rfl ?_
      obtain ⟨e9, hn⟩ := bz_g h
      exact v_irt hC hr hn e9 dX7_isSetting_46
    · have h := ite_f c1 h
      by_cases c2 : x0 = (nI 2)
      · have h := ite_t c2 h
        refine v_tswI hC (v := (nI 2)) (tgt := 47) dX7_isSetting_1 c2 (by decide) (by decide) rfl (by decide) ?_
        refine v_iload_n hC dX7_isSetting_47 rfl 1 rfl rfl ?_
        refine v_iconst hC (v := (nI 0)) dX7_isSetting_48 (by decide) rfl ?_
        refine v_bipush hC (v := (nI 99)) dX7_isSetting_49 (by decide) rfl ?_
        obtain ⟨v3, hv3, h⟩ := bind_g h
        refine v_callSri hC (n := 3) (st := []) (mX7_isIn l g cy x1 (nI 0) (nI 99) hv3) gX7_isSetting_X7_isIn rfl rfl rfl (by decide +kernel) ⟨Nat.le_of_ble_eq_true rfl, Nat.le_of_ble_eq_true rfl⟩ [] rfl rfl rfl rfl (Nat.le_of_ble_eq_true rfl) rfl ⟨Nat.zero_le _, Nat.zero_le _⟩ dX7_isSetting_51 rfl ?_
        obtain ⟨e9, hn⟩ := bz_g h
        exact v_irt hC hr hn e9 dX7_isSetting_54
      · have h := ite_f c2 h
        refine v_tswO hC (tgt := 55) dX7_isSetting_1 (by have e0 := ne_I (z := 0) (by decide) c0; have e1 := ne_I (z := 1) (by decide) c1; have e2 := ne_I (z := 2) (by decide) c2; omega) (by decide) ?_
        refine v_iconst hC (v := (nI 0)) dX7_isSetting_55 (by decide) rfl ?_
        obtain rfl := Option.some.inj h
        exact v_irt hC hr rfl rfl dX7_isSetting_56
def pX7_has_14 (s0 : Int32) : Option (Int32) := bz s0
def pX7_has (x0 : Int32) (x1 : Int32) : Option (Int32) := if ((x0 >>> (x1 &&& 31)) &&& (nI 1)) = (nI 1) then pX7_has_14 (nI 1) else pX7_has_14 (nI 0)
abbrev rmX7_has : Room := { frames := 0, cells := 0, slots := 0, locals := 0 }
set_option maxHeartbeats 4000000 in
set_option maxRecDepth 100000 in
theorem bX7_has_14 {p : Program} {l : Launch} {e : Env} {s : State} {m : MethodId} {args : Array Value} {below : List Frame} {meth : Method} {c : Code} {g : va_G} {cy : Nat → ClassId} (hC : CX p s m args meth c g cy 2 cX7_has wsX7_has RX7) (hr : meth.sig.returnType = (some .boolean)) {res : Int32} : ∀  (s0 : Int32)(h : pX7_has_14 s0 = some res), V p l e (headSpec wsX7_has rmX7_has).room s m args below meth c g 2 0 0 (MQ below (QRi res) args s 0 0 nF) nF (fun _ => True) [] 14 [] [.int s0] := by
  intro  s0 h
  unfold pX7_has_14 at h
  obtain ⟨e9, hn⟩ := bz_g h
  exact v_irt hC hr hn e9 dX7_has_14
set_option maxHeartbeats 4000000 in
set_option maxRecDepth 100000 in
theorem mX7_has (l : Launch) (g : va_G) (cy : Nat → ClassId)  (x0 : Int32) (x1 : Int32) {res : Int32} (h : pX7_has x0 x1 = some res) : Met l yX7_has wsX7_has rmX7_has (PW [.int x0, .int x1] g cy []) (QRi res) 0 0 nF := by
  refine m_ofV (cc := cX7_has) (nL := 2) (ret := (some .boolean)) (B := fun _ => True) RX7 rfl (by decide) rfl [(0, .int x0), (1, .int x1)] rfl (Nat.le_of_ble_eq_true rfl) (fun h => h) ?_
  intro p e s m args below meth c hC hr
  unfold pX7_has at h
  refine v_iload_n hC dX7_has_0 rfl 0 rfl rfl ?_
  refine v_iload_n hC dX7_has_1 rfl 1 rfl rfl ?_
  refine v_ishr hC dX7_has_2 rfl ?_
  refine v_iconst hC (v := (nI 1)) dX7_has_3 (by decide) rfl ?_
  refine v_iand hC dX7_has_4 rfl ?_
  refine v_iconst hC (v := (nI 1)) dX7_has_5 (by decide) rfl ?_
  refine v_icmp_ne hC (tgt := 13) dX7_has_6 (by decide) rfl (fun c => ?_) (fun c => ?_)
  · have h := ite_f c h
    refine v_iconst hC (v := (nI 0)) dX7_has_13 (by decide) rfl ?_
    exact v_sub [] (lv' := []) rfl (bX7_has_14 hC hr _ h)
  · have h := ite_t c h
    refine v_iconst hC (v := (nI 1)) dX7_has_9 (by decide) rfl ?_
    refine v_goto hC (tgt := 14) dX7_has_10 (by decide) ?_
    exact v_sub [] (lv' := []) rfl (bX7_has_14 hC hr _ h)
def pX7_begun_19 (s0 : Int32) : Option (Int32) := some s0
def pX7_begun_8  : Option (Int32) := pX7_begun_19 (nI 0)
def pX7_begun (x0 : Int32) (x1 : Int32) : Option (Int32) := if x0 ≤ 0 then pX7_begun_8  else if 0 < x1 then if ¬ x1 = 0 then pX7_begun_19 (((x0 - (nI 1)) / x1) + (nI 1)) else none else pX7_begun_8 
abbrev rmX7_begun : Room := { frames := 0, cells := 0, slots := 0, locals := 0 }
set_option maxHeartbeats 4000000 in
set_option maxRecDepth 100000 in
theorem bX7_begun_19 {p : Program} {l : Launch} {e : Env} {s : State} {m : MethodId} {args : Array Value} {below : List Frame} {meth : Method} {c : Code} {g : va_G} {cy : Nat → ClassId} (hC : CX p s m args meth c g cy 2 cX7_begun wsX7_begun RX7) (hr : meth.sig.returnType = (some .int)) {res : Int32} : ∀  (s0 : Int32)(h : pX7_begun_19 s0 = some res), V p l e (headSpec wsX7_begun rmX7_begun).room s m args below meth c g 2 0 0 (MQ below (QRi res) args s 0 0 nF) nF (fun _ => True) [] 19 [] [.int s0] := by
  intro  s0 h
  unfold pX7_begun_19 at h
  obtain rfl := Option.some.inj h
  exact v_irt hC hr rfl rfl dX7_begun_19
set_option maxHeartbeats 4000000 in
set_option maxRecDepth 100000 in
theorem bX7_begun_8 {p : Program} {l : Launch} {e : Env} {s : State} {m : MethodId} {args : Array Value} {below : List Frame} {meth : Method} {c : Code} {g : va_G} {cy : Nat → ClassId} (hC : CX p s m args meth c g cy 2 cX7_begun wsX7_begun RX7) (hr : meth.sig.returnType = (some .int)) {res : Int32} : ∀ (h : pX7_begun_8  = some res), V p l e (headSpec wsX7_begun rmX7_begun).room s m args below meth c g 2 0 0 (MQ below (QRi res) args s 0 0 nF) nF (fun _ => True) [] 8 [] [] := by
  intro   h
  unfold pX7_begun_8 at h
  refine v_iconst hC (v := (nI 0)) dX7_begun_8 (by decide) rfl ?_
  refine v_goto hC (tgt := 19) dX7_begun_9 (by decide) ?_
  exact bX7_begun_19 hC hr _ h
set_option maxHeartbeats 4000000 in
set_option maxRecDepth 100000 in
theorem mX7_begun (l : Launch) (g : va_G) (cy : Nat → ClassId)  (x0 : Int32) (x1 : Int32) {res : Int32} (h : pX7_begun x0 x1 = some res) : Met l yX7_begun wsX7_begun rmX7_begun (PW [.int x0, .int x1] g cy []) (QRi res) 0 0 nF := by
  refine m_ofV (cc := cX7_begun) (nL := 2) (ret := (some .int)) (B := fun _ => True) RX7 rfl (by decide) rfl [(0, .int x0), (1, .int x1)] rfl (Nat.le_of_ble_eq_true rfl) (fun h => h) ?_
  intro p e s m args below meth c hC hr
  unfold pX7_begun at h
  refine v_iload_n hC dX7_begun_0 rfl 0 rfl rfl ?_
  refine v_if_le hC (tgt := 8) dX7_begun_1 (by decide) rfl (fun c => ?_) (fun c => ?_)
  · have h := ite_t c h
    exact v_sub [] (lv' := []) rfl (bX7_begun_8 hC hr  h)
  · have h := ite_f c h
    refine v_iload_n hC dX7_begun_4 rfl 1 rfl rfl ?_
    refine v_if_gt hC (tgt := 12) dX7_begun_5 (by decide) rfl (fun c => ?_) (fun c => ?_)
    · have h := ite_t c h
      refine v_iload_n hC dX7_begun_12 rfl 0 rfl rfl ?_
      refine v_iconst hC (v := (nI 1)) dX7_begun_13 (by decide) rfl ?_
      refine v_isub hC dX7_begun_14 rfl ?_
      refine v_iload_n hC dX7_begun_15 rfl 1 rfl rfl ?_
      obtain ⟨hn, h⟩ := ite_g h
      refine v_idiv hC dX7_begun_16 hn rfl ?_
      refine v_iconst hC (v := (nI 1)) dX7_begun_17 (by decide) rfl ?_
      refine v_iadd hC dX7_begun_18 rfl ?_
      exact v_sub [] (lv' := []) rfl (bX7_begun_19 hC hr _ h)
    · have h := ite_f c h
      exact v_sub [] (lv' := []) rfl (bX7_begun_8 hC hr  h)
theorem kX7_groupUnit_263 : Cond.constantLong RX7 263 100000 ∈ wsX7_groupUnit := by decide +kernel
def pX7_groupUnit_26 (y1 : Int64) : Option (Int64) := some y1
def pX7_groupUnit_4 : Nat → Int32 → Int64 → Int32 → Option (Int64)
  | 0, _, _, _ => none
  | k + 1, y0, y1, y3 => if y0 ≤ y3 then pX7_groupUnit_26 y1 else if (nI 3) ≤ y3 then pX7_groupUnit_26 y1 else pX7_groupUnit_4 k y0 (y1 * 100000) (y3 + (nI 1))
theorem pX7_groupUnit_4_s {k : Nat} (y0 : Int32) (y1 : Int64) (y3 : Int32) : pX7_groupUnit_4 (k + 1) y0 y1 y3 = if y0 ≤ y3 then pX7_groupUnit_26 y1 else if (nI 3) ≤ y3 then pX7_groupUnit_26 y1 else pX7_groupUnit_4 k y0 (y1 * 100000) (y3 + (nI 1)) := rfl
def pX7_groupUnit (x0 : Int32) : Option (Int64) := pX7_groupUnit_4 FU x0 1 (nI 0)
abbrev rmX7_groupUnit : Room := { frames := 0, cells := 0, slots := 0, locals := 0 }
set_option maxHeartbeats 4000000 in
set_option maxRecDepth 100000 in
theorem bX7_groupUnit_26 {p : Program} {l : Launch} {e : Env} {s : State} {m : MethodId} {args : Array Value} {below : List Frame} {meth : Method} {c : Code} {g : va_G} {cy : Nat → ClassId} (hC : CX p s m args meth c g cy 4 cX7_groupUnit wsX7_groupUnit RX7) (hr : meth.sig.returnType = (some .long)) {res : Int64} : ∀  (y1 : Int64)(h : pX7_groupUnit_26 y1 = some res), V p l e (headSpec wsX7_groupUnit rmX7_groupUnit).room s m args below meth c g 4 0 0 (MQ below (QRl res) args s 0 0 nF) nF (fun _ => True) [] 26 [(1, .long y1)] [] := by
  intro  y1 h
  unfold pX7_groupUnit_26 at h
  refine v_lload_n hC dX7_groupUnit_26 rfl 0 rfl rfl ?_
  obtain rfl := Option.some.inj h
  exact v_lrt hC hr rfl dX7_groupUnit_27
set_option maxHeartbeats 4000000 in
set_option maxRecDepth 100000 in
theorem bX7_groupUnit_4 {p : Program} {l : Launch} {e : Env} {s : State} {m : MethodId} {args : Array Value} {below : List Frame} {meth : Method} {c : Code} {g : va_G} {cy : Nat → ClassId} (hC : CX p s m args meth c g cy 4 cX7_groupUnit wsX7_groupUnit RX7) (hr : meth.sig.returnType = (some .long)) {res : Int64} : ∀ (k : Nat)  (y0 : Int32) (y1 : Int64) (y3 : Int32) (h : pX7_groupUnit_4 k y0 y1 y3 = some res), V p l e (headSpec wsX7_groupUnit rmX7_groupUnit).room s m args below meth c g 4 0 0 (MQ below (QRl res) args s 0 0 nF) nF (fun _ => True) [] 4 [(0, .int y0), (1, .long y1), (3, .int y3)] [] := by
  intro k
  induction k with
  | zero =>
    intro  y0 y1 y3 h
    have h : (none : Option _) = some res := h
    cases h
  | succ k ih =>
    intro  y0 y1 y3 h
    rw [pX7_groupUnit_4_s] at h
    refine v_iload_n hC dX7_groupUnit_4 rfl 2 rfl rfl ?_
    refine v_iload_n hC dX7_groupUnit_5 rfl 0 rfl rfl ?_
    refine v_icmp_ge hC (tgt := 26) dX7_groupUnit_6 (by decide) rfl (fun c => ?_) (fun c => ?_)
    · have h := ite_t c h
      exact v_sub [1] (lv' := [(1, .long y1)]) rfl (bX7_groupUnit_26 hC hr _ h)
    · have h := ite_f c h
      refine v_iload_n hC dX7_groupUnit_9 rfl 2 rfl rfl ?_
      refine v_iconst hC (v := (nI 3)) dX7_groupUnit_10 (by decide) rfl ?_
      refine v_icmp_ge hC (tgt := 26) dX7_groupUnit_11 (by decide) rfl (fun c => ?_) (fun c => ?_)
      · have h := ite_t c h
        exact v_sub [1] (lv' := [(1, .long y1)]) rfl (bX7_groupUnit_26 hC hr _ h)
      · have h := ite_f c h
        refine v_lload_n hC dX7_groupUnit_14 rfl 1 rfl rfl ?_
        refine v_ldc2 hC (v := 100000) dX7_groupUnit_15 kX7_groupUnit_263 rfl ?_
        refine v_lmul hC dX7_groupUnit_18 rfl ?_
        refine v_lstore_n hC dX7_groupUnit_19 rfl (by decide) [(1, .long (y1 * 100000)), (0, .int y0), (3, .int y3)] rfl rfl ?_
        refine v_iinc hC dX7_groupUnit_20 2 rfl (v := (y3 + (nI 1))) rfl (by decide) [(3, .int (y3 + (nI 1))), (1, .long (y1 * 100000)), (0, .int y0)] rfl rfl ?_
        refine v_goto hC (tgt := 4) dX7_groupUnit_23 (by decide) ?_
        exact v_sub [2, 1, 0] (lv' := [(0, .int y0), (1, .long (y1 * 100000)), (3, .int (y3 + (nI 1)))]) rfl (ih _ _ _ h)
set_option maxHeartbeats 4000000 in
set_option maxRecDepth 100000 in
theorem mX7_groupUnit (l : Launch) (g : va_G) (cy : Nat → ClassId)  (x0 : Int32) {res : Int64} (h : pX7_groupUnit x0 = some res) : Met l yX7_groupUnit wsX7_groupUnit rmX7_groupUnit (PW [.int x0] g cy []) (QRl res) 0 0 nF := by
  refine m_ofV (cc := cX7_groupUnit) (nL := 4) (ret := (some .long)) (B := fun _ => True) RX7 rfl (by decide) rfl [(0, .int x0)] rfl (Nat.le_of_ble_eq_true rfl) (fun h => h) ?_
  intro p e s m args below meth c hC hr
  unfold pX7_groupUnit at h
  refine v_lconst hC (v := 1) dX7_groupUnit_0 rfl rfl ?_
  refine v_lstore_n hC dX7_groupUnit_1 rfl (by decide) [(1, .long 1), (0, .int x0)] rfl rfl ?_
  refine v_iconst hC (v := (nI 0)) dX7_groupUnit_2 (by decide) rfl ?_
  refine v_istore_n hC dX7_groupUnit_3 rfl (by decide) [(3, .int (nI 0)), (1, .long 1), (0, .int x0)] rfl rfl ?_
  exact v_sub [2, 1, 0] (lv' := [(0, .int x0), (1, .long 1), (3, .int (nI 0))]) rfl (bX7_groupUnit_4 hC hr FU _ _ _ h)
theorem kX7_groupOf_263 : Cond.constantLong RX7 263 100000 ∈ wsX7_groupOf := by decide +kernel
def pX7_groupOf_29 (y3 : Int64) : Option (Int32) := some ((y3 - y3 / 100000 * 100000).toInt32)
def pX7_groupOf_5 : Nat → Int32 → Int64 → Int32 → Option (Int32)
  | 0, _, _, _ => none
  | k + 1, y2, y3, y5 => if y2 ≤ y5 then pX7_groupOf_29 y3 else if (nI 3) ≤ y5 then pX7_groupOf_29 y3 else pX7_groupOf_5 k y2 (y3 / 100000) (y5 + (nI 1))
theorem pX7_groupOf_5_s {k : Nat} (y2 : Int32) (y3 : Int64) (y5 : Int32) : pX7_groupOf_5 (k + 1) y2 y3 y5 = if y2 ≤ y5 then pX7_groupOf_29 y3 else if (nI 3) ≤ y5 then pX7_groupOf_29 y3 else pX7_groupOf_5 k y2 (y3 / 100000) (y5 + (nI 1)) := rfl
def pX7_groupOf (x0 : Int64) (x2 : Int32) : Option (Int32) := pX7_groupOf_5 FU x2 x0 (nI 0)
abbrev rmX7_groupOf : Room := { frames := 0, cells := 0, slots := 0, locals := 0 }
set_option maxHeartbeats 4000000 in
set_option maxRecDepth 100000 in
theorem bX7_groupOf_29 {p : Program} {l : Launch} {e : Env} {s : State} {m : MethodId} {args : Array Value} {below : List Frame} {meth : Method} {c : Code} {g : va_G} {cy : Nat → ClassId} (hC : CX p s m args meth c g cy 6 cX7_groupOf wsX7_groupOf RX7) (hr : meth.sig.returnType = (some .int)) {res : Int32} : ∀  (y3 : Int64)(h : pX7_groupOf_29 y3 = some res), V p l e (headSpec wsX7_groupOf rmX7_groupOf).room s m args below meth c g 6 0 0 (MQ below (QRi res) args s 0 0 nF) nF (fun _ => True) [] 29 [(3, .long y3)] [] := by
  intro  y3 h
  unfold pX7_groupOf_29 at h
  refine v_lload_n hC dX7_groupOf_29 rfl 0 rfl rfl ?_
  refine v_ldc2 hC (v := 100000) dX7_groupOf_30 kX7_groupOf_263 rfl ?_
  refine v_lrem hC dX7_groupOf_33 (by decide) rfl ?_
  refine v_l2i hC dX7_groupOf_34 rfl ?_
  obtain rfl := Option.some.inj h
  exact v_irt hC hr rfl rfl dX7_groupOf_35
set_option maxHeartbeats 4000000 in
set_option maxRecDepth 100000 in
theorem bX7_groupOf_5 {p : Program} {l : Launch} {e : Env} {s : State} {m : MethodId} {args : Array Value} {below : List Frame} {meth : Method} {c : Code} {g : va_G} {cy : Nat → ClassId} (hC : CX p s m args meth c g cy 6 cX7_groupOf wsX7_groupOf RX7) (hr : meth.sig.returnType = (some .int)) {res : Int32} : ∀ (k : Nat)  (y2 : Int32) (y3 : Int64) (y5 : Int32) (h : pX7_groupOf_5 k y2 y3 y5 = some res), V p l e (headSpec wsX7_groupOf rmX7_groupOf).room s m args below meth c g 6 0 0 (MQ below (QRi res) args s 0 0 nF) nF (fun _ => True) [] 5 [(2, .int y2), (3, .long y3), (5, .int y5)] [] := by
  intro k
  induction k with
  | zero =>
    intro  y2 y3 y5 h
    have h : (none : Option _) = some res := h
    cases h
  | succ k ih =>
    intro  y2 y3 y5 h
    rw [pX7_groupOf_5_s] at h
    refine v_iload hC dX7_groupOf_5 2 rfl rfl ?_
    refine v_iload_n hC dX7_groupOf_7 rfl 0 rfl rfl ?_
    refine v_icmp_ge hC (tgt := 29) dX7_groupOf_8 (by decide) rfl (fun c => ?_) (fun c => ?_)
    · have h := ite_t c h
      exact v_sub [1] (lv' := [(3, .long y3)]) rfl (bX7_groupOf_29 hC hr _ h)
    · have h := ite_f c h
      refine v_iload hC dX7_groupOf_11 2 rfl rfl ?_
      refine v_iconst hC (v := (nI 3)) dX7_groupOf_13 (by decide) rfl ?_
      refine v_icmp_ge hC (tgt := 29) dX7_groupOf_14 (by decide) rfl (fun c => ?_) (fun c => ?_)
      · have h := ite_t c h
        exact v_sub [1] (lv' := [(3, .long y3)]) rfl (bX7_groupOf_29 hC hr _ h)
      · have h := ite_f c h
        refine v_lload_n hC dX7_groupOf_17 rfl 1 rfl rfl ?_
        refine v_ldc2 hC (v := 100000) dX7_groupOf_18 kX7_groupOf_263 rfl ?_
        refine v_ldiv hC dX7_groupOf_21 (by decide) rfl ?_
        refine v_lstore_n hC dX7_groupOf_22 rfl (by decide) [(3, .long (y3 / 100000)), (2, .int y2), (5, .int y5)] rfl rfl ?_
        refine v_iinc hC dX7_groupOf_23 2 rfl (v := (y5 + (nI 1))) rfl (by decide) [(5, .int (y5 + (nI 1))), (3, .long (y3 / 100000)), (2, .int y2)] rfl rfl ?_
        refine v_goto hC (tgt := 5) dX7_groupOf_26 (by decide) ?_
        exact v_sub [2, 1, 0] (lv' := [(2, .int y2), (3, .long (y3 / 100000)), (5, .int (y5 + (nI 1)))]) rfl (ih _ _ _ h)
set_option maxHeartbeats 4000000 in
set_option maxRecDepth 100000 in
theorem mX7_groupOf (l : Launch) (g : va_G) (cy : Nat → ClassId)  (x0 : Int64) (x2 : Int32) {res : Int32} (h : pX7_groupOf x0 x2 = some res) : Met l yX7_groupOf wsX7_groupOf rmX7_groupOf (PW [.long x0, .int x2] g cy []) (QRi res) 0 0 nF := by
  refine m_ofV (cc := cX7_groupOf) (nL := 6) (ret := (some .int)) (B := fun _ => True) RX7 rfl (by decide) rfl [(0, .long x0), (2, .int x2)] rfl (Nat.le_of_ble_eq_true rfl) (fun h => h) ?_
  intro p e s m args below meth c hC hr
  unfold pX7_groupOf at h
  refine v_lload_n hC dX7_groupOf_0 rfl 0 rfl rfl ?_
  refine v_lstore_n hC dX7_groupOf_1 rfl (by decide) [(3, .long x0), (0, .long x0), (2, .int x2)] rfl rfl ?_
  refine v_iconst hC (v := (nI 0)) dX7_groupOf_2 (by decide) rfl ?_
  refine v_istore hC dX7_groupOf_3 (by decide) [(5, .int (nI 0)), (3, .long x0), (0, .long x0), (2, .int x2)] rfl rfl ?_
  exact v_sub [3, 1, 0] (lv' := [(2, .int x2), (3, .long x0), (5, .int (nI 0))]) rfl (bX7_groupOf_5 hC hr FU _ _ _ h)

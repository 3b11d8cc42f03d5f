theorem kX6_size_20 : Cond.fieldLink RX6 20 "CrowdFaces$Text" "length" "I" ∈ wsX6_size := by decide +kernel
theorem iX6_size_X6 : ∀ w ∈ wsX60, w ∈ wsX6_size := by decide +kernel
def pX6_size (tl : Int32) : Option (Int32) := some tl
abbrev rmX6_size : Room := { frames := 0, cells := 0, slots := 0, locals := 0 }
set_option maxHeartbeats 4000000 in
set_option maxRecDepth 100000 in
theorem mX6_size (l : Launch) (g : va_G) (cy : Nat → ClassId) (h0 q4 a4 : Nat) (tl : Int32) (tc : Nat → Int32)  {res : Int32} (h : pX6_size tl = some res) : Met l yX6_size wsX6_size rmX6_size (PW [.ref h0] g cy [(h0, .inr (4, [.ref q4, .int tl])), (q4, .inr (3, [.int (nI 120), .ref a4])), (a4, .inl (cy 0, 120, .inl tc))]) (QRi res) 0 0 nF := by
  refine m_ofV (cc := cX6_size) (nL := 1) (ret := (some .int)) (B := fun _ => True) RX6 rfl (by decide) rfl [(0, .ref h0)] rfl (Nat.le_of_ble_eq_true rfl) (fun h => h) ?_
  intro p e s m args below meth c hC hr
  unfold pX6_size at h
  refine v_aload_n hC dX6_size_0 rfl 0 rfl rfl ?_
  refine v_get hC iX6_size_X6 0 rfl rfl 1 (by decide) kX6_size_20 rfl rfl dX6_size_1 rfl ?_
  obtain rfl := Option.some.inj h
  exact v_irt hC hr rfl rfl dX6_size_4
theorem kX6_addCharacter_14 : Cond.fieldLink RX6 14 "CrowdFaces$Text" "characters" "LCrowdFaces$Table;" ∈ wsX6_addCharacter := by decide +kernel
theorem kX6_addCharacter_20 : Cond.fieldLink RX6 20 "CrowdFaces$Text" "length" "I" ∈ wsX6_addCharacter := by decide +kernel
theorem iX6_addCharacter_X6 : ∀ w ∈ wsX60, w ∈ wsX6_addCharacter := by decide +kernel
def pX6_addCharacter_32 (tl : Int32) (tc : Nat → Int32) : Option (Int32 × Int32 × (Nat → Int32)) := some (tl, tl, tc)
def pX6_addCharacter (tl : Int32) (tc : Nat → Int32) (x1 : Int32) : Option (Int32 × Int32 × (Nat → Int32)) := if (nI 120) ≤ tl then pX6_addCharacter_32 tl tc else (pX5_put (nI 120) 120 tc (nI 0) tl x1).bind fun v1 => pX6_addCharacter_32 (tl + (nI 1)) v1
abbrev rmX6_addCharacter : Room := { frames := 1, cells := 0, slots := 0, locals := 24 }
set_option maxHeartbeats 4000000 in
set_option maxRecDepth 100000 in
theorem bX6_addCharacter_32 {p : Program} {l : Launch} {e : Env} {s : State} {m : MethodId} {args : Array Value} {below : List Frame} {meth : Method} {c : Code} {g : va_G} {cy : Nat → ClassId} (hC : CX p s m args meth c g cy 2 cX6_addCharacter wsX6_addCharacter RX6) (hr : meth.sig.returnType = (some .int)) {h0 q4 a4 : Nat} {A : Nat → Prop} {res : Int32 × Int32 × (Nat → Int32)} : ∀ (tl : Int32) (tc : Nat → Int32) (h : pX6_addCharacter_32 tl tc = some res), V p l e (headSpec wsX6_addCharacter rmX6_addCharacter).room s m args below meth c g 2 0 0 (MQ below (QWi g A res.1 [(h0, .inr (4, [.ref q4, .int res.2.1])), (q4, .inr (3, [.int (nI 120), .ref a4])), (a4, .inl (cy 0, 120, .inl res.2.2))]) args s 0 0 A) A A [(h0, .inr (4, [.ref q4, .int tl])), (q4, .inr (3, [.int (nI 120), .ref a4])), (a4, .inl (cy 0, 120, .inl tc))] 32 [(0, .ref h0)] [] := by
  intro tl tc  h
  unfold pX6_addCharacter_32 at h
  refine v_aload_n hC dX6_addCharacter_32 rfl 0 rfl rfl ?_
  refine v_get hC iX6_addCharacter_X6 0 rfl rfl 1 (by decide) kX6_addCharacter_20 rfl rfl dX6_addCharacter_33 rfl ?_
  obtain rfl := Option.some.inj h
  exact v_irw hC hr rfl rfl dX6_addCharacter_36
set_option maxHeartbeats 4000000 in
set_option maxRecDepth 100000 in
theorem mX6_addCharacter (l : Launch) (g : va_G) (cy : Nat → ClassId) (h0 q4 a4 : Nat) (tl : Int32) (tc : Nat → Int32) (x1 : Int32) {res : Int32 × Int32 × (Nat → Int32)} (h : pX6_addCharacter tl tc x1 = some res) : Met l yX6_addCharacter wsX6_addCharacter rmX6_addCharacter (PW [.ref h0, .int x1] g cy [(h0, .inr (4, [.ref q4, .int tl])), (q4, .inr (3, [.int (nI 120), .ref a4])), (a4, .inl (cy 0, 120, .inl tc))]) (QWi g (wA [(h0, .inr (4, [.ref q4, .int tl])), (q4, .inr (3, [.int (nI 120), .ref a4])), (a4, .inl (cy 0, 120, .inl tc))]) res.1 [(h0, .inr (4, [.ref q4, .int res.2.1])), (q4, .inr (3, [.int (nI 120), .ref a4])), (a4, .inl (cy 0, 120, .inl res.2.2))]) 0 0 (wA [(h0, .inr (4, [.ref q4, .int tl])), (q4, .inr (3, [.int (nI 120), .ref a4])), (a4, .inl (cy 0, 120, .inl tc))]) := by
  refine m_ofV (cc := cX6_addCharacter) (nL := 2) (ret := (some .int)) (B := (wA [(h0, .inr (4, [.ref q4, .int tl])), (q4, .inr (3, [.int (nI 120), .ref a4])), (a4, .inl (cy 0, 120, .inl tc))])) RX6 rfl (by decide) rfl [(0, .ref h0), (1, .int x1)] rfl (Nat.le_of_ble_eq_true rfl) (wA.self) ?_
  intro p e s m args below meth c hC hr
  generalize (wA [(h0, .inr (4, [.ref q4, .int tl])), (q4, .inr (3, [.int (nI 120), .ref a4])), (a4, .inl (cy 0, 120, .inl tc))]) = A
  unfold pX6_addCharacter at h
  refine v_aload_n hC dX6_addCharacter_0 rfl 0 rfl rfl ?_
  refine v_get hC iX6_addCharacter_X6 0 rfl rfl 1 (by decide) kX6_addCharacter_20 rfl rfl dX6_addCharacter_1 rfl ?_
  refine v_bipush hC (v := (nI 120)) dX6_addCharacter_4 (by decide) rfl ?_
  refine v_icmp_ge hC (tgt := 32) dX6_addCharacter_6 (by decide) rfl (fun c => ?_) (fun c => ?_)
  · have h := ite_t c h
    exact v_sub [0] (lv' := [(0, .ref h0)]) rfl (bX6_addCharacter_32 hC hr _ _ h)
  · have h := ite_f c h
    refine v_aload_n hC dX6_addCharacter_9 rfl 0 rfl rfl ?_
    refine v_get hC iX6_addCharacter_X6 0 rfl rfl 0 (by decide) kX6_addCharacter_14 rfl rfl dX6_addCharacter_10 rfl ?_
    refine v_iconst hC (v := (nI 0)) dX6_addCharacter_13 (by decide) rfl ?_
    refine v_aload_n hC dX6_addCharacter_14 rfl 0 rfl rfl ?_
    refine v_get hC iX6_addCharacter_X6 0 rfl rfl 1 (by decide) kX6_addCharacter_20 rfl rfl dX6_addCharacter_15 rfl ?_
    refine v_iload_n hC dX6_addCharacter_18 rfl 1 rfl rfl ?_
    obtain ⟨v1, hv1, h⟩ := bind_g h
    refine v_callVwv hC (n := 3) (st := []) [(h0, .inr (4, [.ref q4, .int tl])), (q4, .inr (3, [.int (nI 120), .ref a4])), (a4, .inl (cy 0, 120, .inl v1))] _ (mX5_put l g cy q4 a4 (nI 120) 120 tc (nI 0) tl x1 hv1) gX6_addCharacter_X5_put rfl rfl rfl (by decide +kernel) ⟨Nat.le_of_ble_eq_true rfl, Nat.le_of_ble_eq_true rfl⟩ 1 rfl rfl [1, 2] [0] rfl rfl rfl rfl rfl rfl rfl rfl rfl (Nat.le_of_ble_eq_true rfl) rfl ⟨Nat.zero_le _, Nat.zero_le _⟩ dX6_addCharacter_19 rfl ?_
    refine v_aload_n hC dX6_addCharacter_22 rfl 0 rfl rfl ?_
    refine v_dup hC dX6_addCharacter_23 rfl rfl ?_
    refine v_get hC iX6_addCharacter_X6 0 rfl rfl 1 (by decide) kX6_addCharacter_20 rfl rfl dX6_addCharacter_24 rfl ?_
    refine v_iconst hC (v := (nI 1)) dX6_addCharacter_27 (by decide) rfl ?_
    refine v_iadd hC dX6_addCharacter_28 rfl ?_
    refine v_put hC iX6_addCharacter_X6 tyX6 tyX6_ok nmX6 0 rfl rfl 1 (by decide) kX6_addCharacter_20 rfl rfl (ty := .int) (by decide +kernel) rfl rfl (Nat.le_of_ble_eq_true rfl) dX6_addCharacter_29 [(h0, .inr (4, [.ref q4, .int (tl + (nI 1))])), (q4, .inr (3, [.int (nI 120), .ref a4])), (a4, .inl (cy 0, 120, .inl v1))] rfl rfl ?_
    exact v_sub [0] (lv' := [(0, .ref h0)]) rfl (bX6_addCharacter_32 hC hr _ _ h)
def pX6_empty (tl : Int32) : Option (Int32 × Int32) := some (tl, (nI 0))
abbrev rmX6_empty : Room := { frames := 0, cells := 0, slots := 0, locals := 0 }
theorem kX6_characterAt_14 : Cond.fieldLink RX6 14 "CrowdFaces$Text" "characters" "LCrowdFaces$Table;" ∈ wsX6_characterAt := by decide +kernel
theorem iX6_characterAt_X6 : ∀ w ∈ wsX60, w ∈ wsX6_characterAt := by decide +kernel
def pX6_characterAt (tc : Nat → Int32) (x1 : Int32) : Option (Int32) := (pX5_get (nI 120) 120 tc (nI 0) x1).bind fun v1 => some v1
abbrev rmX6_characterAt : Room := { frames := 1, cells := 0, slots := 0, locals := 23 }
set_option maxHeartbeats 4000000 in
set_option maxRecDepth 100000 in
theorem mX6_characterAt (l : Launch) (g : va_G) (cy : Nat → ClassId) (h0 q4 a4 : Nat) (tl : Int32) (tc : Nat → Int32) (x1 : Int32) {res : Int32} (h : pX6_characterAt tc x1 = some res) : Met l yX6_characterAt wsX6_characterAt rmX6_characterAt (PW [.ref h0, .int x1] g cy [(h0, .inr (4, [.ref q4, .int tl])), (q4, .inr (3, [.int (nI 120), .ref a4])), (a4, .inl (cy 0, 120, .inl tc))]) (QRi res) 0 0 nF := by
  refine m_ofV (cc := cX6_characterAt) (nL := 2) (ret := (some .int)) (B := fun _ => True) RX6 rfl (by decide) rfl [(0, .ref h0), (1, .int x1)] rfl (Nat.le_of_ble_eq_true rfl) (fun h => h) ?_
  intro p e s m args below meth c hC hr
  unfold pX6_characterAt at h
  refine v_aload_n hC dX6_characterAt_0 rfl 0 rfl rfl ?_
  refine v_get hC iX6_characterAt_X6 0 rfl rfl 0 (by decide) kX6_characterAt_14 rfl rfl dX6_characterAt_1 rfl ?_
  refine v_iconst hC (v := (nI 0)) dX6_characterAt_4 (by decide) rfl ?_
  refine v_iload_n hC dX6_characterAt_5 rfl 1 rfl rfl ?_
  obtain ⟨v1, hv1, h⟩ := bind_g h
  refine v_callVri hC (n := 2) (st := []) (mX5_get l g cy q4 a4 (nI 120) 120 tc (nI 0) x1 hv1) gX6_characterAt_X5_get rfl rfl rfl (by decide +kernel) ⟨Nat.le_of_ble_eq_true rfl, Nat.le_of_ble_eq_true rfl⟩ 1 rfl rfl [1, 2] rfl rfl rfl rfl (Nat.le_of_ble_eq_true rfl) rfl ⟨Nat.zero_le _, Nat.zero_le _⟩ dX6_characterAt_6 rfl ?_
  obtain rfl := Option.some.inj h
  exact v_irt hC hr rfl rfl dX6_characterAt_9
def pX6_number_5 : Nat → (Nat → Int32) → Int32 → Int32 → Int32 → Int32 → Option (Int32)
  | 0, _, _, _, _, _ => none
  | k + 1, tc, y1, y2, y3, y4 => if y2 ≤ y4 then some y3 else (pX6_characterAt tc (y1 + y4)).bind fun v1 => pX6_number_5 k tc y1 y2 (((y3 * (nI 10)) + v1) - (nI 48)) (y4 + (nI 1))
theorem pX6_number_5_s {k : Nat} (tc : Nat → Int32) (y1 : Int32) (y2 : Int32) (y3 : Int32) (y4 : Int32) : pX6_number_5 (k + 1) tc y1 y2 y3 y4 = if y2 ≤ y4 then some y3 else (pX6_characterAt tc (y1 + y4)).bind fun v1 => pX6_number_5 k tc y1 y2 (((y3 * (nI 10)) + v1) - (nI 48)) (y4 + (nI 1)) := rfl
def pX6_number (tc : Nat → Int32) (x1 : Int32) (x2 : Int32) : Option (Int32) := pX6_number_5 FU tc x1 x2 (nI 0) (nI 0)
abbrev rmX6_number : Room := { frames := 2, cells := 0, slots := 0, locals := 44 }
set_option maxHeartbeats 4000000 in
set_option maxRecDepth 100000 in
theorem bX6_number_5 {p : Program} {l : Launch} {e : Env} {s : State} {m : MethodId} {args : Array Value} {below : List Frame} {meth : Method} {c : Code} {g : va_G} {cy : Nat → ClassId} (hC : CX p s m args meth c g cy 5 cX6_number wsX6_number RX6) (hr : meth.sig.returnType = (some .int)) {h0 q4 a4 : Nat} {res : Int32} : ∀ (k : Nat) (tl : Int32) (tc : Nat → Int32) (y1 : Int32) (y2 : Int32) (y3 : Int32) (y4 : Int32) (h : pX6_number_5 k tc y1 y2 y3 y4 = some res), V p l e (headSpec wsX6_number rmX6_number).room s m args below meth c g 5 0 0 (MQ below (QRi res) args s 0 0 nF) nF (fun _ => True) [(h0, .inr (4, [.ref q4, .int tl])), (q4, .inr (3, [.int (nI 120), .ref a4])), (a4, .inl (cy 0, 120, .inl tc))] 5 [(0, .ref h0), (1, .int y1), (2, .int y2), (3, .int y3), (4, .int y4)] [] := by
  intro k
  induction k with
  | zero =>
    intro tl tc y1 y2 y3 y4 h
    have h : (none : Option _) = some res := h
    cases h
  | succ k ih =>
    intro tl tc y1 y2 y3 y4 h
    rw [pX6_number_5_s] at h
    refine v_iload hC dX6_number_5 4 rfl rfl ?_
    refine v_iload_n hC dX6_number_7 rfl 2 rfl rfl ?_
    refine v_icmp_ge hC (tgt := 34) dX6_number_8 (by decide) rfl (fun c => ?_) (fun c => ?_)
    · have h := ite_t c h
      refine v_iload_n hC dX6_number_34 rfl 3 rfl rfl ?_
      obtain rfl := Option.some.inj h
      exact v_irt hC hr rfl rfl dX6_number_35
    · have h := ite_f c h
      refine v_iload_n hC dX6_number_11 rfl 3 rfl rfl ?_
      refine v_bipush hC (v := (nI 10)) dX6_number_12 (by decide) rfl ?_
      refine v_imul hC dX6_number_14 rfl ?_
      refine v_aload_n hC dX6_number_15 rfl 0 rfl rfl ?_
      refine v_iload_n hC dX6_number_16 rfl 1 rfl rfl ?_
      refine v_iload hC dX6_number_17 4 rfl rfl ?_
      refine v_iadd hC dX6_number_19 rfl ?_
      obtain ⟨v1, hv1, h⟩ := bind_g h
      refine v_callVri hC (n := 1) (st := [.int (y3 * (nI 10))]) (mX6_characterAt l g cy h0 q4 a4 tl tc (y1 + y4) hv1) gX6_number_X6_characterAt rfl rfl rfl (by decide +kernel) ⟨Nat.le_of_ble_eq_true rfl, Nat.le_of_ble_eq_true rfl⟩ 0 rfl rfl [0, 1, 2] rfl rfl rfl rfl (Nat.le_of_ble_eq_true rfl) rfl ⟨Nat.zero_le _, Nat.zero_le _⟩ dX6_number_20 rfl ?_
      refine v_iadd hC dX6_number_23 rfl ?_
      refine v_bipush hC (v := (nI 48)) dX6_number_24 (by decide) rfl ?_
      refine v_isub hC dX6_number_26 rfl ?_
      refine v_istore_n hC dX6_number_27 rfl (by decide) [(3, .int (((y3 * (nI 10)) + v1) - (nI 48))), (0, .ref h0), (1, .int y1), (2, .int y2), (4, .int y4)] rfl rfl ?_
      refine v_iinc hC dX6_number_28 4 rfl (v := (y4 + (nI 1))) rfl (by decide) [(4, .int (y4 + (nI 1))), (3, .int (((y3 * (nI 10)) + v1) - (nI 48))), (0, .ref h0), (1, .int y1), (2, .int y2)] rfl rfl ?_
      refine v_goto hC (tgt := 5) dX6_number_31 (by decide) ?_
      exact v_sub [2, 3, 4, 1, 0] (lv' := [(0, .ref h0), (1, .int y1), (2, .int y2), (3, .int (((y3 * (nI 10)) + v1) - (nI 48))), (4, .int (y4 + (nI 1)))]) rfl (ih _ _ _ _ _ _ h)
set_option maxHeartbeats 4000000 in
set_option maxRecDepth 100000 in
theorem mX6_number (l : Launch) (g : va_G) (cy : Nat → ClassId) (h0 q4 a4 : Nat) (tl : Int32) (tc : Nat → Int32) (x1 : Int32) (x2 : Int32) {res : Int32} (h : pX6_number tc x1 x2 = some res) : Met l yX6_number wsX6_number rmX6_number (PW [.ref h0, .int x1, .int x2] g cy [(h0, .inr (4, [.ref q4, .int tl])), (q4, .inr (3, [.int (nI 120), .ref a4])), (a4, .inl (cy 0, 120, .inl tc))]) (QRi res) 0 0 nF := by
  refine m_ofV (cc := cX6_number) (nL := 5) (ret := (some .int)) (B := fun _ => True) RX6 rfl (by decide) rfl [(0, .ref h0), (1, .int x1), (2, .int x2)] rfl (Nat.le_of_ble_eq_true rfl) (fun h => h) ?_
  intro p e s m args below meth c hC hr
  unfold pX6_number at h
  refine v_iconst hC (v := (nI 0)) dX6_number_0 (by decide) rfl ?_
  refine v_istore_n hC dX6_number_1 rfl (by decide) [(3, .int (nI 0)), (0, .ref h0), (1, .int x1), (2, .int x2)] rfl rfl ?_
  refine v_iconst hC (v := (nI 0)) dX6_number_2 (by decide) rfl ?_
  refine v_istore hC dX6_number_3 (by decide) [(4, .int (nI 0)), (3, .int (nI 0)), (0, .ref h0), (1, .int x1), (2, .int x2)] rfl rfl ?_
  exact v_sub [2, 3, 4, 1, 0] (lv' := [(0, .ref h0), (1, .int x1), (2, .int x2), (3, .int (nI 0)), (4, .int (nI 0))]) rfl (bX6_number_5 hC hr FU _ _ _ _ _ _ h)
def pX6_isCommand_35 (s0 : Int32) : Option (Int32) := bz s0
def pX6_isCommand_30  : Option (Int32) := pX6_isCommand_35 (nI 1)
def pX6_isCommand (x0 : Int32) : Option (Int32) := if x0 = (nI 101) then pX6_isCommand_30  else if x0 = (nI 115) then pX6_isCommand_30  else if x0 = (nI 103) then pX6_isCommand_30  else if x0 = (nI 109) then pX6_isCommand_30  else if x0 = (nI 110) then pX6_isCommand_30  else pX6_isCommand_35 (nI 0)
abbrev rmX6_isCommand : Room := { frames := 0, cells := 0, slots := 0, locals := 0 }
set_option maxHeartbeats 4000000 in
set_option maxRecDepth 100000 in
theorem bX6_isCommand_35 {p : Program} {l : Launch} {e : Env} {s : State} {m : MethodId} {args : Array Value} {below : List Frame} {meth : Method} {c : Code} {g : va_G} {cy : Nat → ClassId} (hC : CX p s m args meth c g cy 1 cX6_isCommand wsX6_isCommand RX6) (hr : meth.sig.returnType = (some .boolean)) {res : Int32} : ∀  (s0 : Int32)(h : pX6_isCommand_35 s0 = some res), V p l e (headSpec wsX6_isCommand rmX6_isCommand).room s m args below meth c g 1 0 0 (MQ below (QRi res) args s 0 0 nF) nF (fun _ => True) [] 35 [] [.int s0] := by
  intro  s0 h
  unfold pX6_isCommand_35 at h
  obtain ⟨e9, hn⟩ := bz_g h
  exact v_irt hC hr hn e9 dX6_isCommand_35
set_option maxHeartbeats 4000000 in
set_option maxRecDepth 100000 in
theorem bX6_isCommand_30 {p : Program} {l : Launch} {e : Env} {s : State} {m : MethodId} {args : Array Value} {below : List Frame} {meth : Method} {c : Code} {g : va_G} {cy : Nat → ClassId} (hC : CX p s m args meth c g cy 1 cX6_isCommand wsX6_isCommand RX6) (hr : meth.sig.returnType = (some .boolean)) {res : Int32} : ∀ (h : pX6_isCommand_30  = some res), V p l e (headSpec wsX6_isCommand rmX6_isCommand).room s m args below meth c g 1 0 0 (MQ below (QRi res) args s 0 0 nF) nF (fun _ => True) [] 30 [] [] := by
  intro   h
  unfold pX6_isCommand_30 at h
  refine v_iconst hC (v := (nI 1)) dX6_isCommand_30 (by decide) rfl ?_
  refine v_goto hC (tgt := 35) dX6_isCommand_31 (by decide) ?_
  exact bX6_isCommand_35 hC hr _ h
set_option maxHeartbeats 4000000 in
set_option maxRecDepth 100000 in
theorem mX6_isCommand (l : Launch) (g : va_G) (cy : Nat → ClassId)  (x0 : Int32) {res : Int32} (h : pX6_isCommand x0 = some res) : Met l yX6_isCommand wsX6_isCommand rmX6_isCommand (PW [.int x0] g cy []) (QRi res) 0 0 nF := by
  refine m_ofV (cc := cX6_isCommand) (nL := 1) (ret := (some .boolean)) (B := fun _ => True) RX6 rfl (by decide) rfl [(0, .int x0)] rfl (Nat.le_of_ble_eq_true rfl) (fun h => h) ?_
  intro p e s m args below meth c hC hr
  unfold pX6_isCommand at h
  refine v_iload_n hC dX6_isCommand_0 rfl 0 rfl rfl ?_
  refine v_bipush hC (v := (nI 101)) dX6_isCommand_1 (by decide) rfl ?_
  refine v_icmp_eq hC (tgt := 30) dX6_isCommand_3 (by decide) rfl (fun c => ?_) (fun c => ?_)
  · have h := ite_t c h
    exact v_sub [] (lv' := []) rfl (bX6_isCommand_30 hC hr  h)
  · have h := ite_f c h
    refine v_iload_n hC dX6_isCommand_6 rfl 0 rfl rfl ?_
    refine v_bipush hC (v := (nI 115)) dX6_isCommand_7 (by decide) rfl ?_
    refine v_icmp_eq hC (tgt := 30) dX6_isCommand_9 (by decide) rfl (fun c => ?_) (fun c => ?_)
    · have h := ite_t c h
      exact v_sub [] (lv' := []) rfl (bX6_isCommand_30 hC hr  h)
    · have h := ite_f c h
      refine v_iload_n hC dX6_isCommand_12 rfl 0 rfl rfl ?_
      refine v_bipush hC (v := (nI 103)) dX6_isCommand_13 (by decide) rfl ?_
      refine v_icmp_eq hC (tgt := 30) dX6_isCommand_15 (by decide) rfl (fun c => ?_) (fun c => ?_)
      · have h := ite_t c h
        exact v_sub [] (lv' := []) rfl (bX6_isCommand_30 hC hr  h)
      · have h := ite_f c h
        refine v_iload_n hC dX6_isCommand_18 rfl 0 rfl rfl ?_
        refine v_bipush hC (v := (nI 109)) dX6_isCommand_19 (by decide) rfl ?_
        refine v_icmp_eq hC (tgt := 30) dX6_isCommand_21 (by decide) rfl (fun c => ?_) (fun c => ?_)
        · have h := ite_t c h
          exact v_sub [] (lv' := []) rfl (bX6_isCommand_30 hC hr  h)
        · have h := ite_f c h
          refine v_iload_n hC dX6_isCommand_24 rfl 0 rfl rfl ?_
          refine v_bipush hC (v := (nI 110)) dX6_isCommand_25 (by decide) rfl ?_
          refine v_icmp_ne hC (tgt := 34) dX6_isCommand_27 (by decide) rfl (fun c => ?_) (fun c => ?_)
          · have h := ite_f c h
            refine v_iconst hC (v := (nI 0)) dX6_isCommand_34 (by decide) rfl ?_
            exact v_sub [] (lv' := []) rfl (bX6_isCommand_35 hC hr _ h)
          · have h := ite_t c h
            exact v_sub [] (lv' := []) rfl (bX6_isCommand_30 hC hr  h)
theorem kX6_numberError_20 : Cond.fieldLink RX6 20 "CrowdFaces$Text" "length" "I" ∈ wsX6_numberError := by decide +kernel
theorem iX6_numberError_X6 : ∀ w ∈ wsX60, w ∈ wsX6_numberError := by decide +kernel
def pX6_numberError_105 (tl : Int32) (tc : Nat → Int32) (y8 : Int32) : Option (Int32) := some y8
def pX6_numberError_29 : Nat → Int32 → (Nat → Int32) → Int32 → Int32 → Int32 → Int32 → Int32 → Int32 → Int32 → Option (Int32)
  | 0, _, _, _, _, _, _, _, _, _ => none
  | k + 1, tl, tc, y1, y2, y3, y4, y5, y6, y7 => if y2 ≤ y7 then some (-1) else if (y1 + y7) < tl then (pX6_characterAt tc (y1 + y7)).bind fun v1 => (pX7_isIn (v1 - (nI 48)) (nI 0) (nI 9)).bind fun v2 => if v2 = 0 then pX6_numberError_105 tl tc (y1 + y7) else if y4 < (y6 + ((v1 - (nI 48)) * y5)) then pX6_numberError_105 tl tc (y1 + y7) else if y3 ≤ (((y6 + ((v1 - (nI 48)) * y5)) + y5) - (nI 1)) then pX6_numberError_29 k tl tc y1 y2 y3 y4 (y5 / (nI 10)) (y6 + ((v1 - (nI 48)) * y5)) (y7 + (nI 1)) else pX6_numberError_105 tl tc (y1 + y7) else some tl
theorem pX6_numberError_29_s {k : Nat} (tl : Int32) (tc : Nat → Int32) (y1 : Int32) (y2 : Int32) (y3 : Int32) (y4 : Int32) (y5 : Int32) (y6 : Int32) (y7 : Int32) : pX6_numberError_29 (k + 1) tl tc y1 y2 y3 y4 y5 y6 y7 = if y2 ≤ y7 then some (-1) else if (y1 + y7) < tl then (pX6_characterAt tc (y1 + y7)).bind fun v1 => (pX7_isIn (v1 - (nI 48)) (nI 0) (nI 9)).bind fun v2 => if v2 = 0 then pX6_numberError_105 tl tc (y1 + y7) else if y4 < (y6 + ((v1 - (nI 48)) * y5)) then pX6_numberError_105 tl tc (y1 + y7) else if y3 ≤ (((y6 + ((v1 - (nI 48)) * y5)) + y5) - (nI 1)) then pX6_numberError_29 k tl tc y1 y2 y3 y4 (y5 / (nI 10)) (y6 + ((v1 - (nI 48)) * y5)) (y7 + (nI 1)) else pX6_numberError_105 tl tc (y1 + y7) else some tl := rfl
def pX6_numberError_21 (tl : Int32) (tc : Nat → Int32) (y1 : Int32) (y2 : Int32) (y3 : Int32) (y4 : Int32) (s0 : Int32) : Option (Int32) := pX6_numberError_29 FU tl tc y1 y2 y3 y4 s0 (nI 0) (nI 0)
def pX6_numberError (tl : Int32) (tc : Nat → Int32) (x1 : Int32) (x2 : Int32) (x3 : Int32) (x4 : Int32) : Option (Int32) := if x2 = (nI 3) then pX6_numberError_21 tl tc x1 x2 x3 x4 (nI 100) else if x2 = (nI 2) then pX6_numberError_21 tl tc x1 x2 x3 x4 (nI 10) else pX6_numberError_21 tl tc x1 x2 x3 x4 (nI 1)
abbrev rmX6_numberError : Room := { frames := 2, cells := 0, slots := 0, locals := 44 }
set_option maxHeartbeats 4000000 in
set_option maxRecDepth 100000 in
theorem bX6_numberError_105 {p : Program} {l : Launch} {e : Env} {s : State} {m : MethodId} {args : Array Value} {below : List Frame} {meth : Method} {c : Code} {g : va_G} {cy : Nat → ClassId} (hC : CX p s m args meth c g cy 10 cX6_numberError wsX6_numberError RX6) (hr : meth.sig.returnType = (some .int)) {h0 q4 a4 : Nat} {res : Int32} : ∀ (tl : Int32) (tc : Nat → Int32) (y8 : Int32)(h : pX6_numberError_105 tl tc y8 = some res), V p l e (headSpec wsX6_numberError rmX6_numberError).room s m args below meth c g 10 0 0 (MQ below (QRi res) args s 0 0 nF) nF (fun _ => True) [(h0, .inr (4, [.ref q4, .int tl])), (q4, .inr (3, [.int (nI 120), .ref a4])), (a4, .inl (cy 0, 120, .inl tc))] 105 [(8, .int y8)] [] := by
  intro tl tc y8 h
  unfold pX6_numberError_105 at h
  refine v_iload hC dX6_numberError_105 0 rfl rfl ?_
  obtain rfl := Option.some.inj h
  exact v_irt hC hr rfl rfl dX6_numberError_107
set_option maxHeartbeats 4000000 in
set_option maxRecDepth 100000 in
theorem bX6_numberError_29 {p : Program} {l : Launch} {e : Env} {s : State} {m : MethodId} {args : Array Value} {below : List Frame} {meth : Method} {c : Code} {g : va_G} {cy : Nat → ClassId} (hC : CX p s m args meth c g cy 10 cX6_numberError wsX6_numberError RX6) (hr : meth.sig.returnType = (some .int)) {h0 q4 a4 : Nat} {res : Int32} : ∀ (k : Nat) (tl : Int32) (tc : Nat → Int32) (y1 : Int32) (y2 : Int32) (y3 : Int32) (y4 : Int32) (y5 : Int32) (y6 : Int32) (y7 : Int32) (h : pX6_numberError_29 k tl tc y1 y2 y3 y4 y5 y6 y7 = some res), V p l e (headSpec wsX6_numberError rmX6_numberError).room s m args below meth c g 10 0 0 (MQ below (QRi res) args s 0 0 nF) nF (fun _ => True) [(h0, .inr (4, [.ref q4, .int tl])), (q4, .inr (3, [.int (nI 120), .ref a4])), (a4, .inl (cy 0, 120, .inl tc))] 29 [(0, .ref h0), (1, .int y1), (2, .int y2), (3, .int y3), (4, .int y4), (5, .int y5), (6, .int y6), (7, .int y7)] [] := by
  intro k
  induction k with
  | zero =>
    intro tl tc y1 y2 y3 y4 y5 y6 y7 h
    have h : (none : Option _) = some res := h
    cases h
  | succ k ih =>
    intro tl tc y1 y2 y3 y4 y5 y6 y7 h
    rw [pX6_numberError_29_s] at h
    refine v_iload hC dX6_numberError_29 7 rfl rfl ?_
    refine v_iload_n hC dX6_numberError_31 rfl 2 rfl rfl ?_
    refine v_icmp_ge hC (tgt := 121) dX6_numberError_32 (by decide) rfl (fun c => ?_) (fun c => ?_)
    · have h := ite_t c h
      refine v_iconst hC (v := (-1)) dX6_numberError_121 (by decide) rfl ?_
      obtain rfl := Option.some.inj h
      exact v_irt hC hr rfl rfl dX6_numberError_122
    · have h := ite_f c h
      refine v_iload_n hC dX6_numberError_35 rfl 1 rfl rfl ?_
      refine v_iload hC dX6_numberError_36 7 rfl rfl ?_
      refine v_iadd hC dX6_numberError_38 rfl ?_
      refine v_istore hC dX6_numberError_39 (by decide) [(8, .int (y1 + y7)), (0, .ref h0), (1, .int y1), (2, .int y2), (3, .int y3), (4, .int y4), (5, .int y5), (6, .int y6), (7, .int y7)] rfl rfl ?_
      refine v_iload hC dX6_numberError_41 0 rfl rfl ?_
      refine v_aload_n hC dX6_numberError_43 rfl 1 rfl rfl ?_
      refine v_get hC iX6_numberError_X6 0 rfl rfl 1 (by decide) kX6_numberError_20 rfl rfl dX6_numberError_44 rfl ?_
      refine v_icmp_lt hC (tgt := 55) dX6_numberError_47 (by decide) rfl (fun c => ?_) (fun c => ?_)
      · have h := ite_t c h
        refine v_aload_n hC dX6_numberError_55 rfl 1 rfl rfl ?_
        refine v_iload hC dX6_numberError_56 0 rfl rfl ?_
        obtain ⟨v1, hv1, h⟩ := bind_g h
        refine v_callVri hC (n := 1) (st := []) (mX6_characterAt l g cy h0 q4 a4 tl tc (y1 + y7) hv1) gX6_numberError_X6_characterAt rfl rfl rfl (by decide +kernel) ⟨Nat.le_of_ble_eq_true rfl, Nat.le_of_ble_eq_true rfl⟩ 0 rfl rfl [0, 1, 2] rfl rfl rfl rfl (Nat.le_of_ble_eq_true rfl) rfl ⟨Nat.zero_le _, Nat.zero_le _⟩ dX6_numberError_58 rfl ?_
        refine v_bipush hC (v := (nI 48)) dX6_numberError_61 (by decide) rfl ?_
        refine v_isub hC dX6_numberError_63 rfl ?_
        refine v_istore hC dX6_numberError_64 (by decide) [(9, .int (v1 - (nI 48))), (8, .int (y1 + y7)), (0, .ref h0), (1, .int y1), (2, .int y2), (3, .int y3), (4, .int y4), (5, .int y5), (6, .int y6), (7, .int y7)] rfl rfl ?_
        refine v_iload hC dX6_numberError_66 8 rfl rfl ?_
        refine v_iload hC dX6_numberError_68 0 rfl rfl ?_
        refine v_iload hC dX6_numberError_70 7 rfl rfl ?_
        refine v_imul hC dX6_numberError_72 rfl ?_
        refine v_iadd hC dX6_numberError_73 rfl ?_
        refine v_istore hC dX6_numberError_74 (by decide) [(6, .int (y6 + ((v1 - (nI 48)) * y5))), (9, .int (v1 - (nI 48))), (8, .int (y1 + y7)), (0, .ref h0), (1, .int y1), (2, .int y2), (3, .int y3), (4, .int y4), (5, .int y5), (7, .int y7)] rfl rfl ?_
        refine v_iload hC dX6_numberError_76 1 rfl rfl ?_
        refine v_iconst hC (v := (nI 0)) dX6_numberError_78 (by decide) rfl ?_
        refine v_bipush hC (v := (nI 9)) dX6_numberError_79 (by decide) rfl ?_
        obtain ⟨v2, hv2, h⟩ := bind_g h
        refine v_callNri hC (n := 3) (st := []) (mX7_isIn l g cy (v1 - (nI 48)) (nI 0) (nI 9) hv2) gX6_numberError_X7_isIn_n67 5 rfl ⟨by decide +kernel, by decide +kernel⟩ rfl rfl rfl (by decide +kernel) ⟨Nat.le_of_ble_eq_true rfl, Nat.le_of_ble_eq_true rfl⟩ [] rfl rfl rfl rfl (Nat.le_of_ble_eq_true rfl) rfl ⟨Nat.zero_le _, Nat.zero_le _⟩ dX6_numberError_81 rfl ?_
        refine v_if_eq hC (tgt := 105) dX6_numberError_84 (by decide) rfl (fun c => ?_) (fun c => ?_)
        · have h := ite_t c h
          exact v_sub [2] (lv' := [(8, .int (y1 + y7))]) rfl (bX6_numberError_105 hC hr _ _ _ h)
        · have h := ite_f c h
          refine v_iload hC dX6_numberError_87 0 rfl rfl ?_
          refine v_iload hC dX6_numberError_89 7 rfl rfl ?_
          refine v_icmp_gt hC (tgt := 105) dX6_numberError_91 (by decide) rfl (fun c => ?_) (fun c => ?_)
          · have h := ite_t c h
            exact v_sub [2] (lv' := [(8, .int (y1 + y7))]) rfl (bX6_numberError_105 hC hr _ _ _ h)
          · have h := ite_f c h
            refine v_iload hC dX6_numberError_94 0 rfl rfl ?_
            refine v_iload hC dX6_numberError_96 8 rfl rfl ?_
            refine v_iadd hC dX6_numberError_98 rfl ?_
            refine v_iconst hC (v := (nI 1)) dX6_numberError_99 (by decide) rfl ?_
            refine v_isub hC dX6_numberError_100 rfl ?_
            refine v_iload_n hC dX6_numberError_101 rfl 6 rfl rfl ?_
            refine v_icmp_ge hC (tgt := 108) dX6_numberError_102 (by decide) rfl (fun c => ?_) (fun c => ?_)
            · have h := ite_t c h
              refine v_iload hC dX6_numberError_108 8 rfl rfl ?_
              refine v_bipush hC (v := (nI 10)) dX6_numberError_110 (by decide) rfl ?_
              refine v_idiv hC dX6_numberError_112 (by decide) rfl ?_
              refine v_istore hC dX6_numberError_113 (by decide) [(5, .int (y5 / (nI 10))), (6, .int (y6 + ((v1 - (nI 48)) * y5))), (9, .int (v1 - (nI 48))), (8, .int (y1 + y7)), (0, .ref h0), (1, .int y1), (2, .int y2), (3, .int y3), (4, .int y4), (7, .int y7)] rfl rfl ?_
              refine v_iinc hC dX6_numberError_115 9 rfl (v := (y7 + (nI 1))) rfl (by decide) [(7, .int (y7 + (nI 1))), (5, .int (y5 / (nI 10))), (6, .int (y6 + ((v1 - (nI 48)) * y5))), (9, .int (v1 - (nI 48))), (8, .int (y1 + y7)), (0, .ref h0), (1, .int y1), (2, .int y2), (3, .int y3), (4, .int y4)] rfl rfl ?_
              refine v_goto hC (tgt := 29) dX6_numberError_118 (by decide) ?_
              exact v_sub [5, 6, 7, 8, 9, 1, 2, 0] (lv' := [(0, .ref h0), (1, .int y1), (2, .int y2), (3, .int y3), (4, .int y4), (5, .int (y5 / (nI 10))), (6, .int (y6 + ((v1 - (nI 48)) * y5))), (7, .int (y7 + (nI 1)))]) rfl (ih _ _ _ _ _ _ _ _ _ h)
            · have h := ite_f c h
              exact v_sub [2] (lv' := [(8, .int (y1 + y7))]) rfl (bX6_numberError_105 hC hr _ _ _ h)
      · have h := ite_f c h
        refine v_aload_n hC dX6_numberError_50 rfl 1 rfl rfl ?_
        refine v_get hC iX6_numberError_X6 0 rfl rfl 1 (by decide) kX6_numberError_20 rfl rfl dX6_numberError_51 rfl ?_
        obtain rfl := Option.some.inj h
        exact v_irt hC hr rfl rfl dX6_numberError_54
set_option maxHeartbeats 4000000 in
set_option maxRecDepth 100000 in
theorem bX6_numberError_21 {p : Program} {l : Launch} {e : Env} {s : State} {m : MethodId} {args : Array Value} {below : List Frame} {meth : Method} {c : Code} {g : va_G} {cy : Nat → ClassId} (hC : CX p s m args meth c g cy 10 cX6_numberError wsX6_numberError RX6) (hr : meth.sig.returnType = (some .int)) {h0 q4 a4 : Nat} {res : Int32} : ∀ (tl : Int32) (tc : Nat → Int32) (y1 : Int32) (y2 : Int32) (y3 : Int32) (y4 : Int32) (s0 : Int32)(h : pX6_numberError_21 tl tc y1 y2 y3 y4 s0 = some res), V p l e (headSpec wsX6_numberError rmX6_numberError).room s m args below meth c g 10 0 0 (MQ below (QRi res) args s 0 0 nF) nF (fun _ => True) [(h0, .inr (4, [.ref q4, .int tl])), (q4, .inr (3, [.int (nI 120), .ref a4])), (a4, .inl (cy 0, 120, .inl tc))] 21 [(0, .ref h0), (1, .int y1), (2, .int y2), (3, .int y3), (4, .int y4)] [.int s0] := by
  intro tl tc y1 y2 y3 y4 s0 h
  unfold pX6_numberError_21 at h
  refine v_istore hC dX6_numberError_21 (by decide) [(5, .int s0), (0, .ref h0), (1, .int y1), (2, .int y2), (3, .int y3), (4, .int y4)] rfl rfl ?_
  refine v_iconst hC (v := (nI 0)) dX6_numberError_23 (by decide) rfl ?_
  refine v_istore hC dX6_numberError_24 (by decide) [(6, .int (nI 0)), (5, .int s0), (0, .ref h0), (1, .int y1), (2, .int y2), (3, .int y3), (4, .int y4)] rfl rfl ?_
  refine v_iconst hC (v := (nI 0)) dX6_numberError_26 (by decide) rfl ?_
  refine v_istore hC dX6_numberError_27 (by decide) [(7, .int (nI 0)), (6, .int (nI 0)), (5, .int s0), (0, .ref h0), (1, .int y1), (2, .int y2), (3, .int y3), (4, .int y4)] rfl rfl ?_
  exact v_sub [3, 4, 5, 6, 7, 2, 1, 0] (lv' := [(0, .ref h0), (1, .int y1), (2, .int y2), (3, .int y3), (4, .int y4), (5, .int s0), (6, .int (nI 0)), (7, .int (nI 0))]) rfl (bX6_numberError_29 hC hr FU _ _ _ _ _ _ _ _ _ h)
set_option maxHeartbeats 4000000 in
set_option maxRecDepth 100000 in
theorem mX6_numberError (l : Launch) (g : va_G) (cy : Nat → ClassId) (h0 q4 a4 : Nat) (tl : Int32) (tc : Nat → Int32) (x1 : Int32) (x2 : Int32) (x3 : Int32) (x4 : Int32) {res : Int32} (h : pX6_numberError tl tc x1 x2 x3 x4 = some res) : Met l yX6_numberError wsX6_numberError rmX6_numberError (PW [.ref h0, .int x1, .int x2, .int x3, .int x4] g cy [(h0, .inr (4, [.ref q4, .int tl])), (q4, .inr (3, [.int (nI 120), .ref a4])), (a4, .inl (cy 0, 120, .inl tc))]) (QRi res) 0 0 nF := by
  refine m_ofV (cc := cX6_numberError) (nL := 10) (ret := (some .int)) (B := fun _ => True) RX6 rfl (by decide) rfl [(0, .ref h0), (1, .int x1), (2, .int x2), (3, .int x3), (4, .int x4)] rfl (Nat.le_of_ble_eq_true rfl) (fun h => h) ?_
  intro p e s m args below meth c hC hr
  unfold pX6_numberError at h
  refine v_iload_n hC dX6_numberError_0 rfl 2 rfl rfl ?_
  refine v_iconst hC (v := (nI 3)) dX6_numberError_1 (by decide) rfl ?_
  refine v_icmp_ne hC (tgt := 10) dX6_numberError_2 (by decide) rfl (fun c => ?_) (fun c => ?_)
  · have h := ite_f c h
    refine v_iload_n hC dX6_numberError_10 rfl 2 rfl rfl ?_
    refine v_iconst hC (v := (nI 2)) dX6_numberError_11 (by decide) rfl ?_
    refine v_icmp_ne hC (tgt := 20) dX6_numberError_12 (by decide) rfl (fun c => ?_) (fun c => ?_)
    · have h := ite_f c h
      refine v_iconst hC (v := (nI 1)) dX6_numberError_20 (by decide) rfl ?_
      exact bX6_numberError_21 hC hr _ _ _ _ _ _ _ h
    · have h := ite_t c h
      refine v_bipush hC (v := (nI 10)) dX6_numberError_15 (by decide) rfl ?_
      refine v_goto hC (tgt := 21) dX6_numberError_17 (by decide) ?_
      exact bX6_numberError_21 hC hr _ _ _ _ _ _ _ h
  · have h := ite_t c h
    refine v_bipush hC (v := (nI 100)) dX6_numberError_5 (by decide) rfl ?_
    refine v_goto hC (tgt := 21) dX6_numberError_7 (by decide) ?_
    exact bX6_numberError_21 hC hr _ _ _ _ _ _ _ h
def pX6_fieldsOf (x0 : Int32) : Option (Nat) := if x0 = (nI 101) then some 0 else if x0 = (nI 103) then some 2 else if x0 = (nI 115) then some 1 else some 3
abbrev rmX6_fieldsOf : Room := { frames := 0, cells := 0, slots := 0, locals := 0 }
set_option maxHeartbeats 4000000 in
set_option maxRecDepth 100000 in
theorem mX6_fieldsOf (l : Launch) (g : va_G) (cy : Nat → ClassId) (tt : Nat → Nat)  (x0 : Int32) {res : Nat} (h : pX6_fieldsOf x0 = some res) : Met l yX6_fieldsOf wsX6_fieldsOf rmX6_fieldsOf (PWT [.int x0] g cy tt []) (QRa (tt res)) 0 0 nF := by
  refine m_ofVT (cc := cX6_fieldsOf) (nL := 1) (ret := (some (.array .int))) (B := fun _ => True) RX6 rfl (by decide) rfl [(0, .int x0)] rfl (Nat.le_of_ble_eq_true rfl) (fun h => h) ?_
  intro p e s m args below meth c hC hr hT
  unfold pX6_fieldsOf at h
  refine v_iload_n hC dX6_fieldsOf_0 rfl 0 rfl rfl ?_
  by_cases c101 : x0 = (nI 101)
  · have h := ite_t c101 h
    refine v_lswI hC (v := (nI 101)) (tgt := 36) dX6_fieldsOf_1 c101 (by decide) rfl (by decide) ?_
    refine v_gst hC hT (k := 0) (by decide) rfl dX6_fieldsOf_36 rfl ?_
    obtain rfl := Option.some.inj h
    exact v_art hC hr (Or.inr ⟨_, rfl⟩) rfl dX6_fieldsOf_39
  · have h := ite_f c101 h
    by_cases c103 : x0 = (nI 103)
    · have h := ite_t c103 h
      refine v_lswI hC (v := (nI 103)) (tgt := 44) dX6_fieldsOf_1 c103 (by decide) rfl (by decide) ?_
      refine v_gst hC hT (k := 2) (by decide) rfl dX6_fieldsOf_44 rfl ?_
      obtain rfl := Option.some.inj h
      exact v_art hC hr (Or.inr ⟨_, rfl⟩) rfl dX6_fieldsOf_47
    · have h := ite_f c103 h
      by_cases c115 : x0 = (nI 115)
      · have h := ite_t c115 h
        refine v_lswI hC (v := (nI 115)) (tgt := 40) dX6_fieldsOf_1 c115 (by decide) rfl (by decide) ?_
        refine v_gst hC hT (k := 1) (by decide) rfl dX6_fieldsOf_40 rfl ?_
        obtain rfl := Option.some.inj h
        exact v_art hC hr (Or.inr ⟨_, rfl⟩) rfl dX6_fieldsOf_43
      · have h := ite_f c115 h
        refine v_lsw hC (tgt := 48) dX6_fieldsOf_1 (by decide) (off := 47) (by have e101 := ne_I (z := 101) (by decide) c101; have e103 := ne_I (z := 103) (by decide) c103; have e115 := ne_I (z := 115) (by decide) c115; simp [Op.lookupswitch.offset, e101.symm, e103.symm, e115.symm]) (by decide) ?_
        refine v_gst hC hT (k := 3) (by decide) rfl dX6_fieldsOf_48 rfl ?_
        obtain rfl := Option.some.inj h
        exact v_art hC hr (Or.inr ⟨_, rfl⟩) rfl dX6_fieldsOf_51
def pX6_commandLength_14 : Nat → (Nat → Int32) → Nat → Int32 → Int32 → Option (Int32)
  | 0, _, _, _, _ => none
  | k + 1, tc, y2, y3, y4 => if y2 < 4 then if (Int32.ofNat (fLn y2)) ≤ y4 then some y3 else if y2 < 4 then if nb y4 (fLn y2) = true then pX6_commandLength_14 k tc y2 (y3 + (fRw y2 y4.toNatClampNeg)) (y4 + (nI 3)) else none else none else none
theorem pX6_commandLength_14_s {k : Nat} (tc : Nat → Int32) (y2 : Nat) (y3 : Int32) (y4 : Int32) : pX6_commandLength_14 (k + 1) tc y2 y3 y4 = if y2 < 4 then if (Int32.ofNat (fLn y2)) ≤ y4 then some y3 else if y2 < 4 then if nb y4 (fLn y2) = true then pX6_commandLength_14 k tc y2 (y3 + (fRw y2 y4.toNatClampNeg)) (y4 + (nI 3)) else none else none else none := rfl
def pX6_commandLength (tc : Nat → Int32) (x1 : Int32) : Option (Int32) := (pX6_characterAt tc x1).bind fun v1 => (pX6_fieldsOf v1).bind fun v2 => pX6_commandLength_14 FU tc v2 (nI 1) (nI 0)
abbrev rmX6_commandLength : Room := { frames := 2, cells := 0, slots := 0, locals := 44 }
set_option maxHeartbeats 4000000 in
set_option maxRecDepth 100000 in
theorem bX6_commandLength_14 {p : Program} {l : Launch} {e : Env} {s : State} {m : MethodId} {args : Array Value} {below : List Frame} {meth : Method} {c : Code} {g : va_G} {cy : Nat → ClassId} (hC : CX p s m args meth c g cy 5 cX6_commandLength wsX6_commandLength RX6) (hr : meth.sig.returnType = (some .int)) {h0 q4 a4 : Nat} {tt : Nat → Nat} (hT : SX tt nF s s.heap) {res : Int32} : ∀ (k : Nat) (tl : Int32) (tc : Nat → Int32) (y2 : Nat) (y3 : Int32) (y4 : Int32) (h : pX6_commandLength_14 k tc y2 y3 y4 = some res), V p l e (headSpec wsX6_commandLength rmX6_commandLength).room s m args below meth c g 5 0 0 (MQ below (QRi res) args s 0 0 nF) nF (fun _ => True) [(h0, .inr (4, [.ref q4, .int tl])), (q4, .inr (3, [.int (nI 120), .ref a4])), (a4, .inl (cy 0, 120, .inl tc))] 14 [(2, .ref (tt y2)), (3, .int y3), (4, .int y4)] [] := by
  intro k
  induction k with
  | zero =>
    intro tl tc y2 y3 y4 h
    have h : (none : Option _) = some res := h
    cases h
  | succ k ih =>
    intro tl tc y2 y3 y4 h
    rw [pX6_commandLength_14_s] at h
    refine v_iload hC dX6_commandLength_14 2 rfl rfl ?_
    refine v_aload_n hC dX6_commandLength_16 rfl 0 rfl rfl ?_
    obtain ⟨hlt, h⟩ := ite_g h
    refine v_talen hC hT hlt rfl dX6_commandLength_17 rfl ?_
    refine v_icmp_ge hC (tgt := 34) dX6_commandLength_18 (by decide) rfl (fun c => ?_) (fun c => ?_)
    · have h := ite_t c h
      refine v_iload_n hC dX6_commandLength_34 rfl 1 rfl rfl ?_
      obtain rfl := Option.some.inj h
      exact v_irt hC hr rfl rfl dX6_commandLength_35
    · have h := ite_f c h
      refine v_iload_n hC dX6_commandLength_21 rfl 1 rfl rfl ?_
      refine v_aload_n hC dX6_commandLength_22 rfl 0 rfl rfl ?_
      refine v_iload hC dX6_commandLength_23 2 rfl rfl ?_
      obtain ⟨hlt, h⟩ := ite_g h
      obtain ⟨hn, h⟩ := ite_g h
      refine v_tiald hC hT hlt hn dX6_commandLength_25 rfl ?_
      refine v_iadd hC dX6_commandLength_26 rfl ?_
      refine v_istore_n hC dX6_commandLength_27 rfl (by decide) [(3, .int (y3 + (fRw y2 y4.toNatClampNeg))), (2, .ref (tt y2)), (4, .int y4)] rfl rfl ?_
      refine v_iinc hC dX6_commandLength_28 2 rfl (v := (y4 + (nI 3))) rfl (by decide) [(4, .int (y4 + (nI 3))), (3, .int (y3 + (fRw y2 y4.toNatClampNeg))), (2, .ref (tt y2))] rfl rfl ?_
      refine v_goto hC (tgt := 14) dX6_commandLength_31 (by decide) ?_
      exact v_sub [2, 1, 0] (lv' := [(2, .ref (tt y2)), (3, .int (y3 + (fRw y2 y4.toNatClampNeg))), (4, .int (y4 + (nI 3)))]) rfl (ih _ _ _ _ _ h)
def pX6_commandError_29 : Nat → Int32 → (Nat → Int32) → Nat → Int32 → Int32 → Option (Int32)
  | 0, _, _, _, _, _ => none
  | k + 1, tl, tc, y2, y3, y4 => if y2 < 4 then if (Int32.ofNat (fLn y2)) ≤ (y4 + (nI 2)) then some (-1) else if y2 < 4 then if nb y4 (fLn y2) = true then if y2 < 4 then if nb (y4 + (nI 1)) (fLn y2) = true then if y2 < 4 then if nb (y4 + (nI 2)) (fLn y2) = true then (pX6_numberError tl tc y3 (fRw y2 y4.toNatClampNeg) (fRw y2 (y4 + (nI 1)).toNatClampNeg) (fRw y2 (y4 + (nI 2)).toNatClampNeg)).bind fun v1 => if v1 = (-1) then if y2 < 4 then if nb y4 (fLn y2) = true then pX6_commandError_29 k tl tc y2 (y3 + (fRw y2 y4.toNatClampNeg)) (y4 + (nI 3)) else none else none else some v1 else none else none else none else none else none else none else none
theorem pX6_commandError_29_s {k : Nat} (tl : Int32) (tc : Nat → Int32) (y2 : Nat) (y3 : Int32) (y4 : Int32) : pX6_commandError_29 (k + 1) tl tc y2 y3 y4 = if y2 < 4 then if (Int32.ofNat (fLn y2)) ≤ (y4 + (nI 2)) then some (-1) else if y2 < 4 then if nb y4 (fLn y2) = true then if y2 < 4 then if nb (y4 + (nI 1)) (fLn y2) = true then if y2 < 4 then if nb (y4 + (nI 2)) (fLn y2) = true then (pX6_numberError tl tc y3 (fRw y2 y4.toNatClampNeg) (fRw y2 (y4 + (nI 1)).toNatClampNeg) (fRw y2 (y4 + (nI 2)).toNatClampNeg)).bind fun v1 => if v1 = (-1) then if y2 < 4 then if nb y4 (fLn y2) = true then pX6_commandError_29 k tl tc y2 (y3 + (fRw y2 y4.toNatClampNeg)) (y4 + (nI 3)) else none else none else some v1 else none else none else none else none else none else none else none := rfl
def pX6_commandError (tl : Int32) (tc : Nat → Int32) (x1 : Int32) : Option (Int32) := (pX6_characterAt tc x1).bind fun v1 => (pX6_isCommand v1).bind fun v2 => if v2 = 0 then some x1 else (pX6_characterAt tc x1).bind fun v3 => (pX6_fieldsOf v3).bind fun v4 => pX6_commandError_29 FU tl tc v4 (x1 + (nI 1)) (nI 0)
abbrev rmX6_commandError : Room := { frames := 3, cells := 0, slots := 0, locals := 73 }
theorem kX6_firstError_20 : Cond.fieldLink RX6 20 "CrowdFaces$Text" "length" "I" ∈ wsX6_firstError := by decide +kernel
theorem iX6_firstError_X6 : ∀ w ∈ wsX60, w ∈ wsX6_firstError := by decide +kernel
def pX6_firstError_17 (tl : Int32) (tc : Nat → Int32) : Option (Int32) := some (nI 0)
def pX6_firstError_64 (tl : Int32) (tc : Nat → Int32) : Option (Int32) := some (-1)
def pX6_firstError_23 : Nat → Int32 → (Nat → Int32) → Int32 → Int32 → Option (Int32)
  | 0, _, _, _, _ => none
  | k + 1, tl, tc, y1, y2 => if (nI 120) ≤ y2 then pX6_firstError_64 tl tc else if tl ≤ y1 then pX6_firstError_64 tl tc else (pX6_commandError tl tc y1).bind fun v1 => if v1 = (-1) then (pX6_commandLength tc y1).bind fun v2 => pX6_firstError_23 k tl tc (y1 + v2) (y2 + (nI 1)) else some v1
theorem pX6_firstError_23_s {k : Nat} (tl : Int32) (tc : Nat → Int32) (y1 : Int32) (y2 : Int32) : pX6_firstError_23 (k + 1) tl tc y1 y2 = if (nI 120) ≤ y2 then pX6_firstError_64 tl tc else if tl ≤ y1 then pX6_firstError_64 tl tc else (pX6_commandError tl tc y1).bind fun v1 => if v1 = (-1) then (pX6_commandLength tc y1).bind fun v2 => pX6_firstError_23 k tl tc (y1 + v2) (y2 + (nI 1)) else some v1 := rfl
def pX6_firstError (tl : Int32) (tc : Nat → Int32) : Option (Int32) := if tl = 0 then pX6_firstError_17 tl tc else (pX6_characterAt tc (nI 0)).bind fun v1 => if v1 = (nI 70) then pX6_firstError_23 FU tl tc (nI 1) (nI 0) else pX6_firstError_17 tl tc
abbrev rmX6_firstError : Room := { frames := 4, cells := 0, slots := 0, locals := 98 }
set_option maxHeartbeats 4000000 in
set_option maxRecDepth 100000 in
theorem bX6_firstError_17 {p : Program} {l : Launch} {e : Env} {s : State} {m : MethodId} {args : Array Value} {below : List Frame} {meth : Method} {c : Code} {g : va_G} {cy : Nat → ClassId} (hC : CX p s m args meth c g cy 4 cX6_firstError wsX6_firstError RX6) (hr : meth.sig.returnType = (some .int)) {h0 q4 a4 : Nat} {tt : Nat → Nat} (hT : SX tt nF s s.heap) {res : Int32} : ∀ (tl : Int32) (tc : Nat → Int32) (h : pX6_firstError_17 tl tc = some res), V p l e (headSpec wsX6_firstError rmX6_firstError).room s m args below meth c g 4 0 0 (MQ below (QRi res) args s 0 0 nF) nF (fun _ => True) [(h0, .inr (4, [.ref q4, .int tl])), (q4, .inr (3, [.int (nI 120), .ref a4])), (a4, .inl (cy 0, 120, .inl tc))] 17 [] [] := by
  intro tl tc  h
  unfold pX6_firstError_17 at h
  refine v_iconst hC (v := (nI 0)) dX6_firstError_17 (by decide) rfl ?_
  obtain rfl := Option.some.inj h
  exact v_irt hC hr rfl rfl dX6_firstError_18
set_option maxHeartbeats 4000000 in
set_option maxRecDepth 100000 in
theorem bX6_firstError_64 {p : Program} {l : Launch} {e : Env} {s : State} {m : MethodId} {args : Array Value} {below : List Frame} {meth : Method} {c : Code} {g : va_G} {cy : Nat → ClassId} (hC : CX p s m args meth c g cy 4 cX6_firstError wsX6_firstError RX6) (hr : meth.sig.returnType = (some .int)) {h0 q4 a4 : Nat} {tt : Nat → Nat} (hT : SX tt nF s s.heap) {res : Int32} : ∀ (tl : Int32) (tc : Nat → Int32) (h : pX6_firstError_64 tl tc = some res), V p l e (headSpec wsX6_firstError rmX6_firstError).room s m args below meth c g 4 0 0 (MQ below (QRi res) args s 0 0 nF) nF (fun _ => True) [(h0, .inr (4, [.ref q4, .int tl])), (q4, .inr (3, [.int (nI 120), .ref a4])), (a4, .inl (cy 0, 120, .inl tc))] 64 [] [] := by
  intro tl tc  h
  unfold pX6_firstError_64 at h
  refine v_iconst hC (v := (-1)) dX6_firstError_64 (by decide) rfl ?_
  obtain rfl := Option.some.inj h
  exact v_irt hC hr rfl rfl dX6_firstError_65

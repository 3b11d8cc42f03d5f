theorem kX8_thrown_33 : Cond.fieldLink RX8 33 "CrowdFacesModel" "refusal" "I" ∈ wsX8_thrown := by decide +kernel
theorem iX8_thrown_X8 : ∀ w ∈ wsX80, w ∈ wsX8_thrown := by decide +kernel
def pX8_thrown (rf : Int32) : Option (Int32) := some rf
abbrev rmX8_thrown : Room := { frames := 0, cells := 0, slots := 0, locals := 0 }
set_option maxHeartbeats 4000000 in
set_option maxRecDepth 100000 in
theorem mX8_thrown (l : Launch) (g : va_G) (cy : Nat → ClassId) (h0 ztx znw ztr zdi zkp zik : Nat) (rf : Int32) (sz : Int32) (ac : Int32) (sp : Int32) (ou : Int32) (tx : Nat → Int32) (nw : Nat → Int32) (tr : Nat → Int32) (di : Nat → Int32) (kp : Nat → Int32) (ik : Nat → Int32)  {res : Int32} (h : pX8_thrown rf = some res) : Met l yX8_thrown wsX8_thrown rmX8_thrown (PW [.ref h0] g cy [(h0, .inr (6, [.int rf, .ref ztx, .int sz, .ref znw, .ref ztr, .ref zdi, .int ac, .ref zkp, .ref zik, .int sp, .int ou])), (ztx, .inl (cy 0, 120, .inl tx)), (znw, .inl (cy 0, 164, .inl nw)), (ztr, .inl (cy 0, 164, .inl tr)), (zdi, .inl (cy 0, 2296, .inl di)), (zkp, .inl (cy 0, 328, .inl kp)), (zik, .inl (cy 1, 2, .inl ik))]) (QRi res) 0 0 nF := by
  refine m_ofV (cc := cX8_thrown) (nL := 1) (ret := (some .int)) (B := fun _ => True) RX8 rfl (by decide) rfl [(0, .ref h0)] rfl (Nat.le_of_ble_eq_true rfl) (fun h => h) ?_
  intro p e s m args below meth c hC hr
  unfold pX8_thrown at h
  refine v_aload_n hC dX8_thrown_0 rfl 0 rfl rfl ?_
  refine v_get hC iX8_thrown_X8 0 rfl rfl 0 (by decide) kX8_thrown_33 rfl rfl dX8_thrown_1 rfl ?_
  obtain rfl := Option.some.inj h
  exact v_irt hC hr rfl rfl dX8_thrown_4
theorem kX8_refused_33 : Cond.fieldLink RX8 33 "CrowdFacesModel" "refusal" "I" ∈ wsX8_refused := by decide +kernel
theorem iX8_refused_X8 : ∀ w ∈ wsX80, w ∈ wsX8_refused := by decide +kernel
def pX8_refused_14 (rf : Int32) (s0 : Int32) : Option (Int32 × Int32) := (bz s0).bind fun b1 => some (b1, rf)
def pX8_refused (rf : Int32) (x1 : Int32) : Option (Int32 × Int32) := if x1 ≤ 0 then pX8_refused_14 x1 (nI 0) else pX8_refused_14 x1 (nI 1)
abbrev rmX8_refused : Room := { frames := 0, cells := 0, slots := 0, locals := 0 }
set_option maxHeartbeats 4000000 in
set_option maxRecDepth 100000 in
theorem bX8_refused_14 {p : Program} {l : Launch} {e : Env} {s : State} {m : MethodId} {args : Array Value} {below : List Frame} {meth : Method} {c : Code} {g : va_G} {cy : Nat → ClassId} (hC : CX p s m args meth c g cy 2 cX8_refused wsX8_refused RX8) (hr : meth.sig.returnType = (some .boolean)) {h0 ztx znw ztr zdi zkp zik : Nat} {A : Nat → Prop} {res : Int32 × Int32} : ∀ (rf : Int32) (sz : Int32) (ac : Int32) (sp : Int32) (ou : Int32) (tx : Nat → Int32) (nw : Nat → Int32) (tr : Nat → Int32) (di : Nat → Int32) (kp : Nat → Int32) (ik : Nat → Int32) (s0 : Int32)(h : pX8_refused_14 rf s0 = some res), V p l e (headSpec wsX8_refused rmX8_refused).room s m args below meth c g 2 0 0 (MQ below (QWi g A res.1 [(h0, .inr (6, [.int res.2, .ref ztx, .int sz, .ref znw, .ref ztr, .ref zdi, .int ac, .ref zkp, .ref zik, .int sp, .int ou])), (ztx, .inl (cy 0, 120, .inl tx)), (znw, .inl (cy 0, 164, .inl nw)), (ztr, .inl (cy 0, 164, .inl tr)), (zdi, .inl (cy 0, 2296, .inl di)), (zkp, .inl (cy 0, 328, .inl kp)), (zik, .inl (cy 1, 2, .inl ik))]) args s 0 0 A) A A [(h0, .inr (6, [.int rf, .ref ztx, .int sz, .ref znw, .ref ztr, .ref zdi, .int ac, .ref zkp, .ref zik, .int sp, .int ou])), (ztx, .inl (cy 0, 120, .inl tx)), (znw, .inl (cy 0, 164, .inl nw)), (ztr, .inl (cy 0, 164, .inl tr)), (zdi, .inl (cy 0, 2296, .inl di)), (zkp, .inl (cy 0, 328, .inl kp)), (zik, .inl (cy 1, 2, .inl ik))] 14 [] [.int s0] := by
  intro rf sz ac sp ou tx nw tr di kp ik s0 h
  unfold pX8_refused_14 at h
  obtain ⟨b1, hb9, h⟩ := bind_g h
  obtain ⟨e9, hn⟩ := bz_g hb9
  obtain rfl := Option.some.inj h
  exact v_irw hC hr hn e9 dX8_refused_14
set_option maxHeartbeats 4000000 in
set_option maxRecDepth 100000 in
theorem mX8_refused (l : Launch) (g : va_G) (cy : Nat → ClassId) (h0 ztx znw ztr zdi zkp zik : Nat) (rf : Int32) (sz : Int32) (ac : Int32) (sp : Int32) (ou : Int32) (tx : Nat → Int32) (nw : Nat → Int32) (tr : Nat → Int32) (di : Nat → Int32) (kp : Nat → Int32) (ik : Nat → Int32) (x1 : Int32) {res : Int32 × Int32} (h : pX8_refused rf x1 = some res) : Met l yX8_refused wsX8_refused rmX8_refused (PW [.ref h0, .int x1] g cy [(h0, .inr (6, [.int rf, .ref ztx, .int sz, .ref znw, .ref ztr, .ref zdi, .int ac, .ref zkp, .ref zik, .int sp, .int ou])), (ztx, .inl (cy 0, 120, .inl tx)), (znw, .inl (cy 0, 164, .inl nw)), (ztr, .inl (cy 0, 164, .inl tr)), (zdi, .inl (cy 0, 2296, .inl di)), (zkp, .inl (cy 0, 328, .inl kp)), (zik, .inl (cy 1, 2, .inl ik))]) (QWi g (wA [(h0, .inr (6, [.int rf, .ref ztx, .int sz, .ref znw, .ref ztr, .ref zdi, .int ac, .ref zkp, .ref zik, .int sp, .int ou])), (ztx, .inl (cy 0, 120, .inl tx)), (znw, .inl (cy 0, 164, .inl nw)), (ztr, .inl (cy 0, 164, .inl tr)), (zdi, .inl (cy 0, 2296, .inl di)), (zkp, .inl (cy 0, 328, .inl kp)), (zik, .inl (cy 1, 2, .inl ik))]) res.1 [(h0, .inr (6, [.int res.2, .ref ztx, .int sz, .ref znw, .ref ztr, .ref zdi, .int ac, .ref zkp, .ref zik, .int sp, .int ou])), (ztx, .inl (cy 0, 120, .inl tx)), (znw, .inl (cy 0, 164, .inl nw)), (ztr, .inl (cy 0, 164, .inl tr)), (zdi, .inl (cy 0, 2296, .inl di)), (zkp, .inl (cy 0, 328, .inl kp)), (zik, .inl (cy 1, 2, .inl ik))]) 0 0 (wA [(h0, .inr (6, [.int rf, .ref ztx, .int sz, .ref znw, .ref ztr, .ref zdi, .int ac, .ref zkp, .ref zik, .int sp, .int ou])), (ztx, .inl (cy 0, 120, .inl tx)), (znw, .inl (cy 0, 164, .inl nw)), (ztr, .inl (cy 0, 164, .inl tr)), (zdi, .inl (cy 0, 2296, .inl di)), (zkp, .inl (cy 0, 328, .inl kp)), (zik, .inl (cy 1, 2, .inl ik))]) := by
  refine m_ofV (cc := cX8_refused) (nL := 2) (ret := (some .boolean)) (B := (wA [(h0, .inr (6, [.int rf, .ref ztx, .int sz, .ref znw, .ref ztr, .ref zdi, .int ac, .ref zkp, .ref zik, .int sp, .int ou])), (ztx, .inl (cy 0, 120, .inl tx)), (znw, .inl (cy 0, 164, .inl nw)), (ztr, .inl (cy 0, 164, .inl tr)), (zdi, .inl (cy 0, 2296, .inl di)), (zkp, .inl (cy 0, 328, .inl kp)), (zik, .inl (cy 1, 2, .inl ik))])) RX8 rfl (by decide) rfl [(0, .ref h0), (1, .int x1)] rfl (Nat.le_of_ble_eq_true rfl) (wA.self) ?_
  intro p e s m args below meth c hC hr
  generalize (wA [(h0, .inr (6, [.int rf, .ref ztx, .int sz, .ref znw, .ref ztr, .ref zdi, .int ac, .ref zkp, .ref zik, .int sp, .int ou])), (ztx, .inl (cy 0, 120, .inl tx)), (znw, .inl (cy 0, 164, .inl nw)), (ztr, .inl (cy 0, 164, .inl tr)), (zdi, .inl (cy 0, 2296, .inl di)), (zkp, .inl (cy 0, 328, .inl kp)), (zik, .inl (cy 1, 2, .inl ik))]) = A
  unfold pX8_refused at h
  refine v_aload_n hC dX8_refused_0 rfl 0 rfl rfl ?_
  refine v_iload_n hC dX8_refused_1 rfl 1 rfl rfl ?_
  refine v_put hC iX8_refused_X8 tyX8 tyX8_ok nmX8 0 rfl rfl 0 (by decide) kX8_refused_33 rfl rfl (ty := .int) (by decide +kernel) rfl rfl (Nat.le_of_ble_eq_true rfl) dX8_refused_2 [(h0, .inr (6, [.int x1, .ref ztx, .int sz, .ref znw, .ref ztr, .ref zdi, .int ac, .ref zkp, .ref zik, .int sp, .int ou])), (ztx, .inl (cy 0, 120, .inl tx)), (znw, .inl (cy 0, 164, .inl nw)), (ztr, .inl (cy 0, 164, .inl tr)), (zdi, .inl (cy 0, 2296, .inl di)), (zkp, .inl (cy 0, 328, .inl kp)), (zik, .inl (cy 1, 2, .inl ik))] rfl rfl ?_
  refine v_iload_n hC dX8_refused_5 rfl 1 rfl rfl ?_
  refine v_if_le hC (tgt := 13) dX8_refused_6 (by decide) rfl (fun c => ?_) (fun c => ?_)
  · have h := ite_t c h
    refine v_iconst hC (v := (nI 0)) dX8_refused_13 (by decide) rfl ?_
    exact v_sub [] (lv' := []) rfl (bX8_refused_14 hC hr _ _ _ _ _ _ _ _ _ _ _ _ h)
  · have h := ite_f c h
    refine v_iconst hC (v := (nI 1)) dX8_refused_9 (by decide) rfl ?_
    refine v_goto hC (tgt := 14) dX8_refused_10 (by decide) ?_
    exact v_sub [] (lv' := []) rfl (bX8_refused_14 hC hr _ _ _ _ _ _ _ _ _ _ _ _ h)
def pX8_in_18 (s0 : Int32) : Option (Int32) := bz s0
def pX8_in_17  : Option (Int32) := pX8_in_18 (nI 0)
def pX8_in (x0 : Int64) (x2 : Int64) (x4 : Int64) : Option (Int32) := if (lg_cmp x0 x2) < 0 then pX8_in_17  else if 0 < (lg_cmp x0 x4) then pX8_in_17  else pX8_in_18 (nI 1)
abbrev rmX8_in : Room := { frames := 0, cells := 0, slots := 0, locals := 0 }
set_option maxHeartbeats 4000000 in
set_option maxRecDepth 100000 in
theorem bX8_in_18 {p : Program} {l : Launch} {e : Env} {s : State} {m : MethodId} {args : Array Value} {below : List Frame} {meth : Method} {c : Code} {g : va_G} {cy : Nat → ClassId} (hC : CX p s m args meth c g cy 6 cX8_in wsX8_in RX8) (hr : meth.sig.returnType = (some .boolean)) {res : Int32} : ∀  (s0 : Int32)(h : pX8_in_18 s0 = some res), V p l e (headSpec wsX8_in rmX8_in).room s m args below meth c g 6 0 0 (MQ below (QRi res) args s 0 0 nF) nF (fun _ => True) [] 18 [] [.int s0] := by
  intro  s0 h
  unfold pX8_in_18 at h
  obtain ⟨e9, hn⟩ := bz_g h
  exact v_irt hC hr hn e9 dX8_in_18
set_option maxHeartbeats 4000000 in
set_option maxRecDepth 100000 in
theorem bX8_in_17 {p : Program} {l : Launch} {e : Env} {s : State} {m : MethodId} {args : Array Value} {below : List Frame} {meth : Method} {c : Code} {g : va_G} {cy : Nat → ClassId} (hC : CX p s m args meth c g cy 6 cX8_in wsX8_in RX8) (hr : meth.sig.returnType = (some .boolean)) {res : Int32} : ∀ (h : pX8_in_17  = some res), V p l e (headSpec wsX8_in rmX8_in).room s m args below meth c g 6 0 0 (MQ below (QRi res) args s 0 0 nF) nF (fun _ => True) [] 17 [] [] := by
  intro   h
  unfold pX8_in_17 at h
  refine v_iconst hC (v := (nI 0)) dX8_in_17 (by decide) rfl ?_
  exact bX8_in_18 hC hr _ h
set_option maxHeartbeats 4000000 in
set_option maxRecDepth 100000 in
theorem mX8_in (l : Launch) (g : va_G) (cy : Nat → ClassId)  (x0 : Int64) (x2 : Int64) (x4 : Int64) {res : Int32} (h : pX8_in x0 x2 x4 = some res) : Met l yX8_in wsX8_in rmX8_in (PW [.long x0, .long x2, .long x4] g cy []) (QRi res) 0 0 nF := by
  refine m_ofV (cc := cX8_in) (nL := 6) (ret := (some .boolean)) (B := fun _ => True) RX8 rfl (by decide) rfl [(0, .long x0), (2, .long x2), (4, .long x4)] rfl (Nat.le_of_ble_eq_true rfl) (fun h => h) ?_
  intro p e s m args below meth c hC hr
  unfold pX8_in at h
  refine v_lload_n hC dX8_in_0 rfl 0 rfl rfl ?_
  refine v_lload_n hC dX8_in_1 rfl 1 rfl rfl ?_
  refine v_lcmp hC dX8_in_2 rfl ?_
  refine v_if_lt hC (tgt := 17) dX8_in_3 (by decide) rfl (fun c => ?_) (fun c => ?_)
  · have h := ite_t c h
    exact v_sub [] (lv' := []) rfl (bX8_in_17 hC hr  h)
  · have h := ite_f c h
    refine v_lload_n hC dX8_in_6 rfl 0 rfl rfl ?_
    refine v_lload hC dX8_in_7 2 rfl rfl ?_
    refine v_lcmp hC dX8_in_9 rfl ?_
    refine v_if_gt hC (tgt := 17) dX8_in_10 (by decide) rfl (fun c => ?_) (fun c => ?_)
    · have h := ite_t c h
      exact v_sub [] (lv' := []) rfl (bX8_in_17 hC hr  h)
    · have h := ite_f c h
      refine v_iconst hC (v := (nI 1)) dX8_in_13 (by decide) rfl ?_
      refine v_goto hC (tgt := 18) dX8_in_14 (by decide) ?_
      exact v_sub [] (lv' := []) rfl (bX8_in_18 hC hr _ h)
def pX8_copyState_3 : Nat → Nat → (Nat → Int32) → Nat → (Nat → Int32) → Int32 → Int32 → Int32 → Option ((Nat → Int32))
  | 0, _, _, _, _, _, _, _ => none
  | k + 1, n0, r0, n2, r2, y1, y3, y4 => if (nI 164) ≤ y4 then some r2 else if nb (y1 + y4) n0 = true then if nb (y3 + y4) n2 = true then pX8_copyState_3 k n0 r0 n2 (upd r2 (y3 + y4).toNatClampNeg (r0 (y1 + y4).toNatClampNeg)) y1 y3 (y4 + (nI 1)) else none else none
theorem pX8_copyState_3_s {k : Nat} (n0 : Nat) (r0 : Nat → Int32) (n2 : Nat) (r2 : Nat → Int32) (y1 : Int32) (y3 : Int32) (y4 : Int32) : pX8_copyState_3 (k + 1) n0 r0 n2 r2 y1 y3 y4 = if (nI 164) ≤ y4 then some r2 else if nb (y1 + y4) n0 = true then if nb (y3 + y4) n2 = true then pX8_copyState_3 k n0 r0 n2 (upd r2 (y3 + y4).toNatClampNeg (r0 (y1 + y4).toNatClampNeg)) y1 y3 (y4 + (nI 1)) else none else none := rfl
def pX8_copyState (n0 : Nat) (r0 : Nat → Int32) (n2 : Nat) (r2 : Nat → Int32) (x1 : Int32) (x3 : Int32) : Option ((Nat → Int32)) := pX8_copyState_3 FU n0 r0 n2 r2 x1 x3 (nI 0)
abbrev rmX8_copyState : Room := { frames := 0, cells := 0, slots := 0, locals := 0 }
set_option maxHeartbeats 4000000 in
set_option maxRecDepth 100000 in
theorem bX8_copyState_3 {p : Program} {l : Launch} {e : Env} {s : State} {m : MethodId} {args : Array Value} {below : List Frame} {meth : Method} {c : Code} {g : va_G} {cy : Nat → ClassId} (hC : CX p s m args meth c g cy 5 cX8_copyState wsX8_copyState RX8) (hr : meth.sig.returnType = none) {r0a r2a : Nat} {A : Nat → Prop} {res : (Nat → Int32)} : ∀ (k : Nat) (n0 : Nat) (r0 : Nat → Int32) (n2 : Nat) (r2 : Nat → Int32) (y1 : Int32) (y3 : Int32) (y4 : Int32) (h : pX8_copyState_3 k n0 r0 n2 r2 y1 y3 y4 = some res), V p l e (headSpec wsX8_copyState rmX8_copyState).room s m args below meth c g 5 0 0 (MQ below (QWv g A [(r0a, .inl (cy 0, n0, .inl r0)), (r2a, .inl (cy 0, n2, .inl res))]) args s 0 0 A) A A [(r0a, .inl (cy 0, n0, .inl r0)), (r2a, .inl (cy 0, n2, .inl r2))] 3 [(0, .ref r0a), (1, .int y1), (2, .ref r2a), (3, .int y3), (4, .int y4)] [] := by
  intro k
  induction k with
  | zero =>
    intro n0 r0 n2 r2 y1 y3 y4 h
    have h : (none : Option _) = some res := h
    cases h
  | succ k ih =>
    intro n0 r0 n2 r2 y1 y3 y4 h
    rw [pX8_copyState_3_s] at h
    refine v_iload hC dX8_copyState_3 4 rfl rfl ?_
    refine v_sipush hC (v := (nI 164)) dX8_copyState_5 (by decide) rfl ?_
    refine v_icmp_ge hC (tgt := 29) dX8_copyState_8 (by decide) rfl (fun c => ?_) (fun c => ?_)
    · have h := ite_t c h
      obtain rfl := Option.some.inj h
      exact v_vrw hC hr dX8_copyState_29
    · have h := ite_f c h
      refine v_aload_n hC dX8_copyState_11 rfl 2 rfl rfl ?_
      refine v_iload_n hC dX8_copyState_12 rfl 3 rfl rfl ?_
      refine v_iload hC dX8_copyState_13 4 rfl rfl ?_
      refine v_iadd hC dX8_copyState_15 rfl ?_
      refine v_aload_n hC dX8_copyState_16 rfl 0 rfl rfl ?_
      refine v_iload_n hC dX8_copyState_17 rfl 1 rfl rfl ?_
      refine v_iload hC dX8_copyState_18 4 rfl rfl ?_
      refine v_iadd hC dX8_copyState_20 rfl ?_
      obtain ⟨hn, h⟩ := ite_g h
      refine v_iald hC 0 rfl hn dX8_copyState_21 rfl ?_
      obtain ⟨hn, h⟩ := ite_g h
      refine v_iast hC 1 rfl hn dX8_copyState_22 [(r0a, .inl (cy 0, n0, .inl r0)), (r2a, .inl (cy 0, n2, .inl (upd r2 (y3 + y4).toNatClampNeg (r0 (y1 + y4).toNatClampNeg))))] rfl rfl ?_
      refine v_iinc hC dX8_copyState_23 4 rfl (v := (y4 + (nI 1))) rfl (by decide) [(4, .int (y4 + (nI 1))), (0, .ref r0a), (1, .int y1), (2, .ref r2a), (3, .int y3)] rfl rfl ?_
      refine v_goto hC (tgt := 3) dX8_copyState_26 (by decide) ?_
      exact v_sub [1, 2, 3, 4, 0] (lv' := [(0, .ref r0a), (1, .int y1), (2, .ref r2a), (3, .int y3), (4, .int (y4 + (nI 1)))]) rfl (ih _ _ _ _ _ _ _ h)
set_option maxHeartbeats 4000000 in
set_option maxRecDepth 100000 in
theorem mX8_copyState (l : Launch) (g : va_G) (cy : Nat → ClassId) (r0a r2a : Nat) (n0 : Nat) (r0 : Nat → Int32) (n2 : Nat) (r2 : Nat → Int32) (x1 : Int32) (x3 : Int32) {res : (Nat → Int32)} (h : pX8_copyState n0 r0 n2 r2 x1 x3 = some res) : Met l yX8_copyState wsX8_copyState rmX8_copyState (PW [.ref r0a, .int x1, .ref r2a, .int x3] g cy [(r0a, .inl (cy 0, n0, .inl r0)), (r2a, .inl (cy 0, n2, .inl r2))]) (QWv g (wA [(r0a, .inl (cy 0, n0, .inl r0)), (r2a, .inl (cy 0, n2, .inl r2))]) [(r0a, .inl (cy 0, n0, .inl r0)), (r2a, .inl (cy 0, n2, .inl res))]) 0 0 (wA [(r0a, .inl (cy 0, n0, .inl r0)), (r2a, .inl (cy 0, n2, .inl r2))]) := by
  refine m_ofV (cc := cX8_copyState) (nL := 5) (ret := none) (B := (wA [(r0a, .inl (cy 0, n0, .inl r0)), (r2a, .inl (cy 0, n2, .inl r2))])) RX8 rfl (by decide) rfl [(0, .ref r0a), (1, .int x1), (2, .ref r2a), (3, .int x3)] rfl (Nat.le_of_ble_eq_true rfl) (wA.self) ?_
  intro p e s m args below meth c hC hr
  generalize (wA [(r0a, .inl (cy 0, n0, .inl r0)), (r2a, .inl (cy 0, n2, .inl r2))]) = A
  unfold pX8_copyState at h
  refine v_iconst hC (v := (nI 0)) dX8_copyState_0 (by decide) rfl ?_
  refine v_istore hC dX8_copyState_1 (by decide) [(4, .int (nI 0)), (0, .ref r0a), (1, .int x1), (2, .ref r2a), (3, .int x3)] rfl rfl ?_
  exact v_sub [1, 2, 3, 4, 0] (lv' := [(0, .ref r0a), (1, .int x1), (2, .ref r2a), (3, .int x3), (4, .int (nI 0))]) rfl (bX8_copyState_3 hC hr FU _ _ _ _ _ _ _ h)
def pX8_clear_2 : Nat → (Nat → Int32) → Int32 → Option ((Nat → Int32))
  | 0, _, _ => none
  | k + 1, r, y1 => if (nI 164) ≤ y1 then if nb (nI 7) 164 = true then if nb (nI 8) 164 = true then if nb (nI 9) 164 = true then some (upd (upd (upd r (nI 7).toNatClampNeg (nI 600)) (nI 8).toNatClampNeg (nI 10)) (nI 9).toNatClampNeg (nI 5)) else none else none else none else if nb y1 164 = true then pX8_clear_2 k (upd r y1.toNatClampNeg (nI 0)) (y1 + (nI 1)) else none
theorem pX8_clear_2_s {k : Nat} (r : Nat → Int32) (y1 : Int32) : pX8_clear_2 (k + 1) r y1 = if (nI 164) ≤ y1 then if nb (nI 7) 164 = true then if nb (nI 8) 164 = true then if nb (nI 9) 164 = true then some (upd (upd (upd r (nI 7).toNatClampNeg (nI 600)) (nI 8).toNatClampNeg (nI 10)) (nI 9).toNatClampNeg (nI 5)) else none else none else none else if nb y1 164 = true then pX8_clear_2 k (upd r y1.toNatClampNeg (nI 0)) (y1 + (nI 1)) else none := rfl
def pX8_clear (r : Nat → Int32) : Option ((Nat → Int32)) := pX8_clear_2 FU r (nI 0)
abbrev rmX8_clear : Room := { frames := 0, cells := 0, slots := 0, locals := 0 }
set_option maxHeartbeats 4000000 in
set_option maxRecDepth 100000 in
theorem bX8_clear_2 {p : Program} {l : Launch} {e : Env} {s : State} {m : MethodId} {args : Array Value} {below : List Frame} {meth : Method} {c : Code} {g : va_G} {cy : Nat → ClassId} (hC : CX p s m args meth c g cy 2 cX8_clear wsX8_clear RX8) (hr : meth.sig.returnType = none) {h0 : Nat} {A : Nat → Prop} {res : (Nat → Int32)} : ∀ (k : Nat) (r : Nat → Int32) (y1 : Int32) (h : pX8_clear_2 k r y1 = some res), V p l e (headSpec wsX8_clear rmX8_clear).room s m args below meth c g 2 0 0 (MQ below (QWv g A [(h0, .inl (cy 0, 164, .inl res))]) args s 0 0 A) A A [(h0, .inl (cy 0, 164, .inl r))] 2 [(0, .ref h0), (1, .int y1)] [] := by
  intro k
  induction k with
  | zero =>
    intro r y1 h
    have h : (none : Option _) = some res := h
    cases h
  | succ k ih =>
    intro r y1 h
    rw [pX8_clear_2_s] at h
    refine v_iload_n hC dX8_clear_2 rfl 1 rfl rfl ?_
    refine v_sipush hC (v := (nI 164)) dX8_clear_3 (by decide) rfl ?_
    refine v_icmp_ge hC (tgt := 19) dX8_clear_6 (by decide) rfl (fun c => ?_) (fun c => ?_)
    · have h := ite_t c h
      refine v_aload_n hC dX8_clear_19 rfl 0 rfl rfl ?_
      refine v_bipush hC (v := (nI 7)) dX8_clear_20 (by decide) rfl ?_
      refine v_sipush hC (v := (nI 600)) dX8_clear_22 (by decide) rfl ?_
      obtain ⟨hn, h⟩ := ite_g h
      refine v_iast hC 0 rfl hn dX8_clear_25 [(h0, .inl (cy 0, 164, .inl (upd r (nI 7).toNatClampNeg (nI 600))))] rfl rfl ?_
      refine v_aload_n hC dX8_clear_26 rfl 0 rfl rfl ?_
      refine v_bipush hC (v := (nI 8)) dX8_clear_27 (by decide) rfl ?_
      refine v_bipush hC (v := (nI 10)) dX8_clear_29 (by decide) rfl ?_
      obtain ⟨hn, h⟩ := ite_g h
      refine v_iast hC 0 rfl hn dX8_clear_31 [(h0, .inl (cy 0, 164, .inl (upd (upd r (nI 7).toNatClampNeg (nI 600)) (nI 8).toNatClampNeg (nI 10))))] rfl rfl ?_
      refine v_aload_n hC dX8_clear_32 rfl 0 rfl rfl ?_
      refine v_bipush hC (v := (nI 9)) dX8_clear_33 (by decide) rfl ?_
      refine v_iconst hC (v := (nI 5)) dX8_clear_35 (by decide) rfl ?_
      obtain ⟨hn, h⟩ := ite_g h
      refine v_iast hC 0 rfl hn dX8_clear_36 [(h0, .inl (cy 0, 164, .inl (upd (upd (upd r (nI 7).toNatClampNeg (nI 600)) (nI 8).toNatClampNeg (nI 10)) (nI 9).toNatClampNeg (nI 5))))] rfl rfl ?_
      obtain rfl := Option.some.inj h
      exact v_vrw hC hr dX8_clear_37
    · have h := ite_f c h
      refine v_aload_n hC dX8_clear_9 rfl 0 rfl rfl ?_
      refine v_iload_n hC dX8_clear_10 rfl 1 rfl rfl ?_
      refine v_iconst hC (v := (nI 0)) dX8_clear_11 (by decide) rfl ?_
      obtain ⟨hn, h⟩ := ite_g h
      refine v_iast hC 0 rfl hn dX8_clear_12 [(h0, .inl (cy 0, 164, .inl (upd r y1.toNatClampNeg (nI 0))))] rfl rfl ?_
      refine v_iinc hC dX8_clear_13 1 rfl (v := (y1 + (nI 1))) rfl (by decide) [(1, .int (y1 + (nI 1))), (0, .ref h0)] rfl rfl ?_
      refine v_goto hC (tgt := 2) dX8_clear_16 (by decide) ?_
      exact v_sub [1, 0] (lv' := [(0, .ref h0), (1, .int (y1 + (nI 1)))]) rfl (ih _ _ h)
set_option maxHeartbeats 4000000 in
set_option maxRecDepth 100000 in
theorem mX8_clear (l : Launch) (g : va_G) (cy : Nat → ClassId) (h0 : Nat) (r : Nat → Int32)  {res : (Nat → Int32)} (h : pX8_clear r = some res) : Met l yX8_clear wsX8_clear rmX8_clear (PW [.ref h0] g cy [(h0, .inl (cy 0, 164, .inl r))]) (QWv g (wA [(h0, .inl (cy 0, 164, .inl r))]) [(h0, .inl (cy 0, 164, .inl res))]) 0 0 (wA [(h0, .inl (cy 0, 164, .inl r))]) := by
  refine m_ofV (cc := cX8_clear) (nL := 2) (ret := none) (B := (wA [(h0, .inl (cy 0, 164, .inl r))])) RX8 rfl (by decide) rfl [(0, .ref h0)] rfl (Nat.le_of_ble_eq_true rfl) (wA.self) ?_
  intro p e s m args below meth c hC hr
  generalize (wA [(h0, .inl (cy 0, 164, .inl r))]) = A
  unfold pX8_clear at h
  refine v_iconst hC (v := (nI 0)) dX8_clear_0 (by decide) rfl ?_
  refine v_istore_n hC dX8_clear_1 rfl (by decide) [(1, .int (nI 0)), (0, .ref h0)] rfl rfl ?_
  exact v_sub [1, 0] (lv' := [(0, .ref h0), (1, .int (nI 0))]) rfl (bX8_clear_2 hC hr FU _ _ h)
def pX8_isExtra (r : Nat → Int32) (x1 : Int32) : Option (Int32) := if nb (nI 0) 164 = true then (pX8_in x1.toInt64 0 (((r (nI 0).toNatClampNeg) - (nI 1)).toInt64)).bind fun v1 => bz v1 else none
abbrev rmX8_isExtra : Room := { frames := 1, cells := 0, slots := 0, locals := 25 }
set_option maxHeartbeats 4000000 in
set_option maxRecDepth 100000 in
theorem mX8_isExtra (l : Launch) (g : va_G) (cy : Nat → ClassId) (h0 : Nat) (r : Nat → Int32) (x1 : Int32) {res : Int32} (h : pX8_isExtra r x1 = some res) : Met l yX8_isExtra wsX8_isExtra rmX8_isExtra (PW [.ref h0, .int x1] g cy [(h0, .inl (cy 0, 164, .inl r))]) (QRi res) 0 0 nF := by
  refine m_ofV (cc := cX8_isExtra) (nL := 2) (ret := (some .boolean)) (B := fun _ => True) RX8 rfl (by decide) rfl [(0, .ref h0), (1, .int x1)] rfl (Nat.le_of_ble_eq_true rfl) (fun h => h) ?_
  intro p e s m args below meth c hC hr
  unfold pX8_isExtra at h
  refine v_iload_n hC dX8_isExtra_0 rfl 1 rfl rfl ?_
  refine v_i2l hC dX8_isExtra_1 rfl ?_
  refine v_lconst hC (v := 0) dX8_isExtra_2 rfl rfl ?_
  refine v_aload_n hC dX8_isExtra_3 rfl 0 rfl rfl ?_
  refine v_iconst hC (v := (nI 0)) dX8_isExtra_4 (by decide) rfl ?_
  obtain ⟨hn, h⟩ := ite_g h
  refine v_iald hC 0 rfl hn dX8_isExtra_5 rfl ?_
  refine v_iconst hC (v := (nI 1)) dX8_isExtra_6 (by decide) rfl ?_
  refine v_isub hC dX8_isExtra_7 rfl ?_
  refine v_i2l hC dX8_isExtra_8 rfl ?_
  obtain ⟨v1, hv1, h⟩ := bind_g h
  refine v_callSri hC (n := 3) (st := []) (mX8_in l g cy x1.toInt64 0 (((r (nI 0).toNatClampNeg) - (nI 1)).toInt64) hv1) gX8_isExtra_X8_in rfl rfl rfl (by decide +kernel) ⟨Nat.le_of_ble_eq_true rfl, Nat.le_of_ble_eq_true rfl⟩ [] rfl rfl rfl rfl (Nat.le_of_ble_eq_true rfl) rfl ⟨Nat.zero_le _, Nat.zero_le _⟩ dX8_isExtra_9 rfl ?_
  obtain ⟨e9, hn⟩ := bz_g h
  exact v_irt hC hr hn e9 dX8_isExtra_12
def pX8_isScene (r : Nat → Int32) (x1 : Int32) : Option (Int32) := if nb (nI 1) 164 = true then (pX8_in x1.toInt64 0 (((r (nI 1).toNatClampNeg) - (nI 1)).toInt64)).bind fun v1 => bz v1 else none
abbrev rmX8_isScene : Room := { frames := 1, cells := 0, slots := 0, locals := 25 }
set_option maxHeartbeats 4000000 in
set_option maxRecDepth 100000 in
theorem mX8_isScene (l : Launch) (g : va_G) (cy : Nat → ClassId) (h0 : Nat) (r : Nat → Int32) (x1 : Int32) {res : Int32} (h : pX8_isScene r x1 = some res) : Met l yX8_isScene wsX8_isScene rmX8_isScene (PW [.ref h0, .int x1] g cy [(h0, .inl (cy 0, 164, .inl r))]) (QRi res) 0 0 nF := by
  refine m_ofV (cc := cX8_isScene) (nL := 2) (ret := (some .boolean)) (B := fun _ => True) RX8 rfl (by decide) rfl [(0, .ref h0), (1, .int x1)] rfl (Nat.le_of_ble_eq_true rfl) (fun h => h) ?_
  intro p e s m args below meth c hC hr
  unfold pX8_isScene at h
  refine v_iload_n hC dX8_isScene_0 rfl 1 rfl rfl ?_
  refine v_i2l hC dX8_isScene_1 rfl ?_
  refine v_lconst hC (v := 0) dX8_isScene_2 rfl rfl ?_
  refine v_aload_n hC dX8_isScene_3 rfl 0 rfl rfl ?_
  refine v_iconst hC (v := (nI 1)) dX8_isScene_4 (by decide) rfl ?_
  obtain ⟨hn, h⟩ := ite_g h
  refine v_iald hC 0 rfl hn dX8_isScene_5 rfl ?_
  refine v_iconst hC (v := (nI 1)) dX8_isScene_6 (by decide) rfl ?_
  refine v_isub hC dX8_isScene_7 rfl ?_
  refine v_i2l hC dX8_isScene_8 rfl ?_
  obtain ⟨v1, hv1, h⟩ := bind_g h
  refine v_callSri hC (n := 3) (st := []) (mX8_in l g cy x1.toInt64 0 (((r (nI 1).toNatClampNeg) - (nI 1)).toInt64) hv1) gX8_isScene_X8_in rfl rfl rfl (by decide +kernel) ⟨Nat.le_of_ble_eq_true rfl, Nat.le_of_ble_eq_true rfl⟩ [] rfl rfl rfl rfl (Nat.le_of_ble_eq_true rfl) rfl ⟨Nat.zero_le _, Nat.zero_le _⟩ dX8_isScene_9 rfl ?_
  obtain ⟨e9, hn⟩ := bz_g h
  exact v_irt hC hr hn e9 dX8_isScene_12
def pX8_of (r : Nat → Int32) (x1 : Int32) (x2 : Int32) : Option (Int32) := if nb (((nI 10) + ((nI 6) * x1)) + x2) 164 = true then some (r (((nI 10) + ((nI 6) * x1)) + x2).toNatClampNeg) else none
abbrev rmX8_of : Room := { frames := 0, cells := 0, slots := 0, locals := 0 }
set_option maxHeartbeats 4000000 in
set_option maxRecDepth 100000 in
theorem mX8_of (l : Launch) (g : va_G) (cy : Nat → ClassId) (h0 : Nat) (r : Nat → Int32) (x1 : Int32) (x2 : Int32) {res : Int32} (h : pX8_of r x1 x2 = some res) : Met l yX8_of wsX8_of rmX8_of (PW [.ref h0, .int x1, .int x2] g cy [(h0, .inl (cy 0, 164, .inl r))]) (QRi res) 0 0 nF := by
  refine m_ofV (cc := cX8_of) (nL := 3) (ret := (some .int)) (B := fun _ => True) RX8 rfl (by decide) rfl [(0, .ref h0), (1, .int x1), (2, .int x2)] rfl (Nat.le_of_ble_eq_true rfl) (fun h => h) ?_
  intro p e s m args below meth c hC hr
  unfold pX8_of at h
  refine v_aload_n hC dX8_of_0 rfl 0 rfl rfl ?_
  refine v_bipush hC (v := (nI 10)) dX8_of_1 (by decide) rfl ?_
  refine v_bipush hC (v := (nI 6)) dX8_of_3 (by decide) rfl ?_
  refine v_iload_n hC dX8_of_5 rfl 1 rfl rfl ?_
  refine v_imul hC dX8_of_6 rfl ?_
  refine v_iadd hC dX8_of_7 rfl ?_
  refine v_iload_n hC dX8_of_8 rfl 2 rfl rfl ?_
  refine v_iadd hC dX8_of_9 rfl ?_
  obtain ⟨hn, h⟩ := ite_g h
  refine v_iald hC 0 rfl hn dX8_of_10 rfl ?_
  obtain rfl := Option.some.inj h
  exact v_irt hC hr rfl rfl dX8_of_11
def pX8_lay (r : Nat → Int32) (x1 : Int32) (x2 : Int32) (x3 : Int32) : Option ((Nat → Int32)) := if nb (((nI 10) + ((nI 6) * x1)) + x2) 164 = true then some (upd r (((nI 10) + ((nI 6) * x1)) + x2).toNatClampNeg x3) else none
abbrev rmX8_lay : Room := { frames := 0, cells := 0, slots := 0, locals := 0 }
set_option maxHeartbeats 4000000 in
set_option maxRecDepth 100000 in
theorem mX8_lay (l : Launch) (g : va_G) (cy : Nat → ClassId) (h0 : Nat) (r : Nat → Int32) (x1 : Int32) (x2 : Int32) (x3 : Int32) {res : (Nat → Int32)} (h : pX8_lay r x1 x2 x3 = some res) : Met l yX8_lay wsX8_lay rmX8_lay (PW [.ref h0, .int x1, .int x2, .int x3] g cy [(h0, .inl (cy 0, 164, .inl r))]) (QWv g (wA [(h0, .inl (cy 0, 164, .inl r))]) [(h0, .inl (cy 0, 164, .inl res))]) 0 0 (wA [(h0, .inl (cy 0, 164, .inl r))]) := by
  refine m_ofV (cc := cX8_lay) (nL := 4) (ret := none) (B := (wA [(h0, .inl (cy 0, 164, .inl r))])) RX8 rfl (by decide) rfl [(0, .ref h0), (1, .int x1), (2, .int x2), (3, .int x3)] rfl (Nat.le_of_ble_eq_true rfl) (wA.self) ?_
  intro p e s m args below meth c hC hr
  generalize (wA [(h0, .inl (cy 0, 164, .inl r))]) = A
  unfold pX8_lay at h
  refine v_aload_n hC dX8_lay_0 rfl 0 rfl rfl ?_
  refine v_bipush hC (v := (nI 10)) dX8_lay_1 (by decide) rfl ?_
  refine v_bipush hC (v := (nI 6)) dX8_lay_3 (by decide) rfl ?_
  refine v_iload_n hC dX8_lay_5 rfl 1 rfl rfl ?_
  refine v_imul hC dX8_lay_6 rfl ?_
  refine v_iadd hC dX8_lay_7 rfl ?_
  refine v_iload_n hC dX8_lay_8 rfl 2 rfl rfl ?_
  refine v_iadd hC dX8_lay_9 rfl ?_
  refine v_iload_n hC dX8_lay_10 rfl 3 rfl rfl ?_
  obtain ⟨hn, h⟩ := ite_g h
  refine v_iast hC 0 rfl hn dX8_lay_11 [(h0, .inl (cy 0, 164, .inl (upd r (((nI 10) + ((nI 6) * x1)) + x2).toNatClampNeg x3)))] rfl rfl ?_
  obtain rfl := Option.some.inj h
  exact v_vrw hC hr dX8_lay_12
def pX8_told (r : Nat → Int32) (x1 : Int32) (x2 : Int32) : Option (Int32) := if nb (((nI 94) + ((nI 7) * x1)) + x2) 164 = true then some (r (((nI 94) + ((nI 7) * x1)) + x2).toNatClampNeg) else none
abbrev rmX8_told : Room := { frames := 0, cells := 0, slots := 0, locals := 0 }
set_option maxHeartbeats 4000000 in
set_option maxRecDepth 100000 in
theorem mX8_told (l : Launch) (g : va_G) (cy : Nat → ClassId) (h0 : Nat) (r : Nat → Int32) (x1 : Int32) (x2 : Int32) {res : Int32} (h : pX8_told r x1 x2 = some res) : Met l yX8_told wsX8_told rmX8_told (PW [.ref h0, .int x1, .int x2] g cy [(h0, .inl (cy 0, 164, .inl r))]) (QRi res) 0 0 nF := by
  refine m_ofV (cc := cX8_told) (nL := 3) (ret := (some .int)) (B := fun _ => True) RX8 rfl (by decide) rfl [(0, .ref h0), (1, .int x1), (2, .int x2)] rfl (Nat.le_of_ble_eq_true rfl) (fun h => h) ?_
  intro p e s m args below meth c hC hr
  unfold pX8_told at h
  refine v_aload_n hC dX8_told_0 rfl 0 rfl rfl ?_
  refine v_bipush hC (v := (nI 94)) dX8_told_1 (by decide) rfl ?_
  refine v_bipush hC (v := (nI 7)) dX8_told_3 (by decide) rfl ?_
  refine v_iload_n hC dX8_told_5 rfl 1 rfl rfl ?_
  refine v_imul hC dX8_told_6 rfl ?_
  refine v_iadd hC dX8_told_7 rfl ?_
  refine v_iload_n hC dX8_told_8 rfl 2 rfl rfl ?_
  refine v_iadd hC dX8_told_9 rfl ?_
  obtain ⟨hn, h⟩ := ite_g h
  refine v_iald hC 0 rfl hn dX8_told_10 rfl ?_
  obtain rfl := Option.some.inj h
  exact v_irt hC hr rfl rfl dX8_told_11
def pX8_has_14 (s0 : Int32) : Option (Int32) := bz s0
def pX8_has (x0 : Int32) (x1 : Int32) : Option (Int32) := if ((x0 >>> (x1 &&& 31)) &&& (nI 1)) = (nI 1) then pX8_has_14 (nI 1) else pX8_has_14 (nI 0)
abbrev rmX8_has : Room := { frames := 0, cells := 0, slots := 0, locals := 0 }
set_option maxHeartbeats 4000000 in
set_option maxRecDepth 100000 in
theorem bX8_has_14 {p : Program} {l : Launch} {e : Env} {s : State} {m : MethodId} {args : Array Value} {below : List Frame} {meth : Method} {c : Code} {g : va_G} {cy : Nat → ClassId} (hC : CX p s m args meth c g cy 2 cX8_has wsX8_has RX8) (hr : meth.sig.returnType = (some .boolean)) {res : Int32} : ∀  (s0 : Int32)(h : pX8_has_14 s0 = some res), V p l e (headSpec wsX8_has rmX8_has).room s m args below meth c g 2 0 0 (MQ below (QRi res) args s 0 0 nF) nF (fun _ => True) [] 14 [] [.int s0] := by
  intro  s0 h
  unfold pX8_has_14 at h
  obtain ⟨e9, hn⟩ := bz_g h
  exact v_irt hC hr hn e9 dX8_has_14
set_option maxHeartbeats 4000000 in
set_option maxRecDepth 100000 in
theorem mX8_has (l : Launch) (g : va_G) (cy : Nat → ClassId)  (x0 : Int32) (x1 : Int32) {res : Int32} (h : pX8_has x0 x1 = some res) : Met l yX8_has wsX8_has rmX8_has (PW [.int x0, .int x1] g cy []) (QRi res) 0 0 nF := by
  refine m_ofV (cc := cX8_has) (nL := 2) (ret := (some .boolean)) (B := fun _ => True) RX8 rfl (by decide) rfl [(0, .int x0), (1, .int x1)] rfl (Nat.le_of_ble_eq_true rfl) (fun h => h) ?_
  intro p e s m args below meth c hC hr
  unfold pX8_has at h
  refine v_iload_n hC dX8_has_0 rfl 0 rfl rfl ?_
  refine v_iload_n hC dX8_has_1 rfl 1 rfl rfl ?_
  refine v_ishr hC dX8_has_2 rfl ?_
  refine v_iconst hC (v := (nI 1)) dX8_has_3 (by decide) rfl ?_
  refine v_iand hC dX8_has_4 rfl ?_
  refine v_iconst hC (v := (nI 1)) dX8_has_5 (by decide) rfl ?_
  refine v_icmp_ne hC (tgt := 13) dX8_has_6 (by decide) rfl (fun c => ?_) (fun c => ?_)
  · have h := ite_f c h
    refine v_iconst hC (v := (nI 0)) dX8_has_13 (by decide) rfl ?_
    exact v_sub [] (lv' := []) rfl (bX8_has_14 hC hr _ h)
  · have h := ite_t c h
    refine v_iconst hC (v := (nI 1)) dX8_has_9 (by decide) rfl ?_
    refine v_goto hC (tgt := 14) dX8_has_10 (by decide) ?_
    exact v_sub [] (lv' := []) rfl (bX8_has_14 hC hr _ h)
def pX8_bits_4 : Nat → Int32 → Int32 → Int32 → Option (Int32)
  | 0, _, _, _ => none
  | k + 1, y0, y1, y2 => if (nI 14) ≤ y2 then some y1 else pX8_bits_4 k y0 (y1 + ((y0 >>> (y2 &&& 31)) &&& (nI 1))) (y2 + (nI 1))
theorem pX8_bits_4_s {k : Nat} (y0 : Int32) (y1 : Int32) (y2 : Int32) : pX8_bits_4 (k + 1) y0 y1 y2 = if (nI 14) ≤ y2 then some y1 else pX8_bits_4 k y0 (y1 + ((y0 >>> (y2 &&& 31)) &&& (nI 1))) (y2 + (nI 1)) := rfl
def pX8_bits (x0 : Int32) : Option (Int32) := pX8_bits_4 FU x0 (nI 0) (nI 0)
abbrev rmX8_bits : Room := { frames := 0, cells := 0, slots := 0, locals := 0 }
set_option maxHeartbeats 4000000 in
set_option maxRecDepth 100000 in
theorem bX8_bits_4 {p : Program} {l : Launch} {e : Env} {s : State} {m : MethodId} {args : Array Value} {below : List Frame} {meth : Method} {c : Code} {g : va_G} {cy : Nat → ClassId} (hC : CX p s m args meth c g cy 3 cX8_bits wsX8_bits RX8) (hr : meth.sig.returnType = (some .int)) {res : Int32} : ∀ (k : Nat)  (y0 : Int32) (y1 : Int32) (y2 : Int32) (h : pX8_bits_4 k y0 y1 y2 = some res), V p l e (headSpec wsX8_bits rmX8_bits).room s m args below meth c g 3 0 0 (MQ below (QRi res) args s 0 0 nF) nF (fun _ => True) [] 4 [(0, .int y0), (1, .int y1), (2, .int y2)] [] := by
  intro k
  induction k with
  | zero =>
    intro  y0 y1 y2 h
    have h : (none : Option _) = some res := h
    cases h
  | succ k ih =>
    intro  y0 y1 y2 h
    rw [pX8_bits_4_s] at h
    refine v_iload_n hC dX8_bits_4 rfl 2 rfl rfl ?_
    refine v_bipush hC (v := (nI 14)) dX8_bits_5 (by decide) rfl ?_
    refine v_icmp_ge hC (tgt := 24) dX8_bits_7 (by decide) rfl (fun c => ?_) (fun c => ?_)
    · have h := ite_t c h
      refine v_iload_n hC dX8_bits_24 rfl 1 rfl rfl ?_
      obtain rfl := Option.some.inj h
      exact v_irt hC hr rfl rfl dX8_bits_25
    · have h := ite_f c h
      refine v_iload_n hC dX8_bits_10 rfl 1 rfl rfl ?_
      refine v_iload_n hC dX8_bits_11 rfl 0 rfl rfl ?_
      refine v_iload_n hC dX8_bits_12 rfl 2 rfl rfl ?_
      refine v_ishr hC dX8_bits_13 rfl ?_
      refine v_iconst hC (v := (nI 1)) dX8_bits_14 (by decide) rfl ?_
      refine v_iand hC dX8_bits_15 rfl ?_
      refine v_iadd hC dX8_bits_16 rfl ?_
      refine v_istore_n hC dX8_bits_17 rfl (by decide) [(1, .int (y1 + ((y0 >>> (y2 &&& 31)) &&& (nI 1)))), (0, .int y0), (2, .int y2)] rfl rfl ?_
      refine v_iinc hC dX8_bits_18 2 rfl (v := (y2 + (nI 1))) rfl (by decide) [(2, .int (y2 + (nI 1))), (1, .int (y1 + ((y0 >>> (y2 &&& 31)) &&& (nI 1)))), (0, .int y0)] rfl rfl ?_
      refine v_goto hC (tgt := 4) dX8_bits_21 (by decide) ?_
      exact v_sub [2, 1, 0] (lv' := [(0, .int y0), (1, .int (y1 + ((y0 >>> (y2 &&& 31)) &&& (nI 1)))), (2, .int (y2 + (nI 1)))]) rfl (ih _ _ _ h)
set_option maxHeartbeats 4000000 in
set_option maxRecDepth 100000 in
theorem mX8_bits (l : Launch) (g : va_G) (cy : Nat → ClassId)  (x0 : Int32) {res : Int32} (h : pX8_bits x0 = some res) : Met l yX8_bits wsX8_bits rmX8_bits (PW [.int x0] g cy []) (QRi res) 0 0 nF := by
  refine m_ofV (cc := cX8_bits) (nL := 3) (ret := (some .int)) (B := fun _ => True) RX8 rfl (by decide) rfl [(0, .int x0)] rfl (Nat.le_of_ble_eq_true rfl) (fun h => h) ?_
  intro p e s m args below meth c hC hr
  unfold pX8_bits at h
  refine v_iconst hC (v := (nI 0)) dX8_bits_0 (by decide) rfl ?_
  refine v_istore_n hC dX8_bits_1 rfl (by decide) [(1, .int (nI 0)), (0, .int x0)] rfl rfl ?_
  refine v_iconst hC (v := (nI 0)) dX8_bits_2 (by decide) rfl ?_
  refine v_istore_n hC dX8_bits_3 rfl (by decide) [(2, .int (nI 0)), (1, .int (nI 0)), (0, .int x0)] rfl rfl ?_
  exact v_sub [2, 1, 0] (lv' := [(0, .int x0), (1, .int (nI 0)), (2, .int (nI 0))]) rfl (bX8_bits_4 hC hr FU _ _ _ h)
def pX8_facesOf_32 (kk : (Nat → Int32) → Int32 → Int32 → Int32 → Option (Int32)) (r : Nat → Int32) (y1 : Int32) (y3 : Int32) (s0 : Int32) (s1 : Int32) : Option (Int32) := kk r y1 (s1 ||| s0) (y3 + (nI 1))
def pX8_facesOf_4 : Nat → (Nat → Int32) → Int32 → Int32 → Int32 → Option (Int32)
  | 0, _, _, _, _ => none
  | k + 1, r, y1, y2, y3 => if nb (nI 0) 164 = true then if (r (nI 0).toNatClampNeg) ≤ y3 then some y2 else (pX8_has y1 y3).bind fun v1 => if v1 = 0 then pX8_facesOf_32 (fun u0 u1 u2 u3 => pX8_facesOf_4 k u0 u1 u2 u3) r y1 y3 (nI 0) y2 else (pX8_of r y3 (nI 1)).bind fun v2 => pX8_facesOf_32 (fun u0 u1 u2 u3 => pX8_facesOf_4 k u0 u1 u2 u3) r y1 y3 ((nI 1) <<< (v2 &&& 31)) y2 else none
theorem pX8_facesOf_4_s {k : Nat} (r : Nat → Int32) (y1 : Int32) (y2 : Int32) (y3 : Int32) : pX8_facesOf_4 (k + 1) r y1 y2 y3 = if nb (nI 0) 164 = true then if (r (nI 0).toNatClampNeg) ≤ y3 then some y2 else (pX8_has y1 y3).bind fun v1 => if v1 = 0 then pX8_facesOf_32 (fun u0 u1 u2 u3 => pX8_facesOf_4 k u0 u1 u2 u3) r y1 y3 (nI 0) y2 else (pX8_of r y3 (nI 1)).bind fun v2 => pX8_facesOf_32 (fun u0 u1 u2 u3 => pX8_facesOf_4 k u0 u1 u2 u3) r y1 y3 ((nI 1) <<< (v2 &&& 31)) y2 else none := rfl
def pX8_facesOf (r : Nat → Int32) (x1 : Int32) : Option (Int32) := pX8_facesOf_4 FU r x1 (nI 0) (nI 0)
abbrev rmX8_facesOf : Room := { frames := 1, cells := 0, slots := 0, locals := 22 }
set_option maxHeartbeats 4000000 in
set_option maxRecDepth 100000 in
theorem bX8_facesOf_32 {p : Program} {l : Launch} {e : Env} {s : State} {m : MethodId} {args : Array Value} {below : List Frame} {meth : Method} {c : Code} {g : va_G} {cy : Nat → ClassId} (hC : CX p s m args meth c g cy 4 cX8_facesOf wsX8_facesOf RX8) (hr : meth.sig.returnType = (some .int)) {h0 : Nat} {res : Int32} : ∀ (r : Nat → Int32) (y1 : Int32) (y3 : Int32) (s0 : Int32) (s1 : Int32) {kk : (Nat → Int32) → Int32 → Int32 → Int32 → Option (Int32)} (hk : ∀ (r : Nat → Int32) (y1 : Int32) (y2 : Int32) (y3 : Int32), kk r y1 y2 y3 = some res → V p l e (headSpec wsX8_facesOf rmX8_facesOf).room s m args below meth c g 4 0 0 (MQ below (QRi res) args s 0 0 nF) nF (fun _ => True) [(h0, .inl (cy 0, 164, .inl r))] 4 [(0, .ref h0), (1, .int y1), (2, .int y2), (3, .int y3)] []) (h : pX8_facesOf_32 kk r y1 y3 s0 s1 = some res), V p l e (headSpec wsX8_facesOf rmX8_facesOf).room s m args below meth c g 4 0 0 (MQ below (QRi res) args s 0 0 nF) nF (fun _ => True) [(h0, .inl (cy 0, 164, .inl r))] 32 [(0, .ref h0), (1, .int y1), (3, .int y3)] [.int s0, .int s1] := by
  intro r y1 y3 s0 s1 kk hk h
  unfold pX8_facesOf_32 at h
  refine v_ior hC dX8_facesOf_32 rfl ?_
  refine v_istore_n hC dX8_facesOf_33 rfl (by decide) [(2, .int (s1 ||| s0)), (0, .ref h0), (1, .int y1), (3, .int y3)] rfl rfl ?_
  refine v_iinc hC dX8_facesOf_34 3 rfl (v := (y3 + (nI 1))) rfl (by decide) [(3, .int (y3 + (nI 1))), (2, .int (s1 ||| s0)), (0, .ref h0), (1, .int y1)] rfl rfl ?_
  refine v_goto hC (tgt := 4) dX8_facesOf_37 (by decide) ?_
  exact v_sub [2, 3, 1, 0] (lv' := [(0, .ref h0), (1, .int y1), (2, .int (s1 ||| s0)), (3, .int (y3 + (nI 1)))]) rfl (hk _ _ _ _ h)
set_option maxHeartbeats 4000000 in
set_option maxRecDepth 100000 in
theorem bX8_facesOf_4 {p : Program} {l : Launch} {e : Env} {s : State} {m : MethodId} {args : Array Value} {below : List Frame} {meth : Method} {c : Code} {g : va_G} {cy : Nat → ClassId} (hC : CX p s m args meth c g cy 4 cX8_facesOf wsX8_facesOf RX8) (hr : meth.sig.returnType = (some .int)) {h0 : Nat} {res : Int32} : ∀ (k : Nat) (r : Nat → Int32) (y1 : Int32) (y2 : Int32) (y3 : Int32) (h : pX8_facesOf_4 k r y1 y2 y3 = some res), V p l e (headSpec wsX8_facesOf rmX8_facesOf).room s m args below meth c g 4 0 0 (MQ below (QRi res) args s 0 0 nF) nF (fun _ => True) [(h0, .inl (cy 0, 164, .inl r))] 4 [(0, .ref h0), (1, .int y1), (2, .int y2), (3, .int y3)] [] := by
  intro k
  induction k with
  | zero =>
    intro r y1 y2 y3 h
    have h : (none : Option _) = some res := h
    cases h
  | succ k ih =>
    intro r y1 y2 y3 h
    rw [pX8_facesOf_4_s] at h
    refine v_iload_n hC dX8_facesOf_4 rfl 3 rfl rfl ?_
    refine v_aload_n hC dX8_facesOf_5 rfl 0 rfl rfl ?_
    refine v_iconst hC (v := (nI 0)) dX8_facesOf_6 (by decide) rfl ?_
    obtain ⟨hn, h⟩ := ite_g h
    refine v_iald hC 0 rfl hn dX8_facesOf_7 rfl ?_
    refine v_icmp_ge hC (tgt := 40) dX8_facesOf_8 (by decide) rfl (fun c => ?_) (fun c => ?_)
    · have h := ite_t c h
      refine v_iload_n hC dX8_facesOf_40 rfl 2 rfl rfl ?_
      obtain rfl := Option.some.inj h
      exact v_irt hC hr rfl rfl dX8_facesOf_41
    · have h := ite_f c h
      refine v_iload_n hC dX8_facesOf_11 rfl 2 rfl rfl ?_
      refine v_iload_n hC dX8_facesOf_12 rfl 1 rfl rfl ?_
      refine v_iload_n hC dX8_facesOf_13 rfl 3 rfl rfl ?_
      obtain ⟨v1, hv1, h⟩ := bind_g h
      refine v_callSri hC (n := 2) (st := [.int y2]) (mX8_has l g cy y1 y3 hv1) gX8_facesOf_X8_has rfl rfl rfl (by decide +kernel) ⟨Nat.le_of_ble_eq_true rfl, Nat.le_of_ble_eq_true rfl⟩ [] rfl rfl rfl rfl (Nat.le_of_ble_eq_true rfl) rfl ⟨Nat.zero_le _, Nat.zero_le _⟩ dX8_facesOf_14 rfl ?_
      refine v_if_eq hC (tgt := 31) dX8_facesOf_17 (by decide) rfl (fun c => ?_) (fun c => ?_)
      · have h := ite_t c h
        refine v_iconst hC (v := (nI 0)) dX8_facesOf_31 (by decide) rfl ?_
        exact v_sub [0, 1, 3] (lv' := [(0, .ref h0), (1, .int y1), (3, .int y3)]) rfl (bX8_facesOf_32 hC hr _ _ _ _ _ ih h)
      · have h := ite_f c h
        refine v_iconst hC (v := (nI 1)) dX8_facesOf_20 (by decide) rfl ?_
        refine v_aload_n hC dX8_facesOf_21 rfl 0 rfl rfl ?_
        refine v_iload_n hC dX8_facesOf_22 rfl 3 rfl rfl ?_
        refine v_iconst hC (v := (nI 1)) dX8_facesOf_23 (by decide) rfl ?_
        obtain ⟨v2, hv2, h⟩ := bind_g h
        refine v_callSri hC (n := 3) (st := [.int (nI 1), .int y2]) (mX8_of l g cy h0 r y3 (nI 1) hv2) gX8_facesOf_X8_of rfl rfl rfl (by decide +kernel) ⟨Nat.le_of_ble_eq_true rfl, Nat.le_of_ble_eq_true rfl⟩ [0] rfl rfl rfl rfl (Nat.le_of_ble_eq_true rfl) rfl ⟨Nat.zero_le _, Nat.zero_le _⟩ dX8_facesOf_24 rfl ?_
        refine v_ishl hC dX8_facesOf_27 rfl ?_
        refine v_goto hC (tgt := 32) dX8_facesOf_28 (by decide) ?_
        exact v_sub [0, 1, 3] (lv' := [(0, .ref h0), (1, .int y1), (3, .int y3)]) rfl (bX8_facesOf_32 hC hr _ _ _ _ _ ih h)
set_option maxHeartbeats 4000000 in
set_option maxRecDepth 100000 in
theorem mX8_facesOf (l : Launch) (g : va_G) (cy : Nat → ClassId) (h0 : Nat) (r : Nat → Int32) (x1 : Int32) {res : Int32} (h : pX8_facesOf r x1 = some res) : Met l yX8_facesOf wsX8_facesOf rmX8_facesOf (PW [.ref h0, .int x1] g cy [(h0, .inl (cy 0, 164, .inl r))]) (QRi res) 0 0 nF := by
  refine m_ofV (cc := cX8_facesOf) (nL := 4) (ret := (some .int)) (B := fun _ => True) RX8 rfl (by decide) rfl [(0, .ref h0), (1, .int x1)] rfl (Nat.le_of_ble_eq_true rfl) (fun h => h) ?_
  intro p e s m args below meth c hC hr
  unfold pX8_facesOf at h
  refine v_iconst hC (v := (nI 0)) dX8_facesOf_0 (by decide) rfl ?_
  refine v_istore_n hC dX8_facesOf_1 rfl (by decide) [(2, .int (nI 0)), (0, .ref h0), (1, .int x1)] rfl rfl ?_
  refine v_iconst hC (v := (nI 0)) dX8_facesOf_2 (by decide) rfl ?_
  refine v_istore_n hC dX8_facesOf_3 rfl (by decide) [(3, .int (nI 0)), (2, .int (nI 0)), (0, .ref h0), (1, .int x1)] rfl rfl ?_
  exact v_sub [2, 3, 1, 0] (lv' := [(0, .ref h0), (1, .int x1), (2, .int (nI 0)), (3, .int (nI 0))]) rfl (bX8_facesOf_4 hC hr FU _ _ _ _ h)
def pX8_seen_100 (kk : (Nat → Int32) → Int32 → Int32 → Int32 → Int32 → Option (Int32)) (r : Nat → Int32) (y1 : Int32) (y2 : Int32) (y4 : Int32) (s0 : Int32) (s1 : Int32) : Option (Int32) := kk r y1 y2 (s1 ||| s0) (y4 + (nI 1))
def pX8_seen_76 (kk : (Nat → Int32) → Int32 → Int32 → Int32 → Int32 → Option (Int32)) (r : Nat → Int32) (y1 : Int32) (y2 : Int32) (y3 : Int32) (y4 : Int32) (s0 : Int32) : Option (Int32) := if s0 = 0 then pX8_seen_100 kk r y1 y2 y4 (nI 0) y3 else (pX8_told r y4 (nI 6)).bind fun v1 => (pX8_facesOf r v1).bind fun v2 => pX8_seen_100 kk r y1 y2 y4 v2 y3
def pX8_seen_75 (kk : (Nat → Int32) → Int32 → Int32 → Int32 → Int32 → Option (Int32)) (r : Nat → Int32) (y1 : Int32) (y2 : Int32) (y3 : Int32) (y4 : Int32) : Option (Int32) := pX8_seen_76 kk r y1 y2 y3 y4 (nI 0)
def pX8_seen_67 (kk : (Nat → Int32) → Int32 → Int32 → Int32 → Int32 → Option (Int32)) (r : Nat → Int32) (y1 : Int32) (y2 : Int32) (y3 : Int32) (y4 : Int32) (s0 : Int32) : Option (Int32) := if s0 = y2 then pX8_seen_76 kk r y1 y2 y3 y4 (nI 1) else pX8_seen_75 kk r y1 y2 y3 y4
def pX8_seen_5 : Nat → (Nat → Int32) → Int32 → Int32 → Int32 → Int32 → Option (Int32)
  | 0, _, _, _, _, _ => none
  | k + 1, r, y1, y2, y3, y4 => if nb (nI 1) 164 = true then if (r (nI 1).toNatClampNeg) ≤ y4 then some y3 else if y4 = y1 then pX8_seen_75 (fun u0 u1 u2 u3 u4 => pX8_seen_5 k u0 u1 u2 u3 u4) r y1 y2 y3 y4 else (pX8_told r y4 (nI 5)).bind fun v1 => if v1 = (nI 1) then (pX8_told r y4 (nI 2)).bind fun v2 => (pX8_told r y1 (nI 2)).bind fun v3 => if v2 = v3 then (pX8_told r y4 (nI 3)).bind fun v4 => (pX8_told r y1 (nI 3)).bind fun v5 => if v4 = v5 then pX8_seen_67 (fun u0 u1 u2 u3 u4 => pX8_seen_5 k u0 u1 u2 u3 u4) r y1 y2 y3 y4 (nI 1) else pX8_seen_67 (fun u0 u1 u2 u3 u4 => pX8_seen_5 k u0 u1 u2 u3 u4) r y1 y2 y3 y4 (nI 0) else pX8_seen_75 (fun u0 u1 u2 u3 u4 => pX8_seen_5 k u0 u1 u2 u3 u4) r y1 y2 y3 y4 else pX8_seen_75 (fun u0 u1 u2 u3 u4 => pX8_seen_5 k u0 u1 u2 u3 u4) r y1 y2 y3 y4 else none
theorem pX8_seen_5_s {k : Nat} (r : Nat → Int32) (y1 : Int32) (y2 : Int32) (y3 : Int32) (y4 : Int32) : pX8_seen_5 (k + 1) r y1 y2 y3 y4 = if nb (nI 1) 164 = true then if (r (nI 1).toNatClampNeg) ≤ y4 then some y3 else if y4 = y1 then pX8_seen_75 (fun u0 u1 u2 u3 u4 => pX8_seen_5 k u0 u1 u2 u3 u4) r y1 y2 y3 y4 else (pX8_told r y4 (nI 5)).bind fun v1 => if v1 = (nI 1) then (pX8_told r y4 (nI 2)).bind fun v2 => (pX8_told r y1 (nI 2)).bind fun v3 => if v2 = v3 then (pX8_told r y4 (nI 3)).bind fun v4 => (pX8_told r y1 (nI 3)).bind fun v5 => if v4 = v5 then pX8_seen_67 (fun u0 u1 u2 u3 u4 => pX8_seen_5 k u0 u1 u2 u3 u4) r y1 y2 y3 y4 (nI 1) else pX8_seen_67 (fun u0 u1 u2 u3 u4 => pX8_seen_5 k u0 u1 u2 u3 u4) r y1 y2 y3 y4 (nI 0) else pX8_seen_75 (fun u0 u1 u2 u3 u4 => pX8_seen_5 k u0 u1 u2 u3 u4) r y1 y2 y3 y4 else pX8_seen_75 (fun u0 u1 u2 u3 u4 => pX8_seen_5 k u0 u1 u2 u3 u4) r y1 y2 y3 y4 else none := rfl
def pX8_seen (r : Nat → Int32) (x1 : Int32) (x2 : Int32) : Option (Int32) := pX8_seen_5 FU r x1 x2 (nI 0) (nI 0)
abbrev rmX8_seen : Room := { frames := 2, cells := 0, slots := 0, locals := 45 }
set_option maxHeartbeats 4000000 in
set_option maxRecDepth 100000 in
theorem bX8_seen_100 {p : Program} {l : Launch} {e : Env} {s : State} {m : MethodId} {args : Array Value} {below : List Frame} {meth : Method} {c : Code} {g : va_G} {cy : Nat → ClassId} (hC : CX p s m args meth c g cy 6 cX8_seen wsX8_seen RX8) (hr : meth.sig.returnType = (some .int)) {h0 : Nat} {res : Int32} : ∀ (r : Nat → Int32) (y1 : Int32) (y2 : Int32) (y4 : Int32) (s0 : Int32) (s1 : Int32) {kk : (Nat → Int32) → Int32 → Int32 → Int32 → Int32 → Option (Int32)} (hk : ∀ (r : Nat → Int32) (y1 : Int32) (y2 : Int32) (y3 : Int32) (y4 : Int32), kk r y1 y2 y3 y4 = some res → V p l e (headSpec wsX8_seen rmX8_seen).room s m args below meth c g 6 0 0 (MQ below (QRi res) args s 0 0 nF) nF (fun _ => True) [(h0, .inl (cy 0, 164, .inl r))] 5 [(0, .ref h0), (1, .int y1), (2, .int y2), (3, .int y3), (4, .int y4)] []) (h : pX8_seen_100 kk r y1 y2 y4 s0 s1 = some res), V p l e (headSpec wsX8_seen rmX8_seen).room s m args below meth c g 6 0 0 (MQ below (QRi res) args s 0 0 nF) nF (fun _ => True) [(h0, .inl (cy 0, 164, .inl r))] 100 [(0, .ref h0), (1, .int y1), (2, .int y2), (4, .int y4)] [.int s0, .int s1] := by
  intro r y1 y2 y4 s0 s1 kk hk h
  unfold pX8_seen_100 at h
  refine v_ior hC dX8_seen_100 rfl ?_
  refine v_istore_n hC dX8_seen_101 rfl (by decide) [(3, .int (s1 ||| s0)), (0, .ref h0), (1, .int y1), (2, .int y2), (4, .int y4)] rfl rfl ?_
  refine v_iinc hC dX8_seen_102 4 rfl (v := (y4 + (nI 1))) rfl (by decide) [(4, .int (y4 + (nI 1))), (3, .int (s1 ||| s0)), (0, .ref h0), (1, .int y1), (2, .int y2)] rfl rfl ?_
  refine v_goto hC (tgt := 5) dX8_seen_105 (by decide) ?_
  exact v_sub [2, 3, 4, 1, 0] (lv' := [(0, .ref h0), (1, .int y1), (2, .int y2), (3, .int (s1 ||| s0)), (4, .int (y4 + (nI 1)))]) rfl (hk _ _ _ _ _ h)
set_option maxHeartbeats 4000000 in
set_option maxRecDepth 100000 in
theorem bX8_seen_76 {p : Program} {l : Launch} {e : Env} {s : State} {m : MethodId} {args : Array Value} {below : List Frame} {meth : Method} {c : Code} {g : va_G} {cy : Nat → ClassId} (hC : CX p s m args meth c g cy 6 cX8_seen wsX8_seen RX8) (hr : meth.sig.returnType = (some .int)) {h0 : Nat} {res : Int32} : ∀ (r : Nat → Int32) (y1 : Int32) (y2 : Int32) (y3 : Int32) (y4 : Int32) (s0 : Int32) {kk : (Nat → Int32) → Int32 → Int32 → Int32 → Int32 → Option (Int32)} (hk : ∀ (r : Nat → Int32) (y1 : Int32) (y2 : Int32) (y3 : Int32) (y4 : Int32), kk r y1 y2 y3 y4 = some res → V p l e (headSpec wsX8_seen rmX8_seen).room s m args below meth c g 6 0 0 (MQ below (QRi res) args s 0 0 nF) nF (fun _ => True) [(h0, .inl (cy 0, 164, .inl r))] 5 [(0, .ref h0), (1, .int y1), (2, .int y2), (3, .int y3), (4, .int y4)] []) (h : pX8_seen_76 kk r y1 y2 y3 y4 s0 = some res), V p l e (headSpec wsX8_seen rmX8_seen).room s m args below meth c g 6 0 0 (MQ below (QRi res) args s 0 0 nF) nF (fun _ => True) [(h0, .inl (cy 0, 164, .inl r))] 76 [(0, .ref h0), (1, .int y1), (2, .int y2), (3, .int y3), (4, .int y4)] [.int s0] := by
  intro r y1 y2 y3 y4 s0 kk hk h
  unfold pX8_seen_76 at h
  refine v_istore hC dX8_seen_76 (by decide) [(5, .int s0), (0, .ref h0), (1, .int y1), (2, .int y2), (3, .int y3), (4, .int y4)] rfl rfl ?_
  refine v_iload_n hC dX8_seen_78 rfl 4 rfl rfl ?_
  refine v_iload hC dX8_seen_79 0 rfl rfl ?_
  refine v_if_eq hC (tgt := 99) dX8_seen_81 (by decide) rfl (fun c => ?_) (fun c => ?_)
  · have h := ite_t c h
    refine v_iconst hC (v := (nI 0)) dX8_seen_99 (by decide) rfl ?_
    exact v_sub [1, 2, 3, 5] (lv' := [(0, .ref h0), (1, .int y1), (2, .int y2), (4, .int y4)]) rfl (bX8_seen_100 hC hr _ _ _ _ _ _ hk h)
  · have h := ite_f c h
    refine v_aload_n hC dX8_seen_84 rfl 1 rfl rfl ?_
    refine v_aload_n hC dX8_seen_85 rfl 1 rfl rfl ?_
    refine v_iload hC dX8_seen_86 5 rfl rfl ?_
    refine v_bipush hC (v := (nI 6)) dX8_seen_88 (by decide) rfl ?_
    obtain ⟨v1, hv1, h⟩ := bind_g h
    refine v_callSri hC (n := 3) (st := [.ref h0, .int y3]) (mX8_told l g cy h0 r y4 (nI 6) hv1) gX8_seen_X8_told rfl rfl rfl (by decide +kernel) ⟨Nat.le_of_ble_eq_true rfl, Nat.le_of_ble_eq_true rfl⟩ [0] rfl rfl rfl rfl (Nat.le_of_ble_eq_true rfl) rfl ⟨Nat.zero_le _, Nat.zero_le _⟩ dX8_seen_90 rfl ?_
    obtain ⟨v2, hv2, h⟩ := bind_g h
    refine v_callSri hC (n := 2) (st := [.int y3]) (mX8_facesOf l g cy h0 r v1 hv2) gX8_seen_X8_facesOf rfl rfl rfl (by decide +kernel) ⟨Nat.le_of_ble_eq_true rfl, Nat.le_of_ble_eq_true rfl⟩ [0] rfl rfl rfl rfl (Nat.le_of_ble_eq_true rfl) rfl ⟨Nat.zero_le _, Nat.zero_le _⟩ dX8_seen_93 rfl ?_
    refine v_goto hC (tgt := 100) dX8_seen_96 (by decide) ?_
    exact v_sub [1, 2, 3, 5] (lv' := [(0, .ref h0), (1, .int y1), (2, .int y2), (4, .int y4)]) rfl (bX8_seen_100 hC hr _ _ _ _ _ _ hk h)
set_option maxHeartbeats 4000000 in
set_option maxRecDepth 100000 in
theorem bX8_seen_75 {p : Program} {l : Launch} {e : Env} {s : State} {m : MethodId} {args : Array Value} {below : List Frame} {meth : Method} {c : Code} {g : va_G} {cy : Nat → ClassId} (hC : CX p s m args meth c g cy 6 cX8_seen wsX8_seen RX8) (hr : meth.sig.returnType = (some .int)) {h0 : Nat} {res : Int32} : ∀ (r : Nat → Int32) (y1 : Int32) (y2 : Int32) (y3 : Int32) (y4 : Int32) {kk : (Nat → Int32) → Int32 → Int32 → Int32 → Int32 → Option (Int32)} (hk : ∀ (r : Nat → Int32) (y1 : Int32) (y2 : Int32) (y3 : Int32) (y4 : Int32), kk r y1 y2 y3 y4 = some res → V p l e (headSpec wsX8_seen rmX8_seen).room s m args below meth c g 6 0 0 (MQ below (QRi res) args s 0 0 nF) nF (fun _ => True) [(h0, .inl (cy 0, 164, .inl r))] 5 [(0, .ref h0), (1, .int y1), (2, .int y2), (3, .int y3), (4, .int y4)] []) (h : pX8_seen_75 kk r y1 y2 y3 y4 = some res), V p l e (headSpec wsX8_seen rmX8_seen).room s m args below meth c g 6 0 0 (MQ below (QRi res) args s 0 0 nF) nF (fun _ => True) [(h0, .inl (cy 0, 164, .inl r))] 75 [(0, .ref h0), (1, .int y1), (2, .int y2), (3, .int y3), (4, .int y4)] [] := by
  intro r y1 y2 y3 y4 kk hk h
  unfold pX8_seen_75 at h
  refine v_iconst hC (v := (nI 0)) dX8_seen_75 (by decide) rfl ?_
  exact bX8_seen_76 hC hr _ _ _ _ _ _ hk h
set_option maxHeartbeats 4000000 in
set_option maxRecDepth 100000 in
theorem bX8_seen_67 {p : Program} {l : Launch} {e : Env} {s : State} {m : MethodId} {args : Array Value} {below : List Frame} {meth : Method} {c : Code} {g : va_G} {cy : Nat → ClassId} (hC : CX p s m args meth c g cy 6 cX8_seen wsX8_seen RX8) (hr : meth.sig.returnType = (some .int)) {h0 : Nat} {res : Int32} : ∀ (r : Nat → Int32) (y1 : Int32) (y2 : Int32) (y3 : Int32) (y4 : Int32) (s0 : Int32) {kk : (Nat → Int32) → Int32 → Int32 → Int32 → Int32 → Option (Int32)} (hk : ∀ (r : Nat → Int32) (y1 : Int32) (y2 : Int32) (y3 : Int32) (y4 : Int32), kk r y1 y2 y3 y4 = some res → V p l e (headSpec wsX8_seen rmX8_seen).room s m args below meth c g 6 0 0 (MQ below (QRi res) args s 0 0 nF) nF (fun _ => True) [(h0, .inl (cy 0, 164, .inl r))] 5 [(0, .ref h0), (1, .int y1), (2, .int y2), (3, .int y3), (4, .int y4)] []) (h : pX8_seen_67 kk r y1 y2 y3 y4 s0 = some res), V p l e (headSpec wsX8_seen rmX8_seen).room s m args below meth c g 6 0 0 (MQ below (QRi res) args s 0 0 nF) nF (fun _ => True) [(h0, .inl (cy 0, 164, .inl r))] 67 [(0, .ref h0), (1, .int y1), (2, .int y2), (3, .int y3), (4, .int y4)] [.int s0] := by
  intro r y1 y2 y3 y4 s0 kk hk h
  unfold pX8_seen_67 at h
  refine v_iload_n hC dX8_seen_67 rfl 2 rfl rfl ?_
  refine v_icmp_ne hC (tgt := 75) dX8_seen_68 (by decide) rfl (fun c => ?_) (fun c => ?_)
  · have h := ite_f c h
    exact bX8_seen_75 hC hr _ _ _ _ _ hk h
  · have h := ite_t c h
    refine v_iconst hC (v := (nI 1)) dX8_seen_71 (by decide) rfl ?_
    refine v_goto hC (tgt := 76) dX8_seen_72 (by decide) ?_
    exact bX8_seen_76 hC hr _ _ _ _ _ _ hk h
set_option maxHeartbeats 4000000 in
set_option maxRecDepth 100000 in
theorem bX8_seen_5 {p : Program} {l : Launch} {e : Env} {s : State} {m : MethodId} {args : Array Value} {below : List Frame} {meth : Method} {c : Code} {g : va_G} {cy : Nat → ClassId} (hC : CX p s m args meth c g cy 6 cX8_seen wsX8_seen RX8) (hr : meth.sig.returnType = (some .int)) {h0 : Nat} {res : Int32} : ∀ (k : Nat) (r : Nat → Int32) (y1 : Int32) (y2 : Int32) (y3 : Int32) (y4 : Int32) (h : pX8_seen_5 k r y1 y2 y3 y4 = some res), V p l e (headSpec wsX8_seen rmX8_seen).room s m args below meth c g 6 0 0 (MQ below (QRi res) args s 0 0 nF) nF (fun _ => True) [(h0, .inl (cy 0, 164, .inl r))] 5 [(0, .ref h0), (1, .int y1), (2, .int y2), (3, .int y3), (4, .int y4)] [] := by
  intro k
  induction k with
  | zero =>
    intro r y1 y2 y3 y4 h
    have h : (none : Option _) = some res := h
    cases h
  | succ k ih =>
    intro r y1 y2 y3 y4 h
    rw [pX8_seen_5_s] at h
    refine v_iload hC dX8_seen_5 4 rfl rfl ?_
    refine v_aload_n hC dX8_seen_7 rfl 0 rfl rfl ?_
    refine v_iconst hC (v := (nI 1)) dX8_seen_8 (by decide) rfl ?_
    obtain ⟨hn, h⟩ := ite_g h
    refine v_iald hC 0 rfl hn dX8_seen_9 rfl ?_
    refine v_icmp_ge hC (tgt := 108) dX8_seen_10 (by decide) rfl (fun c => ?_) (fun c => ?_)
    · have h := ite_t c h
      refine v_iload_n hC dX8_seen_108 rfl 3 rfl rfl ?_
      obtain rfl := Option.some.inj h
      exact v_irt hC hr rfl rfl dX8_seen_109
    · have h := ite_f c h
      refine v_iload hC dX8_seen_13 4 rfl rfl ?_
      refine v_iload_n hC dX8_seen_15 rfl 1 rfl rfl ?_
      refine v_icmp_eq hC (tgt := 75) dX8_seen_16 (by decide) rfl (fun c => ?_) (fun c => ?_)
      · have h := ite_t c h
        exact bX8_seen_75 hC hr _ _ _ _ _ ih h
      · have h := ite_f c h
        refine v_aload_n hC dX8_seen_19 rfl 0 rfl rfl ?_
        refine v_iload hC dX8_seen_20 4 rfl rfl ?_
        refine v_iconst hC (v := (nI 5)) dX8_seen_22 (by decide) rfl ?_
        obtain ⟨v1, hv1, h⟩ := bind_g h
        refine v_callSri hC (n := 3) (st := []) (mX8_told l g cy h0 r y4 (nI 5) hv1) gX8_seen_X8_told rfl rfl rfl (by decide +kernel) ⟨Nat.le_of_ble_eq_true rfl, Nat.le_of_ble_eq_true rfl⟩ [0] rfl rfl rfl rfl (Nat.le_of_ble_eq_true rfl) rfl ⟨Nat.zero_le _, Nat.zero_le _⟩ dX8_seen_23 rfl ?_
        refine v_iconst hC (v := (nI 1)) dX8_seen_26 (by decide) rfl ?_
        refine v_icmp_ne hC (tgt := 75) dX8_seen_27 (by decide) rfl (fun c => ?_) (fun c => ?_)
        · have h := ite_f c h
          exact bX8_seen_75 hC hr _ _ _ _ _ ih h
        · have h := ite_t c h
          refine v_aload_n hC dX8_seen_30 rfl 0 rfl rfl ?_
          refine v_iload hC dX8_seen_31 4 rfl rfl ?_
          refine v_iconst hC (v := (nI 2)) dX8_seen_33 (by decide) rfl ?_
          obtain ⟨v2, hv2, h⟩ := bind_g h
          refine v_callSri hC (n := 3) (st := []) (mX8_told l g cy h0 r y4 (nI 2) hv2) gX8_seen_X8_told rfl rfl rfl (by decide +kernel) ⟨Nat.le_of_ble_eq_true rfl, Nat.le_of_ble_eq_true rfl⟩ [0] rfl rfl rfl rfl (Nat.le_of_ble_eq_true rfl) rfl ⟨Nat.zero_le _, Nat.zero_le _⟩ dX8_seen_34 rfl ?_
          refine v_aload_n hC dX8_seen_37 rfl 0 rfl rfl ?_
          refine v_iload_n hC dX8_seen_38 rfl 1 rfl rfl ?_
          refine v_iconst hC (v := (nI 2)) dX8_seen_39 (by decide) rfl ?_
          obtain ⟨v3, hv3, h⟩ := bind_g h
          refine v_callSri hC (n := 3) (st := [.int v2]) (mX8_told l g cy h0 r y1 (nI 2) hv3) gX8_seen_X8_told rfl rfl rfl (by decide +kernel) ⟨Nat.le_of_ble_eq_true rfl, Nat.le_of_ble_eq_true rfl⟩ [0] rfl rfl rfl rfl (Nat.le_of_ble_eq_true rfl) rfl ⟨Nat.zero_le _, Nat.zero_le _⟩ dX8_seen_40 rfl ?_
          refine v_icmp_ne hC (tgt := 75) dX8_seen_43 (by decide) rfl (fun c => ?_) (fun c => ?_)
          · have h := ite_f c h
            exact bX8_seen_75 hC hr _ _ _ _ _ ih h
          · have h := ite_t c h
            refine v_aload_n hC dX8_seen_46 rfl 0 rfl rfl ?_
            refine v_iload hC dX8_seen_47 4 rfl rfl ?_
            refine v_iconst hC (v := (nI 3)) dX8_seen_49 (by decide) rfl ?_
            obtain ⟨v4, hv4, h⟩ := bind_g h
            refine v_callSri hC (n := 3) (st := []) (mX8_told l g cy h0 r y4 (nI 3) hv4) gX8_seen_X8_told rfl rfl rfl (by decide +kernel) ⟨Nat.le_of_ble_eq_true rfl, Nat.le_of_ble_eq_true rfl⟩ [0] rfl rfl rfl rfl (Nat.le_of_ble_eq_true rfl) rfl ⟨Nat.zero_le _, Nat.zero_le _⟩ dX8_seen_50 rfl ?_
            refine v_aload_n hC dX8_seen_53 rfl 0 rfl rfl ?_
            refine v_iload_n hC dX8_seen_54 rfl 1 rfl rfl ?_
            refine v_iconst hC (v := (nI 3)) dX8_seen_55 (by decide) rfl ?_
            obtain ⟨v5, hv5, h⟩ := bind_g h
            refine v_callSri hC (n := 3) (st := [.int v4]) (mX8_told l g cy h0 r y1 (nI 3) hv5) gX8_seen_X8_told rfl rfl rfl (by decide +kernel) ⟨Nat.le_of_ble_eq_true rfl, Nat.le_of_ble_eq_true rfl⟩ [0] rfl rfl rfl rfl (Nat.le_of_ble_eq_true rfl) rfl ⟨Nat.zero_le _, Nat.zero_le _⟩ dX8_seen_56 rfl ?_
            refine v_icmp_ne hC (tgt := 66) dX8_seen_59 (by decide) rfl (fun c => ?_) (fun c => ?_)
            · have h := ite_f c h
              refine v_iconst hC (v := (nI 0)) dX8_seen_66 (by decide) rfl ?_
              exact bX8_seen_67 hC hr _ _ _ _ _ _ ih h
            · have h := ite_t c h
              refine v_iconst hC (v := (nI 1)) dX8_seen_62 (by decide) rfl ?_
              refine v_goto hC (tgt := 67) dX8_seen_63 (by decide) ?_
              exact bX8_seen_67 hC hr _ _ _ _ _ _ ih h
set_option maxHeartbeats 4000000 in
set_option maxRecDepth 100000 in
theorem mX8_seen (l : Launch) (g : va_G) (cy : Nat → ClassId) (h0 : Nat) (r : Nat → Int32) (x1 : Int32) (x2 : Int32) {res : Int32} (h : pX8_seen r x1 x2 = some res) : Met l yX8_seen wsX8_seen rmX8_seen (PW [.ref h0, .int x1, .int x2] g cy [(h0, .inl (cy 0, 164, .inl r))]) (QRi res) 0 0 nF := by
  refine m_ofV (cc := cX8_seen) (nL := 6) (ret := (some .int)) (B := fun _ => True) RX8 rfl (by decide) rfl [(0, .ref h0), (1, .int x1), (2, .int x2)] rfl (Nat.le_of_ble_eq_true rfl) (fun h => h) ?_
  intro p e s m args below meth c hC hr
  unfold pX8_seen at h
  refine v_iconst hC (v := (nI 0)) dX8_seen_0 (by decide) rfl ?_
  refine v_istore_n hC dX8_seen_1 rfl (by decide) [(3, .int (nI 0)), (0, .ref h0), (1, .int x1), (2, .int x2)] rfl rfl ?_
  refine v_iconst hC (v := (nI 0)) dX8_seen_2 (by decide) rfl ?_
  refine v_istore hC dX8_seen_3 (by decide) [(4, .int (nI 0)), (3, .int (nI 0)), (0, .ref h0), (1, .int x1), (2, .int x2)] rfl rfl ?_
  exact v_sub [2, 3, 4, 1, 0] (lv' := [(0, .ref h0), (1, .int x1), (2, .int x2), (3, .int (nI 0)), (4, .int (nI 0))]) rfl (bX8_seen_5 hC hr FU _ _ _ _ _ h)
def pX8_fits_20 (r : Nat → Int32) (s0 : Int32) : Option (Int32) := bz s0
def pX8_fits (r : Nat → Int32) (x1 : Int32) (x2 : Int32) : Option (Int32) := (pX8_of r x2 (nI 0)).bind fun v1 => (pX8_told r x1 (nI 0)).bind fun v2 => if v1 = v2 then pX8_fits_20 r (nI 1) else pX8_fits_20 r (nI 0)
abbrev rmX8_fits : Room := { frames := 1, cells := 0, slots := 0, locals := 22 }
set_option maxHeartbeats 4000000 in
set_option maxRecDepth 100000 in
theorem bX8_fits_20 {p : Program} {l : Launch} {e : Env} {s : State} {m : MethodId} {args : Array Value} {below : List Frame} {meth : Method} {c : Code} {g : va_G} {cy : Nat → ClassId} (hC : CX p s m args meth c g cy 3 cX8_fits wsX8_fits RX8) (hr : meth.sig.returnType = (some .boolean)) {h0 : Nat} {res : Int32} : ∀ (r : Nat → Int32) (s0 : Int32)(h : pX8_fits_20 r s0 = some res), V p l e (headSpec wsX8_fits rmX8_fits).room s m args below meth c g 3 0 0 (MQ below (QRi res) args s 0 0 nF) nF (fun _ => True) [(h0, .inl (cy 0, 164, .inl r))] 20 [] [.int s0] := by
  intro r s0 h
  unfold pX8_fits_20 at h
  obtain ⟨e9, hn⟩ := bz_g h
  exact v_irt hC hr hn e9 dX8_fits_20
set_option maxHeartbeats 4000000 in
set_option maxRecDepth 100000 in
theorem mX8_fits (l : Launch) (g : va_G) (cy : Nat → ClassId) (h0 : Nat) (r : Nat → Int32) (x1 : Int32) (x2 : Int32) {res : Int32} (h : pX8_fits r x1 x2 = some res) : Met l yX8_fits wsX8_fits rmX8_fits (PW [.ref h0, .int x1, .int x2] g cy [(h0, .inl (cy 0, 164, .inl r))]) (QRi res) 0 0 nF := by
  refine m_ofV (cc := cX8_fits) (nL := 3) (ret := (some .boolean)) (B := fun _ => True) RX8 rfl (by decide) rfl [(0, .ref h0), (1, .int x1), (2, .int x2)] rfl (Nat.le_of_ble_eq_true rfl) (fun h => h) ?_
  intro p e s m args below meth c hC hr
  unfold pX8_fits at h
  refine v_aload_n hC dX8_fits_0 rfl 0 rfl rfl ?_
  refine v_iload_n hC dX8_fits_1 rfl 2 rfl rfl ?_
  refine v_iconst hC (v := (nI 0)) dX8_fits_2 (by decide) rfl ?_
  obtain ⟨v1, hv1, h⟩ := bind_g h
  refine v_callSri hC (n := 3) (st := []) (mX8_of l g cy h0 r x2 (nI 0) hv1) gX8_fits_X8_of rfl rfl rfl (by decide +kernel) ⟨Nat.le_of_ble_eq_true rfl, Nat.le_of_ble_eq_true rfl⟩ [0] rfl rfl rfl rfl (Nat.le_of_ble_eq_true rfl) rfl ⟨Nat.zero_le _, Nat.zero_le _⟩ dX8_fits_3 rfl ?_
  refine v_aload_n hC dX8_fits_6 rfl 0 rfl rfl ?_
  refine v_iload_n hC dX8_fits_7 rfl 1 rfl rfl ?_
  refine v_iconst hC (v := (nI 0)) dX8_fits_8 (by decide) rfl ?_
  obtain ⟨v2, hv2, h⟩ := bind_g h
  refine v_callSri hC (n := 3) (st := [.int v1]) (mX8_told l g cy h0 r x1 (nI 0) hv2) gX8_fits_X8_told rfl rfl rfl (by decide +kernel) ⟨Nat.le_of_ble_eq_true rfl, Nat.le_of_ble_eq_true rfl⟩ [0] rfl rfl rfl rfl (Nat.le_of_ble_eq_true rfl) rfl ⟨Nat.zero_le _, Nat.zero_le _⟩ dX8_fits_9 rfl ?_
  refine v_icmp_ne hC (tgt := 19) dX8_fits_12 (by decide) rfl (fun c => ?_) (fun c => ?_)
  · have h := ite_f c h
    refine v_iconst hC (v := (nI 0)) dX8_fits_19 (by decide) rfl ?_
    exact v_sub [] (lv' := []) rfl (bX8_fits_20 hC hr _ _ h)
  · have h := ite_t c h
    refine v_iconst hC (v := (nI 1)) dX8_fits_15 (by decide) rfl ?_
    refine v_goto hC (tgt := 20) dX8_fits_16 (by decide) ?_
    exact v_sub [] (lv' := []) rfl (bX8_fits_20 hC hr _ _ h)
def pX8_hasTime_25 (r : Nat → Int32) (s0 : Int32) : Option (Int32) := bz s0
def pX8_hasTime (r : Nat → Int32) (x1 : Int32) (x2 : Int32) : Option (Int32) := (pX8_of r x2 (nI 2)).bind fun v1 => (pX8_told r x1 (nI 4)).bind fun v2 => if nb (nI 7) 164 = true then if (r (nI 7).toNatClampNeg) < (v1 + v2) then pX8_hasTime_25 r (nI 0) else pX8_hasTime_25 r (nI 1) else none
abbrev rmX8_hasTime : Room := { frames := 1, cells := 0, slots := 0, locals := 22 }
set_option maxHeartbeats 4000000 in
set_option maxRecDepth 100000 in
theorem bX8_hasTime_25 {p : Program} {l : Launch} {e : Env} {s : State} {m : MethodId} {args : Array Value} {below : List Frame} {meth : Method} {c : Code} {g : va_G} {cy : Nat → ClassId} (hC : CX p s m args meth c g cy 3 cX8_hasTime wsX8_hasTime RX8) (hr : meth.sig.returnType = (some .boolean)) {h0 : Nat} {res : Int32} : ∀ (r : Nat → Int32) (s0 : Int32)(h : pX8_hasTime_25 r s0 = some res), V p l e (headSpec wsX8_hasTime rmX8_hasTime).room s m args below meth c g 3 0 0 (MQ below (QRi res) args s 0 0 nF) nF (fun _ => True) [(h0, .inl (cy 0, 164, .inl r))] 25 [] [.int s0] := by
  intro r s0 h
  unfold pX8_hasTime_25 at h
  obtain ⟨e9, hn⟩ := bz_g h
  exact v_irt hC hr hn e9 dX8_hasTime_25
set_option maxHeartbeats 4000000 in
set_option maxRecDepth 100000 in
theorem mX8_hasTime (l : Launch) (g : va_G) (cy : Nat → ClassId) (h0 : Nat) (r : Nat → Int32) (x1 : Int32) (x2 : Int32) {res : Int32} (h : pX8_hasTime r x1 x2 = some res) : Met l yX8_hasTime wsX8_hasTime rmX8_hasTime (PW [.ref h0, .int x1, .int x2] g cy [(h0, .inl (cy 0, 164, .inl r))]) (QRi res) 0 0 nF := by
  refine m_ofV (cc := cX8_hasTime) (nL := 3) (ret := (some .boolean)) (B := fun _ => True) RX8 rfl (by decide) rfl [(0, .ref h0), (1, .int x1), (2, .int x2)] rfl (Nat.le_of_ble_eq_true rfl) (fun h => h) ?_
  intro p e s m args below meth c hC hr
  unfold pX8_hasTime at h
  refine v_aload_n hC dX8_hasTime_0 rfl 0 rfl rfl ?_
  refine v_iload_n hC dX8_hasTime_1 rfl 2 rfl rfl ?_
  refine v_iconst hC (v := (nI 2)) dX8_hasTime_2 (by decide) rfl ?_
  obtain ⟨v1, hv1, h⟩ := bind_g h
  refine v_callSri hC (n := 3) (st := []) (mX8_of l g cy h0 r x2 (nI 2) hv1) gX8_hasTime_X8_of rfl rfl rfl (by decide +kernel) ⟨Nat.le_of_ble_eq_true rfl, Nat.le_of_ble_eq_true rfl⟩ [0] rfl rfl rfl rfl (Nat.le_of_ble_eq_true rfl) rfl ⟨Nat.zero_le _, Nat.zero_le _⟩ dX8_hasTime_3 rfl ?_
  refine v_aload_n hC dX8_hasTime_6 rfl 0 rfl rfl ?_
  refine v_iload_n hC dX8_hasTime_7 rfl 1 rfl rfl ?_
  refine v_iconst hC (v := (nI 4)) dX8_hasTime_8 (by decide) rfl ?_
  obtain ⟨v2, hv2, h⟩ := bind_g h
  refine v_callSri hC (n := 3) (st := [.int v1]) (mX8_told l g cy h0 r x1 (nI 4) hv2) gX8_hasTime_X8_told rfl rfl rfl (by decide +kernel) ⟨Nat.le_of_ble_eq_true rfl, Nat.le_of_ble_eq_true rfl⟩ [0] rfl rfl rfl rfl (Nat.le_of_ble_eq_true rfl) rfl ⟨Nat.zero_le _, Nat.zero_le _⟩ dX8_hasTime_9 rfl ?_
  refine v_iadd hC dX8_hasTime_12 rfl ?_
  refine v_aload_n hC dX8_hasTime_13 rfl 0 rfl rfl ?_
  refine v_bipush hC (v := (nI 7)) dX8_hasTime_14 (by decide) rfl ?_
  obtain ⟨hn, h⟩ := ite_g h
  refine v_iald hC 0 rfl hn dX8_hasTime_16 rfl ?_
  refine v_icmp_gt hC (tgt := 24) dX8_hasTime_17 (by decide) rfl (fun c => ?_) (fun c => ?_)
  · have h := ite_t c h
    refine v_iconst hC (v := (nI 0)) dX8_hasTime_24 (by decide) rfl ?_
    exact v_sub [] (lv' := []) rfl (bX8_hasTime_25 hC hr _ _ h)
  · have h := ite_f c h
    refine v_iconst hC (v := (nI 1)) dX8_hasTime_20 (by decide) rfl ?_
    refine v_goto hC (tgt := 25) dX8_hasTime_21 (by decide) ?_
    exact v_sub [] (lv' := []) rfl (bX8_hasTime_25 hC hr _ _ h)
def pX8_isFree_23 (r : Nat → Int32) (s0 : Int32) : Option (Int32) := bz s0
def pX8_isFree_22 (r : Nat → Int32) : Option (Int32) := pX8_isFree_23 r (nI 0)
def pX8_isFree (r : Nat → Int32) (x1 : Int32) (x2 : Int32) : Option (Int32) := (pX8_fits r x1 x2).bind fun v1 => if v1 = 0 then pX8_isFree_22 r else (pX8_hasTime r x1 x2).bind fun v2 => if v2 = 0 then pX8_isFree_22 r else pX8_isFree_23 r (nI 1)
abbrev rmX8_isFree : Room := { frames := 2, cells := 0, slots := 0, locals := 44 }
set_option maxHeartbeats 4000000 in
set_option maxRecDepth 100000 in
theorem bX8_isFree_23 {p : Program} {l : Launch} {e : Env} {s : State} {m : MethodId} {args : Array Value} {below : List Frame} {meth : Method} {c : Code} {g : va_G} {cy : Nat → ClassId} (hC : CX p s m args meth c g cy 3 cX8_isFree wsX8_isFree RX8) (hr : meth.sig.returnType = (some .boolean)) {h0 : Nat} {res : Int32} : ∀ (r : Nat → Int32) (s0 : Int32)(h : pX8_isFree_23 r s0 = some res), V p l e (headSpec wsX8_isFree rmX8_isFree).room s m args below meth c g 3 0 0 (MQ below (QRi res) args s 0 0 nF) nF (fun _ => True) [(h0, .inl (cy 0, 164, .inl r))] 23 [] [.int s0] := by
  intro r s0 h
  unfold pX8_isFree_23 at h
  obtain ⟨e9, hn⟩ := bz_g h
  exact v_irt hC hr hn e9 dX8_isFree_23
set_option maxHeartbeats 4000000 in
set_option maxRecDepth 100000 in
theorem bX8_isFree_22 {p : Program} {l : Launch} {e : Env} {s : State} {m : MethodId} {args : Array Value} {below : List Frame} {meth : Method} {c : Code} {g : va_G} {cy : Nat → ClassId} (hC : CX p s m args meth c g cy 3 cX8_isFree wsX8_isFree RX8) (hr : meth.sig.returnType = (some .boolean)) {h0 : Nat} {res : Int32} : ∀ (r : Nat → Int32) (h : pX8_isFree_22 r = some res), V p l e (headSpec wsX8_isFree rmX8_isFree).room s m args below meth c g 3 0 0 (MQ below (QRi res) args s 0 0 nF) nF (fun _ => True) [(h0, .inl (cy 0, 164, .inl r))] 22 [] [] := by
  intro r  h
  unfold pX8_isFree_22 at h
  refine v_iconst hC (v := (nI 0)) dX8_isFree_22 (by decide) rfl ?_
  exact bX8_isFree_23 hC hr _ _ h
set_option maxHeartbeats 4000000 in
set_option maxRecDepth 100000 in
theorem mX8_isFree (l : Launch) (g : va_G) (cy : Nat → ClassId) (h0 : Nat) (r : Nat → Int32) (x1 : Int32) (x2 : Int32) {res : Int32} (h : pX8_isFree r x1 x2 = some res) : Met l yX8_isFree wsX8_isFree rmX8_isFree (PW [.ref h0, .int x1, .int x2] g cy [(h0, .inl (cy 0, 164, .inl r))]) (QRi res) 0 0 nF := by
  refine m_ofV (cc := cX8_isFree) (nL := 3) (ret := (some .boolean)) (B := fun _ => True) RX8 rfl (by decide) rfl [(0, .ref h0), (1, .int x1), (2, .int x2)] rfl (Nat.le_of_ble_eq_true rfl) (fun h => h) ?_
  intro p e s m args below meth c hC hr
  unfold pX8_isFree at h
  refine v_aload_n hC dX8_isFree_0 rfl 0 rfl rfl ?_
  refine v_iload_n hC dX8_isFree_1 rfl 1 rfl rfl ?_
  refine v_iload_n hC dX8_isFree_2 rfl 2 rfl rfl ?_
  obtain ⟨v1, hv1, h⟩ := bind_g h
  refine v_callSri hC (n := 3) (st := []) (mX8_fits l g cy h0 r x1 x2 hv1) gX8_isFree_X8_fits rfl rfl rfl (by decide +kernel) ⟨Nat.le_of_ble_eq_true rfl, Nat.le_of_ble_eq_true rfl⟩ [0] rfl rfl rfl rfl (Nat.le_of_ble_eq_true rfl) rfl ⟨Nat.zero_le _, Nat.zero_le _⟩ dX8_isFree_3 rfl ?_
  refine v_if_eq hC (tgt := 22) dX8_isFree_6 (by decide) rfl (fun c => ?_) (fun c => ?_)
  · have h := ite_t c h
    exact v_sub [] (lv' := []) rfl (bX8_isFree_22 hC hr _ h)
  · have h := ite_f c h
    refine v_aload_n hC dX8_isFree_9 rfl 0 rfl rfl ?_
    refine v_iload_n hC dX8_isFree_10 rfl 1 rfl rfl ?_
    refine v_iload_n hC dX8_isFree_11 rfl 2 rfl rfl ?_
    obtain ⟨v2, hv2, h⟩ := bind_g h
    refine v_callSri hC (n := 3) (st := []) (mX8_hasTime l g cy h0 r x1 x2 hv2) gX8_isFree_X8_hasTime rfl rfl rfl (by decide +kernel) ⟨Nat.le_of_ble_eq_true rfl, Nat.le_of_ble_eq_true rfl⟩ [0] rfl rfl rfl rfl (Nat.le_of_ble_eq_true rfl) rfl ⟨Nat.zero_le _, Nat.zero_le _⟩ dX8_isFree_12 rfl ?_
    refine v_if_eq hC (tgt := 22) dX8_isFree_15 (by decide) rfl (fun c => ?_) (fun c => ?_)
    · have h := ite_t c h
      exact v_sub [] (lv' := []) rfl (bX8_isFree_22 hC hr _ h)
    · have h := ite_f c h
      refine v_iconst hC (v := (nI 1)) dX8_isFree_18 (by decide) rfl ?_
      refine v_goto hC (tgt := 23) dX8_isFree_19 (by decide) ?_
      exact v_sub [] (lv' := []) rfl (bX8_isFree_23 hC hr _ _ h)
def pX8_lowestWith_30 (kk : (Nat → Int32) → Int32 → Int32 → Int32 → Option (Int32)) (r : Nat → Int32) (y1 : Int32) (y2 : Int32) (y3 : Int32) : Option (Int32) := kk r y1 y2 (y3 + (nI 1))
def pX8_lowestWith_2 : Nat → (Nat → Int32) → Int32 → Int32 → Int32 → Option (Int32)
  | 0, _, _, _, _ => none
  | k + 1, r, y1, y2, y3 => if nb (nI 0) 164 = true then if (r (nI 0).toNatClampNeg) ≤ y3 then some (-1) else (pX8_of r y3 (nI 1)).bind fun v1 => if v1 = y2 then (pX8_isFree r y1 y3).bind fun v2 => if v2 = 0 then pX8_lowestWith_30 (fun u0 u1 u2 u3 => pX8_lowestWith_2 k u0 u1 u2 u3) r y1 y2 y3 else some y3 else pX8_lowestWith_30 (fun u0 u1 u2 u3 => pX8_lowestWith_2 k u0 u1 u2 u3) r y1 y2 y3 else none
theorem pX8_lowestWith_2_s {k : Nat} (r : Nat → Int32) (y1 : Int32) (y2 : Int32) (y3 : Int32) : pX8_lowestWith_2 (k + 1) r y1 y2 y3 = if nb (nI 0) 164 = true then if (r (nI 0).toNatClampNeg) ≤ y3 then some (-1) else (pX8_of r y3 (nI 1)).bind fun v1 => if v1 = y2 then (pX8_isFree r y1 y3).bind fun v2 => if v2 = 0 then pX8_lowestWith_30 (fun u0 u1 u2 u3 => pX8_lowestWith_2 k u0 u1 u2 u3) r y1 y2 y3 else some y3 else pX8_lowestWith_30 (fun u0 u1 u2 u3 => pX8_lowestWith_2 k u0 u1 u2 u3) r y1 y2 y3 else none := rfl
def pX8_lowestWith (r : Nat → Int32) (x1 : Int32) (x2 : Int32) : Option (Int32) := pX8_lowestWith_2 FU r x1 x2 (nI 0)
abbrev rmX8_lowestWith : Room := { frames := 3, cells := 0, slots := 0, locals := 66 }
set_option maxHeartbeats 4000000 in
set_option maxRecDepth 100000 in
theorem bX8_lowestWith_30 {p : Program} {l : Launch} {e : Env} {s : State} {m : MethodId} {args : Array Value} {below : List Frame} {meth : Method} {c : Code} {g : va_G} {cy : Nat → ClassId} (hC : CX p s m args meth c g cy 4 cX8_lowestWith wsX8_lowestWith RX8) (hr : meth.sig.returnType = (some .int)) {h0 : Nat} {res : Int32} : ∀ (r : Nat → Int32) (y1 : Int32) (y2 : Int32) (y3 : Int32) {kk : (Nat → Int32) → Int32 → Int32 → Int32 → Option (Int32)} (hk : ∀ (r : Nat → Int32) (y1 : Int32) (y2 : Int32) (y3 : Int32), kk r y1 y2 y3 = some res → V p l e (headSpec wsX8_lowestWith rmX8_lowestWith).room s m args below meth c g 4 0 0 (MQ below (QRi res) args s 0 0 nF) nF (fun _ => True) [(h0, .inl (cy 0, 164, .inl r))] 2 [(0, .ref h0), (1, .int y1), (2, .int y2), (3, .int y3)] []) (h : pX8_lowestWith_30 kk r y1 y2 y3 = some res), V p l e (headSpec wsX8_lowestWith rmX8_lowestWith).room s m args below meth c g 4 0 0 (MQ below (QRi res) args s 0 0 nF) nF (fun _ => True) [(h0, .inl (cy 0, 164, .inl r))] 30 [(0, .ref h0), (1, .int y1), (2, .int y2), (3, .int y3)] [] := by
  intro r y1 y2 y3 kk hk h
  unfold pX8_lowestWith_30 at h
  refine v_iinc hC dX8_lowestWith_30 3 rfl (v := (y3 + (nI 1))) rfl (by decide) [(3, .int (y3 + (nI 1))), (0, .ref h0), (1, .int y1), (2, .int y2)] rfl rfl ?_
  refine v_goto hC (tgt := 2) dX8_lowestWith_33 (by decide) ?_
  exact v_sub [1, 2, 3, 0] (lv' := [(0, .ref h0), (1, .int y1), (2, .int y2), (3, .int (y3 + (nI 1)))]) rfl (hk _ _ _ _ h)
set_option maxHeartbeats 4000000 in
set_option maxRecDepth 100000 in
theorem bX8_lowestWith_2 {p : Program} {l : Launch} {e : Env} {s : State} {m : MethodId} {args : Array Value} {below : List Frame} {meth : Method} {c : Code} {g : va_G} {cy : Nat → ClassId} (hC : CX p s m args meth c g cy 4 cX8_lowestWith wsX8_lowestWith RX8) (hr : meth.sig.returnType = (some .int)) {h0 : Nat} {res : Int32} : ∀ (k : Nat) (r : Nat → Int32) (y1 : Int32) (y2 : Int32) (y3 : Int32) (h : pX8_lowestWith_2 k r y1 y2 y3 = some res), V p l e (headSpec wsX8_lowestWith rmX8_lowestWith).room s m args below meth c g 4 0 0 (MQ below (QRi res) args s 0 0 nF) nF (fun _ => True) [(h0, .inl (cy 0, 164, .inl r))] 2 [(0, .ref h0), (1, .int y1), (2, .int y2), (3, .int y3)] [] := by
  intro k
  induction k with
  | zero =>
    intro r y1 y2 y3 h
    have h : (none : Option _) = some res := h
    cases h
  | succ k ih =>
    intro r y1 y2 y3 h
    rw [pX8_lowestWith_2_s] at h
    refine v_iload_n hC dX8_lowestWith_2 rfl 3 rfl rfl ?_
    refine v_aload_n hC dX8_lowestWith_3 rfl 0 rfl rfl ?_
    refine v_iconst hC (v := (nI 0)) dX8_lowestWith_4 (by decide) rfl ?_
    obtain ⟨hn, h⟩ := ite_g h
    refine v_iald hC 0 rfl hn dX8_lowestWith_5 rfl ?_
    refine v_icmp_ge hC (tgt := 36) dX8_lowestWith_6 (by decide) rfl (fun c => ?_) (fun c => ?_)
    · have h := ite_t c h
      refine v_iconst hC (v := (-1)) dX8_lowestWith_36 (by decide) rfl ?_
      obtain rfl := Option.some.inj h
      exact v_irt hC hr rfl rfl dX8_lowestWith_37
    · have h := ite_f c h
      refine v_aload_n hC dX8_lowestWith_9 rfl 0 rfl rfl ?_
      refine v_iload_n hC dX8_lowestWith_10 rfl 3 rfl rfl ?_
      refine v_iconst hC (v := (nI 1)) dX8_lowestWith_11 (by decide) rfl ?_
      obtain ⟨v1, hv1, h⟩ := bind_g h
      refine v_callSri hC (n := 3) (st := []) (mX8_of l g cy h0 r y3 (nI 1) hv1) gX8_lowestWith_X8_of rfl rfl rfl (by decide +kernel) ⟨Nat.le_of_ble_eq_true rfl, Nat.le_of_ble_eq_true rfl⟩ [0] rfl rfl rfl rfl (Nat.le_of_ble_eq_true rfl) rfl ⟨Nat.zero_le _, Nat.zero_le _⟩ dX8_lowestWith_12 rfl ?_
      refine v_iload_n hC dX8_lowestWith_15 rfl 2 rfl rfl ?_
      refine v_icmp_ne hC (tgt := 30) dX8_lowestWith_16 (by decide) rfl (fun c => ?_) (fun c => ?_)
      · have h := ite_f c h
        exact bX8_lowestWith_30 hC hr _ _ _ _ ih h
      · have h := ite_t c h
        refine v_aload_n hC dX8_lowestWith_19 rfl 0 rfl rfl ?_
        refine v_iload_n hC dX8_lowestWith_20 rfl 1 rfl rfl ?_
        refine v_iload_n hC dX8_lowestWith_21 rfl 3 rfl rfl ?_
        obtain ⟨v2, hv2, h⟩ := bind_g h
        refine v_callSri hC (n := 3) (st := []) (mX8_isFree l g cy h0 r y1 y3 hv2) gX8_lowestWith_X8_isFree rfl rfl rfl (by decide +kernel) ⟨Nat.le_of_ble_eq_true rfl, Nat.le_of_ble_eq_true rfl⟩ [0] rfl rfl rfl rfl (Nat.le_of_ble_eq_true rfl) rfl ⟨Nat.zero_le _, Nat.zero_le _⟩ dX8_lowestWith_22 rfl ?_
        refine v_if_eq hC (tgt := 30) dX8_lowestWith_25 (by decide) rfl (fun c => ?_) (fun c => ?_)
        · have h := ite_t c h
          exact bX8_lowestWith_30 hC hr _ _ _ _ ih h
        · have h := ite_f c h
          refine v_iload_n hC dX8_lowestWith_28 rfl 3 rfl rfl ?_
          obtain rfl := Option.some.inj h
          exact v_irt hC hr rfl rfl dX8_lowestWith_29
set_option maxHeartbeats 4000000 in
set_option maxRecDepth 100000 in
theorem mX8_lowestWith (l : Launch) (g : va_G) (cy : Nat → ClassId) (h0 : Nat) (r : Nat → Int32) (x1 : Int32) (x2 : Int32) {res : Int32} (h : pX8_lowestWith r x1 x2 = some res) : Met l yX8_lowestWith wsX8_lowestWith rmX8_lowestWith (PW [.ref h0, .int x1, .int x2] g cy [(h0, .inl (cy 0, 164, .inl r))]) (QRi res) 0 0 nF := by
  refine m_ofV (cc := cX8_lowestWith) (nL := 4) (ret := (some .int)) (B := fun _ => True) RX8 rfl (by decide) rfl [(0, .ref h0), (1, .int x1), (2, .int x2)] rfl (Nat.le_of_ble_eq_true rfl) (fun h => h) ?_
  intro p e s m args below meth c hC hr
  unfold pX8_lowestWith at h
  refine v_iconst hC (v := (nI 0)) dX8_lowestWith_0 (by decide) rfl ?_
  refine v_istore_n hC dX8_lowestWith_1 rfl (by decide) [(3, .int (nI 0)), (0, .ref h0), (1, .int x1), (2, .int x2)] rfl rfl ?_
  exact v_sub [1, 2, 3, 0] (lv' := [(0, .ref h0), (1, .int x1), (2, .int x2), (3, .int (nI 0))]) rfl (bX8_lowestWith_2 hC hr FU _ _ _ _ h)
def pX8_freshest_76 (kk : (Nat → Int32) → Int32 → Int32 → Int32 → Int32 → Option (Int32)) (r : Nat → Int32) (y1 : Int32) (y2 : Int32) (y4 : Int32) (s0 : Int32) : Option (Int32) := kk r y1 y2 s0 (y4 + (nI 1))
def pX8_freshest_70 (kk : (Nat → Int32) → Int32 → Int32 → Int32 → Int32 → Option (Int32)) (r : Nat → Int32) (y1 : Int32) (y2 : Int32) (y4 : Int32) : Option (Int32) := pX8_freshest_76 kk r y1 y2 y4 y4
def pX8_freshest_75 (kk : (Nat → Int32) → Int32 → Int32 → Int32 → Int32 → Option (Int32)) (r : Nat → Int32) (y1 : Int32) (y2 : Int32) (y3 : Int32) (y4 : Int32) : Option (Int32) := pX8_freshest_76 kk r y1 y2 y4 y3
def pX8_freshest_42 (kk : (Nat → Int32) → Int32 → Int32 → Int32 → Int32 → Option (Int32)) (r : Nat → Int32) (y1 : Int32) (y2 : Int32) (y3 : Int32) (y4 : Int32) (s0 : Int32) : Option (Int32) := if s0 = 0 then pX8_freshest_75 kk r y1 y2 y3 y4 else if y3 = (-1) then pX8_freshest_70 kk r y1 y2 y4 else (pX8_of r y4 (nI 2)).bind fun v1 => (pX8_of r y3 (nI 2)).bind fun v2 => if v2 ≤ v1 then pX8_freshest_75 kk r y1 y2 y3 y4 else pX8_freshest_70 kk r y1 y2 y4
def pX8_freshest_41 (kk : (Nat → Int32) → Int32 → Int32 → Int32 → Int32 → Option (Int32)) (r : Nat → Int32) (y1 : Int32) (y2 : Int32) (y3 : Int32) (y4 : Int32) : Option (Int32) := pX8_freshest_42 kk r y1 y2 y3 y4 (nI 0)
def pX8_freshest_5 : Nat → (Nat → Int32) → Int32 → Int32 → Int32 → Int32 → Option (Int32)
  | 0, _, _, _, _, _ => none
  | k + 1, r, y1, y2, y3, y4 => if nb (nI 0) 164 = true then if (r (nI 0).toNatClampNeg) ≤ y4 then some y3 else (pX8_isFree r y1 y4).bind fun v1 => if v1 = 0 then pX8_freshest_41 (fun u0 u1 u2 u3 u4 => pX8_freshest_5 k u0 u1 u2 u3 u4) r y1 y2 y3 y4 else (pX8_of r y4 (nI 1)).bind fun v2 => (pX8_has y2 v2).bind fun v3 => if v3 = 0 then pX8_freshest_42 (fun u0 u1 u2 u3 u4 => pX8_freshest_5 k u0 u1 u2 u3 u4) r y1 y2 y3 y4 (nI 1) else pX8_freshest_41 (fun u0 u1 u2 u3 u4 => pX8_freshest_5 k u0 u1 u2 u3 u4) r y1 y2 y3 y4 else none
theorem pX8_freshest_5_s {k : Nat} (r : Nat → Int32) (y1 : Int32) (y2 : Int32) (y3 : Int32) (y4 : Int32) : pX8_freshest_5 (k + 1) r y1 y2 y3 y4 = if nb (nI 0) 164 = true then if (r (nI 0).toNatClampNeg) ≤ y4 then some y3 else (pX8_isFree r y1 y4).bind fun v1 => if v1 = 0 then pX8_freshest_41 (fun u0 u1 u2 u3 u4 => pX8_freshest_5 k u0 u1 u2 u3 u4) r y1 y2 y3 y4 else (pX8_of r y4 (nI 1)).bind fun v2 => (pX8_has y2 v2).bind fun v3 => if v3 = 0 then pX8_freshest_42 (fun u0 u1 u2 u3 u4 => pX8_freshest_5 k u0 u1 u2 u3 u4) r y1 y2 y3 y4 (nI 1) else pX8_freshest_41 (fun u0 u1 u2 u3 u4 => pX8_freshest_5 k u0 u1 u2 u3 u4) r y1 y2 y3 y4 else none := rfl
def pX8_freshest (r : Nat → Int32) (x1 : Int32) (x2 : Int32) : Option (Int32) := pX8_freshest_5 FU r x1 x2 (-1) (nI 0)
abbrev rmX8_freshest : Room := { frames := 3, cells := 0, slots := 0, locals := 66 }
set_option maxHeartbeats 4000000 in
set_option maxRecDepth 100000 in
theorem bX8_freshest_76 {p : Program} {l : Launch} {e : Env} {s : State} {m : MethodId} {args : Array Value} {below : List Frame} {meth : Method} {c : Code} {g : va_G} {cy : Nat → ClassId} (hC : CX p s m args meth c g cy 6 cX8_freshest wsX8_freshest RX8) (hr : meth.sig.returnType = (some .int)) {h0 : Nat} {res : Int32} : ∀ (r : Nat → Int32) (y1 : Int32) (y2 : Int32) (y4 : Int32) (s0 : Int32) {kk : (Nat → Int32) → Int32 → Int32 → Int32 → Int32 → Option (Int32)} (hk : ∀ (r : Nat → Int32) (y1 : Int32) (y2 : Int32) (y3 : Int32) (y4 : Int32), kk r y1 y2 y3 y4 = some res → V p l e (headSpec wsX8_freshest rmX8_freshest).room s m args below meth c g 6 0 0 (MQ below (QRi res) args s 0 0 nF) nF (fun _ => True) [(h0, .inl (cy 0, 164, .inl r))] 5 [(0, .ref h0), (1, .int y1), (2, .int y2), (3, .int y3), (4, .int y4)] []) (h : pX8_freshest_76 kk r y1 y2 y4 s0 = some res), V p l e (headSpec wsX8_freshest rmX8_freshest).room s m args below meth c g 6 0 0 (MQ below (QRi res) args s 0 0 nF) nF (fun _ => True) [(h0, .inl (cy 0, 164, .inl r))] 76 [(0, .ref h0), (1, .int y1), (2, .int y2), (4, .int y4)] [.int s0] := by
  intro r y1 y2 y4 s0 kk hk h
  unfold pX8_freshest_76 at h
  refine v_istore_n hC dX8_freshest_76 rfl (by decide) [(3, .int s0), (0, .ref h0), (1, .int y1), (2, .int y2), (4, .int y4)] rfl rfl ?_
  refine v_iinc hC dX8_freshest_77 4 rfl (v := (y4 + (nI 1))) rfl (by decide) [(4, .int (y4 + (nI 1))), (3, .int s0), (0, .ref h0), (1, .int y1), (2, .int y2)] rfl rfl ?_
  refine v_goto hC (tgt := 5) dX8_freshest_80 (by decide) ?_
  exact v_sub [2, 3, 4, 1, 0] (lv' := [(0, .ref h0), (1, .int y1), (2, .int y2), (3, .int s0), (4, .int (y4 + (nI 1)))]) rfl (hk _ _ _ _ _ h)
set_option maxHeartbeats 4000000 in
set_option maxRecDepth 100000 in
theorem bX8_freshest_70 {p : Program} {l : Launch} {e : Env} {s : State} {m : MethodId} {args : Array Value} {below : List Frame} {meth : Method} {c : Code} {g : va_G} {cy : Nat → ClassId} (hC : CX p s m args meth c g cy 6 cX8_freshest wsX8_freshest RX8) (hr : meth.sig.returnType = (some .int)) {h0 : Nat} {res : Int32} : ∀ (r : Nat → Int32) (y1 : Int32) (y2 : Int32) (y4 : Int32) {kk : (Nat → Int32) → Int32 → Int32 → Int32 → Int32 → Option (Int32)} (hk : ∀ (r : Nat → Int32) (y1 : Int32) (y2 : Int32) (y3 : Int32) (y4 : Int32), kk r y1 y2 y3 y4 = some res → V p l e (headSpec wsX8_freshest rmX8_freshest).room s m args below meth c g 6 0 0 (MQ below (QRi res) args s 0 0 nF) nF (fun _ => True) [(h0, .inl (cy 0, 164, .inl r))] 5 [(0, .ref h0), (1, .int y1), (2, .int y2), (3, .int y3), (4, .int y4)] []) (h : pX8_freshest_70 kk r y1 y2 y4 = some res), V p l e (headSpec wsX8_freshest rmX8_freshest).room s m args below meth c g 6 0 0 (MQ below (QRi res) args s 0 0 nF) nF (fun _ => True) [(h0, .inl (cy 0, 164, .inl r))] 70 [(0, .ref h0), (1, .int y1), (2, .int y2), (4, .int y4)] [] := by
  intro r y1 y2 y4 kk hk h
  unfold pX8_freshest_70 at h
  refine v_iload hC dX8_freshest_70 3 rfl rfl ?_
  refine v_goto hC (tgt := 76) dX8_freshest_72 (by decide) ?_
  exact bX8_freshest_76 hC hr _ _ _ _ _ hk h
set_option maxHeartbeats 4000000 in
set_option maxRecDepth 100000 in
theorem bX8_freshest_75 {p : Program} {l : Launch} {e : Env} {s : State} {m : MethodId} {args : Array Value} {below : List Frame} {meth : Method} {c : Code} {g : va_G} {cy : Nat → ClassId} (hC : CX p s m args meth c g cy 6 cX8_freshest wsX8_freshest RX8) (hr : meth.sig.returnType = (some .int)) {h0 : Nat} {res : Int32} : ∀ (r : Nat → Int32) (y1 : Int32) (y2 : Int32) (y3 : Int32) (y4 : Int32) {kk : (Nat → Int32) → Int32 → Int32 → Int32 → Int32 → Option (Int32)} (hk : ∀ (r : Nat → Int32) (y1 : Int32) (y2 : Int32) (y3 : Int32) (y4 : Int32), kk r y1 y2 y3 y4 = some res → V p l e (headSpec wsX8_freshest rmX8_freshest).room s m args below meth c g 6 0 0 (MQ below (QRi res) args s 0 0 nF) nF (fun _ => True) [(h0, .inl (cy 0, 164, .inl r))] 5 [(0, .ref h0), (1, .int y1), (2, .int y2), (3, .int y3), (4, .int y4)] []) (h : pX8_freshest_75 kk r y1 y2 y3 y4 = some res), V p l e (headSpec wsX8_freshest rmX8_freshest).room s m args below meth c g 6 0 0 (MQ below (QRi res) args s 0 0 nF) nF (fun _ => True) [(h0, .inl (cy 0, 164, .inl r))] 75 [(0, .ref h0), (1, .int y1), (2, .int y2), (3, .int y3), (4, .int y4)] [] := by
  intro r y1 y2 y3 y4 kk hk h
  unfold pX8_freshest_75 at h
  refine v_iload_n hC dX8_freshest_75 rfl 3 rfl rfl ?_
  exact v_sub [0, 1, 2, 4] (lv' := [(0, .ref h0), (1, .int y1), (2, .int y2), (4, .int y4)]) rfl (bX8_freshest_76 hC hr _ _ _ _ _ hk h)
set_option maxHeartbeats 4000000 in
set_option maxRecDepth 100000 in
theorem bX8_freshest_42 {p : Program} {l : Launch} {e : Env} {s : State} {m : MethodId} {args : Array Value} {below : List Frame} {meth : Method} {c : Code} {g : va_G} {cy : Nat → ClassId} (hC : CX p s m args meth c g cy 6 cX8_freshest wsX8_freshest RX8) (hr : meth.sig.returnType = (some .int)) {h0 : Nat} {res : Int32} : ∀ (r : Nat → Int32) (y1 : Int32) (y2 : Int32) (y3 : Int32) (y4 : Int32) (s0 : Int32) {kk : (Nat → Int32) → Int32 → Int32 → Int32 → Int32 → Option (Int32)} (hk : ∀ (r : Nat → Int32) (y1 : Int32) (y2 : Int32) (y3 : Int32) (y4 : Int32), kk r y1 y2 y3 y4 = some res → V p l e (headSpec wsX8_freshest rmX8_freshest).room s m args below meth c g 6 0 0 (MQ below (QRi res) args s 0 0 nF) nF (fun _ => True) [(h0, .inl (cy 0, 164, .inl r))] 5 [(0, .ref h0), (1, .int y1), (2, .int y2), (3, .int y3), (4, .int y4)] []) (h : pX8_freshest_42 kk r y1 y2 y3 y4 s0 = some res), V p l e (headSpec wsX8_freshest rmX8_freshest).room s m args below meth c g 6 0 0 (MQ below (QRi res) args s 0 0 nF) nF (fun _ => True) [(h0, .inl (cy 0, 164, .inl r))] 42 [(0, .ref h0), (1, .int y1), (2, .int y2), (3, .int y3), (4, .int y4)] [.int s0] := by
  intro r y1 y2 y3 y4 s0 kk hk h
  unfold pX8_freshest_42 at h
  refine v_istore hC dX8_freshest_42 (by decide) [(5, .int s0), (0, .ref h0), (1, .int y1), (2, .int y2), (3, .int y3), (4, .int y4)] rfl rfl ?_
  refine v_iload hC dX8_freshest_44 0 rfl rfl ?_
  refine v_if_eq hC (tgt := 75) dX8_freshest_46 (by decide) rfl (fun c => ?_) (fun c => ?_)
  · have h := ite_t c h
    exact v_sub [1, 2, 3, 4, 5] (lv' := [(0, .ref h0), (1, .int y1), (2, .int y2), (3, .int y3), (4, .int y4)]) rfl (bX8_freshest_75 hC hr _ _ _ _ _ hk h)
  · have h := ite_f c h
    refine v_iload_n hC dX8_freshest_49 rfl 4 rfl rfl ?_
    refine v_iconst hC (v := (-1)) dX8_freshest_50 (by decide) rfl ?_
    refine v_icmp_eq hC (tgt := 70) dX8_freshest_51 (by decide) rfl (fun c => ?_) (fun c => ?_)
    · have h := ite_t c h
      exact v_sub [1, 2, 3, 5] (lv' := [(0, .ref h0), (1, .int y1), (2, .int y2), (4, .int y4)]) rfl (bX8_freshest_70 hC hr _ _ _ _ hk h)
    · have h := ite_f c h
      refine v_aload_n hC dX8_freshest_54 rfl 1 rfl rfl ?_
      refine v_iload hC dX8_freshest_55 5 rfl rfl ?_
      refine v_iconst hC (v := (nI 2)) dX8_freshest_57 (by decide) rfl ?_
      obtain ⟨v1, hv1, h⟩ := bind_g h
      refine v_callSri hC (n := 3) (st := []) (mX8_of l g cy h0 r y4 (nI 2) hv1) gX8_freshest_X8_of rfl rfl rfl (by decide +kernel) ⟨Nat.le_of_ble_eq_true rfl, Nat.le_of_ble_eq_true rfl⟩ [0] rfl rfl rfl rfl (Nat.le_of_ble_eq_true rfl) rfl ⟨Nat.zero_le _, Nat.zero_le _⟩ dX8_freshest_58 rfl ?_
      refine v_aload_n hC dX8_freshest_61 rfl 1 rfl rfl ?_
      refine v_iload_n hC dX8_freshest_62 rfl 4 rfl rfl ?_
      refine v_iconst hC (v := (nI 2)) dX8_freshest_63 (by decide) rfl ?_
      obtain ⟨v2, hv2, h⟩ := bind_g h
      refine v_callSri hC (n := 3) (st := [.int v1]) (mX8_of l g cy h0 r y3 (nI 2) hv2) gX8_freshest_X8_of rfl rfl rfl (by decide +kernel) ⟨Nat.le_of_ble_eq_true rfl, Nat.le_of_ble_eq_true rfl⟩ [0] rfl rfl rfl rfl (Nat.le_of_ble_eq_true rfl) rfl ⟨Nat.zero_le _, Nat.zero_le _⟩ dX8_freshest_64 rfl ?_
      refine v_icmp_ge hC (tgt := 75) dX8_freshest_67 (by decide) rfl (fun c => ?_) (fun c => ?_)
      · have h := ite_t c h
        exact v_sub [1, 2, 3, 4, 5] (lv' := [(0, .ref h0), (1, .int y1), (2, .int y2), (3, .int y3), (4, .int y4)]) rfl (bX8_freshest_75 hC hr _ _ _ _ _ hk h)
      · have h := ite_f c h
        exact v_sub [1, 2, 3, 5] (lv' := [(0, .ref h0), (1, .int y1), (2, .int y2), (4, .int y4)]) rfl (bX8_freshest_70 hC hr _ _ _ _ hk h)
set_option maxHeartbeats 4000000 in
set_option maxRecDepth 100000 in
theorem bX8_freshest_41 {p : Program} {l : Launch} {e : Env} {s : State} {m : MethodId} {args : Array Value} {below : List Frame} {meth : Method} {c : Code} {g : va_G} {cy : Nat → ClassId} (hC : CX p s m args meth c g cy 6 cX8_freshest wsX8_freshest RX8) (hr : meth.sig.returnType = (some .int)) {h0 : Nat} {res : Int32} : ∀ (r : Nat → Int32) (y1 : Int32) (y2 : Int32) (y3 : Int32) (y4 : Int32) {kk : (Nat → Int32) → Int32 → Int32 → Int32 → Int32 → Option (Int32)} (hk : ∀ (r : Nat → Int32) (y1 : Int32) (y2 : Int32) (y3 : Int32) (y4 : Int32), kk r y1 y2 y3 y4 = some res → V p l e (headSpec wsX8_freshest rmX8_freshest).room s m args below meth c g 6 0 0 (MQ below (QRi res) args s 0 0 nF) nF (fun _ => True) [(h0, .inl (cy 0, 164, .inl r))] 5 [(0, .ref h0), (1, .int y1), (2, .int y2), (3, .int y3), (4, .int y4)] []) (h : pX8_freshest_41 kk r y1 y2 y3 y4 = some res), V p l e (headSpec wsX8_freshest rmX8_freshest).room s m args below meth c g 6 0 0 (MQ below (QRi res) args s 0 0 nF) nF (fun _ => True) [(h0, .inl (cy 0, 164, .inl r))] 41 [(0, .ref h0), (1, .int y1), (2, .int y2), (3, .int y3), (4, .int y4)] [] := by
  intro r y1 y2 y3 y4 kk hk h
  unfold pX8_freshest_41 at h
  refine v_iconst hC (v := (nI 0)) dX8_freshest_41 (by decide) rfl ?_
  exact bX8_freshest_42 hC hr _ _ _ _ _ _ hk h
set_option maxHeartbeats 4000000 in
set_option maxRecDepth 100000 in
theorem bX8_freshest_5 {p : Program} {l : Launch} {e : Env} {s : State} {m : MethodId} {args : Array Value} {below : List Frame} {meth : Method} {c : Code} {g : va_G} {cy : Nat → ClassId} (hC : CX p s m args meth c g cy 6 cX8_freshest wsX8_freshest RX8) (hr : meth.sig.returnType = (some .int)) {h0 : Nat} {res : Int32} : ∀ (k : Nat) (r : Nat → Int32) (y1 : Int32) (y2 : Int32) (y3 : Int32) (y4 : Int32) (h : pX8_freshest_5 k r y1 y2 y3 y4 = some res), V p l e (headSpec wsX8_freshest rmX8_freshest).room s m args below meth c g 6 0 0 (MQ below (QRi res) args s 0 0 nF) nF (fun _ => True) [(h0, .inl (cy 0, 164, .inl r))] 5 [(0, .ref h0), (1, .int y1), (2, .int y2), (3, .int y3), (4, .int y4)] [] := by
  intro k
  induction k with
  | zero =>
    intro r y1 y2 y3 y4 h
    have h : (none : Option _) = some res := h
    cases h
  | succ k ih =>
    intro r y1 y2 y3 y4 h
    rw [pX8_freshest_5_s] at h
    refine v_iload hC dX8_freshest_5 4 rfl rfl ?_
    refine v_aload_n hC dX8_freshest_7 rfl 0 rfl rfl ?_
    refine v_iconst hC (v := (nI 0)) dX8_freshest_8 (by decide) rfl ?_
    obtain ⟨hn, h⟩ := ite_g h
    refine v_iald hC 0 rfl hn dX8_freshest_9 rfl ?_
    refine v_icmp_ge hC (tgt := 83) dX8_freshest_10 (by decide) rfl (fun c => ?_) (fun c => ?_)
    · have h := ite_t c h
      refine v_iload_n hC dX8_freshest_83 rfl 3 rfl rfl ?_
      obtain rfl := Option.some.inj h
      exact v_irt hC hr rfl rfl dX8_freshest_84
    · have h := ite_f c h
      refine v_aload_n hC dX8_freshest_13 rfl 0 rfl rfl ?_
      refine v_iload_n hC dX8_freshest_14 rfl 1 rfl rfl ?_
      refine v_iload hC dX8_freshest_15 4 rfl rfl ?_
      obtain ⟨v1, hv1, h⟩ := bind_g h
      refine v_callSri hC (n := 3) (st := []) (mX8_isFree l g cy h0 r y1 y4 hv1) gX8_freshest_X8_isFree rfl rfl rfl (by decide +kernel) ⟨Nat.le_of_ble_eq_true rfl, Nat.le_of_ble_eq_true rfl⟩ [0] rfl rfl rfl rfl (Nat.le_of_ble_eq_true rfl) rfl ⟨Nat.zero_le _, Nat.zero_le _⟩ dX8_freshest_17 rfl ?_
      refine v_if_eq hC (tgt := 41) dX8_freshest_20 (by decide) rfl (fun c => ?_) (fun c => ?_)
      · have h := ite_t c h
        exact bX8_freshest_41 hC hr _ _ _ _ _ ih h
      · have h := ite_f c h
        refine v_iload_n hC dX8_freshest_23 rfl 2 rfl rfl ?_
        refine v_aload_n hC dX8_freshest_24 rfl 0 rfl rfl ?_
        refine v_iload hC dX8_freshest_25 4 rfl rfl ?_
        refine v_iconst hC (v := (nI 1)) dX8_freshest_27 (by decide) rfl ?_
        obtain ⟨v2, hv2, h⟩ := bind_g h
        refine v_callSri hC (n := 3) (st := [.int y2]) (mX8_of l g cy h0 r y4 (nI 1) hv2) gX8_freshest_X8_of rfl rfl rfl (by decide +kernel) ⟨Nat.le_of_ble_eq_true rfl, Nat.le_of_ble_eq_true rfl⟩ [0] rfl rfl rfl rfl (Nat.le_of_ble_eq_true rfl) rfl ⟨Nat.zero_le _, Nat.zero_le _⟩ dX8_freshest_28 rfl ?_
        obtain ⟨v3, hv3, h⟩ := bind_g h
        refine v_callSri hC (n := 2) (st := []) (mX8_has l g cy y2 v2 hv3) gX8_freshest_X8_has rfl rfl rfl (by decide +kernel) ⟨Nat.le_of_ble_eq_true rfl, Nat.le_of_ble_eq_true rfl⟩ [] rfl rfl rfl rfl (Nat.le_of_ble_eq_true rfl) rfl ⟨Nat.zero_le _, Nat.zero_le _⟩ dX8_freshest_31 rfl ?_
        refine v_if_ne hC (tgt := 41) dX8_freshest_34 (by decide) rfl (fun c => ?_) (fun c => ?_)
        · have h := ite_f c h
          exact bX8_freshest_41 hC hr _ _ _ _ _ ih h
        · have h := ite_t c h
          refine v_iconst hC (v := (nI 1)) dX8_freshest_37 (by decide) rfl ?_
          refine v_goto hC (tgt := 42) dX8_freshest_38 (by decide) ?_
          exact bX8_freshest_42 hC hr _ _ _ _ _ _ ih h
set_option maxHeartbeats 4000000 in
set_option maxRecDepth 100000 in
theorem mX8_freshest (l : Launch) (g : va_G) (cy : Nat → ClassId) (h0 : Nat) (r : Nat → Int32) (x1 : Int32) (x2 : Int32) {res : Int32} (h : pX8_freshest r x1 x2 = some res) : Met l yX8_freshest wsX8_freshest rmX8_freshest (PW [.ref h0, .int x1, .int x2] g cy [(h0, .inl (cy 0, 164, .inl r))]) (QRi res) 0 0 nF := by
  refine m_ofV (cc := cX8_freshest) (nL := 6) (ret := (some .int)) (B := fun _ => True) RX8 rfl (by decide) rfl [(0, .ref h0), (1, .int x1), (2, .int x2)] rfl (Nat.le_of_ble_eq_true rfl) (fun h => h) ?_
  intro p e s m args below meth c hC hr
  unfold pX8_freshest at h
  refine v_iconst hC (v := (-1)) dX8_freshest_0 (by decide) rfl ?_
  refine v_istore_n hC dX8_freshest_1 rfl (by decide) [(3, .int (-1)), (0, .ref h0), (1, .int x1), (2, .int x2)] rfl rfl ?_
  refine v_iconst hC (v := (nI 0)) dX8_freshest_2 (by decide) rfl ?_
  refine v_istore hC dX8_freshest_3 (by decide) [(4, .int (nI 0)), (3, .int (-1)), (0, .ref h0), (1, .int x1), (2, .int x2)] rfl rfl ?_
  exact v_sub [2, 3, 4, 1, 0] (lv' := [(0, .ref h0), (1, .int x1), (2, .int x2), (3, .int (-1)), (4, .int (nI 0))]) rfl (bX8_freshest_5 hC hr FU _ _ _ _ _ h)
def pX8_choose_108 (kk : (Nat → Int32) → Int32 → Int32 → Int32 → Int32 → Int32 → Int32 → Int32 → Option (Int32)) (r : Nat → Int32) (y1 : Int32) (y2 : Int32) (y3 : Int32) (y4 : Int32) (y5 : Int32) (y7 : Int32) (s0 : Int32) (s1 : Int32) : Option (Int32) := kk r y1 y2 y3 y4 y5 (s1 + s0) (y7 + (nI 1))
def pX8_choose_92 (kk : (Nat → Int32) → Int32 → Int32 → Int32 → Int32 → Int32 → Int32 → Int32 → Option (Int32)) (r : Nat → Int32) (y1 : Int32) (y2 : Int32) (y3 : Int32) (y4 : Int32) (y6 : Int32) (y7 : Int32) (y8 : Int32) (s0 : Int32) (s1 : Int32) : Option (Int32) := if y8 = (-1) then pX8_choose_108 kk r y1 y2 y3 y4 (s1 ||| s0) y7 (nI 0) y6 else pX8_choose_108 kk r y1 y2 y3 y4 (s1 ||| s0) y7 (nI 1) y6
def pX8_choose_74 (kk : (Nat → Int32) → Int32 → Int32 → Int32 → Int32 → Int32 → Int32 → Int32 → Option (Int32)) (r : Nat → Int32) (y1 : Int32) (y2 : Int32) (y3 : Int32) (y4 : Int32) (y5 : Int32) (y6 : Int32) (y7 : Int32) (s0 : Int32) : Option (Int32) := if s0 = (-1) then pX8_choose_92 kk r y1 y2 y3 y4 y6 y7 s0 (nI 0) y5 else pX8_choose_92 kk r y1 y2 y3 y4 y6 y7 s0 ((nI 1) <<< (s0 &&& 31)) y5
def pX8_choose_73 (kk : (Nat → Int32) → Int32 → Int32 → Int32 → Int32 → Int32 → Int32 → Int32 → Option (Int32)) (r : Nat → Int32) (y1 : Int32) (y2 : Int32) (y3 : Int32) (y4 : Int32) (y5 : Int32) (y6 : Int32) (y7 : Int32) : Option (Int32) := pX8_choose_74 kk r y1 y2 y3 y4 y5 y6 y7 (-1)
def pX8_choose_182 (kk : (Nat → Int32) → Int32 → Int32 → Int32 → Int32 → Int32 → Int32 → Int32 → Option (Int32)) (r : Nat → Int32) (y1 : Int32) (y2 : Int32) (y3 : Int32) (y4 : Int32) (y5 : Int32) (y7 : Int32) (s0 : Int32) (s1 : Int32) : Option (Int32) := kk r y1 y2 y3 y4 y5 (s1 + s0) y7
def pX8_choose_166 (kk : (Nat → Int32) → Int32 → Int32 → Int32 → Int32 → Int32 → Int32 → Int32 → Option (Int32)) (r : Nat → Int32) (y1 : Int32) (y2 : Int32) (y3 : Int32) (y4 : Int32) (y6 : Int32) (y7 : Int32) (s0 : Int32) (s1 : Int32) : Option (Int32) := if y7 = (-1) then pX8_choose_182 kk r y1 y2 y3 y4 (s1 ||| s0) y7 (nI 0) y6 else pX8_choose_182 kk r y1 y2 y3 y4 (s1 ||| s0) y7 (nI 1) y6
def pX8_choose_188 (r : Nat → Int32) (y5 : Int32) : Option (Int32) := some y5
def pX8_choose_120 : Nat → (Nat → Int32) → Int32 → Int32 → Int32 → Int32 → Int32 → Int32 → Int32 → Option (Int32)
  | 0, _, _, _, _, _, _, _, _ => none
  | k + 1, r, y1, y2, y3, y4, y5, y6, y7 => if y4 ≤ y6 then pX8_choose_188 r y5 else if y7 = (-1) then pX8_choose_188 r y5 else (pX8_facesOf r y5).bind fun v1 => (pX8_freshest r y1 ((y2 ||| y3) ||| v1)).bind fun v2 => if v2 = (-1) then pX8_choose_166 (fun u0 u1 u2 u3 u4 u5 u6 u7 => pX8_choose_120 k u0 u1 u2 u3 u4 u5 u6 u7) r y1 y2 y3 y4 y6 v2 (nI 0) y5 else pX8_choose_166 (fun u0 u1 u2 u3 u4 u5 u6 u7 => pX8_choose_120 k u0 u1 u2 u3 u4 u5 u6 u7) r y1 y2 y3 y4 y6 v2 ((nI 1) <<< (v2 &&& 31)) y5
theorem pX8_choose_120_s {k : Nat} (r : Nat → Int32) (y1 : Int32) (y2 : Int32) (y3 : Int32) (y4 : Int32) (y5 : Int32) (y6 : Int32) (y7 : Int32) : pX8_choose_120 (k + 1) r y1 y2 y3 y4 y5 y6 y7 = if y4 ≤ y6 then pX8_choose_188 r y5 else if y7 = (-1) then pX8_choose_188 r y5 else (pX8_facesOf r y5).bind fun v1 => (pX8_freshest r y1 ((y2 ||| y3) ||| v1)).bind fun v2 => if v2 = (-1) then pX8_choose_166 (fun u0 u1 u2 u3 u4 u5 u6 u7 => pX8_choose_120 k u0 u1 u2 u3 u4 u5 u6 u7) r y1 y2 y3 y4 y6 v2 (nI 0) y5 else pX8_choose_166 (fun u0 u1 u2 u3 u4 u5 u6 u7 => pX8_choose_120 k u0 u1 u2 u3 u4 u5 u6 u7) r y1 y2 y3 y4 y6 v2 ((nI 1) <<< (v2 &&& 31)) y5 := rfl
def pX8_choose_117 (r : Nat → Int32) (y1 : Int32) (y2 : Int32) (y3 : Int32) (y4 : Int32) (y5 : Int32) (y6 : Int32) : Option (Int32) := pX8_choose_120 FU r y1 y2 y3 y4 y5 y6 (nI 0)
def pX8_choose_31 : Nat → (Nat → Int32) → Int32 → Int32 → Int32 → Int32 → Int32 → Int32 → Int32 → Option (Int32)
  | 0, _, _, _, _, _, _, _, _ => none
  | k + 1, r, y1, y2, y3, y4, y5, y6, y7 => if (nI 14) ≤ y7 then pX8_choose_117 r y1 y2 y3 y4 y5 y6 else if y4 ≤ y6 then pX8_choose_117 r y1 y2 y3 y4 y5 y6 else (pX8_has y2 y7).bind fun v1 => if v1 = 0 then pX8_choose_73 (fun u0 u1 u2 u3 u4 u5 u6 u7 => pX8_choose_31 k u0 u1 u2 u3 u4 u5 u6 u7) r y1 y2 y3 y4 y5 y6 y7 else (pX8_has y3 y7).bind fun v2 => if v2 = 0 then (pX8_lowestWith r y1 y7).bind fun v3 => pX8_choose_74 (fun u0 u1 u2 u3 u4 u5 u6 u7 => pX8_choose_31 k u0 u1 u2 u3 u4 u5 u6 u7) r y1 y2 y3 y4 y5 y6 y7 v3 else pX8_choose_73 (fun u0 u1 u2 u3 u4 u5 u6 u7 => pX8_choose_31 k u0 u1 u2 u3 u4 u5 u6 u7) r y1 y2 y3 y4 y5 y6 y7
theorem pX8_choose_31_s {k : Nat} (r : Nat → Int32) (y1 : Int32) (y2 : Int32) (y3 : Int32) (y4 : Int32) (y5 : Int32) (y6 : Int32) (y7 : Int32) : pX8_choose_31 (k + 1) r y1 y2 y3 y4 y5 y6 y7 = if (nI 14) ≤ y7 then pX8_choose_117 r y1 y2 y3 y4 y5 y6 else if y4 ≤ y6 then pX8_choose_117 r y1 y2 y3 y4 y5 y6 else (pX8_has y2 y7).bind fun v1 => if v1 = 0 then pX8_choose_73 (fun u0 u1 u2 u3 u4 u5 u6 u7 => pX8_choose_31 k u0 u1 u2 u3 u4 u5 u6 u7) r y1 y2 y3 y4 y5 y6 y7 else (pX8_has y3 y7).bind fun v2 => if v2 = 0 then (pX8_lowestWith r y1 y7).bind fun v3 => pX8_choose_74 (fun u0 u1 u2 u3 u4 u5 u6 u7 => pX8_choose_31 k u0 u1 u2 u3 u4 u5 u6 u7) r y1 y2 y3 y4 y5 y6 y7 v3 else pX8_choose_73 (fun u0 u1 u2 u3 u4 u5 u6 u7 => pX8_choose_31 k u0 u1 u2 u3 u4 u5 u6 u7) r y1 y2 y3 y4 y5 y6 y7 := rfl
def pX8_choose (r : Nat → Int32) (x1 : Int32) : Option (Int32) := (pX8_seen r x1 (nI 1)).bind fun v1 => (pX8_seen r x1 (nI 0)).bind fun v2 => (pX8_told r x1 (nI 1)).bind fun v3 => pX8_choose_31 FU r x1 v1 v2 v3 (nI 0) (nI 0) (nI 0)
abbrev rmX8_choose : Room := { frames := 4, cells := 0, slots := 0, locals := 91 }
set_option maxHeartbeats 4000000 in
set_option maxRecDepth 100000 in
theorem bX8_choose_108 {p : Program} {l : Launch} {e : Env} {s : State} {m : MethodId} {args : Array Value} {below : List Frame} {meth : Method} {c : Code} {g : va_G} {cy : Nat → ClassId} (hC : CX p s m args meth c g cy 9 cX8_choose wsX8_choose RX8) (hr : meth.sig.returnType = (some .int)) {h0 : Nat} {res : Int32} : ∀ (r : Nat → Int32) (y1 : Int32) (y2 : Int32) (y3 : Int32) (y4 : Int32) (y5 : Int32) (y7 : Int32) (s0 : Int32) (s1 : Int32) {kk : (Nat → Int32) → Int32 → Int32 → Int32 → Int32 → Int32 → Int32 → Int32 → Option (Int32)} (hk : ∀ (r : Nat → Int32) (y1 : Int32) (y2 : Int32) (y3 : Int32) (y4 : Int32) (y5 : Int32) (y6 : Int32) (y7 : Int32), kk r y1 y2 y3 y4 y5 y6 y7 = some res → V p l e (headSpec wsX8_choose rmX8_choose).room s m args below meth c g 9 0 0 (MQ below (QRi res) args s 0 0 nF) nF (fun _ => True) [(h0, .inl (cy 0, 164, .inl r))] 31 [(0, .ref h0), (1, .int y1), (2, .int y2), (3, .int y3), (4, .int y4), (5, .int y5), (6, .int y6), (7, .int y7)] []) (h : pX8_choose_108 kk r y1 y2 y3 y4 y5 y7 s0 s1 = some res), V p l e (headSpec wsX8_choose rmX8_choose).room s m args below meth c g 9 0 0 (MQ below (QRi res) args s 0 0 nF) nF (fun _ => True) [(h0, .inl (cy 0, 164, .inl r))] 108 [(0, .ref h0), (1, .int y1), (2, .int y2), (3, .int y3), (4, .int y4), (5, .int y5), (7, .int y7)] [.int s0, .int s1] := by
  intro r y1 y2 y3 y4 y5 y7 s0 s1 kk hk h
  unfold pX8_choose_108 at h
  refine v_iadd hC dX8_choose_108 rfl ?_
  refine v_istore hC dX8_choose_109 (by decide) [(6, .int (s1 + s0)), (0, .ref h0), (1, .int y1), (2, .int y2), (3, .int y3), (4, .int y4), (5, .int y5), (7, .int y7)] rfl rfl ?_
  refine v_iinc hC dX8_choose_111 7 rfl (v := (y7 + (nI 1))) rfl (by decide) [(7, .int (y7 + (nI 1))), (6, .int (s1 + s0)), (0, .ref h0), (1, .int y1), (2, .int y2), (3, .int y3), (4, .int y4), (5, .int y5)] rfl rfl ?_
  refine v_goto hC (tgt := 31) dX8_choose_114 (by decide) ?_
  exact v_sub [2, 3, 4, 5, 6, 7, 1, 0] (lv' := [(0, .ref h0), (1, .int y1), (2, .int y2), (3, .int y3), (4, .int y4), (5, .int y5), (6, .int (s1 + s0)), (7, .int (y7 + (nI 1)))]) rfl (hk _ _ _ _ _ _ _ _ h)
set_option maxHeartbeats 4000000 in
set_option maxRecDepth 100000 in
theorem bX8_choose_92 {p : Program} {l : Launch} {e : Env} {s : State} {m : MethodId} {args : Array Value} {below : List Frame} {meth : Method} {c : Code} {g : va_G} {cy : Nat → ClassId} (hC : CX p s m args meth c g cy 9 cX8_choose wsX8_choose RX8) (hr : meth.sig.returnType = (some .int)) {h0 : Nat} {res : Int32} : ∀ (r : Nat → Int32) (y1 : Int32) (y2 : Int32) (y3 : Int32) (y4 : Int32) (y6 : Int32) (y7 : Int32) (y8 : Int32) (s0 : Int32) (s1 : Int32) {kk : (Nat → Int32) → Int32 → Int32 → Int32 → Int32 → Int32 → Int32 → Int32 → Option (Int32)} (hk : ∀ (r : Nat → Int32) (y1 : Int32) (y2 : Int32) (y3 : Int32) (y4 : Int32) (y5 : Int32) (y6 : Int32) (y7 : Int32), kk r y1 y2 y3 y4 y5 y6 y7 = some res → V p l e (headSpec wsX8_choose rmX8_choose).room s m args below meth c g 9 0 0 (MQ below (QRi res) args s 0 0 nF) nF (fun _ => True) [(h0, .inl (cy 0, 164, .inl r))] 31 [(0, .ref h0), (1, .int y1), (2, .int y2), (3, .int y3), (4, .int y4), (5, .int y5), (6, .int y6), (7, .int y7)] []) (h : pX8_choose_92 kk r y1 y2 y3 y4 y6 y7 y8 s0 s1 = some res), V p l e (headSpec wsX8_choose rmX8_choose).room s m args below meth c g 9 0 0 (MQ below (QRi res) args s 0 0 nF) nF (fun _ => True) [(h0, .inl (cy 0, 164, .inl r))] 92 [(0, .ref h0), (1, .int y1), (2, .int y2), (3, .int y3), (4, .int y4), (6, .int y6), (7, .int y7), (8, .int y8)] [.int s0, .int s1] := by
  intro r y1 y2 y3 y4 y6 y7 y8 s0 s1 kk hk h
  unfold pX8_choose_92 at h
  refine v_ior hC dX8_choose_92 rfl ?_
  refine v_istore hC dX8_choose_93 (by decide) [(5, .int (s1 ||| s0)), (0, .ref h0), (1, .int y1), (2, .int y2), (3, .int y3), (4, .int y4), (6, .int y6), (7, .int y7), (8, .int y8)] rfl rfl ?_
  refine v_iload hC dX8_choose_95 6 rfl rfl ?_
  refine v_iload hC dX8_choose_97 8 rfl rfl ?_
  refine v_iconst hC (v := (-1)) dX8_choose_99 (by decide) rfl ?_
  refine v_icmp_ne hC (tgt := 107) dX8_choose_100 (by decide) rfl (fun c => ?_) (fun c => ?_)
  · have h := ite_f c h
    refine v_iconst hC (v := (nI 1)) dX8_choose_107 (by decide) rfl ?_
    exact v_sub [1, 2, 3, 4, 5, 0, 7] (lv' := [(0, .ref h0), (1, .int y1), (2, .int y2), (3, .int y3), (4, .int y4), (5, .int (s1 ||| s0)), (7, .int y7)]) rfl (bX8_choose_108 hC hr _ _ _ _ _ _ _ _ _ hk h)
  · have h := ite_t c h
    refine v_iconst hC (v := (nI 0)) dX8_choose_103 (by decide) rfl ?_
    refine v_goto hC (tgt := 108) dX8_choose_104 (by decide) ?_
    exact v_sub [1, 2, 3, 4, 5, 0, 7] (lv' := [(0, .ref h0), (1, .int y1), (2, .int y2), (3, .int y3), (4, .int y4), (5, .int (s1 ||| s0)), (7, .int y7)]) rfl (bX8_choose_108 hC hr _ _ _ _ _ _ _ _ _ hk h)
set_option maxHeartbeats 4000000 in
set_option maxRecDepth 100000 in
theorem bX8_choose_74 {p : Program} {l : Launch} {e : Env} {s : State} {m : MethodId} {args : Array Value} {below : List Frame} {meth : Method} {c : Code} {g : va_G} {cy : Nat → ClassId} (hC : CX p s m args meth c g cy 9 cX8_choose wsX8_choose RX8) (hr : meth.sig.returnType = (some .int)) {h0 : Nat} {res : Int32} : ∀ (r : Nat → Int32) (y1 : Int32) (y2 : Int32) (y3 : Int32) (y4 : Int32) (y5 : Int32) (y6 : Int32) (y7 : Int32) (s0 : Int32) {kk : (Nat → Int32) → Int32 → Int32 → Int32 → Int32 → Int32 → Int32 → Int32 → Option (Int32)} (hk : ∀ (r : Nat → Int32) (y1 : Int32) (y2 : Int32) (y3 : Int32) (y4 : Int32) (y5 : Int32) (y6 : Int32) (y7 : Int32), kk r y1 y2 y3 y4 y5 y6 y7 = some res → V p l e (headSpec wsX8_choose rmX8_choose).room s m args below meth c g 9 0 0 (MQ below (QRi res) args s 0 0 nF) nF (fun _ => True) [(h0, .inl (cy 0, 164, .inl r))] 31 [(0, .ref h0), (1, .int y1), (2, .int y2), (3, .int y3), (4, .int y4), (5, .int y5), (6, .int y6), (7, .int y7)] []) (h : pX8_choose_74 kk r y1 y2 y3 y4 y5 y6 y7 s0 = some res), V p l e (headSpec wsX8_choose rmX8_choose).room s m args below meth c g 9 0 0 (MQ below (QRi res) args s 0 0 nF) nF (fun _ => True) [(h0, .inl (cy 0, 164, .inl r))] 74 [(0, .ref h0), (1, .int y1), (2, .int y2), (3, .int y3), (4, .int y4), (5, .int y5), (6, .int y6), (7, .int y7)] [.int s0] := by
  intro r y1 y2 y3 y4 y5 y6 y7 s0 kk hk h
  unfold pX8_choose_74 at h
  refine v_istore hC dX8_choose_74 (by decide) [(8, .int s0), (0, .ref h0), (1, .int y1), (2, .int y2), (3, .int y3), (4, .int y4), (5, .int y5), (6, .int y6), (7, .int y7)] rfl rfl ?_
  refine v_iload hC dX8_choose_76 6 rfl rfl ?_
  refine v_iload hC dX8_choose_78 0 rfl rfl ?_
  refine v_iconst hC (v := (-1)) dX8_choose_80 (by decide) rfl ?_
  refine v_icmp_ne hC (tgt := 88) dX8_choose_81 (by decide) rfl (fun c => ?_) (fun c => ?_)
  · have h := ite_f c h
    refine v_iconst hC (v := (nI 1)) dX8_choose_88 (by decide) rfl ?_
    refine v_iload hC dX8_choose_89 0 rfl rfl ?_
    refine v_ishl hC dX8_choose_91 rfl ?_
    exact v_sub [1, 2, 3, 4, 5, 7, 8, 0] (lv' := [(0, .ref h0), (1, .int y1), (2, .int y2), (3, .int y3), (4, .int y4), (6, .int y6), (7, .int y7), (8, .int s0)]) rfl (bX8_choose_92 hC hr _ _ _ _ _ _ _ _ _ _ hk h)
  · have h := ite_t c h
    refine v_iconst hC (v := (nI 0)) dX8_choose_84 (by decide) rfl ?_
    refine v_goto hC (tgt := 92) dX8_choose_85 (by decide) ?_
    exact v_sub [1, 2, 3, 4, 5, 7, 8, 0] (lv' := [(0, .ref h0), (1, .int y1), (2, .int y2), (3, .int y3), (4, .int y4), (6, .int y6), (7, .int y7), (8, .int s0)]) rfl (bX8_choose_92 hC hr _ _ _ _ _ _ _ _ _ _ hk h)
set_option maxHeartbeats 4000000 in
set_option maxRecDepth 100000 in
theorem bX8_choose_73 {p : Program} {l : Launch} {e : Env} {s : State} {m : MethodId} {args : Array Value} {below : List Frame} {meth : Method} {c : Code} {g : va_G} {cy : Nat → ClassId} (hC : CX p s m args meth c g cy 9 cX8_choose wsX8_choose RX8) (hr : meth.sig.returnType = (some .int)) {h0 : Nat} {res : Int32} : ∀ (r : Nat → Int32) (y1 : Int32) (y2 : Int32) (y3 : Int32) (y4 : Int32) (y5 : Int32) (y6 : Int32) (y7 : Int32) {kk : (Nat → Int32) → Int32 → Int32 → Int32 → Int32 → Int32 → Int32 → Int32 → Option (Int32)} (hk : ∀ (r : Nat → Int32) (y1 : Int32) (y2 : Int32) (y3 : Int32) (y4 : Int32) (y5 : Int32) (y6 : Int32) (y7 : Int32), kk r y1 y2 y3 y4 y5 y6 y7 = some res → V p l e (headSpec wsX8_choose rmX8_choose).room s m args below meth c g 9 0 0 (MQ below (QRi res) args s 0 0 nF) nF (fun _ => True) [(h0, .inl (cy 0, 164, .inl r))] 31 [(0, .ref h0), (1, .int y1), (2, .int y2), (3, .int y3), (4, .int y4), (5, .int y5), (6, .int y6), (7, .int y7)] []) (h : pX8_choose_73 kk r y1 y2 y3 y4 y5 y6 y7 = some res), V p l e (headSpec wsX8_choose rmX8_choose).room s m args below meth c g 9 0 0 (MQ below (QRi res) args s 0 0 nF) nF (fun _ => True) [(h0, .inl (cy 0, 164, .inl r))] 73 [(0, .ref h0), (1, .int y1), (2, .int y2), (3, .int y3), (4, .int y4), (5, .int y5), (6, .int y6), (7, .int y7)] [] := by
  intro r y1 y2 y3 y4 y5 y6 y7 kk hk h
  unfold pX8_choose_73 at h
  refine v_iconst hC (v := (-1)) dX8_choose_73 (by decide) rfl ?_
  exact bX8_choose_74 hC hr _ _ _ _ _ _ _ _ _ hk h
set_option maxHeartbeats 4000000 in
set_option maxRecDepth 100000 in
theorem bX8_choose_182 {p : Program} {l : Launch} {e : Env} {s : State} {m : MethodId} {args : Array Value} {below : List Frame} {meth : Method} {c : Code} {g : va_G} {cy : Nat → ClassId} (hC : CX p s m args meth c g cy 9 cX8_choose wsX8_choose RX8) (hr : meth.sig.returnType = (some .int)) {h0 : Nat} {res : Int32} : ∀ (r : Nat → Int32) (y1 : Int32) (y2 : Int32) (y3 : Int32) (y4 : Int32) (y5 : Int32) (y7 : Int32) (s0 : Int32) (s1 : Int32) {kk : (Nat → Int32) → Int32 → Int32 → Int32 → Int32 → Int32 → Int32 → Int32 → Option (Int32)} (hk : ∀ (r : Nat → Int32) (y1 : Int32) (y2 : Int32) (y3 : Int32) (y4 : Int32) (y5 : Int32) (y6 : Int32) (y7 : Int32), kk r y1 y2 y3 y4 y5 y6 y7 = some res → V p l e (headSpec wsX8_choose rmX8_choose).room s m args below meth c g 9 0 0 (MQ below (QRi res) args s 0 0 nF) nF (fun _ => True) [(h0, .inl (cy 0, 164, .inl r))] 120 [(0, .ref h0), (1, .int y1), (2, .int y2), (3, .int y3), (4, .int y4), (5, .int y5), (6, .int y6), (7, .int y7)] []) (h : pX8_choose_182 kk r y1 y2 y3 y4 y5 y7 s0 s1 = some res), V p l e (headSpec wsX8_choose rmX8_choose).room s m args below meth c g 9 0 0 (MQ below (QRi res) args s 0 0 nF) nF (fun _ => True) [(h0, .inl (cy 0, 164, .inl r))] 182 [(0, .ref h0), (1, .int y1), (2, .int y2), (3, .int y3), (4, .int y4), (5, .int y5), (7, .int y7)] [.int s0, .int s1] := by
  intro r y1 y2 y3 y4 y5 y7 s0 s1 kk hk h
  unfold pX8_choose_182 at h
  refine v_iadd hC dX8_choose_182 rfl ?_
  refine v_istore hC dX8_choose_183 (by decide) [(6, .int (s1 + s0)), (0, .ref h0), (1, .int y1), (2, .int y2), (3, .int y3), (4, .int y4), (5, .int y5), (7, .int y7)] rfl rfl ?_
  refine v_goto hC (tgt := 120) dX8_choose_185 (by decide) ?_
  exact v_sub [1, 2, 3, 4, 5, 6, 0, 7] (lv' := [(0, .ref h0), (1, .int y1), (2, .int y2), (3, .int y3), (4, .int y4), (5, .int y5), (6, .int (s1 + s0)), (7, .int y7)]) rfl (hk _ _ _ _ _ _ _ _ h)
set_option maxHeartbeats 4000000 in
set_option maxRecDepth 100000 in
theorem bX8_choose_166 {p : Program} {l : Launch} {e : Env} {s : State} {m : MethodId} {args : Array Value} {below : List Frame} {meth : Method} {c : Code} {g : va_G} {cy : Nat → ClassId} (hC : CX p s m args meth c g cy 9 cX8_choose wsX8_choose RX8) (hr : meth.sig.returnType = (some .int)) {h0 : Nat} {res : Int32} : ∀ (r : Nat → Int32) (y1 : Int32) (y2 : Int32) (y3 : Int32) (y4 : Int32) (y6 : Int32) (y7 : Int32) (s0 : Int32) (s1 : Int32) {kk : (Nat → Int32) → Int32 → Int32 → Int32 → Int32 → Int32 → Int32 → Int32 → Option (Int32)} (hk : ∀ (r : Nat → Int32) (y1 : Int32) (y2 : Int32) (y3 : Int32) (y4 : Int32) (y5 : Int32) (y6 : Int32) (y7 : Int32), kk r y1 y2 y3 y4 y5 y6 y7 = some res → V p l e (headSpec wsX8_choose rmX8_choose).room s m args below meth c g 9 0 0 (MQ below (QRi res) args s 0 0 nF) nF (fun _ => True) [(h0, .inl (cy 0, 164, .inl r))] 120 [(0, .ref h0), (1, .int y1), (2, .int y2), (3, .int y3), (4, .int y4), (5, .int y5), (6, .int y6), (7, .int y7)] []) (h : pX8_choose_166 kk r y1 y2 y3 y4 y6 y7 s0 s1 = some res), V p l e (headSpec wsX8_choose rmX8_choose).room s m args below meth c g 9 0 0 (MQ below (QRi res) args s 0 0 nF) nF (fun _ => True) [(h0, .inl (cy 0, 164, .inl r))] 166 [(0, .ref h0), (1, .int y1), (2, .int y2), (3, .int y3), (4, .int y4), (6, .int y6), (7, .int y7)] [.int s0, .int s1] := by
  intro r y1 y2 y3 y4 y6 y7 s0 s1 kk hk h
  unfold pX8_choose_166 at h
  refine v_ior hC dX8_choose_166 rfl ?_
  refine v_istore hC dX8_choose_167 (by decide) [(5, .int (s1 ||| s0)), (0, .ref h0), (1, .int y1), (2, .int y2), (3, .int y3), (4, .int y4), (6, .int y6), (7, .int y7)] rfl rfl ?_
  refine v_iload hC dX8_choose_169 6 rfl rfl ?_
  refine v_iload hC dX8_choose_171 7 rfl rfl ?_
  refine v_iconst hC (v := (-1)) dX8_choose_173 (by decide) rfl ?_
  refine v_icmp_ne hC (tgt := 181) dX8_choose_174 (by decide) rfl (fun c => ?_) (fun c => ?_)
  · have h := ite_f c h
    refine v_iconst hC (v := (nI 1)) dX8_choose_181 (by decide) rfl ?_
    exact v_sub [1, 2, 3, 4, 5, 0, 7] (lv' := [(0, .ref h0), (1, .int y1), (2, .int y2), (3, .int y3), (4, .int y4), (5, .int (s1 ||| s0)), (7, .int y7)]) rfl (bX8_choose_182 hC hr _ _ _ _ _ _ _ _ _ hk h)
  · have h := ite_t c h
    refine v_iconst hC (v := (nI 0)) dX8_choose_177 (by decide) rfl ?_
    refine v_goto hC (tgt := 182) dX8_choose_178 (by decide) ?_
    exact v_sub [1, 2, 3, 4, 5, 0, 7] (lv' := [(0, .ref h0), (1, .int y1), (2, .int y2), (3, .int y3), (4, .int y4), (5, .int (s1 ||| s0)), (7, .int y7)]) rfl (bX8_choose_182 hC hr _ _ _ _ _ _ _ _ _ hk h)
set_option maxHeartbeats 4000000 in
set_option maxRecDepth 100000 in
theorem bX8_choose_188 {p : Program} {l : Launch} {e : Env} {s : State} {m : MethodId} {args : Array Value} {below : List Frame} {meth : Method} {c : Code} {g : va_G} {cy : Nat → ClassId} (hC : CX p s m args meth c g cy 9 cX8_choose wsX8_choose RX8) (hr : meth.sig.returnType = (some .int)) {h0 : Nat} {res : Int32} : ∀ (r : Nat → Int32) (y5 : Int32)(h : pX8_choose_188 r y5 = some res), V p l e (headSpec wsX8_choose rmX8_choose).room s m args below meth c g 9 0 0 (MQ below (QRi res) args s 0 0 nF) nF (fun _ => True) [(h0, .inl (cy 0, 164, .inl r))] 188 [(5, .int y5)] [] := by
  intro r y5 h
  unfold pX8_choose_188 at h
  refine v_iload hC dX8_choose_188 0 rfl rfl ?_
  obtain rfl := Option.some.inj h
  exact v_irt hC hr rfl rfl dX8_choose_190
set_option maxHeartbeats 4000000 in
set_option maxRecDepth 100000 in
theorem bX8_choose_120 {p : Program} {l : Launch} {e : Env} {s : State} {m : MethodId} {args : Array Value} {below : List Frame} {meth : Method} {c : Code} {g : va_G} {cy : Nat → ClassId} (hC : CX p s m args meth c g cy 9 cX8_choose wsX8_choose RX8) (hr : meth.sig.returnType = (some .int)) {h0 : Nat} {res : Int32} : ∀ (k : Nat) (r : Nat → Int32) (y1 : Int32) (y2 : Int32) (y3 : Int32) (y4 : Int32) (y5 : Int32) (y6 : Int32) (y7 : Int32) (h : pX8_choose_120 k r y1 y2 y3 y4 y5 y6 y7 = some res), V p l e (headSpec wsX8_choose rmX8_choose).room s m args below meth c g 9 0 0 (MQ below (QRi res) args s 0 0 nF) nF (fun _ => True) [(h0, .inl (cy 0, 164, .inl r))] 120 [(0, .ref h0), (1, .int y1), (2, .int y2), (3, .int y3), (4, .int y4), (5, .int y5), (6, .int y6), (7, .int y7)] [] := by
  intro k
  induction k with
  | zero =>
    intro r y1 y2 y3 y4 y5 y6 y7 h
    have h : (none : Option _) = some res := h
    cases h
  | succ k ih =>
    intro r y1 y2 y3 y4 y5 y6 y7 h
    rw [pX8_choose_120_s] at h
    refine v_iload hC dX8_choose_120 6 rfl rfl ?_
    refine v_iload hC dX8_choose_122 4 rfl rfl ?_
    refine v_icmp_ge hC (tgt := 188) dX8_choose_124 (by decide) rfl (fun c => ?_) (fun c => ?_)
    · have h := ite_t c h
      exact v_sub [5] (lv' := [(5, .int y5)]) rfl (bX8_choose_188 hC hr _ _ h)
    · have h := ite_f c h
      refine v_iload hC dX8_choose_127 7 rfl rfl ?_
      refine v_iconst hC (v := (-1)) dX8_choose_129 (by decide) rfl ?_
      refine v_icmp_eq hC (tgt := 188) dX8_choose_130 (by decide) rfl (fun c => ?_) (fun c => ?_)
      · have h := ite_t c h
        exact v_sub [5] (lv' := [(5, .int y5)]) rfl (bX8_choose_188 hC hr _ _ h)
      · have h := ite_f c h
        refine v_aload_n hC dX8_choose_133 rfl 0 rfl rfl ?_
        refine v_iload_n hC dX8_choose_134 rfl 1 rfl rfl ?_
        refine v_iload_n hC dX8_choose_135 rfl 2 rfl rfl ?_
        refine v_iload_n hC dX8_choose_136 rfl 3 rfl rfl ?_
        refine v_ior hC dX8_choose_137 rfl ?_
        refine v_aload_n hC dX8_choose_138 rfl 0 rfl rfl ?_
        refine v_iload hC dX8_choose_139 5 rfl rfl ?_
        obtain ⟨v1, hv1, h⟩ := bind_g h
        refine v_callSri hC (n := 2) (st := [.int (y2 ||| y3), .int y1, .ref h0]) (mX8_facesOf l g cy h0 r y5 hv1) gX8_choose_X8_facesOf rfl rfl rfl (by decide +kernel) ⟨Nat.le_of_ble_eq_true rfl, Nat.le_of_ble_eq_true rfl⟩ [0] rfl rfl rfl rfl (Nat.le_of_ble_eq_true rfl) rfl ⟨Nat.zero_le _, Nat.zero_le _⟩ dX8_choose_141 rfl ?_
        refine v_ior hC dX8_choose_144 rfl ?_
        obtain ⟨v2, hv2, h⟩ := bind_g h
        refine v_callSri hC (n := 3) (st := []) (mX8_freshest l g cy h0 r y1 ((y2 ||| y3) ||| v1) hv2) gX8_choose_X8_freshest rfl rfl rfl (by decide +kernel) ⟨Nat.le_of_ble_eq_true rfl, Nat.le_of_ble_eq_true rfl⟩ [0] rfl rfl rfl rfl (Nat.le_of_ble_eq_true rfl) rfl ⟨Nat.zero_le _, Nat.zero_le _⟩ dX8_choose_145 rfl ?_
        refine v_istore hC dX8_choose_148 (by decide) [(7, .int v2), (0, .ref h0), (1, .int y1), (2, .int y2), (3, .int y3), (4, .int y4), (5, .int y5), (6, .int y6)] rfl rfl ?_
        refine v_iload hC dX8_choose_150 6 rfl rfl ?_
        refine v_iload hC dX8_choose_152 0 rfl rfl ?_
        refine v_iconst hC (v := (-1)) dX8_choose_154 (by decide) rfl ?_
        refine v_icmp_ne hC (tgt := 162) dX8_choose_155 (by decide) rfl (fun c => ?_) (fun c => ?_)
        · have h := ite_f c h
          refine v_iconst hC (v := (nI 1)) dX8_choose_162 (by decide) rfl ?_
          refine v_iload hC dX8_choose_163 0 rfl rfl ?_
          refine v_ishl hC dX8_choose_165 rfl ?_
          exact v_sub [1, 2, 3, 4, 5, 7, 0] (lv' := [(0, .ref h0), (1, .int y1), (2, .int y2), (3, .int y3), (4, .int y4), (6, .int y6), (7, .int v2)]) rfl (bX8_choose_166 hC hr _ _ _ _ _ _ _ _ _ ih h)
        · have h := ite_t c h
          refine v_iconst hC (v := (nI 0)) dX8_choose_158 (by decide) rfl ?_
          refine v_goto hC (tgt := 166) dX8_choose_159 (by decide) ?_
          exact v_sub [1, 2, 3, 4, 5, 7, 0] (lv' := [(0, .ref h0), (1, .int y1), (2, .int y2), (3, .int y3), (4, .int y4), (6, .int y6), (7, .int v2)]) rfl (bX8_choose_166 hC hr _ _ _ _ _ _ _ _ _ ih h)
set_option maxHeartbeats 4000000 in
set_option maxRecDepth 100000 in
theorem bX8_choose_117 {p : Program} {l : Launch} {e : Env} {s : State} {m : MethodId} {args : Array Value} {below : List Frame} {meth : Method} {c : Code} {g : va_G} {cy : Nat → ClassId} (hC : CX p s m args meth c g cy 9 cX8_choose wsX8_choose RX8) (hr : meth.sig.returnType = (some .int)) {h0 : Nat} {res : Int32} : ∀ (r : Nat → Int32) (y1 : Int32) (y2 : Int32) (y3 : Int32) (y4 : Int32) (y5 : Int32) (y6 : Int32)(h : pX8_choose_117 r y1 y2 y3 y4 y5 y6 = some res), V p l e (headSpec wsX8_choose rmX8_choose).room s m args below meth c g 9 0 0 (MQ below (QRi res) args s 0 0 nF) nF (fun _ => True) [(h0, .inl (cy 0, 164, .inl r))] 117 [(0, .ref h0), (1, .int y1), (2, .int y2), (3, .int y3), (4, .int y4), (5, .int y5), (6, .int y6)] [] := by
  intro r y1 y2 y3 y4 y5 y6 h
  unfold pX8_choose_117 at h
  refine v_iconst hC (v := (nI 0)) dX8_choose_117 (by decide) rfl ?_
  refine v_istore hC dX8_choose_118 (by decide) [(7, .int (nI 0)), (0, .ref h0), (1, .int y1), (2, .int y2), (3, .int y3), (4, .int y4), (5, .int y5), (6, .int y6)] rfl rfl ?_
  exact v_sub [1, 2, 3, 4, 5, 6, 7, 0] (lv' := [(0, .ref h0), (1, .int y1), (2, .int y2), (3, .int y3), (4, .int y4), (5, .int y5), (6, .int y6), (7, .int (nI 0))]) rfl (bX8_choose_120 hC hr FU _ _ _ _ _ _ _ _ h)
set_option maxHeartbeats 4000000 in
set_option maxRecDepth 100000 in
theorem bX8_choose_31 {p : Program} {l : Launch} {e : Env} {s : State} {m : MethodId} {args : Array Value} {below : List Frame} {meth : Method} {c : Code} {g : va_G} {cy : Nat → ClassId} (hC : CX p s m args meth c g cy 9 cX8_choose wsX8_choose RX8) (hr : meth.sig.returnType = (some .int)) {h0 : Nat} {res : Int32} : ∀ (k : Nat) (r : Nat → Int32) (y1 : Int32) (y2 : Int32) (y3 : Int32) (y4 : Int32) (y5 : Int32) (y6 : Int32) (y7 : Int32) (h : pX8_choose_31 k r y1 y2 y3 y4 y5 y6 y7 = some res), V p l e (headSpec wsX8_choose rmX8_choose).room s m args below meth c g 9 0 0 (MQ below (QRi res) args s 0 0 nF) nF (fun _ => True) [(h0, .inl (cy 0, 164, .inl r))] 31 [(0, .ref h0), (1, .int y1), (2, .int y2), (3, .int y3), (4, .int y4), (5, .int y5), (6, .int y6), (7, .int y7)] [] := by
  intro k
  induction k with
  | zero =>
    intro r y1 y2 y3 y4 y5 y6 y7 h
    have h : (none : Option _) = some res := h
    cases h
  | succ k ih =>
    intro r y1 y2 y3 y4 y5 y6 y7 h
    rw [pX8_choose_31_s] at h
    refine v_iload hC dX8_choose_31 7 rfl rfl ?_
    refine v_bipush hC (v := (nI 14)) dX8_choose_33 (by decide) rfl ?_
    refine v_icmp_ge hC (tgt := 117) dX8_choose_35 (by decide) rfl (fun c => ?_) (fun c => ?_)
    · have h := ite_t c h
      exact v_sub [0, 1, 2, 3, 4, 5, 6] (lv' := [(0, .ref h0), (1, .int y1), (2, .int y2), (3, .int y3), (4, .int y4), (5, .int y5), (6, .int y6)]) rfl (bX8_choose_117 hC hr _ _ _ _ _ _ _ h)
    · have h := ite_f c h
      refine v_iload hC dX8_choose_38 6 rfl rfl ?_
      refine v_iload hC dX8_choose_40 4 rfl rfl ?_
      refine v_icmp_ge hC (tgt := 117) dX8_choose_42 (by decide) rfl (fun c => ?_) (fun c => ?_)
      · have h := ite_t c h
        exact v_sub [0, 1, 2, 3, 4, 5, 6] (lv' := [(0, .ref h0), (1, .int y1), (2, .int y2), (3, .int y3), (4, .int y4), (5, .int y5), (6, .int y6)]) rfl (bX8_choose_117 hC hr _ _ _ _ _ _ _ h)
      · have h := ite_f c h
        refine v_iload_n hC dX8_choose_45 rfl 2 rfl rfl ?_
        refine v_iload hC dX8_choose_46 7 rfl rfl ?_
        obtain ⟨v1, hv1, h⟩ := bind_g h
        refine v_callSri hC (n := 2) (st := []) (mX8_has l g cy y2 y7 hv1) gX8_choose_X8_has rfl rfl rfl (by decide +kernel) ⟨Nat.le_of_ble_eq_true rfl, Nat.le_of_ble_eq_true rfl⟩ [] rfl rfl rfl rfl (Nat.le_of_ble_eq_true rfl) rfl ⟨Nat.zero_le _, Nat.zero_le _⟩ dX8_choose_48 rfl ?_
        refine v_if_eq hC (tgt := 73) dX8_choose_51 (by decide) rfl (fun c => ?_) (fun c => ?_)
        · have h := ite_t c h
          exact bX8_choose_73 hC hr _ _ _ _ _ _ _ _ ih h
        · have h := ite_f c h
          refine v_iload_n hC dX8_choose_54 rfl 3 rfl rfl ?_
          refine v_iload hC dX8_choose_55 7 rfl rfl ?_
          obtain ⟨v2, hv2, h⟩ := bind_g h
          refine v_callSri hC (n := 2) (st := []) (mX8_has l g cy y3 y7 hv2) gX8_choose_X8_has rfl rfl rfl (by decide +kernel) ⟨Nat.le_of_ble_eq_true rfl, Nat.le_of_ble_eq_true rfl⟩ [] rfl rfl rfl rfl (Nat.le_of_ble_eq_true rfl) rfl ⟨Nat.zero_le _, Nat.zero_le _⟩ dX8_choose_57 rfl ?_
          refine v_if_ne hC (tgt := 73) dX8_choose_60 (by decide) rfl (fun c => ?_) (fun c => ?_)
          · have h := ite_f c h
            exact bX8_choose_73 hC hr _ _ _ _ _ _ _ _ ih h
          · have h := ite_t c h
            refine v_aload_n hC dX8_choose_63 rfl 0 rfl rfl ?_
            refine v_iload_n hC dX8_choose_64 rfl 1 rfl rfl ?_
            refine v_iload hC dX8_choose_65 7 rfl rfl ?_
            obtain ⟨v3, hv3, h⟩ := bind_g h
            refine v_callSri hC (n := 3) (st := []) (mX8_lowestWith l g cy h0 r y1 y7 hv3) gX8_choose_X8_lowestWith rfl rfl rfl (by decide +kernel) ⟨Nat.le_of_ble_eq_true rfl, Nat.le_of_ble_eq_true rfl⟩ [0] rfl rfl rfl rfl (Nat.le_of_ble_eq_true rfl) rfl ⟨Nat.zero_le _, Nat.zero_le _⟩ dX8_choose_67 rfl ?_
            refine v_goto hC (tgt := 74) dX8_choose_70 (by decide) ?_
            exact bX8_choose_74 hC hr _ _ _ _ _ _ _ _ _ ih h
set_option maxHeartbeats 4000000 in
set_option maxRecDepth 100000 in
theorem mX8_choose (l : Launch) (g : va_G) (cy : Nat → ClassId) (h0 : Nat) (r : Nat → Int32) (x1 : Int32) {res : Int32} (h : pX8_choose r x1 = some res) : Met l yX8_choose wsX8_choose rmX8_choose (PW [.ref h0, .int x1] g cy [(h0, .inl (cy 0, 164, .inl r))]) (QRi res) 0 0 nF := by
  refine m_ofV (cc := cX8_choose) (nL := 9) (ret := (some .int)) (B := fun _ => True) RX8 rfl (by decide) rfl [(0, .ref h0), (1, .int x1)] rfl (Nat.le_of_ble_eq_true rfl) (fun h => h) ?_
  intro p e s m args below meth c hC hr
  unfold pX8_choose at h
  refine v_aload_n hC dX8_choose_0 rfl 0 rfl rfl ?_
  refine v_iload_n hC dX8_choose_1 rfl 1 rfl rfl ?_
  refine v_iconst hC (v := (nI 1)) dX8_choose_2 (by decide) rfl ?_
  obtain ⟨v1, hv1, h⟩ := bind_g h
  refine v_callSri hC (n := 3) (st := []) (mX8_seen l g cy h0 r x1 (nI 1) hv1) gX8_choose_X8_seen rfl rfl rfl (by decide +kernel) ⟨Nat.le_of_ble_eq_true rfl, Nat.le_of_ble_eq_true rfl⟩ [0] rfl rfl rfl rfl (Nat.le_of_ble_eq_true rfl) rfl ⟨Nat.zero_le _, Nat.zero_le _⟩ dX8_choose_3 rfl ?_
  refine v_istore_n hC dX8_choose_6 rfl (by decide) [(2, .int v1), (0, .ref h0), (1, .int x1)] rfl rfl ?_
  refine v_aload_n hC dX8_choose_7 rfl 1 rfl rfl ?_
  refine v_iload_n hC dX8_choose_8 rfl 2 rfl rfl ?_
  refine v_iconst hC (v := (nI 0)) dX8_choose_9 (by decide) rfl ?_
  obtain ⟨v2, hv2, h⟩ := bind_g h
  refine v_callSri hC (n := 3) (st := []) (mX8_seen l g cy h0 r x1 (nI 0) hv2) gX8_choose_X8_seen rfl rfl rfl (by decide +kernel) ⟨Nat.le_of_ble_eq_true rfl, Nat.le_of_ble_eq_true rfl⟩ [0] rfl rfl rfl rfl (Nat.le_of_ble_eq_true rfl) rfl ⟨Nat.zero_le _, Nat.zero_le _⟩ dX8_choose_10 rfl ?_
  refine v_istore_n hC dX8_choose_13 rfl (by decide) [(3, .int v2), (2, .int v1), (0, .ref h0), (1, .int x1)] rfl rfl ?_
  refine v_aload_n hC dX8_choose_14 rfl 2 rfl rfl ?_
  refine v_iload_n hC dX8_choose_15 rfl 3 rfl rfl ?_
  refine v_iconst hC (v := (nI 1)) dX8_choose_16 (by decide) rfl ?_
  obtain ⟨v3, hv3, h⟩ := bind_g h
  refine v_callSri hC (n := 3) (st := []) (mX8_told l g cy h0 r x1 (nI 1) hv3) gX8_choose_X8_told rfl rfl rfl (by decide +kernel) ⟨Nat.le_of_ble_eq_true rfl, Nat.le_of_ble_eq_true rfl⟩ [0] rfl rfl rfl rfl (Nat.le_of_ble_eq_true rfl) rfl ⟨Nat.zero_le _, Nat.zero_le _⟩ dX8_choose_17 rfl ?_
  refine v_istore hC dX8_choose_20 (by decide) [(4, .int v3), (3, .int v2), (2, .int v1), (0, .ref h0), (1, .int x1)] rfl rfl ?_
  refine v_iconst hC (v := (nI 0)) dX8_choose_22 (by decide) rfl ?_
  refine v_istore hC dX8_choose_23 (by decide) [(5, .int (nI 0)), (4, .int v3), (3, .int v2), (2, .int v1), (0, .ref h0), (1, .int x1)] rfl rfl ?_
  refine v_iconst hC (v := (nI 0)) dX8_choose_25 (by decide) rfl ?_
  refine v_istore hC dX8_choose_26 (by decide) [(6, .int (nI 0)), (5, .int (nI 0)), (4, .int v3), (3, .int v2), (2, .int v1), (0, .ref h0), (1, .int x1)] rfl rfl ?_
  refine v_iconst hC (v := (nI 0)) dX8_choose_28 (by decide) rfl ?_
  refine v_istore hC dX8_choose_29 (by decide) [(7, .int (nI 0)), (6, .int (nI 0)), (5, .int (nI 0)), (4, .int v3), (3, .int v2), (2, .int v1), (0, .ref h0), (1, .int x1)] rfl rfl ?_
  exact v_sub [6, 7, 5, 4, 3, 2, 1, 0] (lv' := [(0, .ref h0), (1, .int x1), (2, .int v1), (3, .int v2), (4, .int v3), (5, .int (nI 0)), (6, .int (nI 0)), (7, .int (nI 0))]) rfl (bX8_choose_31 hC hr FU _ _ _ _ _ _ _ _ h)
def pX8_lacking (r : Nat → Int32) (x1 : Int32) : Option (Int32) := (pX8_told r x1 (nI 1)).bind fun v1 => (pX8_choose r x1).bind fun v2 => (pX8_bits v2).bind fun v3 => some (v1 - v3)
abbrev rmX8_lacking : Room := { frames := 5, cells := 0, slots := 0, locals := 119 }
set_option maxHeartbeats 4000000 in
set_option maxRecDepth 100000 in
theorem mX8_lacking (l : Launch) (g : va_G) (cy : Nat → ClassId) (h0 : Nat) (r : Nat → Int32) (x1 : Int32) {res : Int32} (h : pX8_lacking r x1 = some res) : Met l yX8_lacking wsX8_lacking rmX8_lacking (PW [.ref h0, .int x1] g cy [(h0, .inl (cy 0, 164, .inl r))]) (QRi res) 0 0 nF := by
  refine m_ofV (cc := cX8_lacking) (nL := 2) (ret := (some .int)) (B := fun _ => True) RX8 rfl (by decide) rfl [(0, .ref h0), (1, .int x1)] rfl (Nat.le_of_ble_eq_true rfl) (fun h => h) ?_
  intro p e s m args below meth c hC hr
  unfold pX8_lacking at h
  refine v_aload_n hC dX8_lacking_0 rfl 0 rfl rfl ?_
  refine v_iload_n hC dX8_lacking_1 rfl 1 rfl rfl ?_
  refine v_iconst hC (v := (nI 1)) dX8_lacking_2 (by decide) rfl ?_
  obtain ⟨v1, hv1, h⟩ := bind_g h
  refine v_callSri hC (n := 3) (st := []) (mX8_told l g cy h0 r x1 (nI 1) hv1) gX8_lacking_X8_told rfl rfl rfl (by decide +kernel) ⟨Nat.le_of_ble_eq_true rfl, Nat.le_of_ble_eq_true rfl⟩ [0] rfl rfl rfl rfl (Nat.le_of_ble_eq_true rfl) rfl ⟨Nat.zero_le _, Nat.zero_le _⟩ dX8_lacking_3 rfl ?_
  refine v_aload_n hC dX8_lacking_6 rfl 0 rfl rfl ?_
  refine v_iload_n hC dX8_lacking_7 rfl 1 rfl rfl ?_
  obtain ⟨v2, hv2, h⟩ := bind_g h
  refine v_callSri hC (n := 2) (st := [.int v1]) (mX8_choose l g cy h0 r x1 hv2) gX8_lacking_X8_choose rfl rfl rfl (by decide +kernel) ⟨Nat.le_of_ble_eq_true rfl, Nat.le_of_ble_eq_true rfl⟩ [0] rfl rfl rfl rfl (Nat.le_of_ble_eq_true rfl) rfl ⟨Nat.zero_le _, Nat.zero_le _⟩ dX8_lacking_8 rfl ?_
  obtain ⟨v3, hv3, h⟩ := bind_g h
  refine v_callSri hC (n := 1) (st := [.int v1]) (mX8_bits l g cy v2 hv3) gX8_lacking_X8_bits rfl rfl rfl (by decide +kernel) ⟨Nat.le_of_ble_eq_true rfl, Nat.le_of_ble_eq_true rfl⟩ [] rfl rfl rfl rfl (Nat.le_of_ble_eq_true rfl) rfl ⟨Nat.zero_le _, Nat.zero_le _⟩ dX8_lacking_11 rfl ?_
  refine v_isub hC dX8_lacking_14 rfl ?_
  obtain rfl := Option.some.inj h
  exact v_irt hC hr rfl rfl dX8_lacking_15
def pX8_canShoot_30 (r : Nat → Int32) (s0 : Int32) : Option (Int32) := bz s0
def pX8_canShoot_29 (r : Nat → Int32) : Option (Int32) := pX8_canShoot_30 r (nI 0)
def pX8_canShoot (r : Nat → Int32) (x1 : Int32) : Option (Int32) := (pX8_isScene r x1).bind fun v1 => if v1 = 0 then pX8_canShoot_29 r else (pX8_told r x1 (nI 5)).bind fun v2 => if v2 = 0 then (pX8_lacking r x1).bind fun v3 => if v3 = 0 then pX8_canShoot_30 r (nI 1) else pX8_canShoot_29 r else pX8_canShoot_29 r
abbrev rmX8_canShoot : Room := { frames := 6, cells := 0, slots := 0, locals := 140 }
set_option maxHeartbeats 4000000 in
set_option maxRecDepth 100000 in
theorem bX8_canShoot_30 {p : Program} {l : Launch} {e : Env} {s : State} {m : MethodId} {args : Array Value} {below : List Frame} {meth : Method} {c : Code} {g : va_G} {cy : Nat → ClassId} (hC : CX p s m args meth c g cy 2 cX8_canShoot wsX8_canShoot RX8) (hr : meth.sig.returnType = (some .boolean)) {h0 : Nat} {res : Int32} : ∀ (r : Nat → Int32) (s0 : Int32)(h : pX8_canShoot_30 r s0 = some res), V p l e (headSpec wsX8_canShoot rmX8_canShoot).room s m args below meth c g 2 0 0 (MQ below (QRi res) args s 0 0 nF) nF (fun _ => True) [(h0, .inl (cy 0, 164, .inl r))] 30 [] [.int s0] := by
  intro r s0 h
  unfold pX8_canShoot_30 at h
  obtain ⟨e9, hn⟩ := bz_g h
  exact v_irt hC hr hn e9 dX8_canShoot_30
set_option maxHeartbeats 4000000 in
set_option maxRecDepth 100000 in
theorem bX8_canShoot_29 {p : Program} {l : Launch} {e : Env} {s : State} {m : MethodId} {args : Array Value} {below : List Frame} {meth : Method} {c : Code} {g : va_G} {cy : Nat → ClassId} (hC : CX p s m args meth c g cy 2 cX8_canShoot wsX8_canShoot RX8) (hr : meth.sig.returnType = (some .boolean)) {h0 : Nat} {res : Int32} : ∀ (r : Nat → Int32) (h : pX8_canShoot_29 r = some res), V p l e (headSpec wsX8_canShoot rmX8_canShoot).room s m args below meth c g 2 0 0 (MQ below (QRi res) args s 0 0 nF) nF (fun _ => True) [(h0, .inl (cy 0, 164, .inl r))] 29 [] [] := by
  intro r  h
  unfold pX8_canShoot_29 at h
  refine v_iconst hC (v := (nI 0)) dX8_canShoot_29 (by decide) rfl ?_
  exact bX8_canShoot_30 hC hr _ _ h
set_option maxHeartbeats 4000000 in
set_option maxRecDepth 100000 in
theorem mX8_canShoot (l : Launch) (g : va_G) (cy : Nat → ClassId) (h0 : Nat) (r : Nat → Int32) (x1 : Int32) {res : Int32} (h : pX8_canShoot r x1 = some res) : Met l yX8_canShoot wsX8_canShoot rmX8_canShoot (PW [.ref h0, .int x1] g cy [(h0, .inl (cy 0, 164, .inl r))]) (QRi res) 0 0 nF := by
  refine m_ofV (cc := cX8_canShoot) (nL := 2) (ret := (some .boolean)) (B := fun _ => True) RX8 rfl (by decide) rfl [(0, .ref h0), (1, .int x1)] rfl (Nat.le_of_ble_eq_true rfl) (fun h => h) ?_
  intro p e s m args below meth c hC hr
  unfold pX8_canShoot at h
  refine v_aload_n hC dX8_canShoot_0 rfl 0 rfl rfl ?_
  refine v_iload_n hC dX8_canShoot_1 rfl 1 rfl rfl ?_
  obtain ⟨v1, hv1, h⟩ := bind_g h
  refine v_callSri hC (n := 2) (st := []) (mX8_isScene l g cy h0 r x1 hv1) gX8_canShoot_X8_isScene rfl rfl rfl (by decide +kernel) ⟨Nat.le_of_ble_eq_true rfl, Nat.le_of_ble_eq_true rfl⟩ [0] rfl rfl rfl rfl (Nat.le_of_ble_eq_true rfl) rfl ⟨Nat.zero_le _, Nat.zero_le _⟩ dX8_canShoot_2 rfl ?_
  refine v_if_eq hC (tgt := 29) dX8_canShoot_5 (by decide) rfl (fun c => ?_) (fun c => ?_)
  · have h := ite_t c h
    exact v_sub [] (lv' := []) rfl (bX8_canShoot_29 hC hr _ h)
  · have h := ite_f c h
    refine v_aload_n hC dX8_canShoot_8 rfl 0 rfl rfl ?_
    refine v_iload_n hC dX8_canShoot_9 rfl 1 rfl rfl ?_
    refine v_iconst hC (v := (nI 5)) dX8_canShoot_10 (by decide) rfl ?_
    obtain ⟨v2, hv2, h⟩ := bind_g h
    refine v_callSri hC (n := 3) (st := []) (mX8_told l g cy h0 r x1 (nI 5) hv2) gX8_canShoot_X8_told rfl rfl rfl (by decide +kernel) ⟨Nat.le_of_ble_eq_true rfl, Nat.le_of_ble_eq_true rfl⟩ [0] rfl rfl rfl rfl (Nat.le_of_ble_eq_true rfl) rfl ⟨Nat.zero_le _, Nat.zero_le _⟩ dX8_canShoot_11 rfl ?_
    refine v_if_ne hC (tgt := 29) dX8_canShoot_14 (by decide) rfl (fun c => ?_) (fun c => ?_)
    · have h := ite_f c h
      exact v_sub [] (lv' := []) rfl (bX8_canShoot_29 hC hr _ h)
    · have h := ite_t c h
      refine v_aload_n hC dX8_canShoot_17 rfl 0 rfl rfl ?_
      refine v_iload_n hC dX8_canShoot_18 rfl 1 rfl rfl ?_
      obtain ⟨v3, hv3, h⟩ := bind_g h
      refine v_callSri hC (n := 2) (st := []) (mX8_lacking l g cy h0 r x1 hv3) gX8_canShoot_X8_lacking rfl rfl rfl (by decide +kernel) ⟨Nat.le_of_ble_eq_true rfl, Nat.le_of_ble_eq_true rfl⟩ [0] rfl rfl rfl rfl (Nat.le_of_ble_eq_true rfl) rfl ⟨Nat.zero_le _, Nat.zero_le _⟩ dX8_canShoot_19 rfl ?_
      refine v_if_ne hC (tgt := 29) dX8_canShoot_22 (by decide) rfl (fun c => ?_) (fun c => ?_)
      · have h := ite_f c h
        exact v_sub [] (lv' := []) rfl (bX8_canShoot_29 hC hr _ h)
      · have h := ite_t c h
        refine v_iconst hC (v := (nI 1)) dX8_canShoot_25 (by decide) rfl ?_
        refine v_goto hC (tgt := 30) dX8_canShoot_26 (by decide) ?_
        exact v_sub [] (lv' := []) rfl (bX8_canShoot_30 hC hr _ _ h)
def pX8_work_59 (r : Nat → Int32) (y1 : Int32) (y2 : Int32) (y3 : Int32) (s0 : Int32) : Option ((Nat → Int32)) := if nb (nI 8) 164 = true then if nb (nI 9) 164 = true then (pX8_of r y1 (nI 2)).bind fun v1 => (pX8_lay r y1 (nI 2) (v1 + y2)).bind fun v2 => (pX8_lay v2 y1 (nI 3) y3).bind fun v3 => (pX8_of v3 y1 (nI 4)).bind fun v4 => (pX8_lay v3 y1 (nI 4) (v4 + s0)).bind fun v5 => (pX8_of v5 y1 (nI 5)).bind fun v6 => (pX8_lay v5 y1 (nI 5) ((v6 + ((r (nI 8).toNatClampNeg) * (((y2 + (nI 60)) - (nI 1)) / (nI 60)))) + ((r (nI 9).toNatClampNeg) * s0))).bind fun v7 => if nb (nI 3) 164 = true then if nb (nI 3) 164 = true then if nb (nI 4) 164 = true then if nb (nI 4) 164 = true then if nb (nI 5) 164 = true then if nb (nI 5) 164 = true then some (upd (upd (upd v7 (nI 3).toNatClampNeg ((v7 (nI 3).toNatClampNeg) + ((r (nI 8).toNatClampNeg) * (((y2 + (nI 60)) - (nI 1)) / (nI 60))))) (nI 4).toNatClampNeg (((upd v7 (nI 3).toNatClampNeg ((v7 (nI 3).toNatClampNeg) + ((r (nI 8).toNatClampNeg) * (((y2 + (nI 60)) - (nI 1)) / (nI 60))))) (nI 4).toNatClampNeg) + ((r (nI 9).toNatClampNeg) * s0))) (nI 5).toNatClampNeg (((upd (upd v7 (nI 3).toNatClampNeg ((v7 (nI 3).toNatClampNeg) + ((r (nI 8).toNatClampNeg) * (((y2 + (nI 60)) - (nI 1)) / (nI 60))))) (nI 4).toNatClampNeg (((upd v7 (nI 3).toNatClampNeg ((v7 (nI 3).toNatClampNeg) + ((r (nI 8).toNatClampNeg) * (((y2 + (nI 60)) - (nI 1)) / (nI 60))))) (nI 4).toNatClampNeg) + ((r (nI 9).toNatClampNeg) * s0))) (nI 5).toNatClampNeg) + s0)) else none else none else none else none else none else none else none else none
def pX8_work_33 (r : Nat → Int32) (y1 : Int32) (y2 : Int32) (y3 : Int32) (s0 : Int32) : Option ((Nat → Int32)) := (pX8_of r y1 (nI 4)).bind fun v1 => if s0 ≤ v1 then pX8_work_59 r y1 y2 y3 (nI 0) else (pX8_of r y1 (nI 4)).bind fun v2 => pX8_work_59 r y1 y2 y3 (s0 - v2)
def pX8_work (r : Nat → Int32) (x1 : Int32) (x2 : Int32) : Option ((Nat → Int32)) := (pX8_of r x1 (nI 3)).bind fun v1 => if (v1 + x2) ≤ (nI 360) then pX8_work_33 r x1 x2 (v1 + x2) (nI 0) else pX8_work_33 r x1 x2 (v1 + x2) (((((v1 + x2) - (nI 360)) + (nI 30)) - (nI 1)) / (nI 30))
abbrev rmX8_work : Room := { frames := 1, cells := 0, slots := 0, locals := 23 }
set_option maxHeartbeats 4000000 in
set_option maxRecDepth 100000 in
theorem bX8_work_59 {p : Program} {l : Launch} {e : Env} {s : State} {m : MethodId} {args : Array Value} {below : List Frame} {meth : Method} {c : Code} {g : va_G} {cy : Nat → ClassId} (hC : CX p s m args meth c g cy 8 cX8_work wsX8_work RX8) (hr : meth.sig.returnType = none) {h0 : Nat} {A : Nat → Prop} {res : (Nat → Int32)} : ∀ (r : Nat → Int32) (y1 : Int32) (y2 : Int32) (y3 : Int32) (s0 : Int32)(h : pX8_work_59 r y1 y2 y3 s0 = some res), V p l e (headSpec wsX8_work rmX8_work).room s m args below meth c g 8 0 0 (MQ below (QWv g A [(h0, .inl (cy 0, 164, .inl res))]) args s 0 0 A) A A [(h0, .inl (cy 0, 164, .inl r))] 59 [(0, .ref h0), (1, .int y1), (2, .int y2), (3, .int y3)] [.int s0] := by
  intro r y1 y2 y3 s0 h
  unfold pX8_work_59 at h
  refine v_istore hC dX8_work_59 (by decide) [(5, .int s0), (0, .ref h0), (1, .int y1), (2, .int y2), (3, .int y3)] rfl rfl ?_
  refine v_aload_n hC dX8_work_61 rfl 1 rfl rfl ?_
  refine v_bipush hC (v := (nI 8)) dX8_work_62 (by decide) rfl ?_
  obtain ⟨hn, h⟩ := ite_g h
  refine v_iald hC 0 rfl hn dX8_work_64 rfl ?_
  refine v_iload_n hC dX8_work_65 rfl 3 rfl rfl ?_
  refine v_bipush hC (v := (nI 60)) dX8_work_66 (by decide) rfl ?_
  refine v_iadd hC dX8_work_68 rfl ?_
  refine v_iconst hC (v := (nI 1)) dX8_work_69 (by decide) rfl ?_
  refine v_isub hC dX8_work_70 rfl ?_
  refine v_bipush hC (v := (nI 60)) dX8_work_71 (by decide) rfl ?_
  refine v_idiv hC dX8_work_73 (by decide) rfl ?_
  refine v_imul hC dX8_work_74 rfl ?_
  refine v_istore hC dX8_work_75 (by decide) [(6, .int ((r (nI 8).toNatClampNeg) * (((y2 + (nI 60)) - (nI 1)) / (nI 60)))), (5, .int s0), (0, .ref h0), (1, .int y1), (2, .int y2), (3, .int y3)] rfl rfl ?_
  refine v_aload_n hC dX8_work_77 rfl 2 rfl rfl ?_
  refine v_bipush hC (v := (nI 9)) dX8_work_78 (by decide) rfl ?_
  obtain ⟨hn, h⟩ := ite_g h
  refine v_iald hC 0 rfl hn dX8_work_80 rfl ?_
  refine v_iload hC dX8_work_81 1 rfl rfl ?_
  refine v_imul hC dX8_work_83 rfl ?_
  refine v_istore hC dX8_work_84 (by decide) [(7, .int ((r (nI 9).toNatClampNeg) * s0)), (6, .int ((r (nI 8).toNatClampNeg) * (((y2 + (nI 60)) - (nI 1)) / (nI 60)))), (5, .int s0), (0, .ref h0), (1, .int y1), (2, .int y2), (3, .int y3)] rfl rfl ?_
  refine v_aload_n hC dX8_work_86 rfl 3 rfl rfl ?_
  refine v_iload_n hC dX8_work_87 rfl 4 rfl rfl ?_
  refine v_iconst hC (v := (nI 2)) dX8_work_88 (by decide) rfl ?_
  refine v_aload_n hC dX8_work_89 rfl 3 rfl rfl ?_
  refine v_iload_n hC dX8_work_90 rfl 4 rfl rfl ?_
  refine v_iconst hC (v := (nI 2)) dX8_work_91 (by decide) rfl ?_
  obtain ⟨v1, hv1, h⟩ := bind_g h
  refine v_callSri hC (n := 3) (st := [.int (nI 2), .int y1, .ref h0]) (mX8_of l g cy h0 r y1 (nI 2) hv1) gX8_work_X8_of rfl rfl rfl (by decide +kernel) ⟨Nat.le_of_ble_eq_true rfl, Nat.le_of_ble_eq_true rfl⟩ [0] rfl rfl rfl rfl (Nat.le_of_ble_eq_true rfl) rfl ⟨Nat.zero_le _, Nat.zero_le _⟩ dX8_work_92 rfl ?_
  refine v_iload_n hC dX8_work_95 rfl 5 rfl rfl ?_
  refine v_iadd hC dX8_work_96 rfl ?_
  obtain ⟨v2, hv2, h⟩ := bind_g h
  refine v_callSwv hC (n := 4) (st := []) [(h0, .inl (cy 0, 164, .inl v2))] _ (mX8_lay l g cy h0 r y1 (nI 2) (v1 + y2) hv2) gX8_work_X8_lay rfl rfl rfl (by decide +kernel) ⟨Nat.le_of_ble_eq_true rfl, Nat.le_of_ble_eq_true rfl⟩ [0] [] rfl rfl rfl rfl rfl rfl rfl rfl rfl (Nat.le_of_ble_eq_true rfl) rfl ⟨Nat.zero_le _, Nat.zero_le _⟩ dX8_work_97 rfl ?_
  refine v_aload_n hC dX8_work_100 rfl 3 rfl rfl ?_
  refine v_iload_n hC dX8_work_101 rfl 4 rfl rfl ?_
  refine v_iconst hC (v := (nI 3)) dX8_work_102 (by decide) rfl ?_
  refine v_iload_n hC dX8_work_103 rfl 6 rfl rfl ?_
  obtain ⟨v3, hv3, h⟩ := bind_g h
  refine v_callSwv hC (n := 4) (st := []) [(h0, .inl (cy 0, 164, .inl v3))] _ (mX8_lay l g cy h0 v2 y1 (nI 3) y3 hv3) gX8_work_X8_lay rfl rfl rfl (by decide +kernel) ⟨Nat.le_of_ble_eq_true rfl, Nat.le_of_ble_eq_true rfl⟩ [0] [] rfl rfl rfl rfl rfl rfl rfl rfl rfl (Nat.le_of_ble_eq_true rfl) rfl ⟨Nat.zero_le _, Nat.zero_le _⟩ dX8_work_104 rfl ?_
  refine v_aload_n hC dX8_work_107 rfl 3 rfl rfl ?_
  refine v_iload_n hC dX8_work_108 rfl 4 rfl rfl ?_
  refine v_iconst hC (v := (nI 4)) dX8_work_109 (by decide) rfl ?_
  refine v_aload_n hC dX8_work_110 rfl 3 rfl rfl ?_
  refine v_iload_n hC dX8_work_111 rfl 4 rfl rfl ?_
  refine v_iconst hC (v := (nI 4)) dX8_work_112 (by decide) rfl ?_
  obtain ⟨v4, hv4, h⟩ := bind_g h
  refine v_callSri hC (n := 3) (st := [.int (nI 4), .int y1, .ref h0]) (mX8_of l g cy h0 v3 y1 (nI 4) hv4) gX8_work_X8_of rfl rfl rfl (by decide +kernel) ⟨Nat.le_of_ble_eq_true rfl, Nat.le_of_ble_eq_true rfl⟩ [0] rfl rfl rfl rfl (Nat.le_of_ble_eq_true rfl) rfl ⟨Nat.zero_le _, Nat.zero_le _⟩ dX8_work_113 rfl ?_
  refine v_iload hC dX8_work_116 2 rfl rfl ?_
  refine v_iadd hC dX8_work_118 rfl ?_
  obtain ⟨v5, hv5, h⟩ := bind_g h
  refine v_callSwv hC (n := 4) (st := []) [(h0, .inl (cy 0, 164, .inl v5))] _ (mX8_lay l g cy h0 v3 y1 (nI 4) (v4 + s0) hv5) gX8_work_X8_lay rfl rfl rfl (by decide +kernel) ⟨Nat.le_of_ble_eq_true rfl, Nat.le_of_ble_eq_true rfl⟩ [0] [] rfl rfl rfl rfl rfl rfl rfl rfl rfl (Nat.le_of_ble_eq_true rfl) rfl ⟨Nat.zero_le _, Nat.zero_le _⟩ dX8_work_119 rfl ?_
  refine v_aload_n hC dX8_work_122 rfl 3 rfl rfl ?_
  refine v_iload_n hC dX8_work_123 rfl 4 rfl rfl ?_
  refine v_iconst hC (v := (nI 5)) dX8_work_124 (by decide) rfl ?_
  refine v_aload_n hC dX8_work_125 rfl 3 rfl rfl ?_
  refine v_iload_n hC dX8_work_126 rfl 4 rfl rfl ?_
  refine v_iconst hC (v := (nI 5)) dX8_work_127 (by decide) rfl ?_
  obtain ⟨v6, hv6, h⟩ := bind_g h
  refine v_callSri hC (n := 3) (st := [.int (nI 5), .int y1, .ref h0]) (mX8_of l g cy h0 v5 y1 (nI 5) hv6) gX8_work_X8_of rfl rfl rfl (by decide +kernel) ⟨Nat.le_of_ble_eq_true rfl, Nat.le_of_ble_eq_true rfl⟩ [0] rfl rfl rfl rfl (Nat.le_of_ble_eq_true rfl) rfl ⟨Nat.zero_le _, Nat.zero_le _⟩ dX8_work_128 rfl ?_
  refine v_iload hC dX8_work_131 1 rfl rfl ?_
  refine v_iadd hC dX8_work_133 rfl ?_
  refine v_iload hC dX8_work_134 0 rfl rfl ?_
  refine v_iadd hC dX8_work_136 rfl ?_
  obtain ⟨v7, hv7, h⟩ := bind_g h
  refine v_callSwv hC (n := 4) (st := []) [(h0, .inl (cy 0, 164, .inl v7))] _ (mX8_lay l g cy h0 v5 y1 (nI 5) ((v6 + ((r (nI 8).toNatClampNeg) * (((y2 + (nI 60)) - (nI 1)) / (nI 60)))) + ((r (nI 9).toNatClampNeg) * s0)) hv7) gX8_work_X8_lay rfl rfl rfl (by decide +kernel) ⟨Nat.le_of_ble_eq_true rfl, Nat.le_of_ble_eq_true rfl⟩ [0] [] rfl rfl rfl rfl rfl rfl rfl rfl rfl (Nat.le_of_ble_eq_true rfl) rfl ⟨Nat.zero_le _, Nat.zero_le _⟩ dX8_work_137 rfl ?_
  refine v_aload_n hC dX8_work_140 rfl 3 rfl rfl ?_
  refine v_iconst hC (v := (nI 3)) dX8_work_141 (by decide) rfl ?_
  refine v_dup2 hC dX8_work_142 rfl rfl rfl ?_
  obtain ⟨hn, h⟩ := ite_g h
  refine v_iald hC 0 rfl hn dX8_work_143 rfl ?_
  refine v_iload hC dX8_work_144 1 rfl rfl ?_
  refine v_iadd hC dX8_work_146 rfl ?_
  obtain ⟨hn, h⟩ := ite_g h
  refine v_iast hC 0 rfl hn dX8_work_147 [(h0, .inl (cy 0, 164, .inl (upd v7 (nI 3).toNatClampNeg ((v7 (nI 3).toNatClampNeg) + ((r (nI 8).toNatClampNeg) * (((y2 + (nI 60)) - (nI 1)) / (nI 60)))))))] rfl rfl ?_
  refine v_aload_n hC dX8_work_148 rfl 3 rfl rfl ?_
  refine v_iconst hC (v := (nI 4)) dX8_work_149 (by decide) rfl ?_
  refine v_dup2 hC dX8_work_150 rfl rfl rfl ?_
  obtain ⟨hn, h⟩ := ite_g h
  refine v_iald hC 0 rfl hn dX8_work_151 rfl ?_
  refine v_iload hC dX8_work_152 0 rfl rfl ?_
  refine v_iadd hC dX8_work_154 rfl ?_
  obtain ⟨hn, h⟩ := ite_g h
  refine v_iast hC 0 rfl hn dX8_work_155 [(h0, .inl (cy 0, 164, .inl (upd (upd v7 (nI 3).toNatClampNeg ((v7 (nI 3).toNatClampNeg) + ((r (nI 8).toNatClampNeg) * (((y2 + (nI 60)) - (nI 1)) / (nI 60))))) (nI 4).toNatClampNeg (((upd v7 (nI 3).toNatClampNeg ((v7 (nI 3).toNatClampNeg) + ((r (nI 8).toNatClampNeg) * (((y2 + (nI 60)) - (nI 1)) / (nI 60))))) (nI 4).toNatClampNeg) + ((r (nI 9).toNatClampNeg) * s0)))))] rfl rfl ?_
  refine v_aload_n hC dX8_work_156 rfl 3 rfl rfl ?_
  refine v_iconst hC (v := (nI 5)) dX8_work_157 (by decide) rfl ?_
  refine v_dup2 hC dX8_work_158 rfl rfl rfl ?_
  obtain ⟨hn, h⟩ := ite_g h
  refine v_iald hC 0 rfl hn dX8_work_159 rfl ?_
  refine v_iload hC dX8_work_160 2 rfl rfl ?_
  refine v_iadd hC dX8_work_162 rfl ?_
  obtain ⟨hn, h⟩ := ite_g h
  refine v_iast hC 0 rfl hn dX8_work_163 [(h0, .inl (cy 0, 164, .inl (upd (upd (upd v7 (nI 3).toNatClampNeg ((v7 (nI 3).toNatClampNeg) + ((r (nI 8).toNatClampNeg) * (((y2 + (nI 60)) - (nI 1)) / (nI 60))))) (nI 4).toNatClampNeg (((upd v7 (nI 3).toNatClampNeg ((v7 (nI 3).toNatClampNeg) + ((r (nI 8).toNatClampNeg) * (((y2 + (nI 60)) - (nI 1)) / (nI 60))))) (nI 4).toNatClampNeg) + ((r (nI 9).toNatClampNeg) * s0))) (nI 5).toNatClampNeg (((upd (upd v7 (nI 3).toNatClampNeg ((v7 (nI 3).toNatClampNeg) + ((r (nI 8).toNatClampNeg) * (((y2 + (nI 60)) - (nI 1)) / (nI 60))))) (nI 4).toNatClampNeg (((upd v7 (nI 3).toNatClampNeg ((v7 (nI 3).toNatClampNeg) + ((r (nI 8).toNatClampNeg) * (((y2 + (nI 60)) - (nI 1)) / (nI 60))))) (nI 4).toNatClampNeg) + ((r (nI 9).toNatClampNeg) * s0))) (nI 5).toNatClampNeg) + s0))))] rfl rfl ?_
  obtain rfl := Option.some.inj h
  exact v_vrw hC hr dX8_work_164
set_option maxHeartbeats 4000000 in
set_option maxRecDepth 100000 in
theorem bX8_work_33 {p : Program} {l : Launch} {e : Env} {s : State} {m : MethodId} {args : Array Value} {below : List Frame} {meth : Method} {c : Code} {g : va_G} {cy : Nat → ClassId} (hC : CX p s m args meth c g cy 8 cX8_work wsX8_work RX8) (hr : meth.sig.returnType = none) {h0 : Nat} {A : Nat → Prop} {res : (Nat → Int32)} : ∀ (r : Nat → Int32) (y1 : Int32) (y2 : Int32) (y3 : Int32) (s0 : Int32)(h : pX8_work_33 r y1 y2 y3 s0 = some res), V p l e (headSpec wsX8_work rmX8_work).room s m args below meth c g 8 0 0 (MQ below (QWv g A [(h0, .inl (cy 0, 164, .inl res))]) args s 0 0 A) A A [(h0, .inl (cy 0, 164, .inl r))] 33 [(0, .ref h0), (1, .int y1), (2, .int y2), (3, .int y3)] [.int s0] := by
  intro r y1 y2 y3 s0 h
  unfold pX8_work_33 at h
  refine v_istore hC dX8_work_33 (by decide) [(4, .int s0), (0, .ref h0), (1, .int y1), (2, .int y2), (3, .int y3)] rfl rfl ?_
  refine v_iload hC dX8_work_35 0 rfl rfl ?_
  refine v_aload_n hC dX8_work_37 rfl 1 rfl rfl ?_
  refine v_iload_n hC dX8_work_38 rfl 2 rfl rfl ?_
  refine v_iconst hC (v := (nI 4)) dX8_work_39 (by decide) rfl ?_
  obtain ⟨v1, hv1, h⟩ := bind_g h
  refine v_callSri hC (n := 3) (st := [.int s0]) (mX8_of l g cy h0 r y1 (nI 4) hv1) gX8_work_X8_of rfl rfl rfl (by decide +kernel) ⟨Nat.le_of_ble_eq_true rfl, Nat.le_of_ble_eq_true rfl⟩ [0] rfl rfl rfl rfl (Nat.le_of_ble_eq_true rfl) rfl ⟨Nat.zero_le _, Nat.zero_le _⟩ dX8_work_40 rfl ?_
  refine v_icmp_le hC (tgt := 58) dX8_work_43 (by decide) rfl (fun c => ?_) (fun c => ?_)
  · have h := ite_t c h
    refine v_iconst hC (v := (nI 0)) dX8_work_58 (by decide) rfl ?_
    exact v_sub [1, 2, 3, 4] (lv' := [(0, .ref h0), (1, .int y1), (2, .int y2), (3, .int y3)]) rfl (bX8_work_59 hC hr _ _ _ _ _ h)
  · have h := ite_f c h
    refine v_iload hC dX8_work_46 0 rfl rfl ?_
    refine v_aload_n hC dX8_work_48 rfl 1 rfl rfl ?_
    refine v_iload_n hC dX8_work_49 rfl 2 rfl rfl ?_
    refine v_iconst hC (v := (nI 4)) dX8_work_50 (by decide) rfl ?_
    obtain ⟨v2, hv2, h⟩ := bind_g h
    refine v_callSri hC (n := 3) (st := [.int s0]) (mX8_of l g cy h0 r y1 (nI 4) hv2) gX8_work_X8_of rfl rfl rfl (by decide +kernel) ⟨Nat.le_of_ble_eq_true rfl, Nat.le_of_ble_eq_true rfl⟩ [0] rfl rfl rfl rfl (Nat.le_of_ble_eq_true rfl) rfl ⟨Nat.zero_le _, Nat.zero_le _⟩ dX8_work_51 rfl ?_
    refine v_isub hC dX8_work_54 rfl ?_
    refine v_goto hC (tgt := 59) dX8_work_55 (by decide) ?_
    exact v_sub [1, 2, 3, 4] (lv' := [(0, .ref h0), (1, .int y1), (2, .int y2), (3, .int y3)]) rfl (bX8_work_59 hC hr _ _ _ _ _ h)
set_option maxHeartbeats 4000000 in
set_option maxRecDepth 100000 in
theorem mX8_work (l : Launch) (g : va_G) (cy : Nat → ClassId) (h0 : Nat) (r : Nat → Int32) (x1 : Int32) (x2 : Int32) {res : (Nat → Int32)} (h : pX8_work r x1 x2 = some res) : Met l yX8_work wsX8_work rmX8_work (PW [.ref h0, .int x1, .int x2] g cy [(h0, .inl (cy 0, 164, .inl r))]) (QWv g (wA [(h0, .inl (cy 0, 164, .inl r))]) [(h0, .inl (cy 0, 164, .inl res))]) 0 0 (wA [(h0, .inl (cy 0, 164, .inl r))]) := by
  refine m_ofV (cc := cX8_work) (nL := 8) (ret := none) (B := (wA [(h0, .inl (cy 0, 164, .inl r))])) RX8 rfl (by decide) rfl [(0, .ref h0), (1, .int x1), (2, .int x2)] rfl (Nat.le_of_ble_eq_true rfl) (wA.self) ?_
  intro p e s m args below meth c hC hr
  generalize (wA [(h0, .inl (cy 0, 164, .inl r))]) = A
  unfold pX8_work at h
  refine v_aload_n hC dX8_work_0 rfl 0 rfl rfl ?_
  refine v_iload_n hC dX8_work_1 rfl 1 rfl rfl ?_
  refine v_iconst hC (v := (nI 3)) dX8_work_2 (by decide) rfl ?_
  obtain ⟨v1, hv1, h⟩ := bind_g h
  refine v_callSri hC (n := 3) (st := []) (mX8_of l g cy h0 r x1 (nI 3) hv1) gX8_work_X8_of rfl rfl rfl (by decide +kernel) ⟨Nat.le_of_ble_eq_true rfl, Nat.le_of_ble_eq_true rfl⟩ [0] rfl rfl rfl rfl (Nat.le_of_ble_eq_true rfl) rfl ⟨Nat.zero_le _, Nat.zero_le _⟩ dX8_work_3 rfl ?_
  refine v_iload_n hC dX8_work_6 rfl 2 rfl rfl ?_
  refine v_iadd hC dX8_work_7 rfl ?_
  refine v_istore_n hC dX8_work_8 rfl (by decide) [(3, .int (v1 + x2)), (0, .ref h0), (1, .int x1), (2, .int x2)] rfl rfl ?_
  refine v_iload_n hC dX8_work_9 rfl 0 rfl rfl ?_
  refine v_sipush hC (v := (nI 360)) dX8_work_10 (by decide) rfl ?_
  refine v_icmp_le hC (tgt := 32) dX8_work_13 (by decide) rfl (fun c => ?_) (fun c => ?_)
  · have h := ite_t c h
    refine v_iconst hC (v := (nI 0)) dX8_work_32 (by decide) rfl ?_
    exact v_sub [1, 2, 3, 0] (lv' := [(0, .ref h0), (1, .int x1), (2, .int x2), (3, .int (v1 + x2))]) rfl (bX8_work_33 hC hr _ _ _ _ _ h)
  · have h := ite_f c h
    refine v_iload_n hC dX8_work_16 rfl 0 rfl rfl ?_
    refine v_sipush hC (v := (nI 360)) dX8_work_17 (by decide) rfl ?_
    refine v_isub hC dX8_work_20 rfl ?_
    refine v_bipush hC (v := (nI 30)) dX8_work_21 (by decide) rfl ?_
    refine v_iadd hC dX8_work_23 rfl ?_
    refine v_iconst hC (v := (nI 1)) dX8_work_24 (by decide) rfl ?_
    refine v_isub hC dX8_work_25 rfl ?_
    refine v_bipush hC (v := (nI 30)) dX8_work_26 (by decide) rfl ?_
    refine v_idiv hC dX8_work_28 (by decide) rfl ?_
    refine v_goto hC (tgt := 33) dX8_work_29 (by decide) ?_
    exact v_sub [1, 2, 3, 0] (lv' := [(0, .ref h0), (1, .int x1), (2, .int x2), (3, .int (v1 + x2))]) rfl (bX8_work_33 hC hr _ _ _ _ _ h)
def pX8_shootOn_58 (kk : (Nat → Int32) → Int32 → Int32 → Int32 → Option (Int32 × (Nat → Int32))) (r : Nat → Int32) (y1 : Int32) (y2 : Int32) (y3 : Int32) : Option (Int32 × (Nat → Int32)) := kk r y1 y2 (y3 + (nI 1))
def pX8_shootOn_32 : Nat → (Nat → Int32) → Int32 → Int32 → Int32 → Option (Int32 × (Nat → Int32))
  | 0, _, _, _, _ => none
  | k + 1, r, y1, y2, y3 => if nb (nI 0) 164 = true then if (r (nI 0).toNatClampNeg) ≤ y3 then if nb (((nI 94) + ((nI 7) * y1)) + (nI 5)) 164 = true then if nb (((nI 94) + ((nI 7) * y1)) + (nI 6)) 164 = true then some (y2, (upd (upd r (((nI 94) + ((nI 7) * y1)) + (nI 5)).toNatClampNeg (nI 1)) (((nI 94) + ((nI 7) * y1)) + (nI 6)).toNatClampNeg y2)) else none else none else (pX8_has y2 y3).bind fun v1 => if v1 = 0 then pX8_shootOn_58 (fun u0 u1 u2 u3 => pX8_shootOn_32 k u0 u1 u2 u3) r y1 y2 y3 else (pX8_told r y1 (nI 4)).bind fun v2 => (pX8_work r y3 v2).bind fun v3 => pX8_shootOn_58 (fun u0 u1 u2 u3 => pX8_shootOn_32 k u0 u1 u2 u3) v3 y1 y2 y3 else none
theorem pX8_shootOn_32_s {k : Nat} (r : Nat → Int32) (y1 : Int32) (y2 : Int32) (y3 : Int32) : pX8_shootOn_32 (k + 1) r y1 y2 y3 = if nb (nI 0) 164 = true then if (r (nI 0).toNatClampNeg) ≤ y3 then if nb (((nI 94) + ((nI 7) * y1)) + (nI 5)) 164 = true then if nb (((nI 94) + ((nI 7) * y1)) + (nI 6)) 164 = true then some (y2, (upd (upd r (((nI 94) + ((nI 7) * y1)) + (nI 5)).toNatClampNeg (nI 1)) (((nI 94) + ((nI 7) * y1)) + (nI 6)).toNatClampNeg y2)) else none else none else (pX8_has y2 y3).bind fun v1 => if v1 = 0 then pX8_shootOn_58 (fun u0 u1 u2 u3 => pX8_shootOn_32 k u0 u1 u2 u3) r y1 y2 y3 else (pX8_told r y1 (nI 4)).bind fun v2 => (pX8_work r y3 v2).bind fun v3 => pX8_shootOn_58 (fun u0 u1 u2 u3 => pX8_shootOn_32 k u0 u1 u2 u3) v3 y1 y2 y3 else none := rfl
def pX8_shootOn (r : Nat → Int32) (x1 : Int32) : Option (Int32 × (Nat → Int32)) := (pX8_choose r x1).bind fun v1 => if nb (nI 6) 164 = true then (pX8_seen r x1 (nI 1)).bind fun v2 => (pX8_facesOf r v1).bind fun v3 => (pX8_bits (v2 &&& (v3 ^^^ (-1)))).bind fun v4 => if nb (nI 6) 164 = true then pX8_shootOn_32 FU (upd r (nI 6).toNatClampNeg ((r (nI 6).toNatClampNeg) + v4)) x1 v1 (nI 0) else none else none
abbrev rmX8_shootOn : Room := { frames := 5, cells := 0, slots := 0, locals := 119 }
set_option maxHeartbeats 4000000 in
set_option maxRecDepth 100000 in
theorem bX8_shootOn_58 {p : Program} {l : Launch} {e : Env} {s : State} {m : MethodId} {args : Array Value} {below : List Frame} {meth : Method} {c : Code} {g : va_G} {cy : Nat → ClassId} (hC : CX p s m args meth c g cy 4 cX8_shootOn wsX8_shootOn RX8) (hr : meth.sig.returnType = (some .int)) {h0 : Nat} {A : Nat → Prop} {res : Int32 × (Nat → Int32)} : ∀ (r : Nat → Int32) (y1 : Int32) (y2 : Int32) (y3 : Int32) {kk : (Nat → Int32) → Int32 → Int32 → Int32 → Option (Int32 × (Nat → Int32))} (hk : ∀ (r : Nat → Int32) (y1 : Int32) (y2 : Int32) (y3 : Int32), kk r y1 y2 y3 = some res → V p l e (headSpec wsX8_shootOn rmX8_shootOn).room s m args below meth c g 4 0 0 (MQ below (QWi g A res.1 [(h0, .inl (cy 0, 164, .inl res.2))]) args s 0 0 A) A A [(h0, .inl (cy 0, 164, .inl r))] 32 [(0, .ref h0), (1, .int y1), (2, .int y2), (3, .int y3)] []) (h : pX8_shootOn_58 kk r y1 y2 y3 = some res), V p l e (headSpec wsX8_shootOn rmX8_shootOn).room s m args below meth c g 4 0 0 (MQ below (QWi g A res.1 [(h0, .inl (cy 0, 164, .inl res.2))]) args s 0 0 A) A A [(h0, .inl (cy 0, 164, .inl r))] 58 [(0, .ref h0), (1, .int y1), (2, .int y2), (3, .int y3)] [] := by
  intro r y1 y2 y3 kk hk h
  unfold pX8_shootOn_58 at h
  refine v_iinc hC dX8_shootOn_58 3 rfl (v := (y3 + (nI 1))) rfl (by decide) [(3, .int (y3 + (nI 1))), (0, .ref h0), (1, .int y1), (2, .int y2)] rfl rfl ?_
  refine v_goto hC (tgt := 32) dX8_shootOn_61 (by decide) ?_
  exact v_sub [1, 2, 3, 0] (lv' := [(0, .ref h0), (1, .int y1), (2, .int y2), (3, .int (y3 + (nI 1)))]) rfl (hk _ _ _ _ h)
set_option maxHeartbeats 4000000 in
set_option maxRecDepth 100000 in
theorem bX8_shootOn_32 {p : Program} {l : Launch} {e : Env} {s : State} {m : MethodId} {args : Array Value} {below : List Frame} {meth : Method} {c : Code} {g : va_G} {cy : Nat → ClassId} (hC : CX p s m args meth c g cy 4 cX8_shootOn wsX8_shootOn RX8) (hr : meth.sig.returnType = (some .int)) {h0 : Nat} {A : Nat → Prop} {res : Int32 × (Nat → Int32)} : ∀ (k : Nat) (r : Nat → Int32) (y1 : Int32) (y2 : Int32) (y3 : Int32) (h : pX8_shootOn_32 k r y1 y2 y3 = some res), V p l e (headSpec wsX8_shootOn rmX8_shootOn).room s m args below meth c g 4 0 0 (MQ below (QWi g A res.1 [(h0, .inl (cy 0, 164, .inl res.2))]) args s 0 0 A) A A [(h0, .inl (cy 0, 164, .inl r))] 32 [(0, .ref h0), (1, .int y1), (2, .int y2), (3, .int y3)] [] := by
  intro k
  induction k with
  | zero =>
    intro r y1 y2 y3 h
    have h : (none : Option _) = some res := h
    cases h
  | succ k ih =>
    intro r y1 y2 y3 h
    rw [pX8_shootOn_32_s] at h
    refine v_iload_n hC dX8_shootOn_32 rfl 3 rfl rfl ?_
    refine v_aload_n hC dX8_shootOn_33 rfl 0 rfl rfl ?_
    refine v_iconst hC (v := (nI 0)) dX8_shootOn_34 (by decide) rfl ?_
    obtain ⟨hn, h⟩ := ite_g h
    refine v_iald hC 0 rfl hn dX8_shootOn_35 rfl ?_
    refine v_icmp_ge hC (tgt := 64) dX8_shootOn_36 (by decide) rfl (fun c => ?_) (fun c => ?_)
    · have h := ite_t c h
      refine v_aload_n hC dX8_shootOn_64 rfl 0 rfl rfl ?_
      refine v_bipush hC (v := (nI 94)) dX8_shootOn_65 (by decide) rfl ?_
      refine v_bipush hC (v := (nI 7)) dX8_shootOn_67 (by decide) rfl ?_
      refine v_iload_n hC dX8_shootOn_69 rfl 1 rfl rfl ?_
      refine v_imul hC dX8_shootOn_70 rfl ?_
      refine v_iadd hC dX8_shootOn_71 rfl ?_
      refine v_iconst hC (v := (nI 5)) dX8_shootOn_72 (by decide) rfl ?_
      refine v_iadd hC dX8_shootOn_73 rfl ?_
      refine v_iconst hC (v := (nI 1)) dX8_shootOn_74 (by decide) rfl ?_
      obtain ⟨hn, h⟩ := ite_g h
      refine v_iast hC 0 rfl hn dX8_shootOn_75 [(h0, .inl (cy 0, 164, .inl (upd r (((nI 94) + ((nI 7) * y1)) + (nI 5)).toNatClampNeg (nI 1))))] rfl rfl ?_
      refine v_aload_n hC dX8_shootOn_76 rfl 0 rfl rfl ?_
      refine v_bipush hC (v := (nI 94)) dX8_shootOn_77 (by decide) rfl ?_
      refine v_bipush hC (v := (nI 7)) dX8_shootOn_79 (by decide) rfl ?_
      refine v_iload_n hC dX8_shootOn_81 rfl 1 rfl rfl ?_
      refine v_imul hC dX8_shootOn_82 rfl ?_
      refine v_iadd hC dX8_shootOn_83 rfl ?_
      refine v_bipush hC (v := (nI 6)) dX8_shootOn_84 (by decide) rfl ?_
      refine v_iadd hC dX8_shootOn_86 rfl ?_
      refine v_iload_n hC dX8_shootOn_87 rfl 2 rfl rfl ?_
      obtain ⟨hn, h⟩ := ite_g h
      refine v_iast hC 0 rfl hn dX8_shootOn_88 [(h0, .inl (cy 0, 164, .inl (upd (upd r (((nI 94) + ((nI 7) * y1)) + (nI 5)).toNatClampNeg (nI 1)) (((nI 94) + ((nI 7) * y1)) + (nI 6)).toNatClampNeg y2)))] rfl rfl ?_
      refine v_iload_n hC dX8_shootOn_89 rfl 2 rfl rfl ?_
      obtain rfl := Option.some.inj h
      exact v_irw hC hr rfl rfl dX8_shootOn_90
    · have h := ite_f c h
      refine v_iload_n hC dX8_shootOn_39 rfl 2 rfl rfl ?_
      refine v_iload_n hC dX8_shootOn_40 rfl 3 rfl rfl ?_
      obtain ⟨v1, hv1, h⟩ := bind_g h
      refine v_callSri hC (n := 2) (st := []) (mX8_has l g cy y2 y3 hv1) gX8_shootOn_X8_has rfl rfl rfl (by decide +kernel) ⟨Nat.le_of_ble_eq_true rfl, Nat.le_of_ble_eq_true rfl⟩ [] rfl rfl rfl rfl (Nat.le_of_ble_eq_true rfl) rfl ⟨Nat.zero_le _, Nat.zero_le _⟩ dX8_shootOn_41 rfl ?_
      refine v_if_eq hC (tgt := 58) dX8_shootOn_44 (by decide) rfl (fun c => ?_) (fun c => ?_)
      · have h := ite_t c h
        exact bX8_shootOn_58 hC hr _ _ _ _ ih h
      · have h := ite_f c h
        refine v_aload_n hC dX8_shootOn_47 rfl 0 rfl rfl ?_
        refine v_iload_n hC dX8_shootOn_48 rfl 3 rfl rfl ?_
        refine v_aload_n hC dX8_shootOn_49 rfl 0 rfl rfl ?_
        refine v_iload_n hC dX8_shootOn_50 rfl 1 rfl rfl ?_
        refine v_iconst hC (v := (nI 4)) dX8_shootOn_51 (by decide) rfl ?_
        obtain ⟨v2, hv2, h⟩ := bind_g h
        refine v_callSri hC (n := 3) (st := [.int y3, .ref h0]) (mX8_told l g cy h0 r y1 (nI 4) hv2) gX8_shootOn_X8_told rfl rfl rfl (by decide +kernel) ⟨Nat.le_of_ble_eq_true rfl, Nat.le_of_ble_eq_true rfl⟩ [0] rfl rfl rfl rfl (Nat.le_of_ble_eq_true rfl) rfl ⟨Nat.zero_le _, Nat.zero_le _⟩ dX8_shootOn_52 rfl ?_
        obtain ⟨v3, hv3, h⟩ := bind_g h
        refine v_callSwv hC (n := 3) (st := []) [(h0, .inl (cy 0, 164, .inl v3))] _ (mX8_work l g cy h0 r y3 v2 hv3) gX8_shootOn_X8_work rfl rfl rfl (by decide +kernel) ⟨Nat.le_of_ble_eq_true rfl, Nat.le_of_ble_eq_true rfl⟩ [0] [] rfl rfl rfl rfl rfl rfl rfl rfl rfl (Nat.le_of_ble_eq_true rfl) rfl ⟨Nat.zero_le _, Nat.zero_le _⟩ dX8_shootOn_55 rfl ?_
        exact bX8_shootOn_58 hC hr _ _ _ _ ih h
set_option maxHeartbeats 4000000 in
set_option maxRecDepth 100000 in
theorem mX8_shootOn (l : Launch) (g : va_G) (cy : Nat → ClassId) (h0 : Nat) (r : Nat → Int32) (x1 : Int32) {res : Int32 × (Nat → Int32)} (h : pX8_shootOn r x1 = some res) : Met l yX8_shootOn wsX8_shootOn rmX8_shootOn (PW [.ref h0, .int x1] g cy [(h0, .inl (cy 0, 164, .inl r))]) (QWi g (wA [(h0, .inl (cy 0, 164, .inl r))]) res.1 [(h0, .inl (cy 0, 164, .inl res.2))]) 0 0 (wA [(h0, .inl (cy 0, 164, .inl r))]) := by
  refine m_ofV (cc := cX8_shootOn) (nL := 4) (ret := (some .int)) (B := (wA [(h0, .inl (cy 0, 164, .inl r))])) RX8 rfl (by decide) rfl [(0, .ref h0), (1, .int x1)] rfl (Nat.le_of_ble_eq_true rfl) (wA.self) ?_
  intro p e s m args below meth c hC hr
  generalize (wA [(h0, .inl (cy 0, 164, .inl r))]) = A
  unfold pX8_shootOn at h
  refine v_aload_n hC dX8_shootOn_0 rfl 0 rfl rfl ?_
  refine v_iload_n hC dX8_shootOn_1 rfl 1 rfl rfl ?_
  obtain ⟨v1, hv1, h⟩ := bind_g h
  refine v_callSri hC (n := 2) (st := []) (mX8_choose l g cy h0 r x1 hv1) gX8_shootOn_X8_choose rfl rfl rfl (by decide +kernel) ⟨Nat.le_of_ble_eq_true rfl, Nat.le_of_ble_eq_true rfl⟩ [0] rfl rfl rfl rfl (Nat.le_of_ble_eq_true rfl) rfl ⟨Nat.zero_le _, Nat.zero_le _⟩ dX8_shootOn_2 rfl ?_
  refine v_istore_n hC dX8_shootOn_5 rfl (by decide) [(2, .int v1), (0, .ref h0), (1, .int x1)] rfl rfl ?_
  refine v_aload_n hC dX8_shootOn_6 rfl 1 rfl rfl ?_
  refine v_bipush hC (v := (nI 6)) dX8_shootOn_7 (by decide) rfl ?_
  refine v_dup2 hC dX8_shootOn_9 rfl rfl rfl ?_
  obtain ⟨hn, h⟩ := ite_g h
  refine v_iald hC 0 rfl hn dX8_shootOn_10 rfl ?_
  refine v_aload_n hC dX8_shootOn_11 rfl 1 rfl rfl ?_
  refine v_iload_n hC dX8_shootOn_12 rfl 2 rfl rfl ?_
  refine v_iconst hC (v := (nI 1)) dX8_shootOn_13 (by decide) rfl ?_
  obtain ⟨v2, hv2, h⟩ := bind_g h
  refine v_callSri hC (n := 3) (st := [.int (r (nI 6).toNatClampNeg), .int (nI 6), .ref h0]) (mX8_seen l g cy h0 r x1 (nI 1) hv2) gX8_shootOn_X8_seen rfl rfl rfl (by decide +kernel) ⟨Nat.le_of_ble_eq_true rfl, Nat.le_of_ble_eq_true rfl⟩ [0] rfl rfl rfl rfl (Nat.le_of_ble_eq_true rfl) rfl ⟨Nat.zero_le _, Nat.zero_le _⟩ dX8_shootOn_14 rfl ?_
  refine v_aload_n hC dX8_shootOn_17 rfl 1 rfl rfl ?_
  refine v_iload_n hC dX8_shootOn_18 rfl 0 rfl rfl ?_
  obtain ⟨v3, hv3, h⟩ := bind_g h
  refine v_callSri hC (n := 2) (st := [.int v2, .int (r (nI 6).toNatClampNeg), .int (nI 6), .ref h0]) (mX8_facesOf l g cy h0 r v1 hv3) gX8_shootOn_X8_facesOf rfl rfl rfl (by decide +kernel) ⟨Nat.le_of_ble_eq_true rfl, Nat.le_of_ble_eq_true rfl⟩ [0] rfl rfl rfl rfl (Nat.le_of_ble_eq_true rfl) rfl ⟨Nat.zero_le _, Nat.zero_le _⟩ dX8_shootOn_19 rfl ?_
  refine v_iconst hC (v := (-1)) dX8_shootOn_22 (by decide) rfl ?_
  refine v_ixor hC dX8_shootOn_23 rfl ?_
  refine v_iand hC dX8_shootOn_24 rfl ?_
  obtain ⟨v4, hv4, h⟩ := bind_g h
  refine v_callSri hC (n := 1) (st := [.int (r (nI 6).toNatClampNeg), .int (nI 6), .ref h0]) (mX8_bits l g cy (v2 &&& (v3 ^^^ (-1))) hv4) gX8_shootOn_X8_bits rfl rfl rfl (by decide +kernel) ⟨Nat.le_of_ble_eq_true rfl, Nat.le_of_ble_eq_true rfl⟩ [] rfl rfl rfl rfl (Nat.le_of_ble_eq_true rfl) rfl ⟨Nat.zero_le _, Nat.zero_le _⟩ dX8_shootOn_25 rfl ?_
  refine v_iadd hC dX8_shootOn_28 rfl ?_
  obtain ⟨hn, h⟩ := ite_g h
  refine v_iast hC 0 rfl hn dX8_shootOn_29 [(h0, .inl (cy 0, 164, .inl (upd r (nI 6).toNatClampNeg ((r (nI 6).toNatClampNeg) + v4))))] rfl rfl ?_
  refine v_iconst hC (v := (nI 0)) dX8_shootOn_30 (by decide) rfl ?_
  refine v_istore_n hC dX8_shootOn_31 rfl (by decide) [(3, .int (nI 0)), (2, .int v1), (0, .ref h0), (1, .int x1)] rfl rfl ?_
  exact v_sub [2, 3, 1, 0] (lv' := [(0, .ref h0), (1, .int x1), (2, .int v1), (3, .int (nI 0))]) rfl (bX8_shootOn_32 hC hr FU _ _ _ _ h)
def pX8_spent (r : Nat → Int32) : Option (Int32) := if nb (nI 3) 164 = true then if nb (nI 4) 164 = true then some ((r (nI 3).toNatClampNeg) + (r (nI 4).toNatClampNeg)) else none else none
abbrev rmX8_spent : Room := { frames := 0, cells := 0, slots := 0, locals := 0 }
set_option maxHeartbeats 4000000 in
set_option maxRecDepth 100000 in
theorem mX8_spent (l : Launch) (g : va_G) (cy : Nat → ClassId) (h0 : Nat) (r : Nat → Int32)  {res : Int32} (h : pX8_spent r = some res) : Met l yX8_spent wsX8_spent rmX8_spent (PW [.ref h0] g cy [(h0, .inl (cy 0, 164, .inl r))]) (QRi res) 0 0 nF := by
  refine m_ofV (cc := cX8_spent) (nL := 1) (ret := (some .int)) (B := fun _ => True) RX8 rfl (by decide) rfl [(0, .ref h0)] rfl (Nat.le_of_ble_eq_true rfl) (fun h => h) ?_
  intro p e s m args below meth c hC hr
  unfold pX8_spent at h
  refine v_aload_n hC dX8_spent_0 rfl 0 rfl rfl ?_
  refine v_iconst hC (v := (nI 3)) dX8_spent_1 (by decide) rfl ?_
  obtain ⟨hn, h⟩ := ite_g h
  refine v_iald hC 0 rfl hn dX8_spent_2 rfl ?_
  refine v_aload_n hC dX8_spent_3 rfl 0 rfl rfl ?_
  refine v_iconst hC (v := (nI 4)) dX8_spent_4 (by decide) rfl ?_
  obtain ⟨hn, h⟩ := ite_g h
  refine v_iald hC 0 rfl hn dX8_spent_5 rfl ?_
  refine v_iadd hC dX8_spent_6 rfl ?_
  obtain rfl := Option.some.inj h
  exact v_irt hC hr rfl rfl dX8_spent_7
theorem kX8_isNewExtra_100 : Cond.constantLong RX8 100 13 ∈ wsX8_isNewExtra := by decide +kernel
theorem kX8_isNewExtra_98 : Cond.constantLong RX8 98 4 ∈ wsX8_isNewExtra := by decide +kernel
def pX8_isNewExtra_29 (s0 : Int32) : Option (Int32) := bz s0
def pX8_isNewExtra_28  : Option (Int32) := pX8_isNewExtra_29 (nI 0)
def pX8_isNewExtra (x0 : Int32) (x1 : Int32) : Option (Int32) := (pX8_in x0.toInt64 0 4).bind fun v1 => if v1 = 0 then pX8_isNewExtra_28  else (pX8_in x1.toInt64 0 13).bind fun v2 => if v2 = 0 then pX8_isNewExtra_28  else pX8_isNewExtra_29 (nI 1)
abbrev rmX8_isNewExtra : Room := { frames := 1, cells := 0, slots := 0, locals := 25 }
set_option maxHeartbeats 4000000 in
set_option maxRecDepth 100000 in
theorem bX8_isNewExtra_29 {p : Program} {l : Launch} {e : Env} {s : State} {m : MethodId} {args : Array Value} {below : List Frame} {meth : Method} {c : Code} {g : va_G} {cy : Nat → ClassId} (hC : CX p s m args meth c g cy 2 cX8_isNewExtra wsX8_isNewExtra RX8) (hr : meth.sig.returnType = (some .boolean)) {res : Int32} : ∀  (s0 : Int32)(h : pX8_isNewExtra_29 s0 = some res), V p l e (headSpec wsX8_isNewExtra rmX8_isNewExtra).room s m args below meth c g 2 0 0 (MQ below (QRi res) args s 0 0 nF) nF (fun _ => True) [] 29 [] [.int s0] := by
  intro  s0 h
  unfold pX8_isNewExtra_29 at h
  obtain ⟨e9, hn⟩ := bz_g h
  exact v_irt hC hr hn e9 dX8_isNewExtra_29
set_option maxHeartbeats 4000000 in
set_option maxRecDepth 100000 in
theorem bX8_isNewExtra_28 {p : Program} {l : Launch} {e : Env} {s : State} {m : MethodId} {args : Array Value} {below : List Frame} {meth : Method} {c : Code} {g : va_G} {cy : Nat → ClassId} (hC : CX p s m args meth c g cy 2 cX8_isNewExtra wsX8_isNewExtra RX8) (hr : meth.sig.returnType = (some .boolean)) {res : Int32} : ∀ (h : pX8_isNewExtra_28  = some res), V p l e (headSpec wsX8_isNewExtra rmX8_isNewExtra).room s m args below meth c g 2 0 0 (MQ below (QRi res) args s 0 0 nF) nF (fun _ => True) [] 28 [] [] := by
  intro   h
  unfold pX8_isNewExtra_28 at h
  refine v_iconst hC (v := (nI 0)) dX8_isNewExtra_28 (by decide) rfl ?_
  exact bX8_isNewExtra_29 hC hr _ h
set_option maxHeartbeats 4000000 in
set_option maxRecDepth 100000 in
theorem mX8_isNewExtra (l : Launch) (g : va_G) (cy : Nat → ClassId)  (x0 : Int32) (x1 : Int32) {res : Int32} (h : pX8_isNewExtra x0 x1 = some res) : Met l yX8_isNewExtra wsX8_isNewExtra rmX8_isNewExtra (PW [.int x0, .int x1] g cy []) (QRi res) 0 0 nF := by
  refine m_ofV (cc := cX8_isNewExtra) (nL := 2) (ret := (some .boolean)) (B := fun _ => True) RX8 rfl (by decide) rfl [(0, .int x0), (1, .int x1)] rfl (Nat.le_of_ble_eq_true rfl) (fun h => h) ?_
  intro p e s m args below meth c hC hr
  unfold pX8_isNewExtra at h
  refine v_iload_n hC dX8_isNewExtra_0 rfl 0 rfl rfl ?_
  refine v_i2l hC dX8_isNewExtra_1 rfl ?_
  refine v_lconst hC (v := 0) dX8_isNewExtra_2 rfl rfl ?_
  refine v_ldc2 hC (v := 4) dX8_isNewExtra_3 kX8_isNewExtra_98 rfl ?_
  obtain ⟨v1, hv1, h⟩ := bind_g h
  refine v_callSri hC (n := 3) (st := []) (mX8_in l g cy x0.toInt64 0 4 hv1) gX8_isNewExtra_X8_in rfl rfl rfl (by decide +kernel) ⟨Nat.le_of_ble_eq_true rfl, Nat.le_of_ble_eq_true rfl⟩ [] rfl rfl rfl rfl (Nat.le_of_ble_eq_true rfl) rfl ⟨Nat.zero_le _, Nat.zero_le _⟩ dX8_isNewExtra_6 rfl ?_
  refine v_if_eq hC (tgt := 28) dX8_isNewExtra_9 (by decide) rfl (fun c => ?_) (fun c => ?_)
  · have h := ite_t c h
    exact v_sub [] (lv' := []) rfl (bX8_isNewExtra_28 hC hr  h)
  · have h := ite_f c h
    refine v_iload_n hC dX8_isNewExtra_12 rfl 1 rfl rfl ?_
    refine v_i2l hC dX8_isNewExtra_13 rfl ?_
    refine v_lconst hC (v := 0) dX8_isNewExtra_14 rfl rfl ?_
    refine v_ldc2 hC (v := 13) dX8_isNewExtra_15 kX8_isNewExtra_100 rfl ?_
    obtain ⟨v2, hv2, h⟩ := bind_g h
    refine v_callSri hC (n := 3) (st := []) (mX8_in l g cy x1.toInt64 0 13 hv2) gX8_isNewExtra_X8_in rfl rfl rfl (by decide +kernel) ⟨Nat.le_of_ble_eq_true rfl, Nat.le_of_ble_eq_true rfl⟩ [] rfl rfl rfl rfl (Nat.le_of_ble_eq_true rfl) rfl ⟨Nat.zero_le _, Nat.zero_le _⟩ dX8_isNewExtra_18 rfl ?_
    refine v_if_eq hC (tgt := 28) dX8_isNewExtra_21 (by decide) rfl (fun c => ?_) (fun c => ?_)
    · have h := ite_t c h
      exact v_sub [] (lv' := []) rfl (bX8_isNewExtra_28 hC hr  h)
    · have h := ite_f c h
      refine v_iconst hC (v := (nI 1)) dX8_isNewExtra_24 (by decide) rfl ?_
      refine v_goto hC (tgt := 29) dX8_isNewExtra_25 (by decide) ?_
      exact v_sub [] (lv' := []) rfl (bX8_isNewExtra_29 hC hr _ h)
def pX8_extraOn_7 : Nat → (Nat → Int32) → Int32 → Int32 → Int32 → Int32 → Option (Int32 × (Nat → Int32))
  | 0, _, _, _, _, _ => none
  | k + 1, r, y1, y2, y3, y4 => if (nI 6) ≤ y4 then (pX8_lay r y3 (nI 0) y1).bind fun v1 => (pX8_lay v1 y3 (nI 1) y2).bind fun v2 => if nb (nI 0) 164 = true then if nb (nI 0) 164 = true then some (y3, (upd v2 (nI 0).toNatClampNeg ((v2 (nI 0).toNatClampNeg) + (nI 1)))) else none else none else (pX8_lay r y3 y4 (nI 0)).bind fun v3 => pX8_extraOn_7 k v3 y1 y2 y3 (y4 + (nI 1))
theorem pX8_extraOn_7_s {k : Nat} (r : Nat → Int32) (y1 : Int32) (y2 : Int32) (y3 : Int32) (y4 : Int32) : pX8_extraOn_7 (k + 1) r y1 y2 y3 y4 = if (nI 6) ≤ y4 then (pX8_lay r y3 (nI 0) y1).bind fun v1 => (pX8_lay v1 y3 (nI 1) y2).bind fun v2 => if nb (nI 0) 164 = true then if nb (nI 0) 164 = true then some (y3, (upd v2 (nI 0).toNatClampNeg ((v2 (nI 0).toNatClampNeg) + (nI 1)))) else none else none else (pX8_lay r y3 y4 (nI 0)).bind fun v3 => pX8_extraOn_7 k v3 y1 y2 y3 (y4 + (nI 1)) := rfl
def pX8_extraOn (r : Nat → Int32) (x1 : Int32) (x2 : Int32) : Option (Int32 × (Nat → Int32)) := if nb (nI 0) 164 = true then pX8_extraOn_7 FU r x1 x2 (r (nI 0).toNatClampNeg) (nI 0) else none
abbrev rmX8_extraOn : Room := { frames := 1, cells := 0, slots := 0, locals := 23 }
set_option maxHeartbeats 4000000 in
set_option maxRecDepth 100000 in
theorem bX8_extraOn_7 {p : Program} {l : Launch} {e : Env} {s : State} {m : MethodId} {args : Array Value} {below : List Frame} {meth : Method} {c : Code} {g : va_G} {cy : Nat → ClassId} (hC : CX p s m args meth c g cy 5 cX8_extraOn wsX8_extraOn RX8) (hr : meth.sig.returnType = (some .int)) {h0 : Nat} {A : Nat → Prop} {res : Int32 × (Nat → Int32)} : ∀ (k : Nat) (r : Nat → Int32) (y1 : Int32) (y2 : Int32) (y3 : Int32) (y4 : Int32) (h : pX8_extraOn_7 k r y1 y2 y3 y4 = some res), V p l e (headSpec wsX8_extraOn rmX8_extraOn).room s m args below meth c g 5 0 0 (MQ below (QWi g A res.1 [(h0, .inl (cy 0, 164, .inl res.2))]) args s 0 0 A) A A [(h0, .inl (cy 0, 164, .inl r))] 7 [(0, .ref h0), (1, .int y1), (2, .int y2), (3, .int y3), (4, .int y4)] [] := by
  intro k
  induction k with
  | zero =>
    intro r y1 y2 y3 y4 h
    have h : (none : Option _) = some res := h
    cases h
  | succ k ih =>
    intro r y1 y2 y3 y4 h
    rw [pX8_extraOn_7_s] at h
    refine v_iload hC dX8_extraOn_7 4 rfl rfl ?_
    refine v_bipush hC (v := (nI 6)) dX8_extraOn_9 (by decide) rfl ?_
    refine v_icmp_ge hC (tgt := 28) dX8_extraOn_11 (by decide) rfl (fun c => ?_) (fun c => ?_)
    · have h := ite_t c h
      refine v_aload_n hC dX8_extraOn_28 rfl 0 rfl rfl ?_
      refine v_iload_n hC dX8_extraOn_29 rfl 3 rfl rfl ?_
      refine v_iconst hC (v := (nI 0)) dX8_extraOn_30 (by decide) rfl ?_
      refine v_iload_n hC dX8_extraOn_31 rfl 1 rfl rfl ?_
      obtain ⟨v1, hv1, h⟩ := bind_g h
      refine v_callSwv hC (n := 4) (st := []) [(h0, .inl (cy 0, 164, .inl v1))] _ (mX8_lay l g cy h0 r y3 (nI 0) y1 hv1) gX8_extraOn_X8_lay rfl rfl rfl (by decide +kernel) ⟨Nat.le_of_ble_eq_true rfl, Nat.le_of_ble_eq_true rfl⟩ [0] [] rfl rfl rfl rfl rfl rfl rfl rfl rfl (Nat.le_of_ble_eq_true rfl) rfl ⟨Nat.zero_le _, Nat.zero_le _⟩ dX8_extraOn_32 rfl ?_
      refine v_aload_n hC dX8_extraOn_35 rfl 0 rfl rfl ?_
      refine v_iload_n hC dX8_extraOn_36 rfl 3 rfl rfl ?_
      refine v_iconst hC (v := (nI 1)) dX8_extraOn_37 (by decide) rfl ?_
      refine v_iload_n hC dX8_extraOn_38 rfl 2 rfl rfl ?_
      obtain ⟨v2, hv2, h⟩ := bind_g h
      refine v_callSwv hC (n := 4) (st := []) [(h0, .inl (cy 0, 164, .inl v2))] _ (mX8_lay l g cy h0 v1 y3 (nI 1) y2 hv2) gX8_extraOn_X8_lay rfl rfl rfl (by decide +kernel) ⟨Nat.le_of_ble_eq_true rfl, Nat.le_of_ble_eq_true rfl⟩ [0] [] rfl rfl rfl rfl rfl rfl rfl rfl rfl (Nat.le_of_ble_eq_true rfl) rfl ⟨Nat.zero_le _, Nat.zero_le _⟩ dX8_extraOn_39 rfl ?_
      refine v_aload_n hC dX8_extraOn_42 rfl 0 rfl rfl ?_
      refine v_iconst hC (v := (nI 0)) dX8_extraOn_43 (by decide) rfl ?_
      refine v_dup2 hC dX8_extraOn_44 rfl rfl rfl ?_
      obtain ⟨hn, h⟩ := ite_g h
      refine v_iald hC 0 rfl hn dX8_extraOn_45 rfl ?_
      refine v_iconst hC (v := (nI 1)) dX8_extraOn_46 (by decide) rfl ?_
      refine v_iadd hC dX8_extraOn_47 rfl ?_
      obtain ⟨hn, h⟩ := ite_g h
      refine v_iast hC 0 rfl hn dX8_extraOn_48 [(h0, .inl (cy 0, 164, .inl (upd v2 (nI 0).toNatClampNeg ((v2 (nI 0).toNatClampNeg) + (nI 1)))))] rfl rfl ?_
      refine v_iload_n hC dX8_extraOn_49 rfl 3 rfl rfl ?_
      obtain rfl := Option.some.inj h
      exact v_irw hC hr rfl rfl dX8_extraOn_50
    · have h := ite_f c h
      refine v_aload_n hC dX8_extraOn_14 rfl 0 rfl rfl ?_
      refine v_iload_n hC dX8_extraOn_15 rfl 3 rfl rfl ?_
      refine v_iload hC dX8_extraOn_16 4 rfl rfl ?_
      refine v_iconst hC (v := (nI 0)) dX8_extraOn_18 (by decide) rfl ?_
      obtain ⟨v3, hv3, h⟩ := bind_g h
      refine v_callSwv hC (n := 4) (st := []) [(h0, .inl (cy 0, 164, .inl v3))] _ (mX8_lay l g cy h0 r y3 y4 (nI 0) hv3) gX8_extraOn_X8_lay rfl rfl rfl (by decide +kernel) ⟨Nat.le_of_ble_eq_true rfl, Nat.le_of_ble_eq_true rfl⟩ [0] [] rfl rfl rfl rfl rfl rfl rfl rfl rfl (Nat.le_of_ble_eq_true rfl) rfl ⟨Nat.zero_le _, Nat.zero_le _⟩ dX8_extraOn_19 rfl ?_
      refine v_iinc hC dX8_extraOn_22 4 rfl (v := (y4 + (nI 1))) rfl (by decide) [(4, .int (y4 + (nI 1))), (0, .ref h0), (1, .int y1), (2, .int y2), (3, .int y3)] rfl rfl ?_
      refine v_goto hC (tgt := 7) dX8_extraOn_25 (by decide) ?_
      exact v_sub [1, 2, 3, 4, 0] (lv' := [(0, .ref h0), (1, .int y1), (2, .int y2), (3, .int y3), (4, .int (y4 + (nI 1)))]) rfl (ih _ _ _ _ _ h)
set_option maxHeartbeats 4000000 in
set_option maxRecDepth 100000 in
theorem mX8_extraOn (l : Launch) (g : va_G) (cy : Nat → ClassId) (h0 : Nat) (r : Nat → Int32) (x1 : Int32) (x2 : Int32) {res : Int32 × (Nat → Int32)} (h : pX8_extraOn r x1 x2 = some res) : Met l yX8_extraOn wsX8_extraOn rmX8_extraOn (PW [.ref h0, .int x1, .int x2] g cy [(h0, .inl (cy 0, 164, .inl r))]) (QWi g (wA [(h0, .inl (cy 0, 164, .inl r))]) res.1 [(h0, .inl (cy 0, 164, .inl res.2))]) 0 0 (wA [(h0, .inl (cy 0, 164, .inl r))]) := by
  refine m_ofV (cc := cX8_extraOn) (nL := 5) (ret := (some .int)) (B := (wA [(h0, .inl (cy 0, 164, .inl r))])) RX8 rfl (by decide) rfl [(0, .ref h0), (1, .int x1), (2, .int x2)] rfl (Nat.le_of_ble_eq_true rfl) (wA.self) ?_
  intro p e s m args below meth c hC hr
  generalize (wA [(h0, .inl (cy 0, 164, .inl r))]) = A
  unfold pX8_extraOn at h
  refine v_aload_n hC dX8_extraOn_0 rfl 0 rfl rfl ?_
  refine v_iconst hC (v := (nI 0)) dX8_extraOn_1 (by decide) rfl ?_
  obtain ⟨hn, h⟩ := ite_g h
  refine v_iald hC 0 rfl hn dX8_extraOn_2 rfl ?_
  refine v_istore_n hC dX8_extraOn_3 rfl (by decide) [(3, .int (r (nI 0).toNatClampNeg)), (0, .ref h0), (1, .int x1), (2, .int x2)] rfl rfl ?_
  refine v_iconst hC (v := (nI 0)) dX8_extraOn_4 (by decide) rfl ?_
  refine v_istore hC dX8_extraOn_5 (by decide) [(4, .int (nI 0)), (3, .int (r (nI 0).toNatClampNeg)), (0, .ref h0), (1, .int x1), (2, .int x2)] rfl rfl ?_
  exact v_sub [2, 3, 4, 1, 0] (lv' := [(0, .ref h0), (1, .int x1), (2, .int x2), (3, .int (r (nI 0).toNatClampNeg)), (4, .int (nI 0))]) rfl (bX8_extraOn_7 hC hr FU _ _ _ _ _ h)
theorem kX8_isNewScene_102 : Cond.constantLong RX8 102 6 ∈ wsX8_isNewScene := by decide +kernel
theorem kX8_isNewScene_104 : Cond.constantLong RX8 104 9 ∈ wsX8_isNewScene := by decide +kernel
theorem kX8_isNewScene_106 : Cond.constantLong RX8 106 3 ∈ wsX8_isNewScene := by decide +kernel
theorem kX8_isNewScene_108 : Cond.constantLong RX8 108 10 ∈ wsX8_isNewScene := by decide +kernel
theorem kX8_isNewScene_110 : Cond.constantLong RX8 110 240 ∈ wsX8_isNewScene := by decide +kernel
theorem kX8_isNewScene_98 : Cond.constantLong RX8 98 4 ∈ wsX8_isNewScene := by decide +kernel
def pX8_isNewScene_68 (s0 : Int32) : Option (Int32) := bz s0
def pX8_isNewScene_67  : Option (Int32) := pX8_isNewScene_68 (nI 0)
def pX8_isNewScene (x0 : Int32) (x1 : Int32) (x2 : Int32) (x3 : Int32) (x4 : Int32) : Option (Int32) := (pX8_in x0.toInt64 0 4).bind fun v1 => if v1 = 0 then pX8_isNewScene_67  else (pX8_in x1.toInt64 1 6).bind fun v2 => if v2 = 0 then pX8_isNewScene_67  else (pX8_in x2.toInt64 0 9).bind fun v3 => if v3 = 0 then pX8_isNewScene_67  else (pX8_in x3.toInt64 0 3).bind fun v4 => if v4 = 0 then pX8_isNewScene_67  else (pX8_in x4.toInt64 10 240).bind fun v5 => if v5 = 0 then pX8_isNewScene_67  else pX8_isNewScene_68 (nI 1)
abbrev rmX8_isNewScene : Room := { frames := 1, cells := 0, slots := 0, locals := 25 }
set_option maxHeartbeats 4000000 in
set_option maxRecDepth 100000 in
theorem bX8_isNewScene_68 {p : Program} {l : Launch} {e : Env} {s : State} {m : MethodId} {args : Array Value} {below : List Frame} {meth : Method} {c : Code} {g : va_G} {cy : Nat → ClassId} (hC : CX p s m args meth c g cy 5 cX8_isNewScene wsX8_isNewScene RX8) (hr : meth.sig.returnType = (some .boolean)) {res : Int32} : ∀  (s0 : Int32)(h : pX8_isNewScene_68 s0 = some res), V p l e (headSpec wsX8_isNewScene rmX8_isNewScene).room s m args below meth c g 5 0 0 (MQ below (QRi res) args s 0 0 nF) nF (fun _ => True) [] 68 [] [.int s0] := by
  intro  s0 h
  unfold pX8_isNewScene_68 at h
  obtain ⟨e9, hn⟩ := bz_g h
  exact v_irt hC hr hn e9 dX8_isNewScene_68
set_option maxHeartbeats 4000000 in
set_option maxRecDepth 100000 in
theorem bX8_isNewScene_67 {p : Program} {l : Launch} {e : Env} {s : State} {m : MethodId} {args : Array Value} {below : List Frame} {meth : Method} {c : Code} {g : va_G} {cy : Nat → ClassId} (hC : CX p s m args meth c g cy 5 cX8_isNewScene wsX8_isNewScene RX8) (hr : meth.sig.returnType = (some .boolean)) {res : Int32} : ∀ (h : pX8_isNewScene_67  = some res), V p l e (headSpec wsX8_isNewScene rmX8_isNewScene).room s m args below meth c g 5 0 0 (MQ below (QRi res) args s 0 0 nF) nF (fun _ => True) [] 67 [] [] := by
  intro   h
  unfold pX8_isNewScene_67 at h
  refine v_iconst hC (v := (nI 0)) dX8_isNewScene_67 (by decide) rfl ?_
  exact bX8_isNewScene_68 hC hr _ h
set_option maxHeartbeats 4000000 in
set_option maxRecDepth 100000 in
theorem mX8_isNewScene (l : Launch) (g : va_G) (cy : Nat → ClassId)  (x0 : Int32) (x1 : Int32) (x2 : Int32) (x3 : Int32) (x4 : Int32) {res : Int32} (h : pX8_isNewScene x0 x1 x2 x3 x4 = some res) : Met l yX8_isNewScene wsX8_isNewScene rmX8_isNewScene (PW [.int x0, .int x1, .int x2, .int x3, .int x4] g cy []) (QRi res) 0 0 nF := by
  refine m_ofV (cc := cX8_isNewScene) (nL := 5) (ret := (some .boolean)) (B := fun _ => True) RX8 rfl (by decide) rfl [(0, .int x0), (1, .int x1), (2, .int x2), (3, .int x3), (4, .int x4)] rfl (Nat.le_of_ble_eq_true rfl) (fun h => h) ?_
  intro p e s m args below meth c hC hr
  unfold pX8_isNewScene at h
  refine v_iload_n hC dX8_isNewScene_0 rfl 0 rfl rfl ?_
  refine v_i2l hC dX8_isNewScene_1 rfl ?_
  refine v_lconst hC (v := 0) dX8_isNewScene_2 rfl rfl ?_
  refine v_ldc2 hC (v := 4) dX8_isNewScene_3 kX8_isNewScene_98 rfl ?_
  obtain ⟨v1, hv1, h⟩ := bind_g h
  refine v_callSri hC (n := 3) (st := []) (mX8_in l g cy x0.toInt64 0 4 hv1) gX8_isNewScene_X8_in rfl rfl rfl (by decide +kernel) ⟨Nat.le_of_ble_eq_true rfl, Nat.le_of_ble_eq_true rfl⟩ [] rfl rfl rfl rfl (Nat.le_of_ble_eq_true rfl) rfl ⟨Nat.zero_le _, Nat.zero_le _⟩ dX8_isNewScene_6 rfl ?_
  refine v_if_eq hC (tgt := 67) dX8_isNewScene_9 (by decide) rfl (fun c => ?_) (fun c => ?_)
  · have h := ite_t c h
    exact v_sub [] (lv' := []) rfl (bX8_isNewScene_67 hC hr  h)
  · have h := ite_f c h
    refine v_iload_n hC dX8_isNewScene_12 rfl 1 rfl rfl ?_
    refine v_i2l hC dX8_isNewScene_13 rfl ?_
    refine v_lconst hC (v := 1) dX8_isNewScene_14 rfl rfl ?_
    refine v_ldc2 hC (v := 6) dX8_isNewScene_15 kX8_isNewScene_102 rfl ?_
    obtain ⟨v2, hv2, h⟩ := bind_g h
    refine v_callSri hC (n := 3) (st := []) (mX8_in l g cy x1.toInt64 1 6 hv2) gX8_isNewScene_X8_in rfl rfl rfl (by decide +kernel) ⟨Nat.le_of_ble_eq_true rfl, Nat.le_of_ble_eq_true rfl⟩ [] rfl rfl rfl rfl (Nat.le_of_ble_eq_true rfl) rfl ⟨Nat.zero_le _, Nat.zero_le _⟩ dX8_isNewScene_18 rfl ?_
    refine v_if_eq hC (tgt := 67) dX8_isNewScene_21 (by decide) rfl (fun c => ?_) (fun c => ?_)
    · have h := ite_t c h
      exact v_sub [] (lv' := []) rfl (bX8_isNewScene_67 hC hr  h)
    · have h := ite_f c h
      refine v_iload_n hC dX8_isNewScene_24 rfl 2 rfl rfl ?_
      refine v_i2l hC dX8_isNewScene_25 rfl ?_
      refine v_lconst hC (v := 0) dX8_isNewScene_26 rfl rfl ?_
      refine v_ldc2 hC (v := 9) dX8_isNewScene_27 kX8_isNewScene_104 rfl ?_
      obtain ⟨v3, hv3, h⟩ := bind_g h
      refine v_callSri hC (n := 3) (st := []) (mX8_in l g cy x2.toInt64 0 9 hv3) gX8_isNewScene_X8_in rfl rfl rfl (by decide +kernel) ⟨Nat.le_of_ble_eq_true rfl, Nat.le_of_ble_eq_true rfl⟩ [] rfl rfl rfl rfl (Nat.le_of_ble_eq_true rfl) rfl ⟨Nat.zero_le _, Nat.zero_le _⟩ dX8_isNewScene_30 rfl ?_
      refine v_if_eq hC (tgt := 67) dX8_isNewScene_33 (by decide) rfl (fun c => ?_) (fun c => ?_)
      · have h := ite_t c h
        exact v_sub [] (lv' := []) rfl (bX8_isNewScene_67 hC hr  h)
      · have h := ite_f c h
        refine v_iload_n hC dX8_isNewScene_36 rfl 3 rfl rfl ?_
        refine v_i2l hC dX8_isNewScene_37 rfl ?_
        refine v_lconst hC (v := 0) dX8_isNewScene_38 rfl rfl ?_
        refine v_ldc2 hC (v := 3) dX8_isNewScene_39 kX8_isNewScene_106 rfl ?_
        obtain ⟨v4, hv4, h⟩ := bind_g h
        refine v_callSri hC (n := 3) (st := []) (mX8_in l g cy x3.toInt64 0 3 hv4) gX8_isNewScene_X8_in rfl rfl rfl (by decide +kernel) ⟨Nat.le_of_ble_eq_true rfl, Nat.le_of_ble_eq_true rfl⟩ [] rfl rfl rfl rfl (Nat.le_of_ble_eq_true rfl) rfl ⟨Nat.zero_le _, Nat.zero_le _⟩ dX8_isNewScene_42 rfl ?_
        refine v_if_eq hC (tgt := 67) dX8_isNewScene_45 (by decide) rfl (fun c => ?_) (fun c => ?_)
        · have h := ite_t c h
          exact v_sub [] (lv' := []) rfl (bX8_isNewScene_67 hC hr  h)
        · have h := ite_f c h
          refine v_iload hC dX8_isNewScene_48 4 rfl rfl ?_
          refine v_i2l hC dX8_isNewScene_50 rfl ?_
          refine v_ldc2 hC (v := 10) dX8_isNewScene_51 kX8_isNewScene_108 rfl ?_
          refine v_ldc2 hC (v := 240) dX8_isNewScene_54 kX8_isNewScene_110 rfl ?_
          obtain ⟨v5, hv5, h⟩ := bind_g h
          refine v_callSri hC (n := 3) (st := []) (mX8_in l g cy x4.toInt64 10 240 hv5) gX8_isNewScene_X8_in rfl rfl rfl (by decide +kernel) ⟨Nat.le_of_ble_eq_true rfl, Nat.le_of_ble_eq_true rfl⟩ [] rfl rfl rfl rfl (Nat.le_of_ble_eq_true rfl) rfl ⟨Nat.zero_le _, Nat.zero_le _⟩ dX8_isNewScene_57 rfl ?_
          refine v_if_eq hC (tgt := 67) dX8_isNewScene_60 (by decide) rfl (fun c => ?_) (fun c => ?_)
          · have h := ite_t c h
            exact v_sub [] (lv' := []) rfl (bX8_isNewScene_67 hC hr  h)
          · have h := ite_f c h
            refine v_iconst hC (v := (nI 1)) dX8_isNewScene_63 (by decide) rfl ?_
            refine v_goto hC (tgt := 68) dX8_isNewScene_64 (by decide) ?_
            exact v_sub [] (lv' := []) rfl (bX8_isNewScene_68 hC hr _ h)
def pX8_sceneOn (r : Nat → Int32) (x1 : Int32) (x2 : Int32) (x3 : Int32) (x4 : Int32) (x5 : Int32) : Option (Int32 × (Nat → Int32)) := if nb (nI 1) 164 = true then if nb ((nI 94) + ((nI 7) * (r (nI 1).toNatClampNeg))) 164 = true then if nb (((nI 94) + ((nI 7) * (r (nI 1).toNatClampNeg))) + (nI 1)) 164 = true then if nb (((nI 94) + ((nI 7) * (r (nI 1).toNatClampNeg))) + (nI 2)) 164 = true then if nb (((nI 94) + ((nI 7) * (r (nI 1).toNatClampNeg))) + (nI 3)) 164 = true then if nb (((nI 94) + ((nI 7) * (r (nI 1).toNatClampNeg))) + (nI 4)) 164 = true then if nb (((nI 94) + ((nI 7) * (r (nI 1).toNatClampNeg))) + (nI 5)) 164 = true then if nb (((nI 94) + ((nI 7) * (r (nI 1).toNatClampNeg))) + (nI 6)) 164 = true then if nb (nI 1) 164 = true then if nb (nI 1) 164 = true then if nb (nI 1) 164 = true then some ((((upd (upd (upd (upd (upd (upd (upd (upd r ((nI 94) + ((nI 7) * (r (nI 1).toNatClampNeg))).toNatClampNeg x1) (((nI 94) + ((nI 7) * (r (nI 1).toNatClampNeg))) + (nI 1)).toNatClampNeg x2) (((nI 94) + ((nI 7) * (r (nI 1).toNatClampNeg))) + (nI 2)).toNatClampNeg x3) (((nI 94) + ((nI 7) * (r (nI 1).toNatClampNeg))) + (nI 3)).toNatClampNeg x4) (((nI 94) + ((nI 7) * (r (nI 1).toNatClampNeg))) + (nI 4)).toNatClampNeg x5) (((nI 94) + ((nI 7) * (r (nI 1).toNatClampNeg))) + (nI 5)).toNatClampNeg (nI 0)) (((nI 94) + ((nI 7) * (r (nI 1).toNatClampNeg))) + (nI 6)).toNatClampNeg (nI 0)) (nI 1).toNatClampNeg (((upd (upd (upd (upd (upd (upd (upd r ((nI 94) + ((nI 7) * (r (nI 1).toNatClampNeg))).toNatClampNeg x1) (((nI 94) + ((nI 7) * (r (nI 1).toNatClampNeg))) + (nI 1)).toNatClampNeg x2) (((nI 94) + ((nI 7) * (r (nI 1).toNatClampNeg))) + (nI 2)).toNatClampNeg x3) (((nI 94) + ((nI 7) * (r (nI 1).toNatClampNeg))) + (nI 3)).toNatClampNeg x4) (((nI 94) + ((nI 7) * (r (nI 1).toNatClampNeg))) + (nI 4)).toNatClampNeg x5) (((nI 94) + ((nI 7) * (r (nI 1).toNatClampNeg))) + (nI 5)).toNatClampNeg (nI 0)) (((nI 94) + ((nI 7) * (r (nI 1).toNatClampNeg))) + (nI 6)).toNatClampNeg (nI 0)) (nI 1).toNatClampNeg) + (nI 1))) (nI 1).toNatClampNeg) - (nI 1)), (upd (upd (upd (upd (upd (upd (upd (upd r ((nI 94) + ((nI 7) * (r (nI 1).toNatClampNeg))).toNatClampNeg x1) (((nI 94) + ((nI 7) * (r (nI 1).toNatClampNeg))) + (nI 1)).toNatClampNeg x2) (((nI 94) + ((nI 7) * (r (nI 1).toNatClampNeg))) + (nI 2)).toNatClampNeg x3) (((nI 94) + ((nI 7) * (r (nI 1).toNatClampNeg))) + (nI 3)).toNatClampNeg x4) (((nI 94) + ((nI 7) * (r (nI 1).toNatClampNeg))) + (nI 4)).toNatClampNeg x5) (((nI 94) + ((nI 7) * (r (nI 1).toNatClampNeg))) + (nI 5)).toNatClampNeg (nI 0)) (((nI 94) + ((nI 7) * (r (nI 1).toNatClampNeg))) + (nI 6)).toNatClampNeg (nI 0)) (nI 1).toNatClampNeg (((upd (upd (upd (upd (upd (upd (upd r ((nI 94) + ((nI 7) * (r (nI 1).toNatClampNeg))).toNatClampNeg x1) (((nI 94) + ((nI 7) * (r (nI 1).toNatClampNeg))) + (nI 1)).toNatClampNeg x2) (((nI 94) + ((nI 7) * (r (nI 1).toNatClampNeg))) + (nI 2)).toNatClampNeg x3) (((nI 94) + ((nI 7) * (r (nI 1).toNatClampNeg))) + (nI 3)).toNatClampNeg x4) (((nI 94) + ((nI 7) * (r (nI 1).toNatClampNeg))) + (nI 4)).toNatClampNeg x5) (((nI 94) + ((nI 7) * (r (nI 1).toNatClampNeg))) + (nI 5)).toNatClampNeg (nI 0)) (((nI 94) + ((nI 7) * (r (nI 1).toNatClampNeg))) + (nI 6)).toNatClampNeg (nI 0)) (nI 1).toNatClampNeg) + (nI 1)))) else none else none else none else none else none else none else none else none else none else none else none
abbrev rmX8_sceneOn : Room := { frames := 0, cells := 0, slots := 0, locals := 0 }
set_option maxHeartbeats 4000000 in
set_option maxRecDepth 100000 in
theorem mX8_sceneOn (l : Launch) (g : va_G) (cy : Nat → ClassId) (h0 : Nat) (r : Nat → Int32) (x1 : Int32) (x2 : Int32) (x3 : Int32) (x4 : Int32) (x5 : Int32) {res : Int32 × (Nat → Int32)} (h : pX8_sceneOn r x1 x2 x3 x4 x5 = some res) : Met l yX8_sceneOn wsX8_sceneOn rmX8_sceneOn (PW [.ref h0, .int x1, .int x2, .int x3, .int x4, .int x5] g cy [(h0, .inl (cy 0, 164, .inl r))]) (QWi g (wA [(h0, .inl (cy 0, 164, .inl r))]) res.1 [(h0, .inl (cy 0, 164, .inl res.2))]) 0 0 (wA [(h0, .inl (cy 0, 164, .inl r))]) := by
  refine m_ofV (cc := cX8_sceneOn) (nL := 7) (ret := (some .int)) (B := (wA [(h0, .inl (cy 0, 164, .inl r))])) RX8 rfl (by decide) rfl [(0, .ref h0), (1, .int x1), (2, .int x2), (3, .int x3), (4, .int x4), (5, .int x5)] rfl (Nat.le_of_ble_eq_true rfl) (wA.self) ?_
  intro p e s m args below meth c hC hr
  generalize (wA [(h0, .inl (cy 0, 164, .inl r))]) = A
  unfold pX8_sceneOn at h
  refine v_bipush hC (v := (nI 94)) dX8_sceneOn_0 (by decide) rfl ?_
  refine v_bipush hC (v := (nI 7)) dX8_sceneOn_2 (by decide) rfl ?_
  refine v_aload_n hC dX8_sceneOn_4 rfl 0 rfl rfl ?_
  refine v_iconst hC (v := (nI 1)) dX8_sceneOn_5 (by decide) rfl ?_
  obtain ⟨hn, h⟩ := ite_g h
  refine v_iald hC 0 rfl hn dX8_sceneOn_6 rfl ?_
  refine v_imul hC dX8_sceneOn_7 rfl ?_
  refine v_iadd hC dX8_sceneOn_8 rfl ?_
  refine v_istore hC dX8_sceneOn_9 (by decide) [(6, .int ((nI 94) + ((nI 7) * (r (nI 1).toNatClampNeg)))), (0, .ref h0), (1, .int x1), (2, .int x2), (3, .int x3), (4, .int x4), (5, .int x5)] rfl rfl ?_
  refine v_aload_n hC dX8_sceneOn_11 rfl 1 rfl rfl ?_
  refine v_iload hC dX8_sceneOn_12 0 rfl rfl ?_
  refine v_iload_n hC dX8_sceneOn_14 rfl 2 rfl rfl ?_
  obtain ⟨hn, h⟩ := ite_g h
  refine v_iast hC 0 rfl hn dX8_sceneOn_15 [(h0, .inl (cy 0, 164, .inl (upd r ((nI 94) + ((nI 7) * (r (nI 1).toNatClampNeg))).toNatClampNeg x1)))] rfl rfl ?_
  refine v_aload_n hC dX8_sceneOn_16 rfl 1 rfl rfl ?_
  refine v_iload hC dX8_sceneOn_17 0 rfl rfl ?_
  refine v_iconst hC (v := (nI 1)) dX8_sceneOn_19 (by decide) rfl ?_
  refine v_iadd hC dX8_sceneOn_20 rfl ?_
  refine v_iload_n hC dX8_sceneOn_21 rfl 3 rfl rfl ?_
  obtain ⟨hn, h⟩ := ite_g h
  refine v_iast hC 0 rfl hn dX8_sceneOn_22 [(h0, .inl (cy 0, 164, .inl (upd (upd r ((nI 94) + ((nI 7) * (r (nI 1).toNatClampNeg))).toNatClampNeg x1) (((nI 94) + ((nI 7) * (r (nI 1).toNatClampNeg))) + (nI 1)).toNatClampNeg x2)))] rfl rfl ?_
  refine v_aload_n hC dX8_sceneOn_23 rfl 1 rfl rfl ?_
  refine v_iload hC dX8_sceneOn_24 0 rfl rfl ?_
  refine v_iconst hC (v := (nI 2)) dX8_sceneOn_26 (by decide) rfl ?_
  refine v_iadd hC dX8_sceneOn_27 rfl ?_
  refine v_iload_n hC dX8_sceneOn_28 rfl 4 rfl rfl ?_
  obtain ⟨hn, h⟩ := ite_g h
  refine v_iast hC 0 rfl hn dX8_sceneOn_29 [(h0, .inl (cy 0, 164, .inl (upd (upd (upd r ((nI 94) + ((nI 7) * (r (nI 1).toNatClampNeg))).toNatClampNeg x1) (((nI 94) + ((nI 7) * (r (nI 1).toNatClampNeg))) + (nI 1)).toNatClampNeg x2) (((nI 94) + ((nI 7) * (r (nI 1).toNatClampNeg))) + (nI 2)).toNatClampNeg x3)))] rfl rfl ?_
  refine v_aload_n hC dX8_sceneOn_30 rfl 1 rfl rfl ?_
  refine v_iload hC dX8_sceneOn_31 0 rfl rfl ?_
  refine v_iconst hC (v := (nI 3)) dX8_sceneOn_33 (by decide) rfl ?_
  refine v_iadd hC dX8_sceneOn_34 rfl ?_
  refine v_iload hC dX8_sceneOn_35 5 rfl rfl ?_
  obtain ⟨hn, h⟩ := ite_g h
  refine v_iast hC 0 rfl hn dX8_sceneOn_37 [(h0, .inl (cy 0, 164, .inl (upd (upd (upd (upd r ((nI 94) + ((nI 7) * (r (nI 1).toNatClampNeg))).toNatClampNeg x1) (((nI 94) + ((nI 7) * (r (nI 1).toNatClampNeg))) + (nI 1)).toNatClampNeg x2) (((nI 94) + ((nI 7) * (r (nI 1).toNatClampNeg))) + (nI 2)).toNatClampNeg x3) (((nI 94) + ((nI 7) * (r (nI 1).toNatClampNeg))) + (nI 3)).toNatClampNeg x4)))] rfl rfl ?_
  refine v_aload_n hC dX8_sceneOn_38 rfl 1 rfl rfl ?_
  refine v_iload hC dX8_sceneOn_39 0 rfl rfl ?_
  refine v_iconst hC (v := (nI 4)) dX8_sceneOn_41 (by decide) rfl ?_
  refine v_iadd hC dX8_sceneOn_42 rfl ?_
  refine v_iload hC dX8_sceneOn_43 6 rfl rfl ?_
  obtain ⟨hn, h⟩ := ite_g h
  refine v_iast hC 0 rfl hn dX8_sceneOn_45 [(h0, .inl (cy 0, 164, .inl (upd (upd (upd (upd (upd r ((nI 94) + ((nI 7) * (r (nI 1).toNatClampNeg))).toNatClampNeg x1) (((nI 94) + ((nI 7) * (r (nI 1).toNatClampNeg))) + (nI 1)).toNatClampNeg x2) (((nI 94) + ((nI 7) * (r (nI 1).toNatClampNeg))) + (nI 2)).toNatClampNeg x3) (((nI 94) + ((nI 7) * (r (nI 1).toNatClampNeg))) + (nI 3)).toNatClampNeg x4) (((nI 94) + ((nI 7) * (r (nI 1).toNatClampNeg))) + (nI 4)).toNatClampNeg x5)))] rfl rfl ?_
  refine v_aload_n hC dX8_sceneOn_46 rfl 1 rfl rfl ?_
  refine v_iload hC dX8_sceneOn_47 0 rfl rfl ?_
  refine v_iconst hC (v := (nI 5)) dX8_sceneOn_49 (by decide) rfl ?_
  refine v_iadd hC dX8_sceneOn_50 rfl ?_
  refine v_iconst hC (v := (nI 0)) dX8_sceneOn_51 (by decide) rfl ?_
  obtain ⟨hn, h⟩ := ite_g h
  refine v_iast hC 0 rfl hn dX8_sceneOn_52 [(h0, .inl (cy 0, 164, .inl (upd (upd (upd (upd (upd (upd r ((nI 94) + ((nI 7) * (r (nI 1).toNatClampNeg))).toNatClampNeg x1) (((nI 94) + ((nI 7) * (r (nI 1).toNatClampNeg))) + (nI 1)).toNatClampNeg x2) (((nI 94) + ((nI 7) * (r (nI 1).toNatClampNeg))) + (nI 2)).toNatClampNeg x3) (((nI 94) + ((nI 7) * (r (nI 1).toNatClampNeg))) + (nI 3)).toNatClampNeg x4) (((nI 94) + ((nI 7) * (r (nI 1).toNatClampNeg))) + (nI 4)).toNatClampNeg x5) (((nI 94) + ((nI 7) * (r (nI 1).toNatClampNeg))) + (nI 5)).toNatClampNeg (nI 0))))] rfl rfl ?_
  refine v_aload_n hC dX8_sceneOn_53 rfl 1 rfl rfl ?_
  refine v_iload hC dX8_sceneOn_54 0 rfl rfl ?_
  refine v_bipush hC (v := (nI 6)) dX8_sceneOn_56 (by decide) rfl ?_
  refine v_iadd hC dX8_sceneOn_58 rfl ?_
  refine v_iconst hC (v := (nI 0)) dX8_sceneOn_59 (by decide) rfl ?_
  obtain ⟨hn, h⟩ := ite_g h
  refine v_iast hC 0 rfl hn dX8_sceneOn_60 [(h0, .inl (cy 0, 164, .inl (upd (upd (upd (upd (upd (upd (upd r ((nI 94) + ((nI 7) * (r (nI 1).toNatClampNeg))).toNatClampNeg x1) (((nI 94) + ((nI 7) * (r (nI 1).toNatClampNeg))) + (nI 1)).toNatClampNeg x2) (((nI 94) + ((nI 7) * (r (nI 1).toNatClampNeg))) + (nI 2)).toNatClampNeg x3) (((nI 94) + ((nI 7) * (r (nI 1).toNatClampNeg))) + (nI 3)).toNatClampNeg x4) (((nI 94) + ((nI 7) * (r (nI 1).toNatClampNeg))) + (nI 4)).toNatClampNeg x5) (((nI 94) + ((nI 7) * (r (nI 1).toNatClampNeg))) + (nI 5)).toNatClampNeg (nI 0)) (((nI 94) + ((nI 7) * (r (nI 1).toNatClampNeg))) + (nI 6)).toNatClampNeg (nI 0))))] rfl rfl ?_
  refine v_aload_n hC dX8_sceneOn_61 rfl 1 rfl rfl ?_
  refine v_iconst hC (v := (nI 1)) dX8_sceneOn_62 (by decide) rfl ?_
  refine v_dup2 hC dX8_sceneOn_63 rfl rfl rfl ?_
  obtain ⟨hn, h⟩ := ite_g h
  refine v_iald hC 0 rfl hn dX8_sceneOn_64 rfl ?_
  refine v_iconst hC (v := (nI 1)) dX8_sceneOn_65 (by decide) rfl ?_
  refine v_iadd hC dX8_sceneOn_66 rfl ?_
  obtain ⟨hn, h⟩ := ite_g h
  refine v_iast hC 0 rfl hn dX8_sceneOn_67 [(h0, .inl (cy 0, 164, .inl (upd (upd (upd (upd (upd (upd (upd (upd r ((nI 94) + ((nI 7) * (r (nI 1).toNatClampNeg))).toNatClampNeg x1) (((nI 94) + ((nI 7) * (r (nI 1).toNatClampNeg))) + (nI 1)).toNatClampNeg x2) (((nI 94) + ((nI 7) * (r (nI 1).toNatClampNeg))) + (nI 2)).toNatClampNeg x3) (((nI 94) + ((nI 7) * (r (nI 1).toNatClampNeg))) + (nI 3)).toNatClampNeg x4) (((nI 94) + ((nI 7) * (r (nI 1).toNatClampNeg))) + (nI 4)).toNatClampNeg x5) (((nI 94) + ((nI 7) * (r (nI 1).toNatClampNeg))) + (nI 5)).toNatClampNeg (nI 0)) (((nI 94) + ((nI 7) * (r (nI 1).toNatClampNeg))) + (nI 6)).toNatClampNeg (nI 0)) (nI 1).toNatClampNeg (((upd (upd (upd (upd (upd (upd (upd r ((nI 94) + ((nI 7) * (r (nI 1).toNatClampNeg))).toNatClampNeg x1) (((nI 94) + ((nI 7) * (r (nI 1).toNatClampNeg))) + (nI 1)).toNatClampNeg x2) (((nI 94) + ((nI 7) * (r (nI 1).toNatClampNeg))) + (nI 2)).toNatClampNeg x3) (((nI 94) + ((nI 7) * (r (nI 1).toNatClampNeg))) + (nI 3)).toNatClampNeg x4) (((nI 94) + ((nI 7) * (r (nI 1).toNatClampNeg))) + (nI 4)).toNatClampNeg x5) (((nI 94) + ((nI 7) * (r (nI 1).toNatClampNeg))) + (nI 5)).toNatClampNeg (nI 0)) (((nI 94) + ((nI 7) * (r (nI 1).toNatClampNeg))) + (nI 6)).toNatClampNeg (nI 0)) (nI 1).toNatClampNeg) + (nI 1)))))] rfl rfl ?_
  refine v_aload_n hC dX8_sceneOn_68 rfl 1 rfl rfl ?_
  refine v_iconst hC (v := (nI 1)) dX8_sceneOn_69 (by decide) rfl ?_
  obtain ⟨hn, h⟩ := ite_g h
  refine v_iald hC 0 rfl hn dX8_sceneOn_70 rfl ?_
  refine v_iconst hC (v := (nI 1)) dX8_sceneOn_71 (by decide) rfl ?_
  refine v_isub hC dX8_sceneOn_72 rfl ?_
  obtain rfl := Option.some.inj h
  exact v_irw hC hr rfl rfl dX8_sceneOn_73
def pX8_canReplace_45 (r : Nat → Int32) : Option (Int32) := some (nI 0)
def pX8_canReplace_94 (r : Nat → Int32) (s0 : Int32) : Option (Int32) := bz s0
def pX8_canReplace_93 (r : Nat → Int32) : Option (Int32) := pX8_canReplace_94 r (nI 0)
def pX8_canReplace (r : Nat → Int32) (x1 : Int32) (x2 : Int32) (x3 : Int32) : Option (Int32) := (pX8_told r x1 (nI 6)).bind fun v1 => (pX8_told r x1 (nI 5)).bind fun v2 => if v2 = 0 then pX8_canReplace_45 r else (pX8_has v1 x2).bind fun v3 => if v3 = 0 then pX8_canReplace_45 r else (pX8_has v1 x3).bind fun v4 => if v4 = 0 then (pX8_fits r x1 x3).bind fun v5 => if v5 = 0 then pX8_canReplace_45 r else (pX8_of r x3 (nI 1)).bind fun v6 => (pX8_facesOf r (v1 &&& (((nI 1) <<< (x2 &&& 31)) ^^^ (-1)))).bind fun v7 => (pX8_has v7 v6).bind fun v8 => if v8 = 0 then (pX8_seen r x1 (nI 0)).bind fun v9 => (pX8_has v9 v6).bind fun v10 => if v10 = 0 then pX8_canReplace_94 r (nI 1) else pX8_canReplace_93 r else pX8_canReplace_93 r else pX8_canReplace_45 r
abbrev rmX8_canReplace : Room := { frames := 3, cells := 0, slots := 0, locals := 70 }
set_option maxHeartbeats 4000000 in
set_option maxRecDepth 100000 in
theorem bX8_canReplace_45 {p : Program} {l : Launch} {e : Env} {s : State} {m : MethodId} {args : Array Value} {below : List Frame} {meth : Method} {c : Code} {g : va_G} {cy : Nat → ClassId} (hC : CX p s m args meth c g cy 6 cX8_canReplace wsX8_canReplace RX8) (hr : meth.sig.returnType = (some .boolean)) {h0 : Nat} {res : Int32} : ∀ (r : Nat → Int32) (h : pX8_canReplace_45 r = some res), V p l e (headSpec wsX8_canReplace rmX8_canReplace).room s m args below meth c g 6 0 0 (MQ below (QRi res) args s 0 0 nF) nF (fun _ => True) [(h0, .inl (cy 0, 164, .inl r))] 45 [] [] := by
  intro r  h
  unfold pX8_canReplace_45 at h
  refine v_iconst hC (v := (nI 0)) dX8_canReplace_45 (by decide) rfl ?_
  obtain rfl := Option.some.inj h
  exact v_irt hC hr rfl rfl dX8_canReplace_46
set_option maxHeartbeats 4000000 in
set_option maxRecDepth 100000 in
theorem bX8_canReplace_94 {p : Program} {l : Launch} {e : Env} {s : State} {m : MethodId} {args : Array Value} {below : List Frame} {meth : Method} {c : Code} {g : va_G} {cy : Nat → ClassId} (hC : CX p s m args meth c g cy 6 cX8_canReplace wsX8_canReplace RX8) (hr : meth.sig.returnType = (some .boolean)) {h0 : Nat} {res : Int32} : ∀ (r : Nat → Int32) (s0 : Int32)(h : pX8_canReplace_94 r s0 = some res), V p l e (headSpec wsX8_canReplace rmX8_canReplace).room s m args below meth c g 6 0 0 (MQ below (QRi res) args s 0 0 nF) nF (fun _ => True) [(h0, .inl (cy 0, 164, .inl r))] 94 [] [.int s0] := by
  intro r s0 h
  unfold pX8_canReplace_94 at h
  obtain ⟨e9, hn⟩ := bz_g h
  exact v_irt hC hr hn e9 dX8_canReplace_94
set_option maxHeartbeats 4000000 in
set_option maxRecDepth 100000 in
theorem bX8_canReplace_93 {p : Program} {l : Launch} {e : Env} {s : State} {m : MethodId} {args : Array Value} {below : List Frame} {meth : Method} {c : Code} {g : va_G} {cy : Nat → ClassId} (hC : CX p s m args meth c g cy 6 cX8_canReplace wsX8_canReplace RX8) (hr : meth.sig.returnType = (some .boolean)) {h0 : Nat} {res : Int32} : ∀ (r : Nat → Int32) (h : pX8_canReplace_93 r = some res), V p l e (headSpec wsX8_canReplace rmX8_canReplace).room s m args below meth c g 6 0 0 (MQ below (QRi res) args s 0 0 nF) nF (fun _ => True) [(h0, .inl (cy 0, 164, .inl r))] 93 [] [] := by
  intro r  h
  unfold pX8_canReplace_93 at h
  refine v_iconst hC (v := (nI 0)) dX8_canReplace_93 (by decide) rfl ?_
  exact bX8_canReplace_94 hC hr _ _ h
set_option maxHeartbeats 4000000 in
set_option maxRecDepth 100000 in
theorem mX8_canReplace (l : Launch) (g : va_G) (cy : Nat → ClassId) (h0 : Nat) (r : Nat → Int32) (x1 : Int32) (x2 : Int32) (x3 : Int32) {res : Int32} (h : pX8_canReplace r x1 x2 x3 = some res) : Met l yX8_canReplace wsX8_canReplace rmX8_canReplace (PW [.ref h0, .int x1, .int x2, .int x3] g cy [(h0, .inl (cy 0, 164, .inl r))]) (QRi res) 0 0 nF := by
  refine m_ofV (cc := cX8_canReplace) (nL := 6) (ret := (some .boolean)) (B := fun _ => True) RX8 rfl (by decide) rfl [(0, .ref h0), (1, .int x1), (2, .int x2), (3, .int x3)] rfl (Nat.le_of_ble_eq_true rfl) (fun h => h) ?_
  intro p e s m args below meth c hC hr
  unfold pX8_canReplace at h
  refine v_aload_n hC dX8_canReplace_0 rfl 0 rfl rfl ?_
  refine v_iload_n hC dX8_canReplace_1 rfl 1 rfl rfl ?_
  refine v_bipush hC (v := (nI 6)) dX8_canReplace_2 (by decide) rfl ?_
  obtain ⟨v1, hv1, h⟩ := bind_g h
  refine v_callSri hC (n := 3) (st := []) (mX8_told l g cy h0 r x1 (nI 6) hv1) gX8_canReplace_X8_told rfl rfl rfl (by decide +kernel) ⟨Nat.le_of_ble_eq_true rfl, Nat.le_of_ble_eq_true rfl⟩ [0] rfl rfl rfl rfl (Nat.le_of_ble_eq_true rfl) rfl ⟨Nat.zero_le _, Nat.zero_le _⟩ dX8_canReplace_4 rfl ?_
  refine v_istore hC dX8_canReplace_7 (by decide) [(4, .int v1), (0, .ref h0), (1, .int x1), (2, .int x2), (3, .int x3)] rfl rfl ?_
  refine v_aload_n hC dX8_canReplace_9 rfl 1 rfl rfl ?_
  refine v_iload_n hC dX8_canReplace_10 rfl 2 rfl rfl ?_
  refine v_iconst hC (v := (nI 5)) dX8_canReplace_11 (by decide) rfl ?_
  obtain ⟨v2, hv2, h⟩ := bind_g h
  refine v_callSri hC (n := 3) (st := []) (mX8_told l g cy h0 r x1 (nI 5) hv2) gX8_canReplace_X8_told rfl rfl rfl (by decide +kernel) ⟨Nat.le_of_ble_eq_true rfl, Nat.le_of_ble_eq_true rfl⟩ [0] rfl rfl rfl rfl (Nat.le_of_ble_eq_true rfl) rfl ⟨Nat.zero_le _, Nat.zero_le _⟩ dX8_canReplace_12 rfl ?_
  refine v_if_eq hC (tgt := 45) dX8_canReplace_15 (by decide) rfl (fun c => ?_) (fun c => ?_)
  · have h := ite_t c h
    exact v_sub [] (lv' := []) rfl (bX8_canReplace_45 hC hr _ h)
  · have h := ite_f c h
    refine v_iload hC dX8_canReplace_18 0 rfl rfl ?_
    refine v_iload_n hC dX8_canReplace_20 rfl 3 rfl rfl ?_
    obtain ⟨v3, hv3, h⟩ := bind_g h
    refine v_callSri hC (n := 2) (st := []) (mX8_has l g cy v1 x2 hv3) gX8_canReplace_X8_has rfl rfl rfl (by decide +kernel) ⟨Nat.le_of_ble_eq_true rfl, Nat.le_of_ble_eq_true rfl⟩ [] rfl rfl rfl rfl (Nat.le_of_ble_eq_true rfl) rfl ⟨Nat.zero_le _, Nat.zero_le _⟩ dX8_canReplace_21 rfl ?_
    refine v_if_eq hC (tgt := 45) dX8_canReplace_24 (by decide) rfl (fun c => ?_) (fun c => ?_)
    · have h := ite_t c h
      exact v_sub [] (lv' := []) rfl (bX8_canReplace_45 hC hr _ h)
    · have h := ite_f c h
      refine v_iload hC dX8_canReplace_27 0 rfl rfl ?_
      refine v_iload_n hC dX8_canReplace_29 rfl 4 rfl rfl ?_
      obtain ⟨v4, hv4, h⟩ := bind_g h
      refine v_callSri hC (n := 2) (st := []) (mX8_has l g cy v1 x3 hv4) gX8_canReplace_X8_has rfl rfl rfl (by decide +kernel) ⟨Nat.le_of_ble_eq_true rfl, Nat.le_of_ble_eq_true rfl⟩ [] rfl rfl rfl rfl (Nat.le_of_ble_eq_true rfl) rfl ⟨Nat.zero_le _, Nat.zero_le _⟩ dX8_canReplace_30 rfl ?_
      refine v_if_ne hC (tgt := 45) dX8_canReplace_33 (by decide) rfl (fun c => ?_) (fun c => ?_)
      · have h := ite_f c h
        exact v_sub [] (lv' := []) rfl (bX8_canReplace_45 hC hr _ h)
      · have h := ite_t c h
        refine v_aload_n hC dX8_canReplace_36 rfl 1 rfl rfl ?_
        refine v_iload_n hC dX8_canReplace_37 rfl 2 rfl rfl ?_
        refine v_iload_n hC dX8_canReplace_38 rfl 4 rfl rfl ?_
        obtain ⟨v5, hv5, h⟩ := bind_g h
        refine v_callSri hC (n := 3) (st := []) (mX8_fits l g cy h0 r x1 x3 hv5) gX8_canReplace_X8_fits rfl rfl rfl (by decide +kernel) ⟨Nat.le_of_ble_eq_true rfl, Nat.le_of_ble_eq_true rfl⟩ [0] rfl rfl rfl rfl (Nat.le_of_ble_eq_true rfl) rfl ⟨Nat.zero_le _, Nat.zero_le _⟩ dX8_canReplace_39 rfl ?_
        refine v_if_ne hC (tgt := 47) dX8_canReplace_42 (by decide) rfl (fun c => ?_) (fun c => ?_)
        · have h := ite_f c h
          refine v_aload_n hC dX8_canReplace_47 rfl 1 rfl rfl ?_
          refine v_iload_n hC dX8_canReplace_48 rfl 4 rfl rfl ?_
          refine v_iconst hC (v := (nI 1)) dX8_canReplace_49 (by decide) rfl ?_
          obtain ⟨v6, hv6, h⟩ := bind_g h
          refine v_callSri hC (n := 3) (st := []) (mX8_of l g cy h0 r x3 (nI 1) hv6) gX8_canReplace_X8_of rfl rfl rfl (by decide +kernel) ⟨Nat.le_of_ble_eq_true rfl, Nat.le_of_ble_eq_true rfl⟩ [0] rfl rfl rfl rfl (Nat.le_of_ble_eq_true rfl) rfl ⟨Nat.zero_le _, Nat.zero_le _⟩ dX8_canReplace_50 rfl ?_
          refine v_istore hC dX8_canReplace_53 (by decide) [(5, .int v6), (4, .int v1), (0, .ref h0), (1, .int x1), (2, .int x2), (3, .int x3)] rfl rfl ?_
          refine v_aload_n hC dX8_canReplace_55 rfl 2 rfl rfl ?_
          refine v_iload hC dX8_canReplace_56 1 rfl rfl ?_
          refine v_iconst hC (v := (nI 1)) dX8_canReplace_58 (by decide) rfl ?_
          refine v_iload_n hC dX8_canReplace_59 rfl 4 rfl rfl ?_
          refine v_ishl hC dX8_canReplace_60 rfl ?_
          refine v_iconst hC (v := (-1)) dX8_canReplace_61 (by decide) rfl ?_
          refine v_ixor hC dX8_canReplace_62 rfl ?_
          refine v_iand hC dX8_canReplace_63 rfl ?_
          obtain ⟨v7, hv7, h⟩ := bind_g h
          refine v_callSri hC (n := 2) (st := []) (mX8_facesOf l g cy h0 r (v1 &&& (((nI 1) <<< (x2 &&& 31)) ^^^ (-1))) hv7) gX8_canReplace_X8_facesOf rfl rfl rfl (by decide +kernel) ⟨Nat.le_of_ble_eq_true rfl, Nat.le_of_ble_eq_true rfl⟩ [0] rfl rfl rfl rfl (Nat.le_of_ble_eq_true rfl) rfl ⟨Nat.zero_le _, Nat.zero_le _⟩ dX8_canReplace_64 rfl ?_
          refine v_iload hC dX8_canReplace_67 0 rfl rfl ?_
          obtain ⟨v8, hv8, h⟩ := bind_g h
          refine v_callSri hC (n := 2) (st := []) (mX8_has l g cy v7 v6 hv8) gX8_canReplace_X8_has rfl rfl rfl (by decide +kernel) ⟨Nat.le_of_ble_eq_true rfl, Nat.le_of_ble_eq_true rfl⟩ [] rfl rfl rfl rfl (Nat.le_of_ble_eq_true rfl) rfl ⟨Nat.zero_le _, Nat.zero_le _⟩ dX8_canReplace_69 rfl ?_
          refine v_if_ne hC (tgt := 93) dX8_canReplace_72 (by decide) rfl (fun c => ?_) (fun c => ?_)
          · have h := ite_f c h
            exact v_sub [] (lv' := []) rfl (bX8_canReplace_93 hC hr _ h)
          · have h := ite_t c h
            refine v_aload_n hC dX8_canReplace_75 rfl 2 rfl rfl ?_
            refine v_iload_n hC dX8_canReplace_76 rfl 3 rfl rfl ?_
            refine v_iconst hC (v := (nI 0)) dX8_canReplace_77 (by decide) rfl ?_
            obtain ⟨v9, hv9, h⟩ := bind_g h
            refine v_callSri hC (n := 3) (st := []) (mX8_seen l g cy h0 r x1 (nI 0) hv9) gX8_canReplace_X8_seen rfl rfl rfl (by decide +kernel) ⟨Nat.le_of_ble_eq_true rfl, Nat.le_of_ble_eq_true rfl⟩ [0] rfl rfl rfl rfl (Nat.le_of_ble_eq_true rfl) rfl ⟨Nat.zero_le _, Nat.zero_le _⟩ dX8_canReplace_78 rfl ?_
            refine v_iload hC dX8_canReplace_81 0 rfl rfl ?_
            obtain ⟨v10, hv10, h⟩ := bind_g h
            refine v_callSri hC (n := 2) (st := []) (mX8_has l g cy v9 v6 hv10) gX8_canReplace_X8_has rfl rfl rfl (by decide +kernel) ⟨Nat.le_of_ble_eq_true rfl, Nat.le_of_ble_eq_true rfl⟩ [] rfl rfl rfl rfl (Nat.le_of_ble_eq_true rfl) rfl ⟨Nat.zero_le _, Nat.zero_le _⟩ dX8_canReplace_83 rfl ?_
            refine v_if_ne hC (tgt := 93) dX8_canReplace_86 (by decide) rfl (fun c => ?_) (fun c => ?_)
            · have h := ite_f c h
              exact v_sub [] (lv' := []) rfl (bX8_canReplace_93 hC hr _ h)
            · have h := ite_t c h
              refine v_iconst hC (v := (nI 1)) dX8_canReplace_89 (by decide) rfl ?_
              refine v_goto hC (tgt := 94) dX8_canReplace_90 (by decide) ?_
              exact v_sub [] (lv' := []) rfl (bX8_canReplace_94 hC hr _ _ h)
        · have h := ite_t c h
          exact v_sub [] (lv' := []) rfl (bX8_canReplace_45 hC hr _ h)
def pX8_replaceOn (r : Nat → Int32) (x1 : Int32) (x2 : Int32) (x3 : Int32) : Option (Int32 × (Nat → Int32)) := (pX8_told r x1 (nI 6)).bind fun v1 => if nb (((nI 94) + ((nI 7) * x1)) + (nI 6)) 164 = true then some (((v1 &&& (((nI 1) <<< (x2 &&& 31)) ^^^ (-1))) ||| ((nI 1) <<< (x3 &&& 31))), (upd r (((nI 94) + ((nI 7) * x1)) + (nI 6)).toNatClampNeg ((v1 &&& (((nI 1) <<< (x2 &&& 31)) ^^^ (-1))) ||| ((nI 1) <<< (x3 &&& 31))))) else none
abbrev rmX8_replaceOn : Room := { frames := 1, cells := 0, slots := 0, locals := 22 }
set_option maxHeartbeats 4000000 in
set_option maxRecDepth 100000 in
theorem mX8_replaceOn (l : Launch) (g : va_G) (cy : Nat → ClassId) (h0 : Nat) (r : Nat → Int32) (x1 : Int32) (x2 : Int32) (x3 : Int32) {res : Int32 × (Nat → Int32)} (h : pX8_replaceOn r x1 x2 x3 = some res) : Met l yX8_replaceOn wsX8_replaceOn rmX8_replaceOn (PW [.ref h0, .int x1, .int x2, .int x3] g cy [(h0, .inl (cy 0, 164, .inl r))]) (QWi g (wA [(h0, .inl (cy 0, 164, .inl r))]) res.1 [(h0, .inl (cy 0, 164, .inl res.2))]) 0 0 (wA [(h0, .inl (cy 0, 164, .inl r))]) := by
  refine m_ofV (cc := cX8_replaceOn) (nL := 5) (ret := (some .int)) (B := (wA [(h0, .inl (cy 0, 164, .inl r))])) RX8 rfl (by decide) rfl [(0, .ref h0), (1, .int x1), (2, .int x2), (3, .int x3)] rfl (Nat.le_of_ble_eq_true rfl) (wA.self) ?_
  intro p e s m args below meth c hC hr
  generalize (wA [(h0, .inl (cy 0, 164, .inl r))]) = A
  unfold pX8_replaceOn at h
  refine v_aload_n hC dX8_replaceOn_0 rfl 0 rfl rfl ?_
  refine v_iload_n hC dX8_replaceOn_1 rfl 1 rfl rfl ?_
  refine v_bipush hC (v := (nI 6)) dX8_replaceOn_2 (by decide) rfl ?_
  obtain ⟨v1, hv1, h⟩ := bind_g h
  refine v_callSri hC (n := 3) (st := []) (mX8_told l g cy h0 r x1 (nI 6) hv1) gX8_replaceOn_X8_told rfl rfl rfl (by decide +kernel) ⟨Nat.le_of_ble_eq_true rfl, Nat.le_of_ble_eq_true rfl⟩ [0] rfl rfl rfl rfl (Nat.le_of_ble_eq_true rfl) rfl ⟨Nat.zero_le _, Nat.zero_le _⟩ dX8_replaceOn_4 rfl ?_
  refine v_iconst hC (v := (nI 1)) dX8_replaceOn_7 (by decide) rfl ?_
  refine v_iload_n hC dX8_replaceOn_8 rfl 2 rfl rfl ?_
  refine v_ishl hC dX8_replaceOn_9 rfl ?_
  refine v_iconst hC (v := (-1)) dX8_replaceOn_10 (by decide) rfl ?_
  refine v_ixor hC dX8_replaceOn_11 rfl ?_
  refine v_iand hC dX8_replaceOn_12 rfl ?_
  refine v_iconst hC (v := (nI 1)) dX8_replaceOn_13 (by decide) rfl ?_
  refine v_iload_n hC dX8_replaceOn_14 rfl 3 rfl rfl ?_
  refine v_ishl hC dX8_replaceOn_15 rfl ?_
  refine v_ior hC dX8_replaceOn_16 rfl ?_
  refine v_istore hC dX8_replaceOn_17 (by decide) [(4, .int ((v1 &&& (((nI 1) <<< (x2 &&& 31)) ^^^ (-1))) ||| ((nI 1) <<< (x3 &&& 31)))), (0, .ref h0), (1, .int x1), (2, .int x2), (3, .int x3)] rfl rfl ?_
  refine v_aload_n hC dX8_replaceOn_19 rfl 1 rfl rfl ?_
  refine v_bipush hC (v := (nI 94)) dX8_replaceOn_20 (by decide) rfl ?_
  refine v_bipush hC (v := (nI 7)) dX8_replaceOn_22 (by decide) rfl ?_
  refine v_iload_n hC dX8_replaceOn_24 rfl 2 rfl rfl ?_
  refine v_imul hC dX8_replaceOn_25 rfl ?_
  refine v_iadd hC dX8_replaceOn_26 rfl ?_
  refine v_bipush hC (v := (nI 6)) dX8_replaceOn_27 (by decide) rfl ?_
  refine v_iadd hC dX8_replaceOn_29 rfl ?_
  refine v_iload hC dX8_replaceOn_30 0 rfl rfl ?_
  obtain ⟨hn, h⟩ := ite_g h
  refine v_iast hC 0 rfl hn dX8_replaceOn_32 [(h0, .inl (cy 0, 164, .inl (upd r (((nI 94) + ((nI 7) * x1)) + (nI 6)).toNatClampNeg ((v1 &&& (((nI 1) <<< (x2 &&& 31)) ^^^ (-1))) ||| ((nI 1) <<< (x3 &&& 31))))))] rfl rfl ?_
  refine v_iload hC dX8_replaceOn_33 0 rfl rfl ?_
  obtain rfl := Option.some.inj h
  exact v_irw hC hr rfl rfl dX8_replaceOn_35
def pX8_mealOn_29 (kk : (Nat → Int32) → Int32 → Int32 → Option (Int32 × (Nat → Int32))) (r : Nat → Int32) (y2 : Int32) (s0 : Int32) (s1 : Int32) : Option (Int32 × (Nat → Int32)) := (pX8_lay r y2 (nI 3) (nI 0)).bind fun v1 => (pX8_lay v1 y2 (nI 4) (nI 0)).bind fun v2 => kk v2 (s1 + s0) (y2 + (nI 1))
def pX8_mealOn_4 : Nat → (Nat → Int32) → Int32 → Int32 → Option (Int32 × (Nat → Int32))
  | 0, _, _, _ => none
  | k + 1, r, y1, y2 => if nb (nI 0) 164 = true then if (r (nI 0).toNatClampNeg) ≤ y2 then some (y1, r) else (pX8_of r y2 (nI 3)).bind fun v1 => if v1 ≤ (nI 360) then pX8_mealOn_29 (fun u0 u1 u2 => pX8_mealOn_4 k u0 u1 u2) r y2 (nI 0) y1 else pX8_mealOn_29 (fun u0 u1 u2 => pX8_mealOn_4 k u0 u1 u2) r y2 (nI 1) y1 else none
theorem pX8_mealOn_4_s {k : Nat} (r : Nat → Int32) (y1 : Int32) (y2 : Int32) : pX8_mealOn_4 (k + 1) r y1 y2 = if nb (nI 0) 164 = true then if (r (nI 0).toNatClampNeg) ≤ y2 then some (y1, r) else (pX8_of r y2 (nI 3)).bind fun v1 => if v1 ≤ (nI 360) then pX8_mealOn_29 (fun u0 u1 u2 => pX8_mealOn_4 k u0 u1 u2) r y2 (nI 0) y1 else pX8_mealOn_29 (fun u0 u1 u2 => pX8_mealOn_4 k u0 u1 u2) r y2 (nI 1) y1 else none := rfl
def pX8_mealOn (r : Nat → Int32) : Option (Int32 × (Nat → Int32)) := pX8_mealOn_4 FU r (nI 0) (nI 0)
abbrev rmX8_mealOn : Room := { frames := 1, cells := 0, slots := 0, locals := 23 }
set_option maxHeartbeats 4000000 in
set_option maxRecDepth 100000 in
theorem bX8_mealOn_29 {p : Program} {l : Launch} {e : Env} {s : State} {m : MethodId} {args : Array Value} {below : List Frame} {meth : Method} {c : Code} {g : va_G} {cy : Nat → ClassId} (hC : CX p s m args meth c g cy 3 cX8_mealOn wsX8_mealOn RX8) (hr : meth.sig.returnType = (some .int)) {h0 : Nat} {A : Nat → Prop} {res : Int32 × (Nat → Int32)} : ∀ (r : Nat → Int32) (y2 : Int32) (s0 : Int32) (s1 : Int32) {kk : (Nat → Int32) → Int32 → Int32 → Option (Int32 × (Nat → Int32))} (hk : ∀ (r : Nat → Int32) (y1 : Int32) (y2 : Int32), kk r y1 y2 = some res → V p l e (headSpec wsX8_mealOn rmX8_mealOn).room s m args below meth c g 3 0 0 (MQ below (QWi g A res.1 [(h0, .inl (cy 0, 164, .inl res.2))]) args s 0 0 A) A A [(h0, .inl (cy 0, 164, .inl r))] 4 [(0, .ref h0), (1, .int y1), (2, .int y2)] []) (h : pX8_mealOn_29 kk r y2 s0 s1 = some res), V p l e (headSpec wsX8_mealOn rmX8_mealOn).room s m args below meth c g 3 0 0 (MQ below (QWi g A res.1 [(h0, .inl (cy 0, 164, .inl res.2))]) args s 0 0 A) A A [(h0, .inl (cy 0, 164, .inl r))] 29 [(0, .ref h0), (2, .int y2)] [.int s0, .int s1] := by
  intro r y2 s0 s1 kk hk h
  unfold pX8_mealOn_29 at h
  refine v_iadd hC dX8_mealOn_29 rfl ?_
  refine v_istore_n hC dX8_mealOn_30 rfl (by decide) [(1, .int (s1 + s0)), (0, .ref h0), (2, .int y2)] rfl rfl ?_
  refine v_aload_n hC dX8_mealOn_31 rfl 1 rfl rfl ?_
  refine v_iload_n hC dX8_mealOn_32 rfl 2 rfl rfl ?_
  refine v_iconst hC (v := (nI 3)) dX8_mealOn_33 (by decide) rfl ?_
  refine v_iconst hC (v := (nI 0)) dX8_mealOn_34 (by decide) rfl ?_
  obtain ⟨v1, hv1, h⟩ := bind_g h
  refine v_callSwv hC (n := 4) (st := []) [(h0, .inl (cy 0, 164, .inl v1))] _ (mX8_lay l g cy h0 r y2 (nI 3) (nI 0) hv1) gX8_mealOn_X8_lay rfl rfl rfl (by decide +kernel) ⟨Nat.le_of_ble_eq_true rfl, Nat.le_of_ble_eq_true rfl⟩ [0] [] rfl rfl rfl rfl rfl rfl rfl rfl rfl (Nat.le_of_ble_eq_true rfl) rfl ⟨Nat.zero_le _, Nat.zero_le _⟩ dX8_mealOn_35 rfl ?_
  refine v_aload_n hC dX8_mealOn_38 rfl 1 rfl rfl ?_
  refine v_iload_n hC dX8_mealOn_39 rfl 2 rfl rfl ?_
  refine v_iconst hC (v := (nI 4)) dX8_mealOn_40 (by decide) rfl ?_
  refine v_iconst hC (v := (nI 0)) dX8_mealOn_41 (by decide) rfl ?_
  obtain ⟨v2, hv2, h⟩ := bind_g h
  refine v_callSwv hC (n := 4) (st := []) [(h0, .inl (cy 0, 164, .inl v2))] _ (mX8_lay l g cy h0 v1 y2 (nI 4) (nI 0) hv2) gX8_mealOn_X8_lay rfl rfl rfl (by decide +kernel) ⟨Nat.le_of_ble_eq_true rfl, Nat.le_of_ble_eq_true rfl⟩ [0] [] rfl rfl rfl rfl rfl rfl rfl rfl rfl (Nat.le_of_ble_eq_true rfl) rfl ⟨Nat.zero_le _, Nat.zero_le _⟩ dX8_mealOn_42 rfl ?_
  refine v_iinc hC dX8_mealOn_45 2 rfl (v := (y2 + (nI 1))) rfl (by decide) [(2, .int (y2 + (nI 1))), (1, .int (s1 + s0)), (0, .ref h0)] rfl rfl ?_
  refine v_goto hC (tgt := 4) dX8_mealOn_48 (by decide) ?_
  exact v_sub [2, 1, 0] (lv' := [(0, .ref h0), (1, .int (s1 + s0)), (2, .int (y2 + (nI 1)))]) rfl (hk _ _ _ h)
set_option maxHeartbeats 4000000 in
set_option maxRecDepth 100000 in
theorem bX8_mealOn_4 {p : Program} {l : Launch} {e : Env} {s : State} {m : MethodId} {args : Array Value} {below : List Frame} {meth : Method} {c : Code} {g : va_G} {cy : Nat → ClassId} (hC : CX p s m args meth c g cy 3 cX8_mealOn wsX8_mealOn RX8) (hr : meth.sig.returnType = (some .int)) {h0 : Nat} {A : Nat → Prop} {res : Int32 × (Nat → Int32)} : ∀ (k : Nat) (r : Nat → Int32) (y1 : Int32) (y2 : Int32) (h : pX8_mealOn_4 k r y1 y2 = some res), V p l e (headSpec wsX8_mealOn rmX8_mealOn).room s m args below meth c g 3 0 0 (MQ below (QWi g A res.1 [(h0, .inl (cy 0, 164, .inl res.2))]) args s 0 0 A) A A [(h0, .inl (cy 0, 164, .inl r))] 4 [(0, .ref h0), (1, .int y1), (2, .int y2)] [] := by
  intro k
  induction k with
  | zero =>
    intro r y1 y2 h
    have h : (none : Option _) = some res := h
    cases h
  | succ k ih =>
    intro r y1 y2 h
    rw [pX8_mealOn_4_s] at h
    refine v_iload_n hC dX8_mealOn_4 rfl 2 rfl rfl ?_
    refine v_aload_n hC dX8_mealOn_5 rfl 0 rfl rfl ?_
    refine v_iconst hC (v := (nI 0)) dX8_mealOn_6 (by decide) rfl ?_
    obtain ⟨hn, h⟩ := ite_g h
    refine v_iald hC 0 rfl hn dX8_mealOn_7 rfl ?_
    refine v_icmp_ge hC (tgt := 51) dX8_mealOn_8 (by decide) rfl (fun c => ?_) (fun c => ?_)
    · have h := ite_t c h
      refine v_iload_n hC dX8_mealOn_51 rfl 1 rfl rfl ?_
      obtain rfl := Option.some.inj h
      exact v_irw hC hr rfl rfl dX8_mealOn_52
    · have h := ite_f c h
      refine v_iload_n hC dX8_mealOn_11 rfl 1 rfl rfl ?_
      refine v_aload_n hC dX8_mealOn_12 rfl 0 rfl rfl ?_
      refine v_iload_n hC dX8_mealOn_13 rfl 2 rfl rfl ?_
      refine v_iconst hC (v := (nI 3)) dX8_mealOn_14 (by decide) rfl ?_
      obtain ⟨v1, hv1, h⟩ := bind_g h
      refine v_callSri hC (n := 3) (st := [.int y1]) (mX8_of l g cy h0 r y2 (nI 3) hv1) gX8_mealOn_X8_of rfl rfl rfl (by decide +kernel) ⟨Nat.le_of_ble_eq_true rfl, Nat.le_of_ble_eq_true rfl⟩ [0] rfl rfl rfl rfl (Nat.le_of_ble_eq_true rfl) rfl ⟨Nat.zero_le _, Nat.zero_le _⟩ dX8_mealOn_15 rfl ?_
      refine v_sipush hC (v := (nI 360)) dX8_mealOn_18 (by decide) rfl ?_
      refine v_icmp_le hC (tgt := 28) dX8_mealOn_21 (by decide) rfl (fun c => ?_) (fun c => ?_)
      · have h := ite_t c h
        refine v_iconst hC (v := (nI 0)) dX8_mealOn_28 (by decide) rfl ?_
        exact v_sub [0, 2] (lv' := [(0, .ref h0), (2, .int y2)]) rfl (bX8_mealOn_29 hC hr _ _ _ _ ih h)
      · have h := ite_f c h
        refine v_iconst hC (v := (nI 1)) dX8_mealOn_24 (by decide) rfl ?_
        refine v_goto hC (tgt := 29) dX8_mealOn_25 (by decide) ?_
        exact v_sub [0, 2] (lv' := [(0, .ref h0), (2, .int y2)]) rfl (bX8_mealOn_29 hC hr _ _ _ _ ih h)
set_option maxHeartbeats 4000000 in
set_option maxRecDepth 100000 in
theorem mX8_mealOn (l : Launch) (g : va_G) (cy : Nat → ClassId) (h0 : Nat) (r : Nat → Int32)  {res : Int32 × (Nat → Int32)} (h : pX8_mealOn r = some res) : Met l yX8_mealOn wsX8_mealOn rmX8_mealOn (PW [.ref h0] g cy [(h0, .inl (cy 0, 164, .inl r))]) (QWi g (wA [(h0, .inl (cy 0, 164, .inl r))]) res.1 [(h0, .inl (cy 0, 164, .inl res.2))]) 0 0 (wA [(h0, .inl (cy 0, 164, .inl r))]) := by
  refine m_ofV (cc := cX8_mealOn) (nL := 3) (ret := (some .int)) (B := (wA [(h0, .inl (cy 0, 164, .inl r))])) RX8 rfl (by decide) rfl [(0, .ref h0)] rfl (Nat.le_of_ble_eq_true rfl) (wA.self) ?_
  intro p e s m args below meth c hC hr
  generalize (wA [(h0, .inl (cy 0, 164, .inl r))]) = A
  unfold pX8_mealOn at h
  refine v_iconst hC (v := (nI 0)) dX8_mealOn_0 (by decide) rfl ?_
  refine v_istore_n hC dX8_mealOn_1 rfl (by decide) [(1, .int (nI 0)), (0, .ref h0)] rfl rfl ?_
  refine v_iconst hC (v := (nI 0)) dX8_mealOn_2 (by decide) rfl ?_
  refine v_istore_n hC dX8_mealOn_3 rfl (by decide) [(2, .int (nI 0)), (1, .int (nI 0)), (0, .ref h0)] rfl rfl ?_
  exact v_sub [2, 1, 0] (lv' := [(0, .ref h0), (1, .int (nI 0)), (2, .int (nI 0))]) rfl (bX8_mealOn_4 hC hr FU _ _ _ h)
def pX8_nextOn_7 : Nat → (Nat → Int32) → Int32 → Option (Int32 × (Nat → Int32))
  | 0, _, _ => none
  | k + 1, r, y1 => if nb (nI 0) 164 = true then if (r (nI 0).toNatClampNeg) ≤ y1 then if nb (nI 2) 164 = true then if nb (nI 2) 164 = true then if nb (nI 2) 164 = true then some (((upd r (nI 2).toNatClampNeg ((r (nI 2).toNatClampNeg) + (nI 1))) (nI 2).toNatClampNeg), (upd r (nI 2).toNatClampNeg ((r (nI 2).toNatClampNeg) + (nI 1)))) else none else none else none else (pX8_lay r y1 (nI 2) (nI 0)).bind fun v1 => pX8_nextOn_7 k v1 (y1 + (nI 1)) else none
theorem pX8_nextOn_7_s {k : Nat} (r : Nat → Int32) (y1 : Int32) : pX8_nextOn_7 (k + 1) r y1 = if nb (nI 0) 164 = true then if (r (nI 0).toNatClampNeg) ≤ y1 then if nb (nI 2) 164 = true then if nb (nI 2) 164 = true then if nb (nI 2) 164 = true then some (((upd r (nI 2).toNatClampNeg ((r (nI 2).toNatClampNeg) + (nI 1))) (nI 2).toNatClampNeg), (upd r (nI 2).toNatClampNeg ((r (nI 2).toNatClampNeg) + (nI 1)))) else none else none else none else (pX8_lay r y1 (nI 2) (nI 0)).bind fun v1 => pX8_nextOn_7 k v1 (y1 + (nI 1)) else none := rfl
def pX8_nextOn (r : Nat → Int32) : Option (Int32 × (Nat → Int32)) := (pX8_mealOn r).bind fun v1 => pX8_nextOn_7 FU v1.2 (nI 0)
abbrev rmX8_nextOn : Room := { frames := 2, cells := 0, slots := 0, locals := 45 }
set_option maxHeartbeats 4000000 in
set_option maxRecDepth 100000 in
theorem bX8_nextOn_7 {p : Program} {l : Launch} {e : Env} {s : State} {m : MethodId} {args : Array Value} {below : List Frame} {meth : Method} {c : Code} {g : va_G} {cy : Nat → ClassId} (hC : CX p s m args meth c g cy 2 cX8_nextOn wsX8_nextOn RX8) (hr : meth.sig.returnType = (some .int)) {h0 : Nat} {A : Nat → Prop} {res : Int32 × (Nat → Int32)} : ∀ (k : Nat) (r : Nat → Int32) (y1 : Int32) (h : pX8_nextOn_7 k r y1 = some res), V p l e (headSpec wsX8_nextOn rmX8_nextOn).room s m args below meth c g 2 0 0 (MQ below (QWi g A res.1 [(h0, .inl (cy 0, 164, .inl res.2))]) args s 0 0 A) A A [(h0, .inl (cy 0, 164, .inl r))] 7 [(0, .ref h0), (1, .int y1)] [] := by
  intro k
  induction k with
  | zero =>
    intro r y1 h
    have h : (none : Option _) = some res := h
    cases h
  | succ k ih =>
    intro r y1 h
    rw [pX8_nextOn_7_s] at h
    refine v_iload_n hC dX8_nextOn_7 rfl 1 rfl rfl ?_
    refine v_aload_n hC dX8_nextOn_8 rfl 0 rfl rfl ?_
    refine v_iconst hC (v := (nI 0)) dX8_nextOn_9 (by decide) rfl ?_
    obtain ⟨hn, h⟩ := ite_g h
    refine v_iald hC 0 rfl hn dX8_nextOn_10 rfl ?_
    refine v_icmp_ge hC (tgt := 27) dX8_nextOn_11 (by decide) rfl (fun c => ?_) (fun c => ?_)
    · have h := ite_t c h
      refine v_aload_n hC dX8_nextOn_27 rfl 0 rfl rfl ?_
      refine v_iconst hC (v := (nI 2)) dX8_nextOn_28 (by decide) rfl ?_
      refine v_dup2 hC dX8_nextOn_29 rfl rfl rfl ?_
      obtain ⟨hn, h⟩ := ite_g h
      refine v_iald hC 0 rfl hn dX8_nextOn_30 rfl ?_
      refine v_iconst hC (v := (nI 1)) dX8_nextOn_31 (by decide) rfl ?_
      refine v_iadd hC dX8_nextOn_32 rfl ?_
      obtain ⟨hn, h⟩ := ite_g h
      refine v_iast hC 0 rfl hn dX8_nextOn_33 [(h0, .inl (cy 0, 164, .inl (upd r (nI 2).toNatClampNeg ((r (nI 2).toNatClampNeg) + (nI 1)))))] rfl rfl ?_
      refine v_aload_n hC dX8_nextOn_34 rfl 0 rfl rfl ?_
      refine v_iconst hC (v := (nI 2)) dX8_nextOn_35 (by decide) rfl ?_
      obtain ⟨hn, h⟩ := ite_g h
      refine v_iald hC 0 rfl hn dX8_nextOn_36 rfl ?_
      obtain rfl := Option.some.inj h
      exact v_irw hC hr rfl rfl dX8_nextOn_37
    · have h := ite_f c h
      refine v_aload_n hC dX8_nextOn_14 rfl 0 rfl rfl ?_
      refine v_iload_n hC dX8_nextOn_15 rfl 1 rfl rfl ?_
      refine v_iconst hC (v := (nI 2)) dX8_nextOn_16 (by decide) rfl ?_
      refine v_iconst hC (v := (nI 0)) dX8_nextOn_17 (by decide) rfl ?_
      obtain ⟨v1, hv1, h⟩ := bind_g h
      refine v_callSwv hC (n := 4) (st := []) [(h0, .inl (cy 0, 164, .inl v1))] _ (mX8_lay l g cy h0 r y1 (nI 2) (nI 0) hv1) gX8_nextOn_X8_lay rfl rfl rfl (by decide +kernel) ⟨Nat.le_of_ble_eq_true rfl, Nat.le_of_ble_eq_true rfl⟩ [0] [] rfl rfl rfl rfl rfl rfl rfl rfl rfl (Nat.le_of_ble_eq_true rfl) rfl ⟨Nat.zero_le _, Nat.zero_le _⟩ dX8_nextOn_18 rfl ?_
      refine v_iinc hC dX8_nextOn_21 1 rfl (v := (y1 + (nI 1))) rfl (by decide) [(1, .int (y1 + (nI 1))), (0, .ref h0)] rfl rfl ?_
      refine v_goto hC (tgt := 7) dX8_nextOn_24 (by decide) ?_
      exact v_sub [1, 0] (lv' := [(0, .ref h0), (1, .int (y1 + (nI 1)))]) rfl (ih _ _ h)
set_option maxHeartbeats 4000000 in
set_option maxRecDepth 100000 in
theorem mX8_nextOn (l : Launch) (g : va_G) (cy : Nat → ClassId) (h0 : Nat) (r : Nat → Int32)  {res : Int32 × (Nat → Int32)} (h : pX8_nextOn r = some res) : Met l yX8_nextOn wsX8_nextOn rmX8_nextOn (PW [.ref h0] g cy [(h0, .inl (cy 0, 164, .inl r))]) (QWi g (wA [(h0, .inl (cy 0, 164, .inl r))]) res.1 [(h0, .inl (cy 0, 164, .inl res.2))]) 0 0 (wA [(h0, .inl (cy 0, 164, .inl r))]) := by
  refine m_ofV (cc := cX8_nextOn) (nL := 2) (ret := (some .int)) (B := (wA [(h0, .inl (cy 0, 164, .inl r))])) RX8 rfl (by decide) rfl [(0, .ref h0)] rfl (Nat.le_of_ble_eq_true rfl) (wA.self) ?_
  intro p e s m args below meth c hC hr
  generalize (wA [(h0, .inl (cy 0, 164, .inl r))]) = A
  unfold pX8_nextOn at h
  refine v_aload_n hC dX8_nextOn_0 rfl 0 rfl rfl ?_
  obtain ⟨v1, hv1, h⟩ := bind_g h
  refine v_callSwi hC (n := 1) (st := []) [(h0, .inl (cy 0, 164, .inl v1.2))] _ (mX8_mealOn l g cy h0 r hv1) gX8_nextOn_X8_mealOn rfl rfl rfl (by decide +kernel) ⟨Nat.le_of_ble_eq_true rfl, Nat.le_of_ble_eq_true rfl⟩ [0] [] rfl rfl rfl rfl rfl rfl rfl rfl rfl (Nat.le_of_ble_eq_true rfl) rfl ⟨Nat.zero_le _, Nat.zero_le _⟩ dX8_nextOn_1 rfl ?_
  refine v_pop hC dX8_nextOn_4 rfl rfl ?_
  refine v_iconst hC (v := (nI 0)) dX8_nextOn_5 (by decide) rfl ?_
  refine v_istore_n hC dX8_nextOn_6 rfl (by decide) [(1, .int (nI 0)), (0, .ref h0)] rfl rfl ?_
  exact v_sub [1, 0] (lv' := [(0, .ref h0), (1, .int (nI 0))]) rfl (bX8_nextOn_7 hC hr FU _ _ h)
theorem kX8_isSetting_110 : Cond.constantLong RX8 110 240 ∈ wsX8_isSetting := by decide +kernel
theorem kX8_isSetting_116 : Cond.constantLong RX8 116 960 ∈ wsX8_isSetting := by decide +kernel
theorem kX8_isSetting_118 : Cond.constantLong RX8 118 99 ∈ wsX8_isSetting := by decide +kernel
def pX8_isSetting_57 (s0 : Int32) : Option (Int32) := bz s0
def pX8_isSetting_52  : Option (Int32) := pX8_isSetting_57 (nI 1)
def pX8_isSetting_56  : Option (Int32) := pX8_isSetting_57 (nI 0)
def pX8_isSetting_35 (y0 : Int32) (y1 : Int32) : Option (Int32) := if y0 = (nI 2) then (pX8_in y1.toInt64 0 99).bind fun v1 => if v1 = 0 then pX8_isSetting_56  else pX8_isSetting_52  else pX8_isSetting_56 
def pX8_isSetting_18 (y0 : Int32) (y1 : Int32) : Option (Int32) := if y0 = (nI 1) then (pX8_in y1.toInt64 1 99).bind fun v1 => if v1 = 0 then pX8_isSetting_35 y0 y1 else pX8_isSetting_52  else pX8_isSetting_35 y0 y1
def pX8_isSetting (x0 : Int32) (x1 : Int32) : Option (Int32) := if x0 = 0 then (pX8_in x1.toInt64 240 960).bind fun v1 => if v1 = 0 then pX8_isSetting_18 x0 x1 else pX8_isSetting_52  else pX8_isSetting_18 x0 x1
abbrev rmX8_isSetting : Room := { frames := 1, cells := 0, slots := 0, locals := 25 }
set_option maxHeartbeats 4000000 in
set_option maxRecDepth 100000 in
theorem bX8_isSetting_57 {p : Program} {l : Launch} {e : Env} {s : State} {m : MethodId} {args : Array Value} {below : List Frame} {meth : Method} {c : Code} {g : va_G} {cy : Nat → ClassId} (hC : CX p s m args meth c g cy 2 cX8_isSetting wsX8_isSetting RX8) (hr : meth.sig.returnType = (some .boolean)) {res : Int32} : ∀  (s0 : Int32)(h : pX8_isSetting_57 s0 = some res), V p l e (headSpec wsX8_isSetting rmX8_isSetting).room s m args below meth c g 2 0 0 (MQ below (QRi res) args s 0 0 nF) nF (fun _ => True) [] 57 [] [.int s0] := by
  intro  s0 h
  unfold pX8_isSetting_57 at h
  obtain ⟨e9, hn⟩ := bz_g h
  exact v_irt hC hr hn e9 dX8_isSetting_57
set_option maxHeartbeats 4000000 in
set_option maxRecDepth 100000 in
theorem bX8_isSetting_52 {p : Program} {l : Launch} {e : Env} {s : State} {m : MethodId} {args : Array Value} {below : List Frame} {meth : Method} {c : Code} {g : va_G} {cy : Nat → ClassId} (hC : CX p s m args meth c g cy 2 cX8_isSetting wsX8_isSetting RX8) (hr : meth.sig.returnType = (some .boolean)) {res : Int32} : ∀ (h : pX8_isSetting_52  = some res), V p l e (headSpec wsX8_isSetting rmX8_isSetting).room s m args below meth c g 2 0 0 (MQ below (QRi res) args s 0 0 nF) nF (fun _ => True) [] 52 [] [] := by
  intro   h
  unfold pX8_isSetting_52 at h
  refine v_iconst hC (v := (nI 1)) dX8_isSetting_52 (by decide) rfl ?_
  refine v_goto hC (tgt := 57) dX8_isSetting_53 (by decide) ?_
  exact bX8_isSetting_57 hC hr _ h
set_option maxHeartbeats 4000000 in
set_option maxRecDepth 100000 in
theorem bX8_isSetting_56 {p : Program} {l : Launch} {e : Env} {s : State} {m : MethodId} {args : Array Value} {below : List Frame} {meth : Method} {c : Code} {g : va_G} {cy : Nat → ClassId} (hC : CX p s m args meth c g cy 2 cX8_isSetting wsX8_isSetting RX8) (hr : meth.sig.returnType = (some .boolean)) {res : Int32} : ∀ (h : pX8_isSetting_56  = some res), V p l e (headSpec wsX8_isSetting rmX8_isSetting).room s m args below meth c g 2 0 0 (MQ below (QRi res) args s 0 0 nF) nF (fun _ => True) [] 56 [] [] := by
  intro   h
  unfold pX8_isSetting_56 at h
  refine v_iconst hC (v := (nI 0)) dX8_isSetting_56 (by decide) rfl ?_
  exact bX8_isSetting_57 hC hr _ h
set_option maxHeartbeats 4000000 in
set_option maxRecDepth 100000 in
theorem bX8_isSetting_35 {p : Program} {l : Launch} {e : Env} {s : State} {m : MethodId} {args : Array Value} {below : List Frame} {meth : Method} {c : Code} {g : va_G} {cy : Nat → ClassId} (hC : CX p s m args meth c g cy 2 cX8_isSetting wsX8_isSetting RX8) (hr : meth.sig.returnType = (some .boolean)) {res : Int32} : ∀  (y0 : Int32) (y1 : Int32)(h : pX8_isSetting_35 y0 y1 = some res), V p l e (headSpec wsX8_isSetting rmX8_isSetting).room s m args below meth c g 2 0 0 (MQ below (QRi res) args s 0 0 nF) nF (fun _ => True) [] 35 [(0, .int y0), (1, .int y1)] [] := by
  intro  y0 y1 h
  unfold pX8_isSetting_35 at h
  refine v_iload_n hC dX8_isSetting_35 rfl 0 rfl rfl ?_
  refine v_iconst hC (v := (nI 2)) dX8_isSetting_36 (by decide) rfl ?_
  refine v_icmp_ne hC (tgt := 56) dX8_isSetting_37 (by decide) rfl (fun c => ?_) (fun c => ?_)
  · have h := ite_f c h
    exact v_sub [] (lv' := []) rfl (bX8_isSetting_56 hC hr  h)
  · have h := ite_t c h
    refine v_iload_n hC dX8_isSetting_40 rfl 1 rfl rfl ?_
    refine v_i2l hC dX8_isSetting_41 rfl ?_
    refine v_lconst hC (v := 0) dX8_isSetting_42 rfl rfl ?_
    refine v_ldc2 hC (v := 99) dX8_isSetting_43 kX8_isSetting_118 rfl ?_
    obtain ⟨v1, hv1, h⟩ := bind_g h
    refine v_callSri hC (n := 3) (st := []) (mX8_in l g cy y1.toInt64 0 99 hv1) gX8_isSetting_X8_in rfl rfl rfl (by decide +kernel) ⟨Nat.le_of_ble_eq_true rfl, Nat.le_of_ble_eq_true rfl⟩ [] rfl rfl rfl rfl (Nat.le_of_ble_eq_true rfl) rfl ⟨Nat.zero_le _, Nat.zero_le _⟩ dX8_isSetting_46 rfl ?_
    refine v_if_eq hC (tgt := 56) dX8_isSetting_49 (by decide) rfl (fun c => ?_) (fun c => ?_)
    · have h := ite_t c h
      exact v_sub [] (lv' := []) rfl (bX8_isSetting_56 hC hr  h)
    · have h := ite_f c h
      exact v_sub [] (lv' := []) rfl (bX8_isSetting_52 hC hr  h)
set_option maxHeartbeats 4000000 in
set_option maxRecDepth 100000 in
theorem bX8_isSetting_18 {p : Program} {l : Launch} {e : Env} {s : State} {m : MethodId} {args : Array Value} {below : List Frame} {meth : Method} {c : Code} {g : va_G} {cy : Nat → ClassId} (hC : CX p s m args meth c g cy 2 cX8_isSetting wsX8_isSetting RX8) (hr : meth.sig.returnType = (some .boolean)) {res : Int32} : ∀  (y0 : Int32) (y1 : Int32)(h : pX8_isSetting_18 y0 y1 = some res), V p l e (headSpec wsX8_isSetting rmX8_isSetting).room s m args below meth c g 2 0 0 (MQ below (QRi res) args s 0 0 nF) nF (fun _ => True) [] 18 [(0, .int y0), (1, .int y1)] [] := by
  intro  y0 y1 h
  unfold pX8_isSetting_18 at h
  refine v_iload_n hC dX8_isSetting_18 rfl 0 rfl rfl ?_
  refine v_iconst hC (v := (nI 1)) dX8_isSetting_19 (by decide) rfl ?_
  refine v_icmp_ne hC (tgt := 35) dX8_isSetting_20 (by decide) rfl (fun c => ?_) (fun c => ?_)
  · have h := ite_f c h
    exact bX8_isSetting_35 hC hr _ _ h
  · have h := ite_t c h
    refine v_iload_n hC dX8_isSetting_23 rfl 1 rfl rfl ?_
    refine v_i2l hC dX8_isSetting_24 rfl ?_
    refine v_lconst hC (v := 1) dX8_isSetting_25 rfl rfl ?_
    refine v_ldc2 hC (v := 99) dX8_isSetting_26 kX8_isSetting_118 rfl ?_
    obtain ⟨v1, hv1, h⟩ := bind_g h
    refine v_callSri hC (n := 3) (st := []) (mX8_in l g cy y1.toInt64 1 99 hv1) gX8_isSetting_X8_in rfl rfl rfl (by decide +kernel) ⟨Nat.le_of_ble_eq_true rfl, Nat.le_of_ble_eq_true rfl⟩ [] rfl rfl rfl rfl (Nat.le_of_ble_eq_true rfl) rfl ⟨Nat.zero_le _, Nat.zero_le _⟩ dX8_isSetting_29 rfl ?_
    refine v_if_ne hC (tgt := 52) dX8_isSetting_32 (by decide) rfl (fun c => ?_) (fun c => ?_)
    · have h := ite_f c h
      exact v_sub [] (lv' := []) rfl (bX8_isSetting_52 hC hr  h)
    · have h := ite_t c h
      exact bX8_isSetting_35 hC hr _ _ h
set_option maxHeartbeats 4000000 in
set_option maxRecDepth 100000 in
theorem mX8_isSetting (l : Launch) (g : va_G) (cy : Nat → ClassId)  (x0 : Int32) (x1 : Int32) {res : Int32} (h : pX8_isSetting x0 x1 = some res) : Met l yX8_isSetting wsX8_isSetting rmX8_isSetting (PW [.int x0, .int x1] g cy []) (QRi res) 0 0 nF := by
  refine m_ofV (cc := cX8_isSetting) (nL := 2) (ret := (some .boolean)) (B := fun _ => True) RX8 rfl (by decide) rfl [(0, .int x0), (1, .int x1)] rfl (Nat.le_of_ble_eq_true rfl) (fun h => h) ?_
  intro p e s m args below meth c hC hr
  unfold pX8_isSetting at h
  refine v_iload_n hC dX8_isSetting_0 rfl 0 rfl rfl ?_
  refine v_if_ne hC (tgt := 18) dX8_isSetting_1 (by decide) rfl (fun c => ?_) (fun c => ?_)
  · have h := ite_f c h
    exact bX8_isSetting_18 hC hr _ _ h
  · have h := ite_t c h
    refine v_iload_n hC dX8_isSetting_4 rfl 1 rfl rfl ?_
    refine v_i2l hC dX8_isSetting_5 rfl ?_
    refine v_ldc2 hC (v := 240) dX8_isSetting_6 kX8_isSetting_110 rfl ?_
    refine v_ldc2 hC (v := 960) dX8_isSetting_9 kX8_isSetting_116 rfl ?_
    obtain ⟨v1, hv1, h⟩ := bind_g h
    refine v_callSri hC (n := 3) (st := []) (mX8_in l g cy x1.toInt64 240 960 hv1) gX8_isSetting_X8_in rfl rfl rfl (by decide +kernel) ⟨Nat.le_of_ble_eq_true rfl, Nat.le_of_ble_eq_true rfl⟩ [] rfl rfl rfl rfl (Nat.le_of_ble_eq_true rfl) rfl ⟨Nat.zero_le _, Nat.zero_le _⟩ dX8_isSetting_12 rfl ?_
    refine v_if_ne hC (tgt := 52) dX8_isSetting_15 (by decide) rfl (fun c => ?_) (fun c => ?_)
    · have h := ite_f c h
      exact v_sub [] (lv' := []) rfl (bX8_isSetting_52 hC hr  h)
    · have h := ite_t c h
      exact bX8_isSetting_18 hC hr _ _ h
def pX8_shots_4 : Nat → (Nat → Int32) → Int32 → Int32 → Option (Int32)
  | 0, _, _, _ => none
  | k + 1, r, y1, y2 => if nb (nI 1) 164 = true then if (r (nI 1).toNatClampNeg) ≤ y2 then some y1 else (pX8_told r y2 (nI 5)).bind fun v1 => pX8_shots_4 k r (y1 + v1) (y2 + (nI 1)) else none
theorem pX8_shots_4_s {k : Nat} (r : Nat → Int32) (y1 : Int32) (y2 : Int32) : pX8_shots_4 (k + 1) r y1 y2 = if nb (nI 1) 164 = true then if (r (nI 1).toNatClampNeg) ≤ y2 then some y1 else (pX8_told r y2 (nI 5)).bind fun v1 => pX8_shots_4 k r (y1 + v1) (y2 + (nI 1)) else none := rfl
def pX8_shots (r : Nat → Int32) : Option (Int32) := pX8_shots_4 FU r (nI 0) (nI 0)
abbrev rmX8_shots : Room := { frames := 1, cells := 0, slots := 0, locals := 22 }
set_option maxHeartbeats 4000000 in
set_option maxRecDepth 100000 in
theorem bX8_shots_4 {p : Program} {l : Launch} {e : Env} {s : State} {m : MethodId} {args : Array Value} {below : List Frame} {meth : Method} {c : Code} {g : va_G} {cy : Nat → ClassId} (hC : CX p s m args meth c g cy 3 cX8_shots wsX8_shots RX8) (hr : meth.sig.returnType = (some .int)) {h0 : Nat} {res : Int32} : ∀ (k : Nat) (r : Nat → Int32) (y1 : Int32) (y2 : Int32) (h : pX8_shots_4 k r y1 y2 = some res), V p l e (headSpec wsX8_shots rmX8_shots).room s m args below meth c g 3 0 0 (MQ below (QRi res) args s 0 0 nF) nF (fun _ => True) [(h0, .inl (cy 0, 164, .inl r))] 4 [(0, .ref h0), (1, .int y1), (2, .int y2)] [] := by
  intro k
  induction k with
  | zero =>
    intro r y1 y2 h
    have h : (none : Option _) = some res := h
    cases h
  | succ k ih =>
    intro r y1 y2 h
    rw [pX8_shots_4_s] at h
    refine v_iload_n hC dX8_shots_4 rfl 2 rfl rfl ?_
    refine v_aload_n hC dX8_shots_5 rfl 0 rfl rfl ?_
    refine v_iconst hC (v := (nI 1)) dX8_shots_6 (by decide) rfl ?_
    obtain ⟨hn, h⟩ := ite_g h
    refine v_iald hC 0 rfl hn dX8_shots_7 rfl ?_
    refine v_icmp_ge hC (tgt := 26) dX8_shots_8 (by decide) rfl (fun c => ?_) (fun c => ?_)
    · have h := ite_t c h
      refine v_iload_n hC dX8_shots_26 rfl 1 rfl rfl ?_
      obtain rfl := Option.some.inj h
      exact v_irt hC hr rfl rfl dX8_shots_27
    · have h := ite_f c h
      refine v_iload_n hC dX8_shots_11 rfl 1 rfl rfl ?_
      refine v_aload_n hC dX8_shots_12 rfl 0 rfl rfl ?_
      refine v_iload_n hC dX8_shots_13 rfl 2 rfl rfl ?_
      refine v_iconst hC (v := (nI 5)) dX8_shots_14 (by decide) rfl ?_
      obtain ⟨v1, hv1, h⟩ := bind_g h
      refine v_callSri hC (n := 3) (st := [.int y1]) (mX8_told l g cy h0 r y2 (nI 5) hv1) gX8_shots_X8_told rfl rfl rfl (by decide +kernel) ⟨Nat.le_of_ble_eq_true rfl, Nat.le_of_ble_eq_true rfl⟩ [0] rfl rfl rfl rfl (Nat.le_of_ble_eq_true rfl) rfl ⟨Nat.zero_le _, Nat.zero_le _⟩ dX8_shots_15 rfl ?_
      refine v_iadd hC dX8_shots_18 rfl ?_
      refine v_istore_n hC dX8_shots_19 rfl (by decide) [(1, .int (y1 + v1)), (0, .ref h0), (2, .int y2)] rfl rfl ?_
      refine v_iinc hC dX8_shots_20 2 rfl (v := (y2 + (nI 1))) rfl (by decide) [(2, .int (y2 + (nI 1))), (1, .int (y1 + v1)), (0, .ref h0)] rfl rfl ?_
      refine v_goto hC (tgt := 4) dX8_shots_23 (by decide) ?_
      exact v_sub [2, 1, 0] (lv' := [(0, .ref h0), (1, .int (y1 + v1)), (2, .int (y2 + (nI 1)))]) rfl (ih _ _ _ h)
set_option maxHeartbeats 4000000 in
set_option maxRecDepth 100000 in
theorem mX8_shots (l : Launch) (g : va_G) (cy : Nat → ClassId) (h0 : Nat) (r : Nat → Int32)  {res : Int32} (h : pX8_shots r = some res) : Met l yX8_shots wsX8_shots rmX8_shots (PW [.ref h0] g cy [(h0, .inl (cy 0, 164, .inl r))]) (QRi res) 0 0 nF := by
  refine m_ofV (cc := cX8_shots) (nL := 3) (ret := (some .int)) (B := fun _ => True) RX8 rfl (by decide) rfl [(0, .ref h0)] rfl (Nat.le_of_ble_eq_true rfl) (fun h => h) ?_
  intro p e s m args below meth c hC hr
  unfold pX8_shots at h
  refine v_iconst hC (v := (nI 0)) dX8_shots_0 (by decide) rfl ?_
  refine v_istore_n hC dX8_shots_1 rfl (by decide) [(1, .int (nI 0)), (0, .ref h0)] rfl rfl ?_
  refine v_iconst hC (v := (nI 0)) dX8_shots_2 (by decide) rfl ?_
  refine v_istore_n hC dX8_shots_3 rfl (by decide) [(2, .int (nI 0)), (1, .int (nI 0)), (0, .ref h0)] rfl rfl ?_
  exact v_sub [2, 1, 0] (lv' := [(0, .ref h0), (1, .int (nI 0)), (2, .int (nI 0))]) rfl (bX8_shots_4 hC hr FU _ _ _ h)
theorem kX8_append_120 : Cond.constantLong RX8 120 255 ∈ wsX8_append := by decide +kernel
theorem kX8_append_122 : Cond.fieldLink RX8 122 "CrowdFacesModel" "size" "I" ∈ wsX8_append := by decide +kernel
theorem kX8_append_7 : Cond.fieldLink RX8 7 "CrowdFacesModel" "text" "[I" ∈ wsX8_append := by decide +kernel
theorem iX8_append_X8 : ∀ w ∈ wsX80, w ∈ wsX8_append := by decide +kernel
def pX8_append_31 (rf : Int32) (sz : Int32) (tx : Nat → Int32) (y1 : Int32) (s0 : Int32) : Option (Int32 × Int32 × Int32 × (Nat → Int32)) := (pX8_refused rf s0).bind fun v1 => if v1.1 = 0 then if nb sz 120 = true then some ((sz + (nI 1)), v1.2, (sz + (nI 1)), (upd tx sz.toNatClampNeg y1)) else none else some ((nI 0), v1.2, sz, tx)
def pX8_append (rf : Int32) (sz : Int32) (tx : Nat → Int32) (x1 : Int32) : Option (Int32 × Int32 × Int32 × (Nat → Int32)) := (pX8_in x1.toInt64 0 255).bind fun v1 => if v1 = 0 then pX8_append_31 rf sz tx x1 (nI 1) else if sz = (nI 120) then pX8_append_31 rf sz tx x1 (nI 2) else pX8_append_31 rf sz tx x1 (nI 0)
abbrev rmX8_append : Room := { frames := 1, cells := 0, slots := 0, locals := 25 }
set_option maxHeartbeats 4000000 in
set_option maxRecDepth 100000 in
theorem bX8_append_31 {p : Program} {l : Launch} {e : Env} {s : State} {m : MethodId} {args : Array Value} {below : List Frame} {meth : Method} {c : Code} {g : va_G} {cy : Nat → ClassId} (hC : CX p s m args meth c g cy 2 cX8_append wsX8_append RX8) (hr : meth.sig.returnType = (some .int)) {h0 ztx znw ztr zdi zkp zik : Nat} {A : Nat → Prop} {res : Int32 × Int32 × Int32 × (Nat → Int32)} : ∀ (rf : Int32) (sz : Int32) (ac : Int32) (sp : Int32) (ou : Int32) (tx : Nat → Int32) (nw : Nat → Int32) (tr : Nat → Int32) (di : Nat → Int32) (kp : Nat → Int32) (ik : Nat → Int32) (y1 : Int32) (s0 : Int32)(h : pX8_append_31 rf sz tx y1 s0 = some res), V p l e (headSpec wsX8_append rmX8_append).room s m args below meth c g 2 0 0 (MQ below (QWi g A res.1 [(h0, .inr (6, [.int res.2.1, .ref ztx, .int res.2.2.1, .ref znw, .ref ztr, .ref zdi, .int ac, .ref zkp, .ref zik, .int sp, .int ou])), (ztx, .inl (cy 0, 120, .inl res.2.2.2)), (znw, .inl (cy 0, 164, .inl nw)), (ztr, .inl (cy 0, 164, .inl tr)), (zdi, .inl (cy 0, 2296, .inl di)), (zkp, .inl (cy 0, 328, .inl kp)), (zik, .inl (cy 1, 2, .inl ik))]) args s 0 0 A) A A [(h0, .inr (6, [.int rf, .ref ztx, .int sz, .ref znw, .ref ztr, .ref zdi, .int ac, .ref zkp, .ref zik, .int sp, .int ou])), (ztx, .inl (cy 0, 120, .inl tx)), (znw, .inl (cy 0, 164, .inl nw)), (ztr, .inl (cy 0, 164, .inl tr)), (zdi, .inl (cy 0, 2296, .inl di)), (zkp, .inl (cy 0, 328, .inl kp)), (zik, .inl (cy 1, 2, .inl ik))] 31 [(0, .ref h0), (1, .int y1)] [.int s0, .ref h0] := by
  intro rf sz ac sp ou tx nw tr di kp ik y1 s0 h
  unfold pX8_append_31 at h
  obtain ⟨v1, hv1, h⟩ := bind_g h
  refine v_callVwi hC (n := 1) (st := []) [(h0, .inr (6, [.int v1.2, .ref ztx, .int sz, .ref znw, .ref ztr, .ref zdi, .int ac, .ref zkp, .ref zik, .int sp, .int ou])), (ztx, .inl (cy 0, 120, .inl tx)), (znw, .inl (cy 0, 164, .inl nw)), (ztr, .inl (cy 0, 164, .inl tr)), (zdi, .inl (cy 0, 2296, .inl di)), (zkp, .inl (cy 0, 328, .inl kp)), (zik, .inl (cy 1, 2, .inl ik))] _ (mX8_refused l g cy h0 ztx znw ztr zdi zkp zik rf sz ac sp ou tx nw tr di kp ik s0 hv1) gX8_append_X8_refused rfl rfl rfl (by decide +kernel) ⟨Nat.le_of_ble_eq_true rfl, Nat.le_of_ble_eq_true rfl⟩ 0 rfl rfl [0, 1, 2, 3, 4, 5, 6] [] rfl rfl rfl rfl rfl rfl rfl rfl rfl (Nat.le_of_ble_eq_true rfl) rfl ⟨Nat.zero_le _, Nat.zero_le _⟩ dX8_append_31 rfl ?_
  refine v_if_eq hC (tgt := 39) dX8_append_34 (by decide) rfl (fun c => ?_) (fun c => ?_)
  · have h := ite_t c h
    refine v_aload_n hC dX8_append_39 rfl 0 rfl rfl ?_
    refine v_get hC iX8_append_X8 0 rfl rfl 1 (by decide) kX8_append_7 rfl rfl dX8_append_40 rfl ?_
    refine v_aload_n hC dX8_append_43 rfl 0 rfl rfl ?_
    refine v_get hC iX8_append_X8 0 rfl rfl 2 (by decide) kX8_append_122 rfl rfl dX8_append_44 rfl ?_
    refine v_iload_n hC dX8_append_47 rfl 1 rfl rfl ?_
    obtain ⟨hn, h⟩ := ite_g h
    refine v_iast hC 1 rfl hn dX8_append_48 [(h0, .inr (6, [.int v1.2, .ref ztx, .int sz, .ref znw, .ref ztr, .ref zdi, .int ac, .ref zkp, .ref zik, .int sp, .int ou])), (ztx, .inl (cy 0, 120, .inl (upd tx sz.toNatClampNeg y1))), (znw, .inl (cy 0, 164, .inl nw)), (ztr, .inl (cy 0, 164, .inl tr)), (zdi, .inl (cy 0, 2296, .inl di)), (zkp, .inl (cy 0, 328, .inl kp)), (zik, .inl (cy 1, 2, .inl ik))] rfl rfl ?_
    refine v_aload_n hC dX8_append_49 rfl 0 rfl rfl ?_
    refine v_dup hC dX8_append_50 rfl rfl ?_
    refine v_get hC iX8_append_X8 0 rfl rfl 2 (by decide) kX8_append_122 rfl rfl dX8_append_51 rfl ?_
    refine v_iconst hC (v := (nI 1)) dX8_append_54 (by decide) rfl ?_
    refine v_iadd hC dX8_append_55 rfl ?_
    refine v_put hC iX8_append_X8 tyX8 tyX8_ok nmX8 0 rfl rfl 2 (by decide) kX8_append_122 rfl rfl (ty := .int) (by decide +kernel) rfl rfl (Nat.le_of_ble_eq_true rfl) dX8_append_56 [(h0, .inr (6, [.int v1.2, .ref ztx, .int (sz + (nI 1)), .ref znw, .ref ztr, .ref zdi, .int ac, .ref zkp, .ref zik, .int sp, .int ou])), (ztx, .inl (cy 0, 120, .inl (upd tx sz.toNatClampNeg y1))), (znw, .inl (cy 0, 164, .inl nw)), (ztr, .inl (cy 0, 164, .inl tr)), (zdi, .inl (cy 0, 2296, .inl di)), (zkp, .inl (cy 0, 328, .inl kp)), (zik, .inl (cy 1, 2, .inl ik))] rfl rfl ?_
    refine v_aload_n hC dX8_append_59 rfl 0 rfl rfl ?_
    refine v_get hC iX8_append_X8 0 rfl rfl 2 (by decide) kX8_append_122 rfl rfl dX8_append_60 rfl ?_
    obtain rfl := Option.some.inj h
    exact v_irw hC hr rfl rfl dX8_append_63
  · have h := ite_f c h
    refine v_iconst hC (v := (nI 0)) dX8_append_37 (by decide) rfl ?_
    obtain rfl := Option.some.inj h
    exact v_irw hC hr rfl rfl dX8_append_38
set_option maxHeartbeats 4000000 in
set_option maxRecDepth 100000 in
theorem mX8_append (l : Launch) (g : va_G) (cy : Nat → ClassId) (h0 ztx znw ztr zdi zkp zik : Nat) (rf : Int32) (sz : Int32) (ac : Int32) (sp : Int32) (ou : Int32) (tx : Nat → Int32) (nw : Nat → Int32) (tr : Nat → Int32) (di : Nat → Int32) (kp : Nat → Int32) (ik : Nat → Int32) (x1 : Int32) {res : Int32 × Int32 × Int32 × (Nat → Int32)} (h : pX8_append rf sz tx x1 = some res) : Met l yX8_append wsX8_append rmX8_append (PW [.ref h0, .int x1] g cy [(h0, .inr (6, [.int rf, .ref ztx, .int sz, .ref znw, .ref ztr, .ref zdi, .int ac, .ref zkp, .ref zik, .int sp, .int ou])), (ztx, .inl (cy 0, 120, .inl tx)), (znw, .inl (cy 0, 164, .inl nw)), (ztr, .inl (cy 0, 164, .inl tr)), (zdi, .inl (cy 0, 2296, .inl di)), (zkp, .inl (cy 0, 328, .inl kp)), (zik, .inl (cy 1, 2, .inl ik))]) (QWi g (wA [(h0, .inr (6, [.int rf, .ref ztx, .int sz, .ref znw, .ref ztr, .ref zdi, .int ac, .ref zkp, .ref zik, .int sp, .int ou])), (ztx, .inl (cy 0, 120, .inl tx)), (znw, .inl (cy 0, 164, .inl nw)), (ztr, .inl (cy 0, 164, .inl tr)), (zdi, .inl (cy 0, 2296, .inl di)), (zkp, .inl (cy 0, 328, .inl kp)), (zik, .inl (cy 1, 2, .inl ik))]) res.1 [(h0, .inr (6, [.int res.2.1, .ref ztx, .int res.2.2.1, .ref znw, .ref ztr, .ref zdi, .int ac, .ref zkp, .ref zik, .int sp, .int ou])), (ztx, .inl (cy 0, 120, .inl res.2.2.2)), (znw, .inl (cy 0, 164, .inl nw)), (ztr, .inl (cy 0, 164, .inl tr)), (zdi, .inl (cy 0, 2296, .inl di)), (zkp, .inl (cy 0, 328, .inl kp)), (zik, .inl (cy 1, 2, .inl ik))]) 0 0 (wA [(h0, .inr (6, [.int rf, .ref ztx, .int sz, .ref znw, .ref ztr, .ref zdi, .int ac, .ref zkp, .ref zik, .int sp, .int ou])), (ztx, .inl (cy 0, 120, .inl tx)), (znw, .inl (cy 0, 164, .inl nw)), (ztr, .inl (cy 0, 164, .inl tr)), (zdi, .inl (cy 0, 2296, .inl di)), (zkp, .inl (cy 0, 328, .inl kp)), (zik, .inl (cy 1, 2, .inl ik))]) := by
  refine m_ofV (cc := cX8_append) (nL := 2) (ret := (some .int)) (B := (wA [(h0, .inr (6, [.int rf, .ref ztx, .int sz, .ref znw, .ref ztr, .ref zdi, .int ac, .ref zkp, .ref zik, .int sp, .int ou])), (ztx, .inl (cy 0, 120, .inl tx)), (znw, .inl (cy 0, 164, .inl nw)), (ztr, .inl (cy 0, 164, .inl tr)), (zdi, .inl (cy 0, 2296, .inl di)), (zkp, .inl (cy 0, 328, .inl kp)), (zik, .inl (cy 1, 2, .inl ik))])) RX8 rfl (by decide) rfl [(0, .ref h0), (1, .int x1)] rfl (Nat.le_of_ble_eq_true rfl) (wA.self) ?_
  intro p e s m args below meth c hC hr
  generalize (wA [(h0, .inr (6, [.int rf, .ref ztx, .int sz, .ref znw, .ref ztr, .ref zdi, .int ac, .ref zkp, .ref zik, .int sp, .int ou])), (ztx, .inl (cy 0, 120, .inl tx)), (znw, .inl (cy 0, 164, .inl nw)), (ztr, .inl (cy 0, 164, .inl tr)), (zdi, .inl (cy 0, 2296, .inl di)), (zkp, .inl (cy 0, 328, .inl kp)), (zik, .inl (cy 1, 2, .inl ik))]) = A
  unfold pX8_append at h
  refine v_aload_n hC dX8_append_0 rfl 0 rfl rfl ?_
  refine v_iload_n hC dX8_append_1 rfl 1 rfl rfl ?_
  refine v_i2l hC dX8_append_2 rfl ?_
  refine v_lconst hC (v := 0) dX8_append_3 rfl rfl ?_
  refine v_ldc2 hC (v := 255) dX8_append_4 kX8_append_120 rfl ?_
  obtain ⟨v1, hv1, h⟩ := bind_g h
  refine v_callSri hC (n := 3) (st := [.ref h0]) (mX8_in l g cy x1.toInt64 0 255 hv1) gX8_append_X8_in rfl rfl rfl (by decide +kernel) ⟨Nat.le_of_ble_eq_true rfl, Nat.le_of_ble_eq_true rfl⟩ [] rfl rfl rfl rfl (Nat.le_of_ble_eq_true rfl) rfl ⟨Nat.zero_le _, Nat.zero_le _⟩ dX8_append_7 rfl ?_
  refine v_if_ne hC (tgt := 17) dX8_append_10 (by decide) rfl (fun c => ?_) (fun c => ?_)
  · have h := ite_f c h
    refine v_aload_n hC dX8_append_17 rfl 0 rfl rfl ?_
    refine v_get hC iX8_append_X8 0 rfl rfl 2 (by decide) kX8_append_122 rfl rfl dX8_append_18 rfl ?_
    refine v_bipush hC (v := (nI 120)) dX8_append_21 (by decide) rfl ?_
    refine v_icmp_ne hC (tgt := 30) dX8_append_23 (by decide) rfl (fun c => ?_) (fun c => ?_)
    · have h := ite_f c h
      refine v_iconst hC (v := (nI 0)) dX8_append_30 (by decide) rfl ?_
      exact bX8_append_31 hC hr _ _ _ _ _ _ _ _ _ _ _ _ _ h
    · have h := ite_t c h
      refine v_iconst hC (v := (nI 2)) dX8_append_26 (by decide) rfl ?_
      refine v_goto hC (tgt := 31) dX8_append_27 (by decide) ?_
      exact bX8_append_31 hC hr _ _ _ _ _ _ _ _ _ _ _ _ _ h
  · have h := ite_t c h
    refine v_iconst hC (v := (nI 1)) dX8_append_13 (by decide) rfl ?_
    refine v_goto hC (tgt := 31) dX8_append_14 (by decide) ?_
    exact bX8_append_31 hC hr _ _ _ _ _ _ _ _ _ _ _ _ _ h
theorem kX8_clearText_122 : Cond.fieldLink RX8 122 "CrowdFacesModel" "size" "I" ∈ wsX8_clearText := by decide +kernel
theorem kX8_clearText_33 : Cond.fieldLink RX8 33 "CrowdFacesModel" "refusal" "I" ∈ wsX8_clearText := by decide +kernel
theorem iX8_clearText_X8 : ∀ w ∈ wsX80, w ∈ wsX8_clearText := by decide +kernel
def pX8_clearText (rf : Int32) (sz : Int32) : Option (Int32 × Int32 × Int32) := some (sz, (nI 0), (nI 0))
abbrev rmX8_clearText : Room := { frames := 0, cells := 0, slots := 0, locals := 0 }
set_option maxHeartbeats 4000000 in
set_option maxRecDepth 100000 in
theorem mX8_clearText (l : Launch) (g : va_G) (cy : Nat → ClassId) (h0 ztx znw ztr zdi zkp zik : Nat) (rf : Int32) (sz : Int32) (ac : Int32) (sp : Int32) (ou : Int32) (tx : Nat → Int32) (nw : Nat → Int32) (tr : Nat → Int32) (di : Nat → Int32) (kp : Nat → Int32) (ik : Nat → Int32)  {res : Int32 × Int32 × Int32} (h : pX8_clearText rf sz = some res) : Met l yX8_clearText wsX8_clearText rmX8_clearText (PW [.ref h0] g cy [(h0, .inr (6, [.int rf, .ref ztx, .int sz, .ref znw, .ref ztr, .ref zdi, .int ac, .ref zkp, .ref zik, .int sp, .int ou])), (ztx, .inl (cy 0, 120, .inl tx)), (znw, .inl (cy 0, 164, .inl nw)), (ztr, .inl (cy 0, 164, .inl tr)), (zdi, .inl (cy 0, 2296, .inl di)), (zkp, .inl (cy 0, 328, .inl kp)), (zik, .inl (cy 1, 2, .inl ik))]) (QWi g (wA [(h0, .inr (6, [.int rf, .ref ztx, .int sz, .ref znw, .ref ztr, .ref zdi, .int ac, .ref zkp, .ref zik, .int sp, .int ou])), (ztx, .inl (cy 0, 120, .inl tx)), (znw, .inl (cy 0, 164, .inl nw)), (ztr, .inl (cy 0, 164, .inl tr)), (zdi, .inl (cy 0, 2296, .inl di)), (zkp, .inl (cy 0, 328, .inl kp)), (zik, .inl (cy 1, 2, .inl ik))]) res.1 [(h0, .inr (6, [.int res.2.1, .ref ztx, .int res.2.2, .ref znw, .ref ztr, .ref zdi, .int ac, .ref zkp, .ref zik, .int sp, .int ou])), (ztx, .inl (cy 0, 120, .inl tx)), (znw, .inl (cy 0, 164, .inl nw)), (ztr, .inl (cy 0, 164, .inl tr)), (zdi, .inl (cy 0, 2296, .inl di)), (zkp, .inl (cy 0, 328, .inl kp)), (zik, .inl (cy 1, 2, .inl ik))]) 0 0 (wA [(h0, .inr (6, [.int rf, .ref ztx, .int sz, .ref znw, .ref ztr, .ref zdi, .int ac, .ref zkp, .ref zik, .int sp, .int ou])), (ztx, .inl (cy 0, 120, .inl tx)), (znw, .inl (cy 0, 164, .inl nw)), (ztr, .inl (cy 0, 164, .inl tr)), (zdi, .inl (cy 0, 2296, .inl di)), (zkp, .inl (cy 0, 328, .inl kp)), (zik, .inl (cy 1, 2, .inl ik))]) := by
  refine m_ofV (cc := cX8_clearText) (nL := 2) (ret := (some .int)) (B := (wA [(h0, .inr (6, [.int rf, .ref ztx, .int sz, .ref znw, .ref ztr, .ref zdi, .int ac, .ref zkp, .ref zik, .int sp, .int ou])), (ztx, .inl (cy 0, 120, .inl tx)), (znw, .inl (cy 0, 164, .inl nw)), (ztr, .inl (cy 0, 164, .inl tr)), (zdi, .inl (cy 0, 2296, .inl di)), (zkp, .inl (cy 0, 328, .inl kp)), (zik, .inl (cy 1, 2, .inl ik))])) RX8 rfl (by decide) rfl [(0, .ref h0)] rfl (Nat.le_of_ble_eq_true rfl) (wA.self) ?_
  intro p e s m args below meth c hC hr
  generalize (wA [(h0, .inr (6, [.int rf, .ref ztx, .int sz, .ref znw, .ref ztr, .ref zdi, .int ac, .ref zkp, .ref zik, .int sp, .int ou])), (ztx, .inl (cy 0, 120, .inl tx)), (znw, .inl (cy 0, 164, .inl nw)), (ztr, .inl (cy 0, 164, .inl tr)), (zdi, .inl (cy 0, 2296, .inl di)), (zkp, .inl (cy 0, 328, .inl kp)), (zik, .inl (cy 1, 2, .inl ik))]) = A
  unfold pX8_clearText at h
  refine v_aload_n hC dX8_clearText_0 rfl 0 rfl rfl ?_
  refine v_iconst hC (v := (nI 0)) dX8_clearText_1 (by decide) rfl ?_
  refine v_put hC iX8_clearText_X8 tyX8 tyX8_ok nmX8 0 rfl rfl 0 (by decide) kX8_clearText_33 rfl rfl (ty := .int) (by decide +kernel) rfl rfl (Nat.le_of_ble_eq_true rfl) dX8_clearText_2 [(h0, .inr (6, [.int (nI 0), .ref ztx, .int sz, .ref znw, .ref ztr, .ref zdi, .int ac, .ref zkp, .ref zik, .int sp, .int ou])), (ztx, .inl (cy 0, 120, .inl tx)), (znw, .inl (cy 0, 164, .inl nw)), (ztr, .inl (cy 0, 164, .inl tr)), (zdi, .inl (cy 0, 2296, .inl di)), (zkp, .inl (cy 0, 328, .inl kp)), (zik, .inl (cy 1, 2, .inl ik))] rfl rfl ?_
  refine v_aload_n hC dX8_clearText_5 rfl 0 rfl rfl ?_
  refine v_get hC iX8_clearText_X8 0 rfl rfl 2 (by decide) kX8_clearText_122 rfl rfl dX8_clearText_6 rfl ?_
  refine v_istore_n hC dX8_clearText_9 rfl (by decide) [(1, .int sz), (0, .ref h0)] rfl rfl ?_
  refine v_aload_n hC dX8_clearText_10 rfl 1 rfl rfl ?_
  refine v_iconst hC (v := (nI 0)) dX8_clearText_11 (by decide) rfl ?_
  refine v_put hC iX8_clearText_X8 tyX8 tyX8_ok nmX8 0 rfl rfl 2 (by decide) kX8_clearText_122 rfl rfl (ty := .int) (by decide +kernel) rfl rfl (Nat.le_of_ble_eq_true rfl) dX8_clearText_12 [(h0, .inr (6, [.int (nI 0), .ref ztx, .int (nI 0), .ref znw, .ref ztr, .ref zdi, .int ac, .ref zkp, .ref zik, .int sp, .int ou])), (ztx, .inl (cy 0, 120, .inl tx)), (znw, .inl (cy 0, 164, .inl nw)), (ztr, .inl (cy 0, 164, .inl tr)), (zdi, .inl (cy 0, 2296, .inl di)), (zkp, .inl (cy 0, 328, .inl kp)), (zik, .inl (cy 1, 2, .inl ik))] rfl rfl ?_
  refine v_iload_n hC dX8_clearText_15 rfl 0 rfl rfl ?_
  obtain rfl := Option.some.inj h
  exact v_irw hC hr rfl rfl dX8_clearText_16
theorem kX8_figures_104 : Cond.constantLong RX8 104 9 ∈ wsX8_figures := by decide +kernel
theorem kX8_figures_122 : Cond.fieldLink RX8 122 "CrowdFacesModel" "size" "I" ∈ wsX8_figures := by decide +kernel
theorem kX8_figures_129 : Cond.fieldLink RX8 129 "CrowdFacesModel" "spot" "I" ∈ wsX8_figures := by decide +kernel
theorem kX8_figures_7 : Cond.fieldLink RX8 7 "CrowdFacesModel" "text" "[I" ∈ wsX8_figures := by decide +kernel
theorem iX8_figures_X8 : ∀ w ∈ wsX80, w ∈ wsX8_figures := by decide +kernel
def pX8_figures_106 (sz : Int32) (sp : Int32) (tx : Nat → Int32) : Option (Int32 × Int32) := some ((-1), sp)
def pX8_figures_63 (kk : Int32 → Int32 → (Nat → Int32) → Int32 → Int32 → Int32 → Int32 → Int32 → Option (Int32 × Int32)) (sz : Int32) (sp : Int32) (tx : Nat → Int32) (y1 : Int32) (y3 : Int32) (y4 : Int32) (y5 : Int32) (y6 : Int32) (s0 : Int32) : Option (Int32 × Int32) := (pX8_in s0.toInt64 0 9).bind fun v1 => if v1 = 0 then pX8_figures_106 sz sp tx else if y4 < (y5 + (s0 * y6)) then pX8_figures_106 sz sp tx else if y3 ≤ (((y5 + (s0 * y6)) + y6) - (nI 1)) then kk sz (sp + (nI 1)) tx y1 y3 y4 (y5 + (s0 * y6)) (y6 / (nI 10)) else pX8_figures_106 sz sp tx
def pX8_figures_143 (sz : Int32) (sp : Int32) (tx : Nat → Int32) (s0 : Int32) : Option (Int32 × Int32) := some (s0, sp)
def pX8_figures_132 (sz : Int32) (sp : Int32) (tx : Nat → Int32) (y1 : Int32) (y5 : Int32) : Option (Int32 × Int32) := if y1 = (-1) then pX8_figures_143 sz sp tx (-1) else pX8_figures_143 sz sp tx y5
def pX8_figures_26 : Nat → Int32 → Int32 → (Nat → Int32) → Int32 → Int32 → Int32 → Int32 → Int32 → Option (Int32 × Int32)
  | 0, _, _, _, _, _, _, _, _ => none
  | k + 1, sz, sp, tx, y1, y3, y4, y5, y6 => if y6 ≤ 0 then pX8_figures_132 sz sp tx y1 y5 else if y1 = (-1) then pX8_figures_132 sz sp tx y1 y5 else if sz ≤ sp then pX8_figures_63 (fun u0 u1 u2 u3 u4 u5 u6 u7 => pX8_figures_26 k u0 u1 u2 u3 u4 u5 u6 u7) sz sp tx y1 y3 y4 y5 y6 (-1) else if nb sp 120 = true then pX8_figures_63 (fun u0 u1 u2 u3 u4 u5 u6 u7 => pX8_figures_26 k u0 u1 u2 u3 u4 u5 u6 u7) sz sp tx y1 y3 y4 y5 y6 ((tx sp.toNatClampNeg) - (nI 48)) else none
theorem pX8_figures_26_s {k : Nat} (sz : Int32) (sp : Int32) (tx : Nat → Int32) (y1 : Int32) (y3 : Int32) (y4 : Int32) (y5 : Int32) (y6 : Int32) : pX8_figures_26 (k + 1) sz sp tx y1 y3 y4 y5 y6 = if y6 ≤ 0 then pX8_figures_132 sz sp tx y1 y5 else if y1 = (-1) then pX8_figures_132 sz sp tx y1 y5 else if sz ≤ sp then pX8_figures_63 (fun u0 u1 u2 u3 u4 u5 u6 u7 => pX8_figures_26 k u0 u1 u2 u3 u4 u5 u6 u7) sz sp tx y1 y3 y4 y5 y6 (-1) else if nb sp 120 = true then pX8_figures_63 (fun u0 u1 u2 u3 u4 u5 u6 u7 => pX8_figures_26 k u0 u1 u2 u3 u4 u5 u6 u7) sz sp tx y1 y3 y4 y5 y6 ((tx sp.toNatClampNeg) - (nI 48)) else none := rfl
def pX8_figures_24 (sz : Int32) (sp : Int32) (tx : Nat → Int32) (y1 : Int32) (y3 : Int32) (y4 : Int32) (y5 : Int32) (s0 : Int32) : Option (Int32 × Int32) := pX8_figures_26 FU sz sp tx y1 y3 y4 y5 s0
def pX8_figures (sz : Int32) (sp : Int32) (tx : Nat → Int32) (x1 : Int32) (x2 : Int32) (x3 : Int32) (x4 : Int32) : Option (Int32 × Int32) := if x2 = (nI 3) then pX8_figures_24 sz sp tx x1 x3 x4 (nI 0) (nI 100) else if x2 = (nI 2) then pX8_figures_24 sz sp tx x1 x3 x4 (nI 0) (nI 10) else pX8_figures_24 sz sp tx x1 x3 x4 (nI 0) (nI 1)
abbrev rmX8_figures : Room := { frames := 1, cells := 0, slots := 0, locals := 25 }
set_option maxHeartbeats 4000000 in
set_option maxRecDepth 100000 in
theorem bX8_figures_106 {p : Program} {l : Launch} {e : Env} {s : State} {m : MethodId} {args : Array Value} {below : List Frame} {meth : Method} {c : Code} {g : va_G} {cy : Nat → ClassId} (hC : CX p s m args meth c g cy 9 cX8_figures wsX8_figures RX8) (hr : meth.sig.returnType = (some .int)) {h0 ztx znw ztr zdi zkp zik : Nat} {A : Nat → Prop} {res : Int32 × Int32} : ∀ (rf : Int32) (sz : Int32) (ac : Int32) (sp : Int32) (ou : Int32) (tx : Nat → Int32) (nw : Nat → Int32) (tr : Nat → Int32) (di : Nat → Int32) (kp : Nat → Int32) (ik : Nat → Int32) (h : pX8_figures_106 sz sp tx = some res), V p l e (headSpec wsX8_figures rmX8_figures).room s m args below meth c g 9 0 0 (MQ below (QWi g A res.1 [(h0, .inr (6, [.int rf, .ref ztx, .int sz, .ref znw, .ref ztr, .ref zdi, .int ac, .ref zkp, .ref zik, .int res.2, .int ou])), (ztx, .inl (cy 0, 120, .inl tx)), (znw, .inl (cy 0, 164, .inl nw)), (ztr, .inl (cy 0, 164, .inl tr)), (zdi, .inl (cy 0, 2296, .inl di)), (zkp, .inl (cy 0, 328, .inl kp)), (zik, .inl (cy 1, 2, .inl ik))]) args s 0 0 A) A A [(h0, .inr (6, [.int rf, .ref ztx, .int sz, .ref znw, .ref ztr, .ref zdi, .int ac, .ref zkp, .ref zik, .int sp, .int ou])), (ztx, .inl (cy 0, 120, .inl tx)), (znw, .inl (cy 0, 164, .inl nw)), (ztr, .inl (cy 0, 164, .inl tr)), (zdi, .inl (cy 0, 2296, .inl di)), (zkp, .inl (cy 0, 328, .inl kp)), (zik, .inl (cy 1, 2, .inl ik))] 106 [] [] := by
  intro rf sz ac sp ou tx nw tr di kp ik  h
  unfold pX8_figures_106 at h
  refine v_iconst hC (v := (-1)) dX8_figures_106 (by decide) rfl ?_
  obtain rfl := Option.some.inj h
  exact v_irw hC hr rfl rfl dX8_figures_107
set_option maxHeartbeats 4000000 in
set_option maxRecDepth 100000 in
theorem bX8_figures_63 {p : Program} {l : Launch} {e : Env} {s : State} {m : MethodId} {args : Array Value} {below : List Frame} {meth : Method} {c : Code} {g : va_G} {cy : Nat → ClassId} (hC : CX p s m args meth c g cy 9 cX8_figures wsX8_figures RX8) (hr : meth.sig.returnType = (some .int)) {h0 ztx znw ztr zdi zkp zik : Nat} {A : Nat → Prop} {res : Int32 × Int32} : ∀ (rf : Int32) (sz : Int32) (ac : Int32) (sp : Int32) (ou : Int32) (tx : Nat → Int32) (nw : Nat → Int32) (tr : Nat → Int32) (di : Nat → Int32) (kp : Nat → Int32) (ik : Nat → Int32) (y1 : Int32) (y3 : Int32) (y4 : Int32) (y5 : Int32) (y6 : Int32) (s0 : Int32) {kk : Int32 → Int32 → (Nat → Int32) → Int32 → Int32 → Int32 → Int32 → Int32 → Option (Int32 × Int32)} (hk : ∀ (rf : Int32) (sz : Int32) (ac : Int32) (sp : Int32) (ou : Int32) (tx : Nat → Int32) (nw : Nat → Int32) (tr : Nat → Int32) (di : Nat → Int32) (kp : Nat → Int32) (ik : Nat → Int32) (y1 : Int32) (y3 : Int32) (y4 : Int32) (y5 : Int32) (y6 : Int32), kk sz sp tx y1 y3 y4 y5 y6 = some res → V p l e (headSpec wsX8_figures rmX8_figures).room s m args below meth c g 9 0 0 (MQ below (QWi g A res.1 [(h0, .inr (6, [.int rf, .ref ztx, .int sz, .ref znw, .ref ztr, .ref zdi, .int ac, .ref zkp, .ref zik, .int res.2, .int ou])), (ztx, .inl (cy 0, 120, .inl tx)), (znw, .inl (cy 0, 164, .inl nw)), (ztr, .inl (cy 0, 164, .inl tr)), (zdi, .inl (cy 0, 2296, .inl di)), (zkp, .inl (cy 0, 328, .inl kp)), (zik, .inl (cy 1, 2, .inl ik))]) args s 0 0 A) A A [(h0, .inr (6, [.int rf, .ref ztx, .int sz, .ref znw, .ref ztr, .ref zdi, .int ac, .ref zkp, .ref zik, .int sp, .int ou])), (ztx, .inl (cy 0, 120, .inl tx)), (znw, .inl (cy 0, 164, .inl nw)), (ztr, .inl (cy 0, 164, .inl tr)), (zdi, .inl (cy 0, 2296, .inl di)), (zkp, .inl (cy 0, 328, .inl kp)), (zik, .inl (cy 1, 2, .inl ik))] 26 [(0, .ref h0), (1, .int y1), (3, .int y3), (4, .int y4), (5, .int y5), (6, .int y6)] []) (h : pX8_figures_63 kk sz sp tx y1 y3 y4 y5 y6 s0 = some res), V p l e (headSpec wsX8_figures rmX8_figures).room s m args below meth c g 9 0 0 (MQ below (QWi g A res.1 [(h0, .inr (6, [.int rf, .ref ztx, .int sz, .ref znw, .ref ztr, .ref zdi, .int ac, .ref zkp, .ref zik, .int res.2, .int ou])), (ztx, .inl (cy 0, 120, .inl tx)), (znw, .inl (cy 0, 164, .inl nw)), (ztr, .inl (cy 0, 164, .inl tr)), (zdi, .inl (cy 0, 2296, .inl di)), (zkp, .inl (cy 0, 328, .inl kp)), (zik, .inl (cy 1, 2, .inl ik))]) args s 0 0 A) A A [(h0, .inr (6, [.int rf, .ref ztx, .int sz, .ref znw, .ref ztr, .ref zdi, .int ac, .ref zkp, .ref zik, .int sp, .int ou])), (ztx, .inl (cy 0, 120, .inl tx)), (znw, .inl (cy 0, 164, .inl nw)), (ztr, .inl (cy 0, 164, .inl tr)), (zdi, .inl (cy 0, 2296, .inl di)), (zkp, .inl (cy 0, 328, .inl kp)), (zik, .inl (cy 1, 2, .inl ik))] 63 [(0, .ref h0), (1, .int y1), (3, .int y3), (4, .int y4), (5, .int y5), (6, .int y6)] [.int s0] := by
  intro rf sz ac sp ou tx nw tr di kp ik y1 y3 y4 y5 y6 s0 kk hk h
  unfold pX8_figures_63 at h
  refine v_istore hC dX8_figures_63 (by decide) [(7, .int s0), (0, .ref h0), (1, .int y1), (3, .int y3), (4, .int y4), (5, .int y5), (6, .int y6)] rfl rfl ?_
  refine v_iload hC dX8_figures_65 5 rfl rfl ?_
  refine v_iload hC dX8_figures_67 0 rfl rfl ?_
  refine v_iload hC dX8_figures_69 6 rfl rfl ?_
  refine v_imul hC dX8_figures_71 rfl ?_
  refine v_iadd hC dX8_figures_72 rfl ?_
  refine v_istore hC dX8_figures_73 (by decide) [(8, .int (y5 + (s0 * y6))), (7, .int s0), (0, .ref h0), (1, .int y1), (3, .int y3), (4, .int y4), (5, .int y5), (6, .int y6)] rfl rfl ?_
  refine v_iload hC dX8_figures_75 1 rfl rfl ?_
  refine v_i2l hC dX8_figures_77 rfl ?_
  refine v_lconst hC (v := 0) dX8_figures_78 rfl rfl ?_
  refine v_ldc2 hC (v := 9) dX8_figures_79 kX8_figures_104 rfl ?_
  obtain ⟨v1, hv1, h⟩ := bind_g h
  refine v_callSri hC (n := 3) (st := []) (mX8_in l g cy s0.toInt64 0 9 hv1) gX8_figures_X8_in rfl rfl rfl (by decide +kernel) ⟨Nat.le_of_ble_eq_true rfl, Nat.le_of_ble_eq_true rfl⟩ [] rfl rfl rfl rfl (Nat.le_of_ble_eq_true rfl) rfl ⟨Nat.zero_le _, Nat.zero_le _⟩ dX8_figures_82 rfl ?_
  refine v_if_eq hC (tgt := 106) dX8_figures_85 (by decide) rfl (fun c => ?_) (fun c => ?_)
  · have h := ite_t c h
    exact v_sub [] (lv' := []) rfl (bX8_figures_106 hC hr _ _ _ _ _ _ _ _ _ _ _ h)
  · have h := ite_f c h
    refine v_iload hC dX8_figures_88 0 rfl rfl ?_
    refine v_iload hC dX8_figures_90 5 rfl rfl ?_
    refine v_icmp_gt hC (tgt := 106) dX8_figures_92 (by decide) rfl (fun c => ?_) (fun c => ?_)
    · have h := ite_t c h
      exact v_sub [] (lv' := []) rfl (bX8_figures_106 hC hr _ _ _ _ _ _ _ _ _ _ _ h)
    · have h := ite_f c h
      refine v_iload hC dX8_figures_95 0 rfl rfl ?_
      refine v_iload hC dX8_figures_97 7 rfl rfl ?_
      refine v_iadd hC dX8_figures_99 rfl ?_
      refine v_iconst hC (v := (nI 1)) dX8_figures_100 (by decide) rfl ?_
      refine v_isub hC dX8_figures_101 rfl ?_
      refine v_iload_n hC dX8_figures_102 rfl 4 rfl rfl ?_
      refine v_icmp_ge hC (tgt := 108) dX8_figures_103 (by decide) rfl (fun c => ?_) (fun c => ?_)
      · have h := ite_t c h
        refine v_iload hC dX8_figures_108 0 rfl rfl ?_
        refine v_istore hC dX8_figures_110 (by decide) [(5, .int (y5 + (s0 * y6))), (8, .int (y5 + (s0 * y6))), (7, .int s0), (0, .ref h0), (1, .int y1), (3, .int y3), (4, .int y4), (6, .int y6)] rfl rfl ?_
        refine v_aload_n hC dX8_figures_112 rfl 3 rfl rfl ?_
        refine v_dup hC dX8_figures_113 rfl rfl ?_
        refine v_get hC iX8_figures_X8 0 rfl rfl 9 (by decide) kX8_figures_129 rfl rfl dX8_figures_114 rfl ?_
        refine v_iconst hC (v := (nI 1)) dX8_figures_117 (by decide) rfl ?_
        refine v_iadd hC dX8_figures_118 rfl ?_
        refine v_put hC iX8_figures_X8 tyX8 tyX8_ok nmX8 0 rfl rfl 9 (by decide) kX8_figures_129 rfl rfl (ty := .int) (by decide +kernel) rfl rfl (Nat.le_of_ble_eq_true rfl) dX8_figures_119 [(h0, .inr (6, [.int rf, .ref ztx, .int sz, .ref znw, .ref ztr, .ref zdi, .int ac, .ref zkp, .ref zik, .int (sp + (nI 1)), .int ou])), (ztx, .inl (cy 0, 120, .inl tx)), (znw, .inl (cy 0, 164, .inl nw)), (ztr, .inl (cy 0, 164, .inl tr)), (zdi, .inl (cy 0, 2296, .inl di)), (zkp, .inl (cy 0, 328, .inl kp)), (zik, .inl (cy 1, 2, .inl ik))] rfl rfl ?_
        refine v_iload hC dX8_figures_122 7 rfl rfl ?_
        refine v_bipush hC (v := (nI 10)) dX8_figures_124 (by decide) rfl ?_
        refine v_idiv hC dX8_figures_126 (by decide) rfl ?_
        refine v_istore hC dX8_figures_127 (by decide) [(6, .int (y6 / (nI 10))), (5, .int (y5 + (s0 * y6))), (8, .int (y5 + (s0 * y6))), (7, .int s0), (0, .ref h0), (1, .int y1), (3, .int y3), (4, .int y4)] rfl rfl ?_
        refine v_goto hC (tgt := 26) dX8_figures_129 (by decide) ?_
        exact v_sub [4, 5, 6, 7, 1, 0] (lv' := [(0, .ref h0), (1, .int y1), (3, .int y3), (4, .int y4), (5, .int (y5 + (s0 * y6))), (6, .int (y6 / (nI 10)))]) rfl (hk _ _ _ _ _ _ _ _ _ _ _ _ _ _ _ _ h)
      · have h := ite_f c h
        exact v_sub [] (lv' := []) rfl (bX8_figures_106 hC hr _ _ _ _ _ _ _ _ _ _ _ h)
set_option maxHeartbeats 4000000 in
set_option maxRecDepth 100000 in
theorem bX8_figures_143 {p : Program} {l : Launch} {e : Env} {s : State} {m : MethodId} {args : Array Value} {below : List Frame} {meth : Method} {c : Code} {g : va_G} {cy : Nat → ClassId} (hC : CX p s m args meth c g cy 9 cX8_figures wsX8_figures RX8) (hr : meth.sig.returnType = (some .int)) {h0 ztx znw ztr zdi zkp zik : Nat} {A : Nat → Prop} {res : Int32 × Int32} : ∀ (rf : Int32) (sz : Int32) (ac : Int32) (sp : Int32) (ou : Int32) (tx : Nat → Int32) (nw : Nat → Int32) (tr : Nat → Int32) (di : Nat → Int32) (kp : Nat → Int32) (ik : Nat → Int32) (s0 : Int32)(h : pX8_figures_143 sz sp tx s0 = some res), V p l e (headSpec wsX8_figures rmX8_figures).room s m args below meth c g 9 0 0 (MQ below (QWi g A res.1 [(h0, .inr (6, [.int rf, .ref ztx, .int sz, .ref znw, .ref ztr, .ref zdi, .int ac, .ref zkp, .ref zik, .int res.2, .int ou])), (ztx, .inl (cy 0, 120, .inl tx)), (znw, .inl (cy 0, 164, .inl nw)), (ztr, .inl (cy 0, 164, .inl tr)), (zdi, .inl (cy 0, 2296, .inl di)), (zkp, .inl (cy 0, 328, .inl kp)), (zik, .inl (cy 1, 2, .inl ik))]) args s 0 0 A) A A [(h0, .inr (6, [.int rf, .ref ztx, .int sz, .ref znw, .ref ztr, .ref zdi, .int ac, .ref zkp, .ref zik, .int sp, .int ou])), (ztx, .inl (cy 0, 120, .inl tx)), (znw, .inl (cy 0, 164, .inl nw)), (ztr, .inl (cy 0, 164, .inl tr)), (zdi, .inl (cy 0, 2296, .inl di)), (zkp, .inl (cy 0, 328, .inl kp)), (zik, .inl (cy 1, 2, .inl ik))] 143 [] [.int s0] := by
  intro rf sz ac sp ou tx nw tr di kp ik s0 h
  unfold pX8_figures_143 at h
  obtain rfl := Option.some.inj h
  exact v_irw hC hr rfl rfl dX8_figures_143
set_option maxHeartbeats 4000000 in
set_option maxRecDepth 100000 in
theorem bX8_figures_132 {p : Program} {l : Launch} {e : Env} {s : State} {m : MethodId} {args : Array Value} {below : List Frame} {meth : Method} {c : Code} {g : va_G} {cy : Nat → ClassId} (hC : CX p s m args meth c g cy 9 cX8_figures wsX8_figures RX8) (hr : meth.sig.returnType = (some .int)) {h0 ztx znw ztr zdi zkp zik : Nat} {A : Nat → Prop} {res : Int32 × Int32} : ∀ (rf : Int32) (sz : Int32) (ac : Int32) (sp : Int32) (ou : Int32) (tx : Nat → Int32) (nw : Nat → Int32) (tr : Nat → Int32) (di : Nat → Int32) (kp : Nat → Int32) (ik : Nat → Int32) (y1 : Int32) (y5 : Int32)(h : pX8_figures_132 sz sp tx y1 y5 = some res), V p l e (headSpec wsX8_figures rmX8_figures).room s m args below meth c g 9 0 0 (MQ below (QWi g A res.1 [(h0, .inr (6, [.int rf, .ref ztx, .int sz, .ref znw, .ref ztr, .ref zdi, .int ac, .ref zkp, .ref zik, .int res.2, .int ou])), (ztx, .inl (cy 0, 120, .inl tx)), (znw, .inl (cy 0, 164, .inl nw)), (ztr, .inl (cy 0, 164, .inl tr)), (zdi, .inl (cy 0, 2296, .inl di)), (zkp, .inl (cy 0, 328, .inl kp)), (zik, .inl (cy 1, 2, .inl ik))]) args s 0 0 A) A A [(h0, .inr (6, [.int rf, .ref ztx, .int sz, .ref znw, .ref ztr, .ref zdi, .int ac, .ref zkp, .ref zik, .int sp, .int ou])), (ztx, .inl (cy 0, 120, .inl tx)), (znw, .inl (cy 0, 164, .inl nw)), (ztr, .inl (cy 0, 164, .inl tr)), (zdi, .inl (cy 0, 2296, .inl di)), (zkp, .inl (cy 0, 328, .inl kp)), (zik, .inl (cy 1, 2, .inl ik))] 132 [(1, .int y1), (5, .int y5)] [] := by
  intro rf sz ac sp ou tx nw tr di kp ik y1 y5 h
  unfold pX8_figures_132 at h
  refine v_iload_n hC dX8_figures_132 rfl 0 rfl rfl ?_
  refine v_iconst hC (v := (-1)) dX8_figures_133 (by decide) rfl ?_
  refine v_icmp_ne hC (tgt := 141) dX8_figures_134 (by decide) rfl (fun c => ?_) (fun c => ?_)
  · have h := ite_f c h
    refine v_iload hC dX8_figures_141 1 rfl rfl ?_
    exact v_sub [] (lv' := []) rfl (bX8_figures_143 hC hr _ _ _ _ _ _ _ _ _ _ _ _ h)
  · have h := ite_t c h
    refine v_iconst hC (v := (-1)) dX8_figures_137 (by decide) rfl ?_
    refine v_goto hC (tgt := 143) dX8_figures_138 (by decide) ?_
    exact v_sub [] (lv' := []) rfl (bX8_figures_143 hC hr _ _ _ _ _ _ _ _ _ _ _ _ h)
set_option maxHeartbeats 4000000 in
set_option maxRecDepth 100000 in
theorem bX8_figures_26 {p : Program} {l : Launch} {e : Env} {s : State} {m : MethodId} {args : Array Value} {below : List Frame} {meth : Method} {c : Code} {g : va_G} {cy : Nat → ClassId} (hC : CX p s m args meth c g cy 9 cX8_figures wsX8_figures RX8) (hr : meth.sig.returnType = (some .int)) {h0 ztx znw ztr zdi zkp zik : Nat} {A : Nat → Prop} {res : Int32 × Int32} : ∀ (k : Nat) (rf : Int32) (sz : Int32) (ac : Int32) (sp : Int32) (ou : Int32) (tx : Nat → Int32) (nw : Nat → Int32) (tr : Nat → Int32) (di : Nat → Int32) (kp : Nat → Int32) (ik : Nat → Int32) (y1 : Int32) (y3 : Int32) (y4 : Int32) (y5 : Int32) (y6 : Int32) (h : pX8_figures_26 k sz sp tx y1 y3 y4 y5 y6 = some res), V p l e (headSpec wsX8_figures rmX8_figures).room s m args below meth c g 9 0 0 (MQ below (QWi g A res.1 [(h0, .inr (6, [.int rf, .ref ztx, .int sz, .ref znw, .ref ztr, .ref zdi, .int ac, .ref zkp, .ref zik, .int res.2, .int ou])), (ztx, .inl (cy 0, 120, .inl tx)), (znw, .inl (cy 0, 164, .inl nw)), (ztr, .inl (cy 0, 164, .inl tr)), (zdi, .inl (cy 0, 2296, .inl di)), (zkp, .inl (cy 0, 328, .inl kp)), (zik, .inl (cy 1, 2, .inl ik))]) args s 0 0 A) A A [(h0, .inr (6, [.int rf, .ref ztx, .int sz, .ref znw, .ref ztr, .ref zdi, .int ac, .ref zkp, .ref zik, .int sp, .int ou])), (ztx, .inl (cy 0, 120, .inl tx)), (znw, .inl (cy 0, 164, .inl nw)), (ztr, .inl (cy 0, 164, .inl tr)), (zdi, .inl (cy 0, 2296, .inl di)), (zkp, .inl (cy 0, 328, .inl kp)), (zik, .inl (cy 1, 2, .inl ik))] 26 [(0, .ref h0), (1, .int y1), (3, .int y3), (4, .int y4), (5, .int y5), (6, .int y6)] [] := by
  intro k
  induction k with
  | zero =>
    intro rf sz ac sp ou tx nw tr di kp ik y1 y3 y4 y5 y6 h
    have h : (none : Option _) = some res := h
    cases h
  | succ k ih =>
    intro rf sz ac sp ou tx nw tr di kp ik y1 y3 y4 y5 y6 h
    rw [pX8_figures_26_s] at h
    refine v_iload hC dX8_figures_26 5 rfl rfl ?_
    refine v_if_le hC (tgt := 132) dX8_figures_28 (by decide) rfl (fun c => ?_) (fun c => ?_)
    · have h := ite_t c h
      exact v_sub [1, 4] (lv' := [(1, .int y1), (5, .int y5)]) rfl (bX8_figures_132 hC hr _ _ _ _ _ _ _ _ _ _ _ _ _ h)
    · have h := ite_f c h
      refine v_iload_n hC dX8_figures_31 rfl 1 rfl rfl ?_
      refine v_iconst hC (v := (-1)) dX8_figures_32 (by decide) rfl ?_
      refine v_icmp_eq hC (tgt := 132) dX8_figures_33 (by decide) rfl (fun c => ?_) (fun c => ?_)
      · have h := ite_t c h
        exact v_sub [1, 4] (lv' := [(1, .int y1), (5, .int y5)]) rfl (bX8_figures_132 hC hr _ _ _ _ _ _ _ _ _ _ _ _ _ h)
      · have h := ite_f c h
        refine v_aload_n hC dX8_figures_36 rfl 0 rfl rfl ?_
        refine v_get hC iX8_figures_X8 0 rfl rfl 9 (by decide) kX8_figures_129 rfl rfl dX8_figures_37 rfl ?_
        refine v_aload_n hC dX8_figures_40 rfl 0 rfl rfl ?_
        refine v_get hC iX8_figures_X8 0 rfl rfl 2 (by decide) kX8_figures_122 rfl rfl dX8_figures_41 rfl ?_
        refine v_icmp_ge hC (tgt := 62) dX8_figures_44 (by decide) rfl (fun c => ?_) (fun c => ?_)
        · have h := ite_t c h
          refine v_iconst hC (v := (-1)) dX8_figures_62 (by decide) rfl ?_
          exact bX8_figures_63 hC hr _ _ _ _ _ _ _ _ _ _ _ _ _ _ _ _ _ ih h
        · have h := ite_f c h
          refine v_aload_n hC dX8_figures_47 rfl 0 rfl rfl ?_
          refine v_get hC iX8_figures_X8 0 rfl rfl 1 (by decide) kX8_figures_7 rfl rfl dX8_figures_48 rfl ?_
          refine v_aload_n hC dX8_figures_51 rfl 0 rfl rfl ?_
          refine v_get hC iX8_figures_X8 0 rfl rfl 9 (by decide) kX8_figures_129 rfl rfl dX8_figures_52 rfl ?_
          obtain ⟨hn, h⟩ := ite_g h
          refine v_iald hC 1 rfl hn dX8_figures_55 rfl ?_
          refine v_bipush hC (v := (nI 48)) dX8_figures_56 (by decide) rfl ?_
          refine v_isub hC dX8_figures_58 rfl ?_
          refine v_goto hC (tgt := 63) dX8_figures_59 (by decide) ?_
          exact bX8_figures_63 hC hr _ _ _ _ _ _ _ _ _ _ _ _ _ _ _ _ _ ih h
set_option maxHeartbeats 4000000 in
set_option maxRecDepth 100000 in
theorem bX8_figures_24 {p : Program} {l : Launch} {e : Env} {s : State} {m : MethodId} {args : Array Value} {below : List Frame} {meth : Method} {c : Code} {g : va_G} {cy : Nat → ClassId} (hC : CX p s m args meth c g cy 9 cX8_figures wsX8_figures RX8) (hr : meth.sig.returnType = (some .int)) {h0 ztx znw ztr zdi zkp zik : Nat} {A : Nat → Prop} {res : Int32 × Int32} : ∀ (rf : Int32) (sz : Int32) (ac : Int32) (sp : Int32) (ou : Int32) (tx : Nat → Int32) (nw : Nat → Int32) (tr : Nat → Int32) (di : Nat → Int32) (kp : Nat → Int32) (ik : Nat → Int32) (y1 : Int32) (y3 : Int32) (y4 : Int32) (y5 : Int32) (s0 : Int32)(h : pX8_figures_24 sz sp tx y1 y3 y4 y5 s0 = some res), V p l e (headSpec wsX8_figures rmX8_figures).room s m args below meth c g 9 0 0 (MQ below (QWi g A res.1 [(h0, .inr (6, [.int rf, .ref ztx, .int sz, .ref znw, .ref ztr, .ref zdi, .int ac, .ref zkp, .ref zik, .int res.2, .int ou])), (ztx, .inl (cy 0, 120, .inl tx)), (znw, .inl (cy 0, 164, .inl nw)), (ztr, .inl (cy 0, 164, .inl tr)), (zdi, .inl (cy 0, 2296, .inl di)), (zkp, .inl (cy 0, 328, .inl kp)), (zik, .inl (cy 1, 2, .inl ik))]) args s 0 0 A) A A [(h0, .inr (6, [.int rf, .ref ztx, .int sz, .ref znw, .ref ztr, .ref zdi, .int ac, .ref zkp, .ref zik, .int sp, .int ou])), (ztx, .inl (cy 0, 120, .inl tx)), (znw, .inl (cy 0, 164, .inl nw)), (ztr, .inl (cy 0, 164, .inl tr)), (zdi, .inl (cy 0, 2296, .inl di)), (zkp, .inl (cy 0, 328, .inl kp)), (zik, .inl (cy 1, 2, .inl ik))] 24 [(0, .ref h0), (1, .int y1), (3, .int y3), (4, .int y4), (5, .int y5)] [.int s0] := by
  intro rf sz ac sp ou tx nw tr di kp ik y1 y3 y4 y5 s0 h
  unfold pX8_figures_24 at h
  refine v_istore hC dX8_figures_24 (by decide) [(6, .int s0), (0, .ref h0), (1, .int y1), (3, .int y3), (4, .int y4), (5, .int y5)] rfl rfl ?_
  exact v_sub [1, 2, 3, 4, 5, 0] (lv' := [(0, .ref h0), (1, .int y1), (3, .int y3), (4, .int y4), (5, .int y5), (6, .int s0)]) rfl (bX8_figures_26 hC hr FU _ _ _ _ _ _ _ _ _ _ _ _ _ _ _ _ h)
set_option maxHeartbeats 4000000 in
set_option maxRecDepth 100000 in
theorem mX8_figures (l : Launch) (g : va_G) (cy : Nat → ClassId) (h0 ztx znw ztr zdi zkp zik : Nat) (rf : Int32) (sz : Int32) (ac : Int32) (sp : Int32) (ou : Int32) (tx : Nat → Int32) (nw : Nat → Int32) (tr : Nat → Int32) (di : Nat → Int32) (kp : Nat → Int32) (ik : Nat → Int32) (x1 : Int32) (x2 : Int32) (x3 : Int32) (x4 : Int32) {res : Int32 × Int32} (h : pX8_figures sz sp tx x1 x2 x3 x4 = some res) : Met l yX8_figures wsX8_figures rmX8_figures (PW [.ref h0, .int x1, .int x2, .int x3, .int x4] g cy [(h0, .inr (6, [.int rf, .ref ztx, .int sz, .ref znw, .ref ztr, .ref zdi, .int ac, .ref zkp, .ref zik, .int sp, .int ou])), (ztx, .inl (cy 0, 120, .inl tx)), (znw, .inl (cy 0, 164, .inl nw)), (ztr, .inl (cy 0, 164, .inl tr)), (zdi, .inl (cy 0, 2296, .inl di)), (zkp, .inl (cy 0, 328, .inl kp)), (zik, .inl (cy 1, 2, .inl ik))]) (QWi g (wA [(h0, .inr (6, [.int rf, .ref ztx, .int sz, .ref znw, .ref ztr, .ref zdi, .int ac, .ref zkp, .ref zik, .int sp, .int ou])), (ztx, .inl (cy 0, 120, .inl tx)), (znw, .inl (cy 0, 164, .inl nw)), (ztr, .inl (cy 0, 164, .inl tr)), (zdi, .inl (cy 0, 2296, .inl di)), (zkp, .inl (cy 0, 328, .inl kp)), (zik, .inl (cy 1, 2, .inl ik))]) res.1 [(h0, .inr (6, [.int rf, .ref ztx, .int sz, .ref znw, .ref ztr, .ref zdi, .int ac, .ref zkp, .ref zik, .int res.2, .int ou])), (ztx, .inl (cy 0, 120, .inl tx)), (znw, .inl (cy 0, 164, .inl nw)), (ztr, .inl (cy 0, 164, .inl tr)), (zdi, .inl (cy 0, 2296, .inl di)), (zkp, .inl (cy 0, 328, .inl kp)), (zik, .inl (cy 1, 2, .inl ik))]) 0 0 (wA [(h0, .inr (6, [.int rf, .ref ztx, .int sz, .ref znw, .ref ztr, .ref zdi, .int ac, .ref zkp, .ref zik, .int sp, .int ou])), (ztx, .inl (cy 0, 120, .inl tx)), (znw, .inl (cy 0, 164, .inl nw)), (ztr, .inl (cy 0, 164, .inl tr)), (zdi, .inl (cy 0, 2296, .inl di)), (zkp, .inl (cy 0, 328, .inl kp)), (zik, .inl (cy 1, 2, .inl ik))]) := by
  refine m_ofV (cc := cX8_figures) (nL := 9) (ret := (some .int)) (B := (wA [(h0, .inr (6, [.int rf, .ref ztx, .int sz, .ref znw, .ref ztr, .ref zdi, .int ac, .ref zkp, .ref zik, .int sp, .int ou])), (ztx, .inl (cy 0, 120, .inl tx)), (znw, .inl (cy 0, 164, .inl nw)), (ztr, .inl (cy 0, 164, .inl tr)), (zdi, .inl (cy 0, 2296, .inl di)), (zkp, .inl (cy 0, 328, .inl kp)), (zik, .inl (cy 1, 2, .inl ik))])) RX8 rfl (by decide) rfl [(0, .ref h0), (1, .int x1), (2, .int x2), (3, .int x3), (4, .int x4)] rfl (Nat.le_of_ble_eq_true rfl) (wA.self) ?_
  intro p e s m args below meth c hC hr
  generalize (wA [(h0, .inr (6, [.int rf, .ref ztx, .int sz, .ref znw, .ref ztr, .ref zdi, .int ac, .ref zkp, .ref zik, .int sp, .int ou])), (ztx, .inl (cy 0, 120, .inl tx)), (znw, .inl (cy 0, 164, .inl nw)), (ztr, .inl (cy 0, 164, .inl tr)), (zdi, .inl (cy 0, 2296, .inl di)), (zkp, .inl (cy 0, 328, .inl kp)), (zik, .inl (cy 1, 2, .inl ik))]) = A
  unfold pX8_figures at h
  refine v_iconst hC (v := (nI 0)) dX8_figures_0 (by decide) rfl ?_
  refine v_istore hC dX8_figures_1 (by decide) [(5, .int (nI 0)), (0, .ref h0), (1, .int x1), (2, .int x2), (3, .int x3), (4, .int x4)] rfl rfl ?_
  refine v_iload_n hC dX8_figures_3 rfl 3 rfl rfl ?_
  refine v_iconst hC (v := (nI 3)) dX8_figures_4 (by decide) rfl ?_
  refine v_icmp_ne hC (tgt := 13) dX8_figures_5 (by decide) rfl (fun c => ?_) (fun c => ?_)
  · have h := ite_f c h
    refine v_iload_n hC dX8_figures_13 rfl 3 rfl rfl ?_
    refine v_iconst hC (v := (nI 2)) dX8_figures_14 (by decide) rfl ?_
    refine v_icmp_ne hC (tgt := 23) dX8_figures_15 (by decide) rfl (fun c => ?_) (fun c => ?_)
    · have h := ite_f c h
      refine v_iconst hC (v := (nI 1)) dX8_figures_23 (by decide) rfl ?_
      exact v_sub [1, 2, 4, 5, 0] (lv' := [(0, .ref h0), (1, .int x1), (3, .int x3), (4, .int x4), (5, .int (nI 0))]) rfl (bX8_figures_24 hC hr _ _ _ _ _ _ _ _ _ _ _ _ _ _ _ _ h)
    · have h := ite_t c h
      refine v_bipush hC (v := (nI 10)) dX8_figures_18 (by decide) rfl ?_
      refine v_goto hC (tgt := 24) dX8_figures_20 (by decide) ?_
      exact v_sub [1, 2, 4, 5, 0] (lv' := [(0, .ref h0), (1, .int x1), (3, .int x3), (4, .int x4), (5, .int (nI 0))]) rfl (bX8_figures_24 hC hr _ _ _ _ _ _ _ _ _ _ _ _ _ _ _ _ h)
  · have h := ite_t c h
    refine v_bipush hC (v := (nI 100)) dX8_figures_8 (by decide) rfl ?_
    refine v_goto hC (tgt := 24) dX8_figures_10 (by decide) ?_
    exact v_sub [1, 2, 4, 5, 0] (lv' := [(0, .ref h0), (1, .int x1), (3, .int x3), (4, .int x4), (5, .int (nI 0))]) rfl (bX8_figures_24 hC hr _ _ _ _ _ _ _ _ _ _ _ _ _ _ _ _ h)
theorem kX8_done_132 : Cond.fieldLink RX8 132 "CrowdFacesModel" "out" "I" ∈ wsX8_done := by decide +kernel
theorem iX8_done_X8 : ∀ w ∈ wsX80, w ∈ wsX8_done := by decide +kernel
def pX8_done_14 (ou : Int32) (s0 : Int32) (s1 : Int32) : Option (Int32 × Int32) := some ((nI 1), (s1 + s0))
def pX8_done (ou : Int32) (x1 : Int32) : Option (Int32 × Int32) := if x1 = 0 then pX8_done_14 ou (nI 1) ou else pX8_done_14 ou (nI 0) ou
abbrev rmX8_done : Room := { frames := 0, cells := 0, slots := 0, locals := 0 }
set_option maxHeartbeats 4000000 in
set_option maxRecDepth 100000 in
theorem bX8_done_14 {p : Program} {l : Launch} {e : Env} {s : State} {m : MethodId} {args : Array Value} {below : List Frame} {meth : Method} {c : Code} {g : va_G} {cy : Nat → ClassId} (hC : CX p s m args meth c g cy 2 cX8_done wsX8_done RX8) (hr : meth.sig.returnType = (some .boolean)) {h0 ztx znw ztr zdi zkp zik : Nat} {A : Nat → Prop} {res : Int32 × Int32} : ∀ (rf : Int32) (sz : Int32) (ac : Int32) (sp : Int32) (ou : Int32) (tx : Nat → Int32) (nw : Nat → Int32) (tr : Nat → Int32) (di : Nat → Int32) (kp : Nat → Int32) (ik : Nat → Int32) (s0 : Int32) (s1 : Int32)(h : pX8_done_14 ou s0 s1 = some res), V p l e (headSpec wsX8_done rmX8_done).room s m args below meth c g 2 0 0 (MQ below (QWi g A res.1 [(h0, .inr (6, [.int rf, .ref ztx, .int sz, .ref znw, .ref ztr, .ref zdi, .int ac, .ref zkp, .ref zik, .int sp, .int res.2])), (ztx, .inl (cy 0, 120, .inl tx)), (znw, .inl (cy 0, 164, .inl nw)), (ztr, .inl (cy 0, 164, .inl tr)), (zdi, .inl (cy 0, 2296, .inl di)), (zkp, .inl (cy 0, 328, .inl kp)), (zik, .inl (cy 1, 2, .inl ik))]) args s 0 0 A) A A [(h0, .inr (6, [.int rf, .ref ztx, .int sz, .ref znw, .ref ztr, .ref zdi, .int ac, .ref zkp, .ref zik, .int sp, .int ou])), (ztx, .inl (cy 0, 120, .inl tx)), (znw, .inl (cy 0, 164, .inl nw)), (ztr, .inl (cy 0, 164, .inl tr)), (zdi, .inl (cy 0, 2296, .inl di)), (zkp, .inl (cy 0, 328, .inl kp)), (zik, .inl (cy 1, 2, .inl ik))] 14 [] [.int s0, .int s1, .ref h0] := by
  intro rf sz ac sp ou tx nw tr di kp ik s0 s1 h
  unfold pX8_done_14 at h
  refine v_iadd hC dX8_done_14 rfl ?_
  refine v_put hC iX8_done_X8 tyX8 tyX8_ok nmX8 0 rfl rfl 10 (by decide) kX8_done_132 rfl rfl (ty := .int) (by decide +kernel) rfl rfl (Nat.le_of_ble_eq_true rfl) dX8_done_15 [(h0, .inr (6, [.int rf, .ref ztx, .int sz, .ref znw, .ref ztr, .ref zdi, .int ac, .ref zkp, .ref zik, .int sp, .int (s1 + s0)])), (ztx, .inl (cy 0, 120, .inl tx)), (znw, .inl (cy 0, 164, .inl nw)), (ztr, .inl (cy 0, 164, .inl tr)), (zdi, .inl (cy 0, 2296, .inl di)), (zkp, .inl (cy 0, 328, .inl kp)), (zik, .inl (cy 1, 2, .inl ik))] rfl rfl ?_
  refine v_iconst hC (v := (nI 1)) dX8_done_18 (by decide) rfl ?_
  obtain rfl := Option.some.inj h
  exact v_irw hC hr rfl rfl dX8_done_19
set_option maxHeartbeats 4000000 in
set_option maxRecDepth 100000 in
theorem mX8_done (l : Launch) (g : va_G) (cy : Nat → ClassId) (h0 ztx znw ztr zdi zkp zik : Nat) (rf : Int32) (sz : Int32) (ac : Int32) (sp : Int32) (ou : Int32) (tx : Nat → Int32) (nw : Nat → Int32) (tr : Nat → Int32) (di : Nat → Int32) (kp : Nat → Int32) (ik : Nat → Int32) (x1 : Int32) {res : Int32 × Int32} (h : pX8_done ou x1 = some res) : Met l yX8_done wsX8_done rmX8_done (PW [.ref h0, .int x1] g cy [(h0, .inr (6, [.int rf, .ref ztx, .int sz, .ref znw, .ref ztr, .ref zdi, .int ac, .ref zkp, .ref zik, .int sp, .int ou])), (ztx, .inl (cy 0, 120, .inl tx)), (znw, .inl (cy 0, 164, .inl nw)), (ztr, .inl (cy 0, 164, .inl tr)), (zdi, .inl (cy 0, 2296, .inl di)), (zkp, .inl (cy 0, 328, .inl kp)), (zik, .inl (cy 1, 2, .inl ik))]) (QWi g (wA [(h0, .inr (6, [.int rf, .ref ztx, .int sz, .ref znw, .ref ztr, .ref zdi, .int ac, .ref zkp, .ref zik, .int sp, .int ou])), (ztx, .inl (cy 0, 120, .inl tx)), (znw, .inl (cy 0, 164, .inl nw)), (ztr, .inl (cy 0, 164, .inl tr)), (zdi, .inl (cy 0, 2296, .inl di)), (zkp, .inl (cy 0, 328, .inl kp)), (zik, .inl (cy 1, 2, .inl ik))]) res.1 [(h0, .inr (6, [.int rf, .ref ztx, .int sz, .ref znw, .ref ztr, .ref zdi, .int ac, .ref zkp, .ref zik, .int sp, .int res.2])), (ztx, .inl (cy 0, 120, .inl tx)), (znw, .inl (cy 0, 164, .inl nw)), (ztr, .inl (cy 0, 164, .inl tr)), (zdi, .inl (cy 0, 2296, .inl di)), (zkp, .inl (cy 0, 328, .inl kp)), (zik, .inl (cy 1, 2, .inl ik))]) 0 0 (wA [(h0, .inr (6, [.int rf, .ref ztx, .int sz, .ref znw, .ref ztr, .ref zdi, .int ac, .ref zkp, .ref zik, .int sp, .int ou])), (ztx, .inl (cy 0, 120, .inl tx)), (znw, .inl (cy 0, 164, .inl nw)), (ztr, .inl (cy 0, 164, .inl tr)), (zdi, .inl (cy 0, 2296, .inl di)), (zkp, .inl (cy 0, 328, .inl kp)), (zik, .inl (cy 1, 2, .inl ik))]) := by
  refine m_ofV (cc := cX8_done) (nL := 2) (ret := (some .boolean)) (B := (wA [(h0, .inr (6, [.int rf, .ref ztx, .int sz, .ref znw, .ref ztr, .ref zdi, .int ac, .ref zkp, .ref zik, .int sp, .int ou])), (ztx, .inl (cy 0, 120, .inl tx)), (znw, .inl (cy 0, 164, .inl nw)), (ztr, .inl (cy 0, 164, .inl tr)), (zdi, .inl (cy 0, 2296, .inl di)), (zkp, .inl (cy 0, 328, .inl kp)), (zik, .inl (cy 1, 2, .inl ik))])) RX8 rfl (by decide) rfl [(0, .ref h0), (1, .int x1)] rfl (Nat.le_of_ble_eq_true rfl) (wA.self) ?_
  intro p e s m args below meth c hC hr
  generalize (wA [(h0, .inr (6, [.int rf, .ref ztx, .int sz, .ref znw, .ref ztr, .ref zdi, .int ac, .ref zkp, .ref zik, .int sp, .int ou])), (ztx, .inl (cy 0, 120, .inl tx)), (znw, .inl (cy 0, 164, .inl nw)), (ztr, .inl (cy 0, 164, .inl tr)), (zdi, .inl (cy 0, 2296, .inl di)), (zkp, .inl (cy 0, 328, .inl kp)), (zik, .inl (cy 1, 2, .inl ik))]) = A
  unfold pX8_done at h
  refine v_aload_n hC dX8_done_0 rfl 0 rfl rfl ?_
  refine v_dup hC dX8_done_1 rfl rfl ?_
  refine v_get hC iX8_done_X8 0 rfl rfl 10 (by decide) kX8_done_132 rfl rfl dX8_done_2 rfl ?_
  refine v_iload_n hC dX8_done_5 rfl 1 rfl rfl ?_
  refine v_if_eq hC (tgt := 13) dX8_done_6 (by decide) rfl (fun c => ?_) (fun c => ?_)
  · have h := ite_t c h
    refine v_iconst hC (v := (nI 1)) dX8_done_13 (by decide) rfl ?_
    exact v_sub [] (lv' := []) rfl (bX8_done_14 hC hr _ _ _ _ _ _ _ _ _ _ _ _ _ h)
  · have h := ite_f c h
    refine v_iconst hC (v := (nI 0)) dX8_done_9 (by decide) rfl ?_
    refine v_goto hC (tgt := 14) dX8_done_10 (by decide) ?_
    exact v_sub [] (lv' := []) rfl (bX8_done_14 hC hr _ _ _ _ _ _ _ _ _ _ _ _ _ h)
def pX8_readScene_101 (sz : Int32) (sp : Int32) (ou : Int32) (tx : Nat → Int32) (tr : Nat → Int32) (s0 : Int32) : Option (Int32 × Int32 × Int32 × (Nat → Int32)) := (bz s0).bind fun b1 => some (b1, sp, ou, tr)
def pX8_readScene_100 (sz : Int32) (sp : Int32) (ou : Int32) (tx : Nat → Int32) (tr : Nat → Int32) : Option (Int32 × Int32 × Int32 × (Nat → Int32)) := pX8_readScene_101 sz sp ou tx tr (nI 0)
def pX8_readScene_90 (sz : Int32) (sp : Int32) (ou : Int32) (tx : Nat → Int32) (tr : Nat → Int32) (s0 : Int32) : Option (Int32 × Int32 × Int32 × (Nat → Int32)) := (pX8_done ou s0).bind fun v1 => if v1.1 = 0 then pX8_readScene_100 sz sp v1.2 tx tr else pX8_readScene_101 sz sp v1.2 tx tr (nI 1)
def pX8_readScene_89 (sz : Int32) (sp : Int32) (ou : Int32) (tx : Nat → Int32) (tr : Nat → Int32) : Option (Int32 × Int32 × Int32 × (Nat → Int32)) := pX8_readScene_90 sz sp ou tx tr (nI 0)
def pX8_readScene (sz : Int32) (sp : Int32) (ou : Int32) (tx : Nat → Int32) (tr : Nat → Int32) : Option (Int32 × Int32 × Int32 × (Nat → Int32)) := (pX8_figures sz sp tx (nI 0) (nI 1) (nI 0) (nI 4)).bind fun v1 => (pX8_figures sz v1.2 tx v1.1 (nI 1) (nI 1) (nI 6)).bind fun v2 => (pX8_figures sz v2.2 tx v2.1 (nI 1) (nI 0) (nI 9)).bind fun v3 => (pX8_figures sz v3.2 tx v3.1 (nI 1) (nI 0) (nI 3)).bind fun v4 => (pX8_figures sz v4.2 tx v4.1 (nI 3) (nI 10) (nI 240)).bind fun v5 => if v5.1 = (-1) then pX8_readScene_100 sz v5.2 ou tx tr else if nb (nI 1) 164 = true then if (nI 10) ≤ (tr (nI 1).toNatClampNeg) then pX8_readScene_89 sz v5.2 ou tx tr else (pX8_sceneOn tr v1.1 v2.1 v3.1 v4.1 v5.1).bind fun v6 => if v6.1 < 0 then pX8_readScene_89 sz v5.2 ou tx v6.2 else pX8_readScene_90 sz v5.2 ou tx v6.2 (nI 1) else none
abbrev rmX8_readScene : Room := { frames := 2, cells := 0, slots := 0, locals := 53 }
set_option maxHeartbeats 4000000 in
set_option maxRecDepth 100000 in
theorem bX8_readScene_101 {p : Program} {l : Launch} {e : Env} {s : State} {m : MethodId} {args : Array Value} {below : List Frame} {meth : Method} {c : Code} {g : va_G} {cy : Nat → ClassId} (hC : CX p s m args meth c g cy 7 cX8_readScene wsX8_readScene RX8) (hr : meth.sig.returnType = (some .boolean)) {h0 ztx znw ztr zdi zkp zik : Nat} {A : Nat → Prop} {res : Int32 × Int32 × Int32 × (Nat → Int32)} : ∀ (rf : Int32) (sz : Int32) (ac : Int32) (sp : Int32) (ou : Int32) (tx : Nat → Int32) (nw : Nat → Int32) (tr : Nat → Int32) (di : Nat → Int32) (kp : Nat → Int32) (ik : Nat → Int32) (s0 : Int32)(h : pX8_readScene_101 sz sp ou tx tr s0 = some res), V p l e (headSpec wsX8_readScene rmX8_readScene).room s m args below meth c g 7 0 0 (MQ below (QWi g A res.1 [(h0, .inr (6, [.int rf, .ref ztx, .int sz, .ref znw, .ref ztr, .ref zdi, .int ac, .ref zkp, .ref zik, .int res.2.1, .int res.2.2.1])), (ztx, .inl (cy 0, 120, .inl tx)), (znw, .inl (cy 0, 164, .inl nw)), (ztr, .inl (cy 0, 164, .inl res.2.2.2)), (zdi, .inl (cy 0, 2296, .inl di)), (zkp, .inl (cy 0, 328, .inl kp)), (zik, .inl (cy 1, 2, .inl ik))]) args s 0 0 A) A A [(h0, .inr (6, [.int rf, .ref ztx, .int sz, .ref znw, .ref ztr, .ref zdi, .int ac, .ref zkp, .ref zik, .int sp, .int ou])), (ztx, .inl (cy 0, 120, .inl tx)), (znw, .inl (cy 0, 164, .inl nw)), (ztr, .inl (cy 0, 164, .inl tr)), (zdi, .inl (cy 0, 2296, .inl di)), (zkp, .inl (cy 0, 328, .inl kp)), (zik, .inl (cy 1, 2, .inl ik))] 101 [] [.int s0] := by
  intro rf sz ac sp ou tx nw tr di kp ik s0 h
  unfold pX8_readScene_101 at h
  obtain ⟨b1, hb9, h⟩ := bind_g h
  obtain ⟨e9, hn⟩ := bz_g hb9
  obtain rfl := Option.some.inj h
  exact v_irw hC hr hn e9 dX8_readScene_101
set_option maxHeartbeats 4000000 in
set_option maxRecDepth 100000 in
theorem bX8_readScene_100 {p : Program} {l : Launch} {e : Env} {s : State} {m : MethodId} {args : Array Value} {below : List Frame} {meth : Method} {c : Code} {g : va_G} {cy : Nat → ClassId} (hC : CX p s m args meth c g cy 7 cX8_readScene wsX8_readScene RX8) (hr : meth.sig.returnType = (some .boolean)) {h0 ztx znw ztr zdi zkp zik : Nat} {A : Nat → Prop} {res : Int32 × Int32 × Int32 × (Nat → Int32)} : ∀ (rf : Int32) (sz : Int32) (ac : Int32) (sp : Int32) (ou : Int32) (tx : Nat → Int32) (nw : Nat → Int32) (tr : Nat → Int32) (di : Nat → Int32) (kp : Nat → Int32) (ik : Nat → Int32) (h : pX8_readScene_100 sz sp ou tx tr = some res), V p l e (headSpec wsX8_readScene rmX8_readScene).room s m args below meth c g 7 0 0 (MQ below (QWi g A res.1 [(h0, .inr (6, [.int rf, .ref ztx, .int sz, .ref znw, .ref ztr, .ref zdi, .int ac, .ref zkp, .ref zik, .int res.2.1, .int res.2.2.1])), (ztx, .inl (cy 0, 120, .inl tx)), (znw, .inl (cy 0, 164, .inl nw)), (ztr, .inl (cy 0, 164, .inl res.2.2.2)), (zdi, .inl (cy 0, 2296, .inl di)), (zkp, .inl (cy 0, 328, .inl kp)), (zik, .inl (cy 1, 2, .inl ik))]) args s 0 0 A) A A [(h0, .inr (6, [.int rf, .ref ztx, .int sz, .ref znw, .ref ztr, .ref zdi, .int ac, .ref zkp, .ref zik, .int sp, .int ou])), (ztx, .inl (cy 0, 120, .inl tx)), (znw, .inl (cy 0, 164, .inl nw)), (ztr, .inl (cy 0, 164, .inl tr)), (zdi, .inl (cy 0, 2296, .inl di)), (zkp, .inl (cy 0, 328, .inl kp)), (zik, .inl (cy 1, 2, .inl ik))] 100 [] [] := by
  intro rf sz ac sp ou tx nw tr di kp ik  h
  unfold pX8_readScene_100 at h
  refine v_iconst hC (v := (nI 0)) dX8_readScene_100 (by decide) rfl ?_
  exact bX8_readScene_101 hC hr _ _ _ _ _ _ _ _ _ _ _ _ h
set_option maxHeartbeats 4000000 in
set_option maxRecDepth 100000 in
theorem bX8_readScene_90 {p : Program} {l : Launch} {e : Env} {s : State} {m : MethodId} {args : Array Value} {below : List Frame} {meth : Method} {c : Code} {g : va_G} {cy : Nat → ClassId} (hC : CX p s m args meth c g cy 7 cX8_readScene wsX8_readScene RX8) (hr : meth.sig.returnType = (some .boolean)) {h0 ztx znw ztr zdi zkp zik : Nat} {A : Nat → Prop} {res : Int32 × Int32 × Int32 × (Nat → Int32)} : ∀ (rf : Int32) (sz : Int32) (ac : Int32) (sp : Int32) (ou : Int32) (tx : Nat → Int32) (nw : Nat → Int32) (tr : Nat → Int32) (di : Nat → Int32) (kp : Nat → Int32) (ik : Nat → Int32) (s0 : Int32)(h : pX8_readScene_90 sz sp ou tx tr s0 = some res), V p l e (headSpec wsX8_readScene rmX8_readScene).room s m args below meth c g 7 0 0 (MQ below (QWi g A res.1 [(h0, .inr (6, [.int rf, .ref ztx, .int sz, .ref znw, .ref ztr, .ref zdi, .int ac, .ref zkp, .ref zik, .int res.2.1, .int res.2.2.1])), (ztx, .inl (cy 0, 120, .inl tx)), (znw, .inl (cy 0, 164, .inl nw)), (ztr, .inl (cy 0, 164, .inl res.2.2.2)), (zdi, .inl (cy 0, 2296, .inl di)), (zkp, .inl (cy 0, 328, .inl kp)), (zik, .inl (cy 1, 2, .inl ik))]) args s 0 0 A) A A [(h0, .inr (6, [.int rf, .ref ztx, .int sz, .ref znw, .ref ztr, .ref zdi, .int ac, .ref zkp, .ref zik, .int sp, .int ou])), (ztx, .inl (cy 0, 120, .inl tx)), (znw, .inl (cy 0, 164, .inl nw)), (ztr, .inl (cy 0, 164, .inl tr)), (zdi, .inl (cy 0, 2296, .inl di)), (zkp, .inl (cy 0, 328, .inl kp)), (zik, .inl (cy 1, 2, .inl ik))] 90 [] [.int s0, .ref h0] := by
  intro rf sz ac sp ou tx nw tr di kp ik s0 h
  unfold pX8_readScene_90 at h
  obtain ⟨v1, hv1, h⟩ := bind_g h
  refine v_callVwi hC (n := 1) (st := []) [(h0, .inr (6, [.int rf, .ref ztx, .int sz, .ref znw, .ref ztr, .ref zdi, .int ac, .ref zkp, .ref zik, .int sp, .int v1.2])), (ztx, .inl (cy 0, 120, .inl tx)), (znw, .inl (cy 0, 164, .inl nw)), (ztr, .inl (cy 0, 164, .inl tr)), (zdi, .inl (cy 0, 2296, .inl di)), (zkp, .inl (cy 0, 328, .inl kp)), (zik, .inl (cy 1, 2, .inl ik))] _ (mX8_done l g cy h0 ztx znw ztr zdi zkp zik rf sz ac sp ou tx nw tr di kp ik s0 hv1) gX8_readScene_X8_done rfl rfl rfl (by decide +kernel) ⟨Nat.le_of_ble_eq_true rfl, Nat.le_of_ble_eq_true rfl⟩ 0 rfl rfl [0, 1, 2, 3, 4, 5, 6] [] rfl rfl rfl rfl rfl rfl rfl rfl rfl (Nat.le_of_ble_eq_true rfl) rfl ⟨Nat.zero_le _, Nat.zero_le _⟩ dX8_readScene_90 rfl ?_
  refine v_if_eq hC (tgt := 100) dX8_readScene_93 (by decide) rfl (fun c => ?_) (fun c => ?_)
  · have h := ite_t c h
    exact bX8_readScene_100 hC hr _ _ _ _ _ _ _ _ _ _ _ h
  · have h := ite_f c h
    refine v_iconst hC (v := (nI 1)) dX8_readScene_96 (by decide) rfl ?_
    refine v_goto hC (tgt := 101) dX8_readScene_97 (by decide) ?_
    exact bX8_readScene_101 hC hr _ _ _ _ _ _ _ _ _ _ _ _ h
set_option maxHeartbeats 4000000 in
set_option maxRecDepth 100000 in
theorem bX8_readScene_89 {p : Program} {l : Launch} {e : Env} {s : State} {m : MethodId} {args : Array Value} {below : List Frame} {meth : Method} {c : Code} {g : va_G} {cy : Nat → ClassId} (hC : CX p s m args meth c g cy 7 cX8_readScene wsX8_readScene RX8) (hr : meth.sig.returnType = (some .boolean)) {h0 ztx znw ztr zdi zkp zik : Nat} {A : Nat → Prop} {res : Int32 × Int32 × Int32 × (Nat → Int32)} : ∀ (rf : Int32) (sz : Int32) (ac : Int32) (sp : Int32) (ou : Int32) (tx : Nat → Int32) (nw : Nat → Int32) (tr : Nat → Int32) (di : Nat → Int32) (kp : Nat → Int32) (ik : Nat → Int32) (h : pX8_readScene_89 sz sp ou tx tr = some res), V p l e (headSpec wsX8_readScene rmX8_readScene).room s m args below meth c g 7 0 0 (MQ below (QWi g A res.1 [(h0, .inr (6, [.int rf, .ref ztx, .int sz, .ref znw, .ref ztr, .ref zdi, .int ac, .ref zkp, .ref zik, .int res.2.1, .int res.2.2.1])), (ztx, .inl (cy 0, 120, .inl tx)), (znw, .inl (cy 0, 164, .inl nw)), (ztr, .inl (cy 0, 164, .inl res.2.2.2)), (zdi, .inl (cy 0, 2296, .inl di)), (zkp, .inl (cy 0, 328, .inl kp)), (zik, .inl (cy 1, 2, .inl ik))]) args s 0 0 A) A A [(h0, .inr (6, [.int rf, .ref ztx, .int sz, .ref znw, .ref ztr, .ref zdi, .int ac, .ref zkp, .ref zik, .int sp, .int ou])), (ztx, .inl (cy 0, 120, .inl tx)), (znw, .inl (cy 0, 164, .inl nw)), (ztr, .inl (cy 0, 164, .inl tr)), (zdi, .inl (cy 0, 2296, .inl di)), (zkp, .inl (cy 0, 328, .inl kp)), (zik, .inl (cy 1, 2, .inl ik))] 89 [] [.ref h0] := by
  intro rf sz ac sp ou tx nw tr di kp ik  h
  unfold pX8_readScene_89 at h
  refine v_iconst hC (v := (nI 0)) dX8_readScene_89 (by decide) rfl ?_
  exact bX8_readScene_90 hC hr _ _ _ _ _ _ _ _ _ _ _ _ h
set_option maxHeartbeats 4000000 in
set_option maxRecDepth 100000 in
theorem mX8_readScene (l : Launch) (g : va_G) (cy : Nat → ClassId) (h0 ztx znw ztr zdi zkp zik : Nat) (rf : Int32) (sz : Int32) (ac : Int32) (sp : Int32) (ou : Int32) (tx : Nat → Int32) (nw : Nat → Int32) (tr : Nat → Int32) (di : Nat → Int32) (kp : Nat → Int32) (ik : Nat → Int32)  {res : Int32 × Int32 × Int32 × (Nat → Int32)} (h : pX8_readScene sz sp ou tx tr = some res) : Met l yX8_readScene wsX8_readScene rmX8_readScene (PW [.ref h0, .ref ztr] g cy [(h0, .inr (6, [.int rf, .ref ztx, .int sz, .ref znw, .ref ztr, .ref zdi, .int ac, .ref zkp, .ref zik, .int sp, .int ou])), (ztx, .inl (cy 0, 120, .inl tx)), (znw, .inl (cy 0, 164, .inl nw)), (ztr, .inl (cy 0, 164, .inl tr)), (zdi, .inl (cy 0, 2296, .inl di)), (zkp, .inl (cy 0, 328, .inl kp)), (zik, .inl (cy 1, 2, .inl ik))]) (QWi g (wA [(h0, .inr (6, [.int rf, .ref ztx, .int sz, .ref znw, .ref ztr, .ref zdi, .int ac, .ref zkp, .ref zik, .int sp, .int ou])), (ztx, .inl (cy 0, 120, .inl tx)), (znw, .inl (cy 0, 164, .inl nw)), (ztr, .inl (cy 0, 164, .inl tr)), (zdi, .inl (cy 0, 2296, .inl di)), (zkp, .inl (cy 0, 328, .inl kp)), (zik, .inl (cy 1, 2, .inl ik))]) res.1 [(h0, .inr (6, [.int rf, .ref ztx, .int sz, .ref znw, .ref ztr, .ref zdi, .int ac, .ref zkp, .ref zik, .int res.2.1, .int res.2.2.1])), (ztx, .inl (cy 0, 120, .inl tx)), (znw, .inl (cy 0, 164, .inl nw)), (ztr, .inl (cy 0, 164, .inl res.2.2.2)), (zdi, .inl (cy 0, 2296, .inl di)), (zkp, .inl (cy 0, 328, .inl kp)), (zik, .inl (cy 1, 2, .inl ik))]) 0 0 (wA [(h0, .inr (6, [.int rf, .ref ztx, .int sz, .ref znw, .ref ztr, .ref zdi, .int ac, .ref zkp, .ref zik, .int sp, .int ou])), (ztx, .inl (cy 0, 120, .inl tx)), (znw, .inl (cy 0, 164, .inl nw)), (ztr, .inl (cy 0, 164, .inl tr)), (zdi, .inl (cy 0, 2296, .inl di)), (zkp, .inl (cy 0, 328, .inl kp)), (zik, .inl (cy 1, 2, .inl ik))]) := by
  refine m_ofV (cc := cX8_readScene) (nL := 7) (ret := (some .boolean)) (B := (wA [(h0, .inr (6, [.int rf, .ref ztx, .int sz, .ref znw, .ref ztr, .ref zdi, .int ac, .ref zkp, .ref zik, .int sp, .int ou])), (ztx, .inl (cy 0, 120, .inl tx)), (znw, .inl (cy 0, 164, .inl nw)), (ztr, .inl (cy 0, 164, .inl tr)), (zdi, .inl (cy 0, 2296, .inl di)), (zkp, .inl (cy 0, 328, .inl kp)), (zik, .inl (cy 1, 2, .inl ik))])) RX8 rfl (by decide) rfl [(0, .ref h0), (1, .ref ztr)] rfl (Nat.le_of_ble_eq_true rfl) (wA.self) ?_
  intro p e s m args below meth c hC hr
  generalize (wA [(h0, .inr (6, [.int rf, .ref ztx, .int sz, .ref znw, .ref ztr, .ref zdi, .int ac, .ref zkp, .ref zik, .int sp, .int ou])), (ztx, .inl (cy 0, 120, .inl tx)), (znw, .inl (cy 0, 164, .inl nw)), (ztr, .inl (cy 0, 164, .inl tr)), (zdi, .inl (cy 0, 2296, .inl di)), (zkp, .inl (cy 0, 328, .inl kp)), (zik, .inl (cy 1, 2, .inl ik))]) = A
  unfold pX8_readScene at h
  refine v_aload_n hC dX8_readScene_0 rfl 0 rfl rfl ?_
  refine v_iconst hC (v := (nI 0)) dX8_readScene_1 (by decide) rfl ?_
  refine v_iconst hC (v := (nI 1)) dX8_readScene_2 (by decide) rfl ?_
  refine v_iconst hC (v := (nI 0)) dX8_readScene_3 (by decide) rfl ?_
  refine v_iconst hC (v := (nI 4)) dX8_readScene_4 (by decide) rfl ?_
  obtain ⟨v1, hv1, h⟩ := bind_g h
  refine v_callVwi hC (n := 4) (st := []) [(h0, .inr (6, [.int rf, .ref ztx, .int sz, .ref znw, .ref ztr, .ref zdi, .int ac, .ref zkp, .ref zik, .int v1.2, .int ou])), (ztx, .inl (cy 0, 120, .inl tx)), (znw, .inl (cy 0, 164, .inl nw)), (ztr, .inl (cy 0, 164, .inl tr)), (zdi, .inl (cy 0, 2296, .inl di)), (zkp, .inl (cy 0, 328, .inl kp)), (zik, .inl (cy 1, 2, .inl ik))] _ (mX8_figures l g cy h0 ztx znw ztr zdi zkp zik rf sz ac sp ou tx nw tr di kp ik (nI 0) (nI 1) (nI 0) (nI 4) hv1) gX8_readScene_X8_figures rfl rfl rfl (by decide +kernel) ⟨Nat.le_of_ble_eq_true rfl, Nat.le_of_ble_eq_true rfl⟩ 0 rfl rfl [0, 1, 2, 3, 4, 5, 6] [] rfl rfl rfl rfl rfl rfl rfl rfl rfl (Nat.le_of_ble_eq_true rfl) rfl ⟨Nat.zero_le _, Nat.zero_le _⟩ dX8_readScene_5 rfl ?_
  refine v_istore_n hC dX8_readScene_8 rfl (by decide) [(2, .int v1.1), (0, .ref h0), (1, .ref ztr)] rfl rfl ?_
  refine v_aload_n hC dX8_readScene_9 rfl 1 rfl rfl ?_
  refine v_iload_n hC dX8_readScene_10 rfl 0 rfl rfl ?_
  refine v_iconst hC (v := (nI 1)) dX8_readScene_11 (by decide) rfl ?_
  refine v_iconst hC (v := (nI 1)) dX8_readScene_12 (by decide) rfl ?_
  refine v_bipush hC (v := (nI 6)) dX8_readScene_13 (by decide) rfl ?_
  obtain ⟨v2, hv2, h⟩ := bind_g h
  refine v_callVwi hC (n := 4) (st := []) [(h0, .inr (6, [.int rf, .ref ztx, .int sz, .ref znw, .ref ztr, .ref zdi, .int ac, .ref zkp, .ref zik, .int v2.2, .int ou])), (ztx, .inl (cy 0, 120, .inl tx)), (znw, .inl (cy 0, 164, .inl nw)), (ztr, .inl (cy 0, 164, .inl tr)), (zdi, .inl (cy 0, 2296, .inl di)), (zkp, .inl (cy 0, 328, .inl kp)), (zik, .inl (cy 1, 2, .inl ik))] _ (mX8_figures l g cy h0 ztx znw ztr zdi zkp zik rf sz ac v1.2 ou tx nw tr di kp ik v1.1 (nI 1) (nI 1) (nI 6) hv2) gX8_readScene_X8_figures rfl rfl rfl (by decide +kernel) ⟨Nat.le_of_ble_eq_true rfl, Nat.le_of_ble_eq_true rfl⟩ 0 rfl rfl [0, 1, 2, 3, 4, 5, 6] [] rfl rfl rfl rfl rfl rfl rfl rfl rfl (Nat.le_of_ble_eq_true rfl) rfl ⟨Nat.zero_le _, Nat.zero_le _⟩ dX8_readScene_15 rfl ?_
  refine v_istore_n hC dX8_readScene_18 rfl (by decide) [(3, .int v2.1), (2, .int v1.1), (0, .ref h0), (1, .ref ztr)] rfl rfl ?_
  refine v_aload_n hC dX8_readScene_19 rfl 2 rfl rfl ?_
  refine v_iload_n hC dX8_readScene_20 rfl 0 rfl rfl ?_
  refine v_iconst hC (v := (nI 1)) dX8_readScene_21 (by decide) rfl ?_
  refine v_iconst hC (v := (nI 0)) dX8_readScene_22 (by decide) rfl ?_
  refine v_bipush hC (v := (nI 9)) dX8_readScene_23 (by decide) rfl ?_
  obtain ⟨v3, hv3, h⟩ := bind_g h
  refine v_callVwi hC (n := 4) (st := []) [(h0, .inr (6, [.int rf, .ref ztx, .int sz, .ref znw, .ref ztr, .ref zdi, .int ac, .ref zkp, .ref zik, .int v3.2, .int ou])), (ztx, .inl (cy 0, 120, .inl tx)), (znw, .inl (cy 0, 164, .inl nw)), (ztr, .inl (cy 0, 164, .inl tr)), (zdi, .inl (cy 0, 2296, .inl di)), (zkp, .inl (cy 0, 328, .inl kp)), (zik, .inl (cy 1, 2, .inl ik))] _ (mX8_figures l g cy h0 ztx znw ztr zdi zkp zik rf sz ac v2.2 ou tx nw tr di kp ik v2.1 (nI 1) (nI 0) (nI 9) hv3) gX8_readScene_X8_figures rfl rfl rfl (by decide +kernel) ⟨Nat.le_of_ble_eq_true rfl, Nat.le_of_ble_eq_true rfl⟩ 0 rfl rfl [0, 1, 2, 3, 4, 5, 6] [] rfl rfl rfl rfl rfl rfl rfl rfl rfl (Nat.le_of_ble_eq_true rfl) rfl ⟨Nat.zero_le _, Nat.zero_le _⟩ dX8_readScene_25 rfl ?_
  refine v_istore hC dX8_readScene_28 (by decide) [(4, .int v3.1), (3, .int v2.1), (2, .int v1.1), (0, .ref h0), (1, .ref ztr)] rfl rfl ?_
  refine v_aload_n hC dX8_readScene_30 rfl 3 rfl rfl ?_
  refine v_iload hC dX8_readScene_31 0 rfl rfl ?_
  refine v_iconst hC (v := (nI 1)) dX8_readScene_33 (by decide) rfl ?_
  refine v_iconst hC (v := (nI 0)) dX8_readScene_34 (by decide) rfl ?_
  refine v_iconst hC (v := (nI 3)) dX8_readScene_35 (by decide) rfl ?_
  obtain ⟨v4, hv4, h⟩ := bind_g h
  refine v_callVwi hC (n := 4) (st := []) [(h0, .inr (6, [.int rf, .ref ztx, .int sz, .ref znw, .ref ztr, .ref zdi, .int ac, .ref zkp, .ref zik, .int v4.2, .int ou])), (ztx, .inl (cy 0, 120, .inl tx)), (znw, .inl (cy 0, 164, .inl nw)), (ztr, .inl (cy 0, 164, .inl tr)), (zdi, .inl (cy 0, 2296, .inl di)), (zkp, .inl (cy 0, 328, .inl kp)), (zik, .inl (cy 1, 2, .inl ik))] _ (mX8_figures l g cy h0 ztx znw ztr zdi zkp zik rf sz ac v3.2 ou tx nw tr di kp ik v3.1 (nI 1) (nI 0) (nI 3) hv4) gX8_readScene_X8_figures rfl rfl rfl (by decide +kernel) ⟨Nat.le_of_ble_eq_true rfl, Nat.le_of_ble_eq_true rfl⟩ 0 rfl rfl [0, 1, 2, 3, 4, 5, 6] [] rfl rfl rfl rfl rfl rfl rfl rfl rfl (Nat.le_of_ble_eq_true rfl) rfl ⟨Nat.zero_le _, Nat.zero_le _⟩ dX8_readScene_36 rfl ?_
  refine v_istore hC dX8_readScene_39 (by decide) [(5, .int v4.1), (4, .int v3.1), (3, .int v2.1), (2, .int v1.1), (0, .ref h0), (1, .ref ztr)] rfl rfl ?_
  refine v_aload_n hC dX8_readScene_41 rfl 4 rfl rfl ?_
  refine v_iload hC dX8_readScene_42 0 rfl rfl ?_
  refine v_iconst hC (v := (nI 3)) dX8_readScene_44 (by decide) rfl ?_
  refine v_bipush hC (v := (nI 10)) dX8_readScene_45 (by decide) rfl ?_
  refine v_sipush hC (v := (nI 240)) dX8_readScene_47 (by decide) rfl ?_
  obtain ⟨v5, hv5, h⟩ := bind_g h
  refine v_callVwi hC (n := 4) (st := []) [(h0, .inr (6, [.int rf, .ref ztx, .int sz, .ref znw, .ref ztr, .ref zdi, .int ac, .ref zkp, .ref zik, .int v5.2, .int ou])), (ztx, .inl (cy 0, 120, .inl tx)), (znw, .inl (cy 0, 164, .inl nw)), (ztr, .inl (cy 0, 164, .inl tr)), (zdi, .inl (cy 0, 2296, .inl di)), (zkp, .inl (cy 0, 328, .inl kp)), (zik, .inl (cy 1, 2, .inl ik))] _ (mX8_figures l g cy h0 ztx znw ztr zdi zkp zik rf sz ac v4.2 ou tx nw tr di kp ik v4.1 (nI 3) (nI 10) (nI 240) hv5) gX8_readScene_X8_figures rfl rfl rfl (by decide +kernel) ⟨Nat.le_of_ble_eq_true rfl, Nat.le_of_ble_eq_true rfl⟩ 0 rfl rfl [0, 1, 2, 3, 4, 5, 6] [] rfl rfl rfl rfl rfl rfl rfl rfl rfl (Nat.le_of_ble_eq_true rfl) rfl ⟨Nat.zero_le _, Nat.zero_le _⟩ dX8_readScene_50 rfl ?_
  refine v_istore hC dX8_readScene_53 (by decide) [(6, .int v5.1), (5, .int v4.1), (4, .int v3.1), (3, .int v2.1), (2, .int v1.1), (0, .ref h0), (1, .ref ztr)] rfl rfl ?_
  refine v_iload hC dX8_readScene_55 0 rfl rfl ?_
  refine v_iconst hC (v := (-1)) dX8_readScene_57 (by decide) rfl ?_
  refine v_icmp_eq hC (tgt := 100) dX8_readScene_58 (by decide) rfl (fun c => ?_) (fun c => ?_)
  · have h := ite_t c h
    exact v_sub [] (lv' := []) rfl (bX8_readScene_100 hC hr _ _ _ _ _ _ _ _ _ _ _ h)
  · have h := ite_f c h
    refine v_aload_n hC dX8_readScene_61 rfl 5 rfl rfl ?_
    refine v_aload_n hC dX8_readScene_62 rfl 6 rfl rfl ?_
    refine v_iconst hC (v := (nI 1)) dX8_readScene_63 (by decide) rfl ?_
    obtain ⟨hn, h⟩ := ite_g h
    refine v_iald hC 3 rfl hn dX8_readScene_64 rfl ?_
    refine v_bipush hC (v := (nI 10)) dX8_readScene_65 (by decide) rfl ?_
    refine v_icmp_ge hC (tgt := 89) dX8_readScene_67 (by decide) rfl (fun c => ?_) (fun c => ?_)
    · have h := ite_t c h
      exact v_sub [] (lv' := []) rfl (bX8_readScene_89 hC hr _ _ _ _ _ _ _ _ _ _ _ h)
    · have h := ite_f c h
      refine v_aload_n hC dX8_readScene_70 rfl 6 rfl rfl ?_
      refine v_iload_n hC dX8_readScene_71 rfl 4 rfl rfl ?_
      refine v_iload_n hC dX8_readScene_72 rfl 3 rfl rfl ?_
      refine v_iload hC dX8_readScene_73 2 rfl rfl ?_
      refine v_iload hC dX8_readScene_75 1 rfl rfl ?_
      refine v_iload hC dX8_readScene_77 0 rfl rfl ?_
      obtain ⟨v6, hv6, h⟩ := bind_g h
      refine v_callSwi hC (n := 6) (st := [.ref h0]) [(h0, .inr (6, [.int rf, .ref ztx, .int sz, .ref znw, .ref ztr, .ref zdi, .int ac, .ref zkp, .ref zik, .int v5.2, .int ou])), (ztx, .inl (cy 0, 120, .inl tx)), (znw, .inl (cy 0, 164, .inl nw)), (ztr, .inl (cy 0, 164, .inl v6.2)), (zdi, .inl (cy 0, 2296, .inl di)), (zkp, .inl (cy 0, 328, .inl kp)), (zik, .inl (cy 1, 2, .inl ik))] _ (mX8_sceneOn l g cy ztr tr v1.1 v2.1 v3.1 v4.1 v5.1 hv6) gX8_readScene_X8_sceneOn rfl rfl rfl (by decide +kernel) ⟨Nat.le_of_ble_eq_true rfl, Nat.le_of_ble_eq_true rfl⟩ [3] [0, 1, 2, 4, 5, 6] rfl rfl rfl rfl rfl rfl rfl rfl rfl (Nat.le_of_ble_eq_true rfl) rfl ⟨Nat.zero_le _, Nat.zero_le _⟩ dX8_readScene_79 rfl ?_
      refine v_if_lt hC (tgt := 89) dX8_readScene_82 (by decide) rfl (fun c => ?_) (fun c => ?_)
      · have h := ite_t c h
        exact v_sub [] (lv' := []) rfl (bX8_readScene_89 hC hr _ _ _ _ _ _ _ _ _ _ _ h)
      · have h := ite_f c h
        refine v_iconst hC (v := (nI 1)) dX8_readScene_85 (by decide) rfl ?_
        refine v_goto hC (tgt := 90) dX8_readScene_86 (by decide) ?_
        exact v_sub [] (lv' := []) rfl (bX8_readScene_90 hC hr _ _ _ _ _ _ _ _ _ _ _ _ h)
theorem kX8_readCommand_129 : Cond.fieldLink RX8 129 "CrowdFacesModel" "spot" "I" ∈ wsX8_readCommand := by decide +kernel
theorem kX8_readCommand_7 : Cond.fieldLink RX8 7 "CrowdFacesModel" "text" "[I" ∈ wsX8_readCommand := by decide +kernel
theorem iX8_readCommand_X8 : ∀ w ∈ wsX80, w ∈ wsX8_readCommand := by decide +kernel
def pX8_readCommand_157 (sz : Int32) (sp : Int32) (ou : Int32) (tx : Nat → Int32) (tr : Nat → Int32) (s0 : Int32) : Option (Int32 × Int32 × Int32 × (Nat → Int32)) := (bz s0).bind fun b1 => some (b1, sp, ou, tr)
def pX8_readCommand_156 (sz : Int32) (sp : Int32) (ou : Int32) (tx : Nat → Int32) (tr : Nat → Int32) : Option (Int32 × Int32 × Int32 × (Nat → Int32)) := pX8_readCommand_157 sz sp ou tx tr (nI 0)
def pX8_readCommand_146 (sz : Int32) (sp : Int32) (ou : Int32) (tx : Nat → Int32) (tr : Nat → Int32) (s0 : Int32) : Option (Int32 × Int32 × Int32 × (Nat → Int32)) := (pX8_done ou s0).bind fun v1 => if v1.1 = 0 then pX8_readCommand_156 sz sp v1.2 tx tr else pX8_readCommand_157 sz sp v1.2 tx tr (nI 1)
def pX8_readCommand_145 (sz : Int32) (sp : Int32) (ou : Int32) (tx : Nat → Int32) (tr : Nat → Int32) : Option (Int32 × Int32 × Int32 × (Nat → Int32)) := pX8_readCommand_146 sz sp ou tx tr (nI 0)
def pX8_readCommand_212 (sz : Int32) (sp : Int32) (ou : Int32) (tx : Nat → Int32) (tr : Nat → Int32) (s0 : Int32) : Option (Int32 × Int32 × Int32 × (Nat → Int32)) := (bz s0).bind fun b1 => some (b1, sp, ou, tr)
def pX8_readCommand_211 (sz : Int32) (sp : Int32) (ou : Int32) (tx : Nat → Int32) (tr : Nat → Int32) : Option (Int32 × Int32 × Int32 × (Nat → Int32)) := pX8_readCommand_212 sz sp ou tx tr (nI 0)
def pX8_readCommand_201 (sz : Int32) (sp : Int32) (ou : Int32) (tx : Nat → Int32) (tr : Nat → Int32) (s0 : Int32) : Option (Int32 × Int32 × Int32 × (Nat → Int32)) := (pX8_done ou s0).bind fun v1 => if v1.1 = 0 then pX8_readCommand_211 sz sp v1.2 tx tr else pX8_readCommand_212 sz sp v1.2 tx tr (nI 1)
def pX8_readCommand_200 (sz : Int32) (sp : Int32) (ou : Int32) (tx : Nat → Int32) (tr : Nat → Int32) : Option (Int32 × Int32 × Int32 × (Nat → Int32)) := pX8_readCommand_201 sz sp ou tx tr (nI 0)
def pX8_readCommand_226 (sz : Int32) (sp : Int32) (ou : Int32) (tx : Nat → Int32) (tr : Nat → Int32) (s0 : Int32) : Option (Int32 × Int32 × Int32 × (Nat → Int32)) := (pX8_done ou s0).bind fun v1 => (bz v1.1).bind fun b2 => some (b2, sp, v1.2, tr)
def pX8_readCommand_243 (sz : Int32) (sp : Int32) (ou : Int32) (tx : Nat → Int32) (tr : Nat → Int32) (s0 : Int32) : Option (Int32 × Int32 × Int32 × (Nat → Int32)) := (pX8_done ou s0).bind fun v1 => (bz v1.1).bind fun b2 => some (b2, sp, v1.2, tr)
def pX8_readCommand_247 (sz : Int32) (sp : Int32) (ou : Int32) (tx : Nat → Int32) (tr : Nat → Int32) : Option (Int32 × Int32 × Int32 × (Nat → Int32)) := some ((nI 0), (sp - (nI 1)), ou, tr)
def pX8_readCommand (sz : Int32) (sp : Int32) (ou : Int32) (tx : Nat → Int32) (tr : Nat → Int32) : Option (Int32 × Int32 × Int32 × (Nat → Int32)) := if nb sp 120 = true then if (tx sp.toNatClampNeg) = (nI 101) then (pX8_figures sz (sp + (nI 1)) tx (nI 0) (nI 1) (nI 0) (nI 4)).bind fun v1 => (pX8_figures sz v1.2 tx v1.1 (nI 2) (nI 0) (nI 13)).bind fun v2 => if v2.1 = (-1) then pX8_readCommand_156 sz v2.2 ou tx tr else if nb (nI 0) 164 = true then if (nI 14) ≤ (tr (nI 0).toNatClampNeg) then pX8_readCommand_145 sz v2.2 ou tx tr else (pX8_extraOn tr v1.1 v2.1).bind fun v3 => if v3.1 < 0 then pX8_readCommand_145 sz v2.2 ou tx v3.2 else pX8_readCommand_146 sz v2.2 ou tx v3.2 (nI 1) else none else if (tx sp.toNatClampNeg) = (nI 103) then (pX8_figures sz (sp + (nI 1)) tx (nI 0) (nI 1) (nI 0) (nI 9)).bind fun v4 => if v4.1 = (-1) then pX8_readCommand_211 sz v4.2 ou tx tr else (pX8_canShoot tr v4.1).bind fun v5 => if v5 = 0 then pX8_readCommand_200 sz v4.2 ou tx tr else (pX8_shootOn tr v4.1).bind fun v6 => if v6.1 ≤ 0 then pX8_readCommand_200 sz v4.2 ou tx v6.2 else pX8_readCommand_201 sz v4.2 ou tx v6.2 (nI 1) else if (tx sp.toNatClampNeg) = (nI 109) then (pX8_mealOn tr).bind fun v7 => if v7.1 < 0 then pX8_readCommand_226 sz (sp + (nI 1)) ou tx v7.2 (nI 0) else pX8_readCommand_226 sz (sp + (nI 1)) ou tx v7.2 (nI 1) else if (tx sp.toNatClampNeg) = (nI 110) then (pX8_nextOn tr).bind fun v8 => if v8.1 ≤ 0 then pX8_readCommand_243 sz (sp + (nI 1)) ou tx v8.2 (nI 0) else pX8_readCommand_243 sz (sp + (nI 1)) ou tx v8.2 (nI 1) else if (tx sp.toNatClampNeg) = (nI 115) then (pX8_readScene sz (sp + (nI 1)) ou tx tr).bind fun v9 => (bz v9.1).bind fun b10 => some (b10, v9.2.1, v9.2.2.1, v9.2.2.2) else pX8_readCommand_247 sz (sp + (nI 1)) ou tx tr else none
abbrev rmX8_readCommand : Room := { frames := 7, cells := 0, slots := 0, locals := 161 }
set_option maxHeartbeats 4000000 in
set_option maxRecDepth 100000 in
theorem bX8_readCommand_157 {p : Program} {l : Launch} {e : Env} {s : State} {m : MethodId} {args : Array Value} {below : List Frame} {meth : Method} {c : Code} {g : va_G} {cy : Nat → ClassId} (hC : CX p s m args meth c g cy 5 cX8_readCommand wsX8_readCommand RX8) (hr : meth.sig.returnType = (some .boolean)) {h0 ztx znw ztr zdi zkp zik : Nat} {A : Nat → Prop} {res : Int32 × Int32 × Int32 × (Nat → Int32)} : ∀ (rf : Int32) (sz : Int32) (ac : Int32) (sp : Int32) (ou : Int32) (tx : Nat → Int32) (nw : Nat → Int32) (tr : Nat → Int32) (di : Nat → Int32) (kp : Nat → Int32) (ik : Nat → Int32) (s0 : Int32)(h : pX8_readCommand_157 sz sp ou tx tr s0 = some res), V p l e (headSpec wsX8_readCommand rmX8_readCommand).room s m args below meth c g 5 0 0 (MQ below (QWi g A res.1 [(h0, .inr (6, [.int rf, .ref ztx, .int sz, .ref znw, .ref ztr, .ref zdi, .int ac, .ref zkp, .ref zik, .int res.2.1, .int res.2.2.1])), (ztx, .inl (cy 0, 120, .inl tx)), (znw, .inl (cy 0, 164, .inl nw)), (ztr, .inl (cy 0, 164, .inl res.2.2.2)), (zdi, .inl (cy 0, 2296, .inl di)), (zkp, .inl (cy 0, 328, .inl kp)), (zik, .inl (cy 1, 2, .inl ik))]) args s 0 0 A) A A [(h0, .inr (6, [.int rf, .ref ztx, .int sz, .ref znw, .ref ztr, .ref zdi, .int ac, .ref zkp, .ref zik, .int sp, .int ou])), (ztx, .inl (cy 0, 120, .inl tx)), (znw, .inl (cy 0, 164, .inl nw)), (ztr, .inl (cy 0, 164, .inl tr)), (zdi, .inl (cy 0, 2296, .inl di)), (zkp, .inl (cy 0, 328, .inl kp)), (zik, .inl (cy 1, 2, .inl ik))] 157 [] [.int s0] := by
  intro rf sz ac sp ou tx nw tr di kp ik s0 h
  unfold pX8_readCommand_157 at h
  obtain ⟨b1, hb9, h⟩ := bind_g h
  obtain ⟨e9, hn⟩ := bz_g hb9
  obtain rfl := Option.some.inj h
  exact v_irw hC hr hn e9 dX8_readCommand_157
set_option maxHeartbeats 4000000 in
set_option maxRecDepth 100000 in
theorem bX8_readCommand_156 {p : Program} {l : Launch} {e : Env} {s : State} {m : MethodId} {args : Array Value} {below : List Frame} {meth : Method} {c : Code} {g : va_G} {cy : Nat → ClassId} (hC : CX p s m args meth c g cy 5 cX8_readCommand wsX8_readCommand RX8) (hr : meth.sig.returnType = (some .boolean)) {h0 ztx znw ztr zdi zkp zik : Nat} {A : Nat → Prop} {res : Int32 × Int32 × Int32 × (Nat → Int32)} : ∀ (rf : Int32) (sz : Int32) (ac : Int32) (sp : Int32) (ou : Int32) (tx : Nat → Int32) (nw : Nat → Int32) (tr : Nat → Int32) (di : Nat → Int32) (kp : Nat → Int32) (ik : Nat → Int32) (h : pX8_readCommand_156 sz sp ou tx tr = some res), V p l e (headSpec wsX8_readCommand rmX8_readCommand).room s m args below meth c g 5 0 0 (MQ below (QWi g A res.1 [(h0, .inr (6, [.int rf, .ref ztx, .int sz, .ref znw, .ref ztr, .ref zdi, .int ac, .ref zkp, .ref zik, .int res.2.1, .int res.2.2.1])), (ztx, .inl (cy 0, 120, .inl tx)), (znw, .inl (cy 0, 164, .inl nw)), (ztr, .inl (cy 0, 164, .inl res.2.2.2)), (zdi, .inl (cy 0, 2296, .inl di)), (zkp, .inl (cy 0, 328, .inl kp)), (zik, .inl (cy 1, 2, .inl ik))]) args s 0 0 A) A A [(h0, .inr (6, [.int rf, .ref ztx, .int sz, .ref znw, .ref ztr, .ref zdi, .int ac, .ref zkp, .ref zik, .int sp, .int ou])), (ztx, .inl (cy 0, 120, .inl tx)), (znw, .inl (cy 0, 164, .inl nw)), (ztr, .inl (cy 0, 164, .inl tr)), (zdi, .inl (cy 0, 2296, .inl di)), (zkp, .inl (cy 0, 328, .inl kp)), (zik, .inl (cy 1, 2, .inl ik))] 156 [] [] := by
  intro rf sz ac sp ou tx nw tr di kp ik  h
  unfold pX8_readCommand_156 at h
  refine v_iconst hC (v := (nI 0)) dX8_readCommand_156 (by decide) rfl ?_
  exact bX8_readCommand_157 hC hr _ _ _ _ _ _ _ _ _ _ _ _ h
set_option maxHeartbeats 4000000 in
set_option maxRecDepth 100000 in
theorem bX8_readCommand_146 {p : Program} {l : Launch} {e : Env} {s : State} {m : MethodId} {args : Array Value} {below : List Frame} {meth : Method} {c : Code} {g : va_G} {cy : Nat → ClassId} (hC : CX p s m args meth c g cy 5 cX8_readCommand wsX8_readCommand RX8) (hr : meth.sig.returnType = (some .boolean)) {h0 ztx znw ztr zdi zkp zik : Nat} {A : Nat → Prop} {res : Int32 × Int32 × Int32 × (Nat → Int32)} : ∀ (rf : Int32) (sz : Int32) (ac : Int32) (sp : Int32) (ou : Int32) (tx : Nat → Int32) (nw : Nat → Int32) (tr : Nat → Int32) (di : Nat → Int32) (kp : Nat → Int32) (ik : Nat → Int32) (s0 : Int32)(h : pX8_readCommand_146 sz sp ou tx tr s0 = some res), V p l e (headSpec wsX8_readCommand rmX8_readCommand).room s m args below meth c g 5 0 0 (MQ below (QWi g A res.1 [(h0, .inr (6, [.int rf, .ref ztx, .int sz, .ref znw, .ref ztr, .ref zdi, .int ac, .ref zkp, .ref zik, .int res.2.1, .int res.2.2.1])), (ztx, .inl (cy 0, 120, .inl tx)), (znw, .inl (cy 0, 164, .inl nw)), (ztr, .inl (cy 0, 164, .inl res.2.2.2)), (zdi, .inl (cy 0, 2296, .inl di)), (zkp, .inl (cy 0, 328, .inl kp)), (zik, .inl (cy 1, 2, .inl ik))]) args s 0 0 A) A A [(h0, .inr (6, [.int rf, .ref ztx, .int sz, .ref znw, .ref ztr, .ref zdi, .int ac, .ref zkp, .ref zik, .int sp, .int ou])), (ztx, .inl (cy 0, 120, .inl tx)), (znw, .inl (cy 0, 164, .inl nw)), (ztr, .inl (cy 0, 164, .inl tr)), (zdi, .inl (cy 0, 2296, .inl di)), (zkp, .inl (cy 0, 328, .inl kp)), (zik, .inl (cy 1, 2, .inl ik))] 146 [] [.int s0, .ref h0] := by
  intro rf sz ac sp ou tx nw tr di kp ik s0 h
  unfold pX8_readCommand_146 at h
  obtain ⟨v1, hv1, h⟩ := bind_g h
  refine v_callVwi hC (n := 1) (st := []) [(h0, .inr (6, [.int rf, .ref ztx, .int sz, .ref znw, .ref ztr, .ref zdi, .int ac, .ref zkp, .ref zik, .int sp, .int v1.2])), (ztx, .inl (cy 0, 120, .inl tx)), (znw, .inl (cy 0, 164, .inl nw)), (ztr, .inl (cy 0, 164, .inl tr)), (zdi, .inl (cy 0, 2296, .inl di)), (zkp, .inl (cy 0, 328, .inl kp)), (zik, .inl (cy 1, 2, .inl ik))] _ (mX8_done l g cy h0 ztx znw ztr zdi zkp zik rf sz ac sp ou tx nw tr di kp ik s0 hv1) gX8_readCommand_X8_done rfl rfl rfl (by decide +kernel) ⟨Nat.le_of_ble_eq_true rfl, Nat.le_of_ble_eq_true rfl⟩ 0 rfl rfl [0, 1, 2, 3, 4, 5, 6] [] rfl rfl rfl rfl rfl rfl rfl rfl rfl (Nat.le_of_ble_eq_true rfl) rfl ⟨Nat.zero_le _, Nat.zero_le _⟩ dX8_readCommand_146 rfl ?_
  refine v_if_eq hC (tgt := 156) dX8_readCommand_149 (by decide) rfl (fun c => ?_) (fun c => ?_)
  · have h := ite_t c h
    exact bX8_readCommand_156 hC hr _ _ _ _ _ _ _ _ _ _ _ h
  · have h := ite_f c h
    refine v_iconst hC (v := (nI 1)) dX8_readCommand_152 (by decide) rfl ?_
    refine v_goto hC (tgt := 157) dX8_readCommand_153 (by decide) ?_
    exact bX8_readCommand_157 hC hr _ _ _ _ _ _ _ _ _ _ _ _ h
set_option maxHeartbeats 4000000 in
set_option maxRecDepth 100000 in
theorem bX8_readCommand_145 {p : Program} {l : Launch} {e : Env} {s : State} {m : MethodId} {args : Array Value} {below : List Frame} {meth : Method} {c : Code} {g : va_G} {cy : Nat → ClassId} (hC : CX p s m args meth c g cy 5 cX8_readCommand wsX8_readCommand RX8) (hr : meth.sig.returnType = (some .boolean)) {h0 ztx znw ztr zdi zkp zik : Nat} {A : Nat → Prop} {res : Int32 × Int32 × Int32 × (Nat → Int32)} : ∀ (rf : Int32) (sz : Int32) (ac : Int32) (sp : Int32) (ou : Int32) (tx : Nat → Int32) (nw : Nat → Int32) (tr : Nat → Int32) (di : Nat → Int32) (kp : Nat → Int32) (ik : Nat → Int32) (h : pX8_readCommand_145 sz sp ou tx tr = some res), V p l e (headSpec wsX8_readCommand rmX8_readCommand).room s m args below meth c g 5 0 0 (MQ below (QWi g A res.1 [(h0, .inr (6, [.int rf, .ref ztx, .int sz, .ref znw, .ref ztr, .ref zdi, .int ac, .ref zkp, .ref zik, .int res.2.1, .int res.2.2.1])), (ztx, .inl (cy 0, 120, .inl tx)), (znw, .inl (cy 0, 164, .inl nw)), (ztr, .inl (cy 0, 164, .inl res.2.2.2)), (zdi, .inl (cy 0, 2296, .inl di)), (zkp, .inl (cy 0, 328, .inl kp)), (zik, .inl (cy 1, 2, .inl ik))]) args s 0 0 A) A A [(h0, .inr (6, [.int rf, .ref ztx, .int sz, .ref znw, .ref ztr, .ref zdi, .int ac, .ref zkp, .ref zik, .int sp, .int ou])), (ztx, .inl (cy 0, 120, .inl tx)), (znw, .inl (cy 0, 164, .inl nw)), (ztr, .inl (cy 0, 164, .inl tr)), (zdi, .inl (cy 0, 2296, .inl di)), (zkp, .inl (cy 0, 328, .inl kp)), (zik, .inl (cy 1, 2, .inl ik))] 145 [] [.ref h0] := by
  intro rf sz ac sp ou tx nw tr di kp ik  h
  unfold pX8_readCommand_145 at h
  refine v_iconst hC (v := (nI 0)) dX8_readCommand_145 (by decide) rfl ?_
  exact bX8_readCommand_146 hC hr _ _ _ _ _ _ _ _ _ _ _ _ h
set_option maxHeartbeats 4000000 in
set_option maxRecDepth 100000 in
theorem bX8_readCommand_212 {p : Program} {l : Launch} {e : Env} {s : State} {m : MethodId} {args : Array Value} {below : List Frame} {meth : Method} {c : Code} {g : va_G} {cy : Nat → ClassId} (hC : CX p s m args meth c g cy 5 cX8_readCommand wsX8_readCommand RX8) (hr : meth.sig.returnType = (some .boolean)) {h0 ztx znw ztr zdi zkp zik : Nat} {A : Nat → Prop} {res : Int32 × Int32 × Int32 × (Nat → Int32)} : ∀ (rf : Int32) (sz : Int32) (ac : Int32) (sp : Int32) (ou : Int32) (tx : Nat → Int32) (nw : Nat → Int32) (tr : Nat → Int32) (di : Nat → Int32) (kp : Nat → Int32) (ik : Nat → Int32) (s0 : Int32)(h : pX8_readCommand_212 sz sp ou tx tr s0 = some res), V p l e (headSpec wsX8_readCommand rmX8_readCommand).room s m args below meth c g 5 0 0 (MQ below (QWi g A res.1 [(h0, .inr (6, [.int rf, .ref ztx, .int sz, .ref znw, .ref ztr, .ref zdi, .int ac, .ref zkp, .ref zik, .int res.2.1, .int res.2.2.1])), (ztx, .inl (cy 0, 120, .inl tx)), (znw, .inl (cy 0, 164, .inl nw)), (ztr, .inl (cy 0, 164, .inl res.2.2.2)), (zdi, .inl (cy 0, 2296, .inl di)), (zkp, .inl (cy 0, 328, .inl kp)), (zik, .inl (cy 1, 2, .inl ik))]) args s 0 0 A) A A [(h0, .inr (6, [.int rf, .ref ztx, .int sz, .ref znw, .ref ztr, .ref zdi, .int ac, .ref zkp, .ref zik, .int sp, .int ou])), (ztx, .inl (cy 0, 120, .inl tx)), (znw, .inl (cy 0, 164, .inl nw)), (ztr, .inl (cy 0, 164, .inl tr)), (zdi, .inl (cy 0, 2296, .inl di)), (zkp, .inl (cy 0, 328, .inl kp)), (zik, .inl (cy 1, 2, .inl ik))] 212 [] [.int s0] := by
  intro rf sz ac sp ou tx nw tr di kp ik s0 h
  unfold pX8_readCommand_212 at h
  obtain ⟨b1, hb9, h⟩ := bind_g h
  obtain ⟨e9, hn⟩ := bz_g hb9
  obtain rfl := Option.some.inj h
  exact v_irw hC hr hn e9 dX8_readCommand_212
set_option maxHeartbeats 4000000 in
set_option maxRecDepth 100000 in
theorem bX8_readCommand_211 {p : Program} {l : Launch} {e : Env} {s : State} {m : MethodId} {args : Array Value} {below : List Frame} {meth : Method} {c : Code} {g : va_G} {cy : Nat → ClassId} (hC : CX p s m args meth c g cy 5 cX8_readCommand wsX8_readCommand RX8) (hr : meth.sig.returnType = (some .boolean)) {h0 ztx znw ztr zdi zkp zik : Nat} {A : Nat → Prop} {res : Int32 × Int32 × Int32 × (Nat → Int32)} : ∀ (rf : Int32) (sz : Int32) (ac : Int32) (sp : Int32) (ou : Int32) (tx : Nat → Int32) (nw : Nat → Int32) (tr : Nat → Int32) (di : Nat → Int32) (kp : Nat → Int32) (ik : Nat → Int32) (h : pX8_readCommand_211 sz sp ou tx tr = some res), V p l e (headSpec wsX8_readCommand rmX8_readCommand).room s m args below meth c g 5 0 0 (MQ below (QWi g A res.1 [(h0, .inr (6, [.int rf, .ref ztx, .int sz, .ref znw, .ref ztr, .ref zdi, .int ac, .ref zkp, .ref zik, .int res.2.1, .int res.2.2.1])), (ztx, .inl (cy 0, 120, .inl tx)), (znw, .inl (cy 0, 164, .inl nw)), (ztr, .inl (cy 0, 164, .inl res.2.2.2)), (zdi, .inl (cy 0, 2296, .inl di)), (zkp, .inl (cy 0, 328, .inl kp)), (zik, .inl (cy 1, 2, .inl ik))]) args s 0 0 A) A A [(h0, .inr (6, [.int rf, .ref ztx, .int sz, .ref znw, .ref ztr, .ref zdi, .int ac, .ref zkp, .ref zik, .int sp, .int ou])), (ztx, .inl (cy 0, 120, .inl tx)), (znw, .inl (cy 0, 164, .inl nw)), (ztr, .inl (cy 0, 164, .inl tr)), (zdi, .inl (cy 0, 2296, .inl di)), (zkp, .inl (cy 0, 328, .inl kp)), (zik, .inl (cy 1, 2, .inl ik))] 211 [] [] := by
  intro rf sz ac sp ou tx nw tr di kp ik  h
  unfold pX8_readCommand_211 at h
  refine v_iconst hC (v := (nI 0)) dX8_readCommand_211 (by decide) rfl ?_
  exact bX8_readCommand_212 hC hr _ _ _ _ _ _ _ _ _ _ _ _ h
set_option maxHeartbeats 4000000 in
set_option maxRecDepth 100000 in
theorem bX8_readCommand_201 {p : Program} {l : Launch} {e : Env} {s : State} {m : MethodId} {args : Array Value} {below : List Frame} {meth : Method} {c : Code} {g : va_G} {cy : Nat → ClassId} (hC : CX p s m args meth c g cy 5 cX8_readCommand wsX8_readCommand RX8) (hr : meth.sig.returnType = (some .boolean)) {h0 ztx znw ztr zdi zkp zik : Nat} {A : Nat → Prop} {res : Int32 × Int32 × Int32 × (Nat → Int32)} : ∀ (rf : Int32) (sz : Int32) (ac : Int32) (sp : Int32) (ou : Int32) (tx : Nat → Int32) (nw : Nat → Int32) (tr : Nat → Int32) (di : Nat → Int32) (kp : Nat → Int32) (ik : Nat → Int32) (s0 : Int32)(h : pX8_readCommand_201 sz sp ou tx tr s0 = some res), V p l e (headSpec wsX8_readCommand rmX8_readCommand).room s m args below meth c g 5 0 0 (MQ below (QWi g A res.1 [(h0, .inr (6, [.int rf, .ref ztx, .int sz, .ref znw, .ref ztr, .ref zdi, .int ac, .ref zkp, .ref zik, .int res.2.1, .int res.2.2.1])), (ztx, .inl (cy 0, 120, .inl tx)), (znw, .inl (cy 0, 164, .inl nw)), (ztr, .inl (cy 0, 164, .inl res.2.2.2)), (zdi, .inl (cy 0, 2296, .inl di)), (zkp, .inl (cy 0, 328, .inl kp)), (zik, .inl (cy 1, 2, .inl ik))]) args s 0 0 A) A A [(h0, .inr (6, [.int rf, .ref ztx, .int sz, .ref znw, .ref ztr, .ref zdi, .int ac, .ref zkp, .ref zik, .int sp, .int ou])), (ztx, .inl (cy 0, 120, .inl tx)), (znw, .inl (cy 0, 164, .inl nw)), (ztr, .inl (cy 0, 164, .inl tr)), (zdi, .inl (cy 0, 2296, .inl di)), (zkp, .inl (cy 0, 328, .inl kp)), (zik, .inl (cy 1, 2, .inl ik))] 201 [] [.int s0, .ref h0] := by
  intro rf sz ac sp ou tx nw tr di kp ik s0 h
  unfold pX8_readCommand_201 at h
  obtain ⟨v1, hv1, h⟩ := bind_g h
  refine v_callVwi hC (n := 1) (st := []) [(h0, .inr (6, [.int rf, .ref ztx, .int sz, .ref znw, .ref ztr, .ref zdi, .int ac, .ref zkp, .ref zik, .int sp, .int v1.2])), (ztx, .inl (cy 0, 120, .inl tx)), (znw, .inl (cy 0, 164, .inl nw)), (ztr, .inl (cy 0, 164, .inl tr)), (zdi, .inl (cy 0, 2296, .inl di)), (zkp, .inl (cy 0, 328, .inl kp)), (zik, .inl (cy 1, 2, .inl ik))] _ (mX8_done l g cy h0 ztx znw ztr zdi zkp zik rf sz ac sp ou tx nw tr di kp ik s0 hv1) gX8_readCommand_X8_done rfl rfl rfl (by decide +kernel) ⟨Nat.le_of_ble_eq_true rfl, Nat.le_of_ble_eq_true rfl⟩ 0 rfl rfl [0, 1, 2, 3, 4, 5, 6] [] rfl rfl rfl rfl rfl rfl rfl rfl rfl (Nat.le_of_ble_eq_true rfl) rfl ⟨Nat.zero_le _, Nat.zero_le _⟩ dX8_readCommand_201 rfl ?_
  refine v_if_eq hC (tgt := 211) dX8_readCommand_204 (by decide) rfl (fun c => ?_) (fun c => ?_)
  · have h := ite_t c h
    exact bX8_readCommand_211 hC hr _ _ _ _ _ _ _ _ _ _ _ h
  · have h := ite_f c h
    refine v_iconst hC (v := (nI 1)) dX8_readCommand_207 (by decide) rfl ?_
    refine v_goto hC (tgt := 212) dX8_readCommand_208 (by decide) ?_
    exact bX8_readCommand_212 hC hr _ _ _ _ _ _ _ _ _ _ _ _ h
set_option maxHeartbeats 4000000 in
set_option maxRecDepth 100000 in
theorem bX8_readCommand_200 {p : Program} {l : Launch} {e : Env} {s : State} {m : MethodId} {args : Array Value} {below : List Frame} {meth : Method} {c : Code} {g : va_G} {cy : Nat → ClassId} (hC : CX p s m args meth c g cy 5 cX8_readCommand wsX8_readCommand RX8) (hr : meth.sig.returnType = (some .boolean)) {h0 ztx znw ztr zdi zkp zik : Nat} {A : Nat → Prop} {res : Int32 × Int32 × Int32 × (Nat → Int32)} : ∀ (rf : Int32) (sz : Int32) (ac : Int32) (sp : Int32) (ou : Int32) (tx : Nat → Int32) (nw : Nat → Int32) (tr : Nat → Int32) (di : Nat → Int32) (kp : Nat → Int32) (ik : Nat → Int32) (h : pX8_readCommand_200 sz sp ou tx tr = some res), V p l e (headSpec wsX8_readCommand rmX8_readCommand).room s m args below meth c g 5 0 0 (MQ below (QWi g A res.1 [(h0, .inr (6, [.int rf, .ref ztx, .int sz, .ref znw, .ref ztr, .ref zdi, .int ac, .ref zkp, .ref zik, .int res.2.1, .int res.2.2.1])), (ztx, .inl (cy 0, 120, .inl tx)), (znw, .inl (cy 0, 164, .inl nw)), (ztr, .inl (cy 0, 164, .inl res.2.2.2)), (zdi, .inl (cy 0, 2296, .inl di)), (zkp, .inl (cy 0, 328, .inl kp)), (zik, .inl (cy 1, 2, .inl ik))]) args s 0 0 A) A A [(h0, .inr (6, [.int rf, .ref ztx, .int sz, .ref znw, .ref ztr, .ref zdi, .int ac, .ref zkp, .ref zik, .int sp, .int ou])), (ztx, .inl (cy 0, 120, .inl tx)), (znw, .inl (cy 0, 164, .inl nw)), (ztr, .inl (cy 0, 164, .inl tr)), (zdi, .inl (cy 0, 2296, .inl di)), (zkp, .inl (cy 0, 328, .inl kp)), (zik, .inl (cy 1, 2, .inl ik))] 200 [] [.ref h0] := by
  intro rf sz ac sp ou tx nw tr di kp ik  h
  unfold pX8_readCommand_200 at h
  refine v_iconst hC (v := (nI 0)) dX8_readCommand_200 (by decide) rfl ?_
  exact bX8_readCommand_201 hC hr _ _ _ _ _ _ _ _ _ _ _ _ h
set_option maxHeartbeats 4000000 in
set_option maxRecDepth 100000 in
theorem bX8_readCommand_226 {p : Program} {l : Launch} {e : Env} {s : State} {m : MethodId} {args : Array Value} {below : List Frame} {meth : Method} {c : Code} {g : va_G} {cy : Nat → ClassId} (hC : CX p s m args meth c g cy 5 cX8_readCommand wsX8_readCommand RX8) (hr : meth.sig.returnType = (some .boolean)) {h0 ztx znw ztr zdi zkp zik : Nat} {A : Nat → Prop} {res : Int32 × Int32 × Int32 × (Nat → Int32)} : ∀ (rf : Int32) (sz : Int32) (ac : Int32) (sp : Int32) (ou : Int32) (tx : Nat → Int32) (nw : Nat → Int32) (tr : Nat → Int32) (di : Nat → Int32) (kp : Nat → Int32) (ik : Nat → Int32) (s0 : Int32)(h : pX8_readCommand_226 sz sp ou tx tr s0 = some res), V p l e (headSpec wsX8_readCommand rmX8_readCommand).room s m args below meth c g 5 0 0 (MQ below (QWi g A res.1 [(h0, .inr (6, [.int rf, .ref ztx, .int sz, .ref znw, .ref ztr, .ref zdi, .int ac, .ref zkp, .ref zik, .int res.2.1, .int res.2.2.1])), (ztx, .inl (cy 0, 120, .inl tx)), (znw, .inl (cy 0, 164, .inl nw)), (ztr, .inl (cy 0, 164, .inl res.2.2.2)), (zdi, .inl (cy 0, 2296, .inl di)), (zkp, .inl (cy 0, 328, .inl kp)), (zik, .inl (cy 1, 2, .inl ik))]) args s 0 0 A) A A [(h0, .inr (6, [.int rf, .ref ztx, .int sz, .ref znw, .ref ztr, .ref zdi, .int ac, .ref zkp, .ref zik, .int sp, .int ou])), (ztx, .inl (cy 0, 120, .inl tx)), (znw, .inl (cy 0, 164, .inl nw)), (ztr, .inl (cy 0, 164, .inl tr)), (zdi, .inl (cy 0, 2296, .inl di)), (zkp, .inl (cy 0, 328, .inl kp)), (zik, .inl (cy 1, 2, .inl ik))] 226 [] [.int s0, .ref h0] := by
  intro rf sz ac sp ou tx nw tr di kp ik s0 h
  unfold pX8_readCommand_226 at h
  obtain ⟨v1, hv1, h⟩ := bind_g h
  refine v_callVwi hC (n := 1) (st := []) [(h0, .inr (6, [.int rf, .ref ztx, .int sz, .ref znw, .ref ztr, .ref zdi, .int ac, .ref zkp, .ref zik, .int sp, .int v1.2])), (ztx, .inl (cy 0, 120, .inl tx)), (znw, .inl (cy 0, 164, .inl nw)), (ztr, .inl (cy 0, 164, .inl tr)), (zdi, .inl (cy 0, 2296, .inl di)), (zkp, .inl (cy 0, 328, .inl kp)), (zik, .inl (cy 1, 2, .inl ik))] _ (mX8_done l g cy h0 ztx znw ztr zdi zkp zik rf sz ac sp ou tx nw tr di kp ik s0 hv1) gX8_readCommand_X8_done rfl rfl rfl (by decide +kernel) ⟨Nat.le_of_ble_eq_true rfl, Nat.le_of_ble_eq_true rfl⟩ 0 rfl rfl [0, 1, 2, 3, 4, 5, 6] [] rfl rfl rfl rfl rfl rfl rfl rfl rfl (Nat.le_of_ble_eq_true rfl) rfl ⟨Nat.zero_le _, Nat.zero_le _⟩ dX8_readCommand_226 rfl ?_
  obtain ⟨b2, hb9, h⟩ := bind_g h
  obtain ⟨e9, hn⟩ := bz_g hb9
  obtain rfl := Option.some.inj h
  exact v_irw hC hr hn e9 dX8_readCommand_229
set_option maxHeartbeats 4000000 in
set_option maxRecDepth 100000 in
theorem bX8_readCommand_243 {p : Program} {l : Launch} {e : Env} {s : State} {m : MethodId} {args : Array Value} {below : List Frame} {meth : Method} {c : Code} {g : va_G} {cy : Nat → ClassId} (hC : CX p s m args meth c g cy 5 cX8_readCommand wsX8_readCommand RX8) (hr : meth.sig.returnType = (some .boolean)) {h0 ztx znw ztr zdi zkp zik : Nat} {A : Nat → Prop} {res : Int32 × Int32 × Int32 × (Nat → Int32)} : ∀ (rf : Int32) (sz : Int32) (ac : Int32) (sp : Int32) (ou : Int32) (tx : Nat → Int32) (nw : Nat → Int32) (tr : Nat → Int32) (di : Nat → Int32) (kp : Nat → Int32) (ik : Nat → Int32) (s0 : Int32)(h : pX8_readCommand_243 sz sp ou tx tr s0 = some res), V p l e (headSpec wsX8_readCommand rmX8_readCommand).room s m args below meth c g 5 0 0 (MQ below (QWi g A res.1 [(h0, .inr (6, [.int rf, .ref ztx, .int sz, .ref znw, .ref ztr, .ref zdi, .int ac, .ref zkp, .ref zik, .int res.2.1, .int res.2.2.1])), (ztx, .inl (cy 0, 120, .inl tx)), (znw, .inl (cy 0, 164, .inl nw)), (ztr, .inl (cy 0, 164, .inl res.2.2.2)), (zdi, .inl (cy 0, 2296, .inl di)), (zkp, .inl (cy 0, 328, .inl kp)), (zik, .inl (cy 1, 2, .inl ik))]) args s 0 0 A) A A [(h0, .inr (6, [.int rf, .ref ztx, .int sz, .ref znw, .ref ztr, .ref zdi, .int ac, .ref zkp, .ref zik, .int sp, .int ou])), (ztx, .inl (cy 0, 120, .inl tx)), (znw, .inl (cy 0, 164, .inl nw)), (ztr, .inl (cy 0, 164, .inl tr)), (zdi, .inl (cy 0, 2296, .inl di)), (zkp, .inl (cy 0, 328, .inl kp)), (zik, .inl (cy 1, 2, .inl ik))] 243 [] [.int s0, .ref h0] := by
  intro rf sz ac sp ou tx nw tr di kp ik s0 h
  unfold pX8_readCommand_243 at h
  obtain ⟨v1, hv1, h⟩ := bind_g h
  refine v_callVwi hC (n := 1) (st := []) [(h0, .inr (6, [.int rf, .ref ztx, .int sz, .ref znw, .ref ztr, .ref zdi, .int ac, .ref zkp, .ref zik, .int sp, .int v1.2])), (ztx, .inl (cy 0, 120, .inl tx)), (znw, .inl (cy 0, 164, .inl nw)), (ztr, .inl (cy 0, 164, .inl tr)), (zdi, .inl (cy 0, 2296, .inl di)), (zkp, .inl (cy 0, 328, .inl kp)), (zik, .inl (cy 1, 2, .inl ik))] _ (mX8_done l g cy h0 ztx znw ztr zdi zkp zik rf sz ac sp ou tx nw tr di kp ik s0 hv1) gX8_readCommand_X8_done rfl rfl rfl (by decide +kernel) ⟨Nat.le_of_ble_eq_true rfl, Nat.le_of_ble_eq_true rfl⟩ 0 rfl rfl [0, 1, 2, 3, 4, 5, 6] [] rfl rfl rfl rfl rfl rfl rfl rfl rfl (Nat.le_of_ble_eq_true rfl) rfl ⟨Nat.zero_le _, Nat.zero_le _⟩ dX8_readCommand_243 rfl ?_
  obtain ⟨b2, hb9, h⟩ := bind_g h
  obtain ⟨e9, hn⟩ := bz_g hb9
  obtain rfl := Option.some.inj h
  exact v_irw hC hr hn e9 dX8_readCommand_246
set_option maxHeartbeats 4000000 in
set_option maxRecDepth 100000 in
theorem bX8_readCommand_247 {p : Program} {l : Launch} {e : Env} {s : State} {m : MethodId} {args : Array Value} {below : List Frame} {meth : Method} {c : Code} {g : va_G} {cy : Nat → ClassId} (hC : CX p s m args meth c g cy 5 cX8_readCommand wsX8_readCommand RX8) (hr : meth.sig.returnType = (some .boolean)) {h0 ztx znw ztr zdi zkp zik : Nat} {A : Nat → Prop} {res : Int32 × Int32 × Int32 × (Nat → Int32)} : ∀ (rf : Int32) (sz : Int32) (ac : Int32) (sp : Int32) (ou : Int32) (tx : Nat → Int32) (nw : Nat → Int32) (tr : Nat → Int32) (di : Nat → Int32) (kp : Nat → Int32) (ik : Nat → Int32) (h : pX8_readCommand_247 sz sp ou tx tr = some res), V p l e (headSpec wsX8_readCommand rmX8_readCommand).room s m args below meth c g 5 0 0 (MQ below (QWi g A res.1 [(h0, .inr (6, [.int rf, .ref ztx, .int sz, .ref znw, .ref ztr, .ref zdi, .int ac, .ref zkp, .ref zik, .int res.2.1, .int res.2.2.1])), (ztx, .inl (cy 0, 120, .inl tx)), (znw, .inl (cy 0, 164, .inl nw)), (ztr, .inl (cy 0, 164, .inl res.2.2.2)), (zdi, .inl (cy 0, 2296, .inl di)), (zkp, .inl (cy 0, 328, .inl kp)), (zik, .inl (cy 1, 2, .inl ik))]) args s 0 0 A) A A [(h0, .inr (6, [.int rf, .ref ztx, .int sz, .ref znw, .ref ztr, .ref zdi, .int ac, .ref zkp, .ref zik, .int sp, .int ou])), (ztx, .inl (cy 0, 120, .inl tx)), (znw, .inl (cy 0, 164, .inl nw)), (ztr, .inl (cy 0, 164, .inl tr)), (zdi, .inl (cy 0, 2296, .inl di)), (zkp, .inl (cy 0, 328, .inl kp)), (zik, .inl (cy 1, 2, .inl ik))] 247 [(0, .ref h0)] [] := by
  intro rf sz ac sp ou tx nw tr di kp ik  h
  unfold pX8_readCommand_247 at h
  refine v_aload_n hC dX8_readCommand_247 rfl 0 rfl rfl ?_
  refine v_dup hC dX8_readCommand_248 rfl rfl ?_
  refine v_get hC iX8_readCommand_X8 0 rfl rfl 9 (by decide) kX8_readCommand_129 rfl rfl dX8_readCommand_249 rfl ?_
  refine v_iconst hC (v := (nI 1)) dX8_readCommand_252 (by decide) rfl ?_
  refine v_isub hC dX8_readCommand_253 rfl ?_
  refine v_put hC iX8_readCommand_X8 tyX8 tyX8_ok nmX8 0 rfl rfl 9 (by decide) kX8_readCommand_129 rfl rfl (ty := .int) (by decide +kernel) rfl rfl (Nat.le_of_ble_eq_true rfl) dX8_readCommand_254 [(h0, .inr (6, [.int rf, .ref ztx, .int sz, .ref znw, .ref ztr, .ref zdi, .int ac, .ref zkp, .ref zik, .int (sp - (nI 1)), .int ou])), (ztx, .inl (cy 0, 120, .inl tx)), (znw, .inl (cy 0, 164, .inl nw)), (ztr, .inl (cy 0, 164, .inl tr)), (zdi, .inl (cy 0, 2296, .inl di)), (zkp, .inl (cy 0, 328, .inl kp)), (zik, .inl (cy 1, 2, .inl ik))] rfl rfl ?_
  refine v_iconst hC (v := (nI 0)) dX8_readCommand_257 (by decide) rfl ?_
  obtain rfl := Option.some.inj h
  exact v_irw hC hr rfl rfl dX8_readCommand_258
set_option maxHeartbeats 4000000 in
set_option maxRecDepth 100000 in
theorem mX8_readCommand (l : Launch) (g : va_G) (cy : Nat → ClassId) (h0 ztx znw ztr zdi zkp zik : Nat) (rf : Int32) (sz : Int32) (ac : Int32) (sp : Int32) (ou : Int32) (tx : Nat → Int32) (nw : Nat → Int32) (tr : Nat → Int32) (di : Nat → Int32) (kp : Nat → Int32) (ik : Nat → Int32)  {res : Int32 × Int32 × Int32 × (Nat → Int32)} (h : pX8_readCommand sz sp ou tx tr = some res) : Met l yX8_readCommand wsX8_readCommand rmX8_readCommand (PW [.ref h0, .ref ztr] g cy [(h0, .inr (6, [.int rf, .ref ztx, .int sz, .ref znw, .ref ztr, .ref zdi, .int ac, .ref zkp, .ref zik, .int sp, .int ou])), (ztx, .inl (cy 0, 120, .inl tx)), (znw, .inl (cy 0, 164, .inl nw)), (ztr, .inl (cy 0, 164, .inl tr)), (zdi, .inl (cy 0, 2296, .inl di)), (zkp, .inl (cy 0, 328, .inl kp)), (zik, .inl (cy 1, 2, .inl ik))]) (QWi g (wA [(h0, .inr (6, [.int rf, .ref ztx, .int sz, .ref znw, .ref ztr, .ref zdi, .int ac, .ref zkp, .ref zik, .int sp, .int ou])), (ztx, .inl (cy 0, 120, .inl tx)), (znw, .inl (cy 0, 164, .inl nw)), (ztr, .inl (cy 0, 164, .inl tr)), (zdi, .inl (cy 0, 2296, .inl di)), (zkp, .inl (cy 0, 328, .inl kp)), (zik, .inl (cy 1, 2, .inl ik))]) res.1 [(h0, .inr (6, [.int rf, .ref ztx, .int sz, .ref znw, .ref ztr, .ref zdi, .int ac, .ref zkp, .ref zik, .int res.2.1, .int res.2.2.1])), (ztx, .inl (cy 0, 120, .inl tx)), (znw, .inl (cy 0, 164, .inl nw)), (ztr, .inl (cy 0, 164, .inl res.2.2.2)), (zdi, .inl (cy 0, 2296, .inl di)), (zkp, .inl (cy 0, 328, .inl kp)), (zik, .inl (cy 1, 2, .inl ik))]) 0 0 (wA [(h0, .inr (6, [.int rf, .ref ztx, .int sz, .ref znw, .ref ztr, .ref zdi, .int ac, .ref zkp, .ref zik, .int sp, .int ou])), (ztx, .inl (cy 0, 120, .inl tx)), (znw, .inl (cy 0, 164, .inl nw)), (ztr, .inl (cy 0, 164, .inl tr)), (zdi, .inl (cy 0, 2296, .inl di)), (zkp, .inl (cy 0, 328, .inl kp)), (zik, .inl (cy 1, 2, .inl ik))]) := by
  refine m_ofV (cc := cX8_readCommand) (nL := 5) (ret := (some .boolean)) (B := (wA [(h0, .inr (6, [.int rf, .ref ztx, .int sz, .ref znw, .ref ztr, .ref zdi, .int ac, .ref zkp, .ref zik, .int sp, .int ou])), (ztx, .inl (cy 0, 120, .inl tx)), (znw, .inl (cy 0, 164, .inl nw)), (ztr, .inl (cy 0, 164, .inl tr)), (zdi, .inl (cy 0, 2296, .inl di)), (zkp, .inl (cy 0, 328, .inl kp)), (zik, .inl (cy 1, 2, .inl ik))])) RX8 rfl (by decide) rfl [(0, .ref h0), (1, .ref ztr)] rfl (Nat.le_of_ble_eq_true rfl) (wA.self) ?_
  intro p e s m args below meth c hC hr
  generalize (wA [(h0, .inr (6, [.int rf, .ref ztx, .int sz, .ref znw, .ref ztr, .ref zdi, .int ac, .ref zkp, .ref zik, .int sp, .int ou])), (ztx, .inl (cy 0, 120, .inl tx)), (znw, .inl (cy 0, 164, .inl nw)), (ztr, .inl (cy 0, 164, .inl tr)), (zdi, .inl (cy 0, 2296, .inl di)), (zkp, .inl (cy 0, 328, .inl kp)), (zik, .inl (cy 1, 2, .inl ik))]) = A
  unfold pX8_readCommand at h
  refine v_aload_n hC dX8_readCommand_0 rfl 0 rfl rfl ?_
  refine v_get hC iX8_readCommand_X8 0 rfl rfl 1 (by decide) kX8_readCommand_7 rfl rfl dX8_readCommand_1 rfl ?_
  refine v_aload_n hC dX8_readCommand_4 rfl 0 rfl rfl ?_
  refine v_get hC iX8_readCommand_X8 0 rfl rfl 9 (by decide) kX8_readCommand_129 rfl rfl dX8_readCommand_5 rfl ?_
  obtain ⟨hn, h⟩ := ite_g h
  refine v_iald hC 1 rfl hn dX8_readCommand_8 rfl ?_
  refine v_istore_n hC dX8_readCommand_9 rfl (by decide) [(2, .int (tx sp.toNatClampNeg)), (0, .ref h0), (1, .ref ztr)] rfl rfl ?_
  refine v_aload_n hC dX8_readCommand_10 rfl 1 rfl rfl ?_
  refine v_dup hC dX8_readCommand_11 rfl rfl ?_
  refine v_get hC iX8_readCommand_X8 0 rfl rfl 9 (by decide) kX8_readCommand_129 rfl rfl dX8_readCommand_12 rfl ?_
  refine v_iconst hC (v := (nI 1)) dX8_readCommand_15 (by decide) rfl ?_
  refine v_iadd hC dX8_readCommand_16 rfl ?_
  refine v_put hC iX8_readCommand_X8 tyX8 tyX8_ok nmX8 0 rfl rfl 9 (by decide) kX8_readCommand_129 rfl rfl (ty := .int) (by decide +kernel) rfl rfl (Nat.le_of_ble_eq_true rfl) dX8_readCommand_17 [(h0, .inr (6, [.int rf, .ref ztx, .int sz, .ref znw, .ref ztr, .ref zdi, .int ac, .ref zkp, .ref zik, .int (sp + (nI 1)), .int ou])), (ztx, .inl (cy 0, 120, .inl tx)), (znw, .inl (cy 0, 164, .inl nw)), (ztr, .inl (cy 0, 164, .inl tr)), (zdi, .inl (cy 0, 2296, .inl di)), (zkp, .inl (cy 0, 328, .inl kp)), (zik, .inl (cy 1, 2, .inl ik))] rfl rfl ?_
  refine v_iload_n hC dX8_readCommand_20 rfl 0 rfl rfl ?_
  by_cases c101 : (tx sp.toNatClampNeg) = (nI 101)
  · have h := ite_t c101 h
    refine v_tswI hC (v := (nI 101)) (tgt := 96) dX8_readCommand_21 c101 (by decide) (by decide) rfl (by decide) ?_
    refine v_aload_n hC dX8_readCommand_96 rfl 1 rfl rfl ?_
    refine v_iconst hC (v := (nI 0)) dX8_readCommand_97 (by decide) rfl ?_
    refine v_iconst hC (v := (nI 1)) dX8_readCommand_98 (by decide) rfl ?_
    refine v_iconst hC (v := (nI 0)) dX8_readCommand_99 (by decide) rfl ?_
    refine v_iconst hC (v := (nI 4)) dX8_readCommand_100 (by decide) rfl ?_
    obtain ⟨v1, hv1, h⟩ := bind_g h
    refine v_callVwi hC (n := 4) (st := []) [(h0, .inr (6, [.int rf, .ref ztx, .int sz, .ref znw, .ref ztr, .ref zdi, .int ac, .ref zkp, .ref zik, .int v1.2, .int ou])), (ztx, .inl (cy 0, 120, .inl tx)), (znw, .inl (cy 0, 164, .inl nw)), (ztr, .inl (cy 0, 164, .inl tr)), (zdi, .inl (cy 0, 2296, .inl di)), (zkp, .inl (cy 0, 328, .inl kp)), (zik, .inl (cy 1, 2, .inl ik))] _ (mX8_figures l g cy h0 ztx znw ztr zdi zkp zik rf sz ac (sp + (nI 1)) ou tx nw tr di kp ik (nI 0) (nI 1) (nI 0) (nI 4) hv1) gX8_readCommand_X8_figures rfl rfl rfl (by decide +kernel) ⟨Nat.le_of_ble_eq_true rfl, Nat.le_of_ble_eq_true rfl⟩ 0 rfl rfl [0, 1, 2, 3, 4, 5, 6] [] rfl rfl rfl rfl rfl rfl rfl rfl rfl (Nat.le_of_ble_eq_true rfl) rfl ⟨Nat.zero_le _, Nat.zero_le _⟩ dX8_readCommand_101 rfl ?_
    refine v_istore_n hC dX8_readCommand_104 rfl (by decide) [(3, .int v1.1), (2, .int (tx sp.toNatClampNeg)), (0, .ref h0), (1, .ref ztr)] rfl rfl ?_
    refine v_aload_n hC dX8_readCommand_105 rfl 2 rfl rfl ?_
    refine v_iload_n hC dX8_readCommand_106 rfl 0 rfl rfl ?_
    refine v_iconst hC (v := (nI 2)) dX8_readCommand_107 (by decide) rfl ?_
    refine v_iconst hC (v := (nI 0)) dX8_readCommand_108 (by decide) rfl ?_
    refine v_bipush hC (v := (nI 13)) dX8_readCommand_109 (by decide) rfl ?_
    obtain ⟨v2, hv2, h⟩ := bind_g h
    refine v_callVwi hC (n := 4) (st := []) [(h0, .inr (6, [.int rf, .ref ztx, .int sz, .ref znw, .ref ztr, .ref zdi, .int ac, .ref zkp, .ref zik, .int v2.2, .int ou])), (ztx, .inl (cy 0, 120, .inl tx)), (znw, .inl (cy 0, 164, .inl nw)), (ztr, .inl (cy 0, 164, .inl tr)), (zdi, .inl (cy 0, 2296, .inl di)), (zkp, .inl (cy 0, 328, .inl kp)), (zik, .inl (cy 1, 2, .inl ik))] _ (mX8_figures l g cy h0 ztx znw ztr zdi zkp zik rf sz ac v1.2 ou tx nw tr di kp ik v1.1 (nI 2) (nI 0) (nI 13) hv2) gX8_readCommand_X8_figures rfl rfl rfl (by decide +kernel) ⟨Nat.le_of_ble_eq_true rfl, Nat.le_of_ble_eq_true rfl⟩ 0 rfl rfl [0, 1, 2, 3, 4, 5, 6] [] rfl rfl rfl rfl rfl rfl rfl rfl rfl (Nat.le_of_ble_eq_true rfl) rfl ⟨Nat.zero_le _, Nat.zero_le _⟩ dX8_readCommand_111 rfl ?_
    refine v_istore hC dX8_readCommand_114 (by decide) [(4, .int v2.1), (3, .int v1.1), (2, .int (tx sp.toNatClampNeg)), (0, .ref h0), (1, .ref ztr)] rfl rfl ?_
    refine v_iload hC dX8_readCommand_116 0 rfl rfl ?_
    refine v_iconst hC (v := (-1)) dX8_readCommand_118 (by decide) rfl ?_
    refine v_icmp_eq hC (tgt := 156) dX8_readCommand_119 (by decide) rfl (fun c => ?_) (fun c => ?_)
    · have h := ite_t c h
      exact v_sub [] (lv' := []) rfl (bX8_readCommand_156 hC hr _ _ _ _ _ _ _ _ _ _ _ h)
    · have h := ite_f c h
      refine v_aload_n hC dX8_readCommand_122 rfl 3 rfl rfl ?_
      refine v_aload_n hC dX8_readCommand_123 rfl 4 rfl rfl ?_
      refine v_iconst hC (v := (nI 0)) dX8_readCommand_124 (by decide) rfl ?_
      obtain ⟨hn, h⟩ := ite_g h
      refine v_iald hC 3 rfl hn dX8_readCommand_125 rfl ?_
      refine v_bipush hC (v := (nI 14)) dX8_readCommand_126 (by decide) rfl ?_
      refine v_icmp_ge hC (tgt := 145) dX8_readCommand_128 (by decide) rfl (fun c => ?_) (fun c => ?_)
      · have h := ite_t c h
        exact v_sub [] (lv' := []) rfl (bX8_readCommand_145 hC hr _ _ _ _ _ _ _ _ _ _ _ h)
      · have h := ite_f c h
        refine v_aload_n hC dX8_readCommand_131 rfl 4 rfl rfl ?_
        refine v_iload_n hC dX8_readCommand_132 rfl 1 rfl rfl ?_
        refine v_iload hC dX8_readCommand_133 0 rfl rfl ?_
        obtain ⟨v3, hv3, h⟩ := bind_g h
        refine v_callSwi hC (n := 3) (st := [.ref h0]) [(h0, .inr (6, [.int rf, .ref ztx, .int sz, .ref znw, .ref ztr, .ref zdi, .int ac, .ref zkp, .ref zik, .int v2.2, .int ou])), (ztx, .inl (cy 0, 120, .inl tx)), (znw, .inl (cy 0, 164, .inl nw)), (ztr, .inl (cy 0, 164, .inl v3.2)), (zdi, .inl (cy 0, 2296, .inl di)), (zkp, .inl (cy 0, 328, .inl kp)), (zik, .inl (cy 1, 2, .inl ik))] _ (mX8_extraOn l g cy ztr tr v1.1 v2.1 hv3) gX8_readCommand_X8_extraOn rfl rfl rfl (by decide +kernel) ⟨Nat.le_of_ble_eq_true rfl, Nat.le_of_ble_eq_true rfl⟩ [3] [0, 1, 2, 4, 5, 6] rfl rfl rfl rfl rfl rfl rfl rfl rfl (Nat.le_of_ble_eq_true rfl) rfl ⟨Nat.zero_le _, Nat.zero_le _⟩ dX8_readCommand_135 rfl ?_
        refine v_if_lt hC (tgt := 145) dX8_readCommand_138 (by decide) rfl (fun c => ?_) (fun c => ?_)
        · have h := ite_t c h
          exact v_sub [] (lv' := []) rfl (bX8_readCommand_145 hC hr _ _ _ _ _ _ _ _ _ _ _ h)
        · have h := ite_f c h
          refine v_iconst hC (v := (nI 1)) dX8_readCommand_141 (by decide) rfl ?_
          refine v_goto hC (tgt := 146) dX8_readCommand_142 (by decide) ?_
          exact v_sub [] (lv' := []) rfl (bX8_readCommand_146 hC hr _ _ _ _ _ _ _ _ _ _ _ _ h)
  · have h := ite_f c101 h
    by_cases c103 : (tx sp.toNatClampNeg) = (nI 103)
    · have h := ite_t c103 h
      refine v_tswI hC (v := (nI 103)) (tgt := 164) dX8_readCommand_21 c103 (by decide) (by decide) rfl (by decide) ?_
      refine v_aload_n hC dX8_readCommand_164 rfl 1 rfl rfl ?_
      refine v_iconst hC (v := (nI 0)) dX8_readCommand_165 (by decide) rfl ?_
      refine v_iconst hC (v := (nI 1)) dX8_readCommand_166 (by decide) rfl ?_
      refine v_iconst hC (v := (nI 0)) dX8_readCommand_167 (by decide) rfl ?_
      refine v_bipush hC (v := (nI 9)) dX8_readCommand_168 (by decide) rfl ?_
      obtain ⟨v4, hv4, h⟩ := bind_g h
      refine v_callVwi hC (n := 4) (st := []) [(h0, .inr (6, [.int rf, .ref ztx, .int sz, .ref znw, .ref ztr, .ref zdi, .int ac, .ref zkp, .ref zik, .int v4.2, .int ou])), (ztx, .inl (cy 0, 120, .inl tx)), (znw, .inl (cy 0, 164, .inl nw)), (ztr, .inl (cy 0, 164, .inl tr)), (zdi, .inl (cy 0, 2296, .inl di)), (zkp, .inl (cy 0, 328, .inl kp)), (zik, .inl (cy 1, 2, .inl ik))] _ (mX8_figures l g cy h0 ztx znw ztr zdi zkp zik rf sz ac (sp + (nI 1)) ou tx nw tr di kp ik (nI 0) (nI 1) (nI 0) (nI 9) hv4) gX8_readCommand_X8_figures rfl rfl rfl (by decide +kernel) ⟨Nat.le_of_ble_eq_true rfl, Nat.le_of_ble_eq_true rfl⟩ 0 rfl rfl [0, 1, 2, 3, 4, 5, 6] [] rfl rfl rfl rfl rfl rfl rfl rfl rfl (Nat.le_of_ble_eq_true rfl) rfl ⟨Nat.zero_le _, Nat.zero_le _⟩ dX8_readCommand_170 rfl ?_
      refine v_istore_n hC dX8_readCommand_173 rfl (by decide) [(3, .int v4.1), (2, .int (tx sp.toNatClampNeg)), (0, .ref h0), (1, .ref ztr)] rfl rfl ?_
      refine v_iload_n hC dX8_readCommand_174 rfl 0 rfl rfl ?_
      refine v_iconst hC (v := (-1)) dX8_readCommand_175 (by decide) rfl ?_
      refine v_icmp_eq hC (tgt := 211) dX8_readCommand_176 (by decide) rfl (fun c => ?_) (fun c => ?_)
      · have h := ite_t c h
        exact v_sub [] (lv' := []) rfl (bX8_readCommand_211 hC hr _ _ _ _ _ _ _ _ _ _ _ h)
      · have h := ite_f c h
        refine v_aload_n hC dX8_readCommand_179 rfl 2 rfl rfl ?_
        refine v_aload_n hC dX8_readCommand_180 rfl 3 rfl rfl ?_
        refine v_iload_n hC dX8_readCommand_181 rfl 0 rfl rfl ?_
        obtain ⟨v5, hv5, h⟩ := bind_g h
        refine v_callSri hC (n := 2) (st := [.ref h0]) (mX8_canShoot l g cy ztr tr v4.1 hv5) gX8_readCommand_X8_canShoot rfl rfl rfl (by decide +kernel) ⟨Nat.le_of_ble_eq_true rfl, Nat.le_of_ble_eq_true rfl⟩ [3] rfl rfl rfl rfl (Nat.le_of_ble_eq_true rfl) rfl ⟨Nat.zero_le _, Nat.zero_le _⟩ dX8_readCommand_182 rfl ?_
        refine v_if_eq hC (tgt := 200) dX8_readCommand_185 (by decide) rfl (fun c => ?_) (fun c => ?_)
        · have h := ite_t c h
          exact v_sub [] (lv' := []) rfl (bX8_readCommand_200 hC hr _ _ _ _ _ _ _ _ _ _ _ h)
        · have h := ite_f c h
          refine v_aload_n hC dX8_readCommand_188 rfl 3 rfl rfl ?_
          refine v_iload_n hC dX8_readCommand_189 rfl 0 rfl rfl ?_
          obtain ⟨v6, hv6, h⟩ := bind_g h
          refine v_callSwi hC (n := 2) (st := [.ref h0]) [(h0, .inr (6, [.int rf, .ref ztx, .int sz, .ref znw, .ref ztr, .ref zdi, .int ac, .ref zkp, .ref zik, .int v4.2, .int ou])), (ztx, .inl (cy 0, 120, .inl tx)), (znw, .inl (cy 0, 164, .inl nw)), (ztr, .inl (cy 0, 164, .inl v6.2)), (zdi, .inl (cy 0, 2296, .inl di)), (zkp, .inl (cy 0, 328, .inl kp)), (zik, .inl (cy 1, 2, .inl ik))] _ (mX8_shootOn l g cy ztr tr v4.1 hv6) gX8_readCommand_X8_shootOn rfl rfl rfl (by decide +kernel) ⟨Nat.le_of_ble_eq_true rfl, Nat.le_of_ble_eq_true rfl⟩ [3] [0, 1, 2, 4, 5, 6] rfl rfl rfl rfl rfl rfl rfl rfl rfl (Nat.le_of_ble_eq_true rfl) rfl ⟨Nat.zero_le _, Nat.zero_le _⟩ dX8_readCommand_190 rfl ?_
          refine v_if_le hC (tgt := 200) dX8_readCommand_193 (by decide) rfl (fun c => ?_) (fun c => ?_)
          · have h := ite_t c h
            exact v_sub [] (lv' := []) rfl (bX8_readCommand_200 hC hr _ _ _ _ _ _ _ _ _ _ _ h)
          · have h := ite_f c h
            refine v_iconst hC (v := (nI 1)) dX8_readCommand_196 (by decide) rfl ?_
            refine v_goto hC (tgt := 201) dX8_readCommand_197 (by decide) ?_
            exact v_sub [] (lv' := []) rfl (bX8_readCommand_201 hC hr _ _ _ _ _ _ _ _ _ _ _ _ h)
    · have h := ite_f c103 h
      by_cases c109 : (tx sp.toNatClampNeg) = (nI 109)
      · have h := ite_t c109 h
        refine v_tswI hC (v := (nI 109)) (tgt := 213) dX8_readCommand_21 c109 (by decide) (by decide) rfl (by decide) ?_
        refine v_aload_n hC dX8_readCommand_213 rfl 1 rfl rfl ?_
        refine v_aload_n hC dX8_readCommand_214 rfl 2 rfl rfl ?_
        obtain ⟨v7, hv7, h⟩ := bind_g h
        refine v_callSwi hC (n := 1) (st := [.ref h0]) [(h0, .inr (6, [.int rf, .ref ztx, .int sz, .ref znw, .ref ztr, .ref zdi, .int ac, .ref zkp, .ref zik, .int (sp + (nI 1)), .int ou])), (ztx, .inl (cy 0, 120, .inl tx)), (znw, .inl (cy 0, 164, .inl nw)), (ztr, .inl (cy 0, 164, .inl v7.2)), (zdi, .inl (cy 0, 2296, .inl di)), (zkp, .inl (cy 0, 328, .inl kp)), (zik, .inl (cy 1, 2, .inl ik))] _ (mX8_mealOn l g cy ztr tr hv7) gX8_readCommand_X8_mealOn rfl rfl rfl (by decide +kernel) ⟨Nat.le_of_ble_eq_true rfl, Nat.le_of_ble_eq_true rfl⟩ [3] [0, 1, 2, 4, 5, 6] rfl rfl rfl rfl rfl rfl rfl rfl rfl (Nat.le_of_ble_eq_true rfl) rfl ⟨Nat.zero_le _, Nat.zero_le _⟩ dX8_readCommand_215 rfl ?_
        refine v_if_lt hC (tgt := 225) dX8_readCommand_218 (by decide) rfl (fun c => ?_) (fun c => ?_)
        · have h := ite_t c h
          refine v_iconst hC (v := (nI 0)) dX8_readCommand_225 (by decide) rfl ?_
          exact v_sub [] (lv' := []) rfl (bX8_readCommand_226 hC hr _ _ _ _ _ _ _ _ _ _ _ _ h)
        · have h := ite_f c h
          refine v_iconst hC (v := (nI 1)) dX8_readCommand_221 (by decide) rfl ?_
          refine v_goto hC (tgt := 226) dX8_readCommand_222 (by decide) ?_
          exact v_sub [] (lv' := []) rfl (bX8_readCommand_226 hC hr _ _ _ _ _ _ _ _ _ _ _ _ h)
      · have h := ite_f c109 h
        by_cases c110 : (tx sp.toNatClampNeg) = (nI 110)
        · have h := ite_t c110 h
          refine v_tswI hC (v := (nI 110)) (tgt := 230) dX8_readCommand_21 c110 (by decide) (by decide) rfl (by decide) ?_
          refine v_aload_n hC dX8_readCommand_230 rfl 1 rfl rfl ?_
          refine v_aload_n hC dX8_readCommand_231 rfl 2 rfl rfl ?_
          obtain ⟨v8, hv8, h⟩ := bind_g h
          refine v_callSwi hC (n := 1) (st := [.ref h0]) [(h0, .inr (6, [.int rf, .ref ztx, .int sz, .ref znw, .ref ztr, .ref zdi, .int ac, .ref zkp, .ref zik, .int (sp + (nI 1)), .int ou])), (ztx, .inl (cy 0, 120, .inl tx)), (znw, .inl (cy 0, 164, .inl nw)), (ztr, .inl (cy 0, 164, .inl v8.2)), (zdi, .inl (cy 0, 2296, .inl di)), (zkp, .inl (cy 0, 328, .inl kp)), (zik, .inl (cy 1, 2, .inl ik))] _ (mX8_nextOn l g cy ztr tr hv8) gX8_readCommand_X8_nextOn rfl rfl rfl (by decide +kernel) ⟨Nat.le_of_ble_eq_true rfl, Nat.le_of_ble_eq_true rfl⟩ [3] [0, 1, 2, 4, 5, 6] rfl rfl rfl rfl rfl rfl rfl rfl rfl (Nat.le_of_ble_eq_true rfl) rfl ⟨Nat.zero_le _, Nat.zero_le _⟩ dX8_readCommand_232 rfl ?_
          refine v_if_le hC (tgt := 242) dX8_readCommand_235 (by decide) rfl (fun c => ?_) (fun c => ?_)
          · have h := ite_t c h
            refine v_iconst hC (v := (nI 0)) dX8_readCommand_242 (by decide) rfl ?_
            exact v_sub [] (lv' := []) rfl (bX8_readCommand_243 hC hr _ _ _ _ _ _ _ _ _ _ _ _ h)
          · have h := ite_f c h
            refine v_iconst hC (v := (nI 1)) dX8_readCommand_238 (by decide) rfl ?_
            refine v_goto hC (tgt := 243) dX8_readCommand_239 (by decide) ?_
            exact v_sub [] (lv' := []) rfl (bX8_readCommand_243 hC hr _ _ _ _ _ _ _ _ _ _ _ _ h)
        · have h := ite_f c110 h
          by_cases c115 : (tx sp.toNatClampNeg) = (nI 115)
          · have h := ite_t c115 h
            refine v_tswI hC (v := (nI 115)) (tgt := 158) dX8_readCommand_21 c115 (by decide) (by decide) rfl (by decide) ?_
            refine v_aload_n hC dX8_readCommand_158 rfl 1 rfl rfl ?_
            refine v_aload_n hC dX8_readCommand_159 rfl 2 rfl rfl ?_
            obtain ⟨v9, hv9, h⟩ := bind_g h
            refine v_callVwi hC (n := 1) (st := []) [(h0, .inr (6, [.int rf, .ref ztx, .int sz, .ref znw, .ref ztr, .ref zdi, .int ac, .ref zkp, .ref zik, .int v9.2.1, .int v9.2.2.1])), (ztx, .inl (cy 0, 120, .inl tx)), (znw, .inl (cy 0, 164, .inl nw)), (ztr, .inl (cy 0, 164, .inl v9.2.2.2)), (zdi, .inl (cy 0, 2296, .inl di)), (zkp, .inl (cy 0, 328, .inl kp)), (zik, .inl (cy 1, 2, .inl ik))] _ (mX8_readScene l g cy h0 ztx znw ztr zdi zkp zik rf sz ac (sp + (nI 1)) ou tx nw tr di kp ik hv9) gX8_readCommand_X8_readScene rfl rfl rfl (by decide +kernel) ⟨Nat.le_of_ble_eq_true rfl, Nat.le_of_ble_eq_true rfl⟩ 0 rfl rfl [0, 1, 2, 3, 4, 5, 6] [] rfl rfl rfl rfl rfl rfl rfl rfl rfl (Nat.le_of_ble_eq_true rfl) rfl ⟨Nat.zero_le _, Nat.zero_le _⟩ dX8_readCommand_160 rfl ?_
            obtain ⟨b10, hb9, h⟩ := bind_g h
            obtain ⟨e9, hn⟩ := bz_g hb9
            obtain rfl := Option.some.inj h
            exact v_irw hC hr hn e9 dX8_readCommand_163
          · have h := ite_f c115 h
            by_cases c102 : (tx sp.toNatClampNeg) = (nI 102)
            · refine v_tswI hC (v := (nI 102)) (tgt := 247) dX8_readCommand_21 c102 (by decide) (by decide) rfl (by decide) ?_
              exact v_sub [1] (lv' := [(0, .ref h0)]) rfl (bX8_readCommand_247 hC hr _ _ _ _ _ _ _ _ _ _ _ h)
            · skip
              by_cases c104 : (tx sp.toNatClampNeg) = (nI 104)
              · refine v_tswI hC (v := (nI 104)) (tgt := 247) dX8_readCommand_21 c104 (by decide) (by decide) rfl (by decide) ?_
                exact v_sub [1] (lv' := [(0, .ref h0)]) rfl (bX8_readCommand_247 hC hr _ _ _ _ _ _ _ _ _ _ _ h)
              · skip
                by_cases c105 : (tx sp.toNatClampNeg) = (nI 105)
                · refine v_tswI hC (v := (nI 105)) (tgt := 247) dX8_readCommand_21 c105 (by decide) (by decide) rfl (by decide) ?_
                  exact v_sub [1] (lv' := [(0, .ref h0)]) rfl (bX8_readCommand_247 hC hr _ _ _ _ _ _ _ _ _ _ _ h)
                · skip
                  by_cases c106 : (tx sp.toNatClampNeg) = (nI 106)
                  · refine v_tswI hC (v := (nI 106)) (tgt := 247) dX8_readCommand_21 c106 (by decide) (by decide) rfl (by decide) ?_
                    exact v_sub [1] (lv' := [(0, .ref h0)]) rfl (bX8_readCommand_247 hC hr _ _ _ _ _ _ _ _ _ _ _ h)
                  · skip
                    by_cases c107 : (tx sp.toNatClampNeg) = (nI 107)
                    · refine v_tswI hC (v := (nI 107)) (tgt := 247) dX8_readCommand_21 c107 (by decide) (by decide) rfl (by decide) ?_
                      exact v_sub [1] (lv' := [(0, .ref h0)]) rfl (bX8_readCommand_247 hC hr _ _ _ _ _ _ _ _ _ _ _ h)
                    · skip
                      by_cases c108 : (tx sp.toNatClampNeg) = (nI 108)
                      · refine v_tswI hC (v := (nI 108)) (tgt := 247) dX8_readCommand_21 c108 (by decide) (by decide) rfl (by decide) ?_
                        exact v_sub [1] (lv' := [(0, .ref h0)]) rfl (bX8_readCommand_247 hC hr _ _ _ _ _ _ _ _ _ _ _ h)
                      · skip
                        by_cases c111 : (tx sp.toNatClampNeg) = (nI 111)
                        · refine v_tswI hC (v := (nI 111)) (tgt := 247) dX8_readCommand_21 c111 (by decide) (by decide) rfl (by decide) ?_
                          exact v_sub [1] (lv' := [(0, .ref h0)]) rfl (bX8_readCommand_247 hC hr _ _ _ _ _ _ _ _ _ _ _ h)
                        · skip
                          by_cases c112 : (tx sp.toNatClampNeg) = (nI 112)
                          · refine v_tswI hC (v := (nI 112)) (tgt := 247) dX8_readCommand_21 c112 (by decide) (by decide) rfl (by decide) ?_
                            exact v_sub [1] (lv' := [(0, .ref h0)]) rfl (bX8_readCommand_247 hC hr _ _ _ _ _ _ _ _ _ _ _ h)
                          · skip
                            by_cases c113 : (tx sp.toNatClampNeg) = (nI 113)
                            · refine v_tswI hC (v := (nI 113)) (tgt := 247) dX8_readCommand_21 c113 (by decide) (by decide) rfl (by decide) ?_
                              exact v_sub [1] (lv' := [(0, .ref h0)]) rfl (bX8_readCommand_247 hC hr _ _ _ _ _ _ _ _ _ _ _ h)
                            · skip
                              by_cases c114 : (tx sp.toNatClampNeg) = (nI 114)
                              · refine v_tswI hC (v := (nI 114)) (tgt := 247) dX8_readCommand_21 c114 (by decide) (by decide) rfl (by decide) ?_
                                exact v_sub [1] (lv' := [(0, .ref h0)]) rfl (bX8_readCommand_247 hC hr _ _ _ _ _ _ _ _ _ _ _ h)
                              · skip
                                refine v_tswO hC (tgt := 247) dX8_readCommand_21 (by have e101 := ne_I (z := 101) (by decide) c101; have e102 := ne_I (z := 102) (by decide) c102; have e103 := ne_I (z := 103) (by decide) c103; have e104 := ne_I (z := 104) (by decide) c104; have e105 := ne_I (z := 105) (by decide) c105; have e106 := ne_I (z := 106) (by decide) c106; have e107 := ne_I (z := 107) (by decide) c107; have e108 := ne_I (z := 108) (by decide) c108; have e109 := ne_I (z := 109) (by decide) c109; have e110 := ne_I (z := 110) (by decide) c110; have e111 := ne_I (z := 111) (by decide) c111; have e112 := ne_I (z := 112) (by decide) c112; have e113 := ne_I (z := 113) (by decide) c113; have e114 := ne_I (z := 114) (by decide) c114; have e115 := ne_I (z := 115) (by decide) c115; omega) (by decide) ?_
                                exact v_sub [1] (lv' := [(0, .ref h0)]) rfl (bX8_readCommand_247 hC hr _ _ _ _ _ _ _ _ _ _ _ h)
theorem kX8_readText_122 : Cond.fieldLink RX8 122 "CrowdFacesModel" "size" "I" ∈ wsX8_readText := by decide +kernel
theorem kX8_readText_129 : Cond.fieldLink RX8 129 "CrowdFacesModel" "spot" "I" ∈ wsX8_readText := by decide +kernel
theorem kX8_readText_132 : Cond.fieldLink RX8 132 "CrowdFacesModel" "out" "I" ∈ wsX8_readText := by decide +kernel
theorem kX8_readText_7 : Cond.fieldLink RX8 7 "CrowdFacesModel" "text" "[I" ∈ wsX8_readText := by decide +kernel
theorem iX8_readText_X8 : ∀ w ∈ wsX80, w ∈ wsX8_readText := by decide +kernel
def pX8_readText_32 (sz : Int32) (sp : Int32) (ou : Int32) (tx : Nat → Int32) (tr : Nat → Int32) : Option (Int32 × Int32 × Int32 × (Nat → Int32)) := some ((nI 0), sp, ou, tr)
def pX8_readText_39 : Nat → Int32 → Int32 → Int32 → (Nat → Int32) → (Nat → Int32) → Option (Int32 × Int32 × Int32 × (Nat → Int32))
  | 0, _, _, _, _, _ => none
  | k + 1, sz, sp, ou, tx, tr => if sz ≤ sp then some ((-1), sp, ou, tr) else (pX8_readCommand sz sp ou tx tr).bind fun v1 => if v1.1 = 0 then some (v1.2.1, v1.2.1, v1.2.2.1, v1.2.2.2) else pX8_readText_39 k sz v1.2.1 v1.2.2.1 tx v1.2.2.2
theorem pX8_readText_39_s {k : Nat} (sz : Int32) (sp : Int32) (ou : Int32) (tx : Nat → Int32) (tr : Nat → Int32) : pX8_readText_39 (k + 1) sz sp ou tx tr = if sz ≤ sp then some ((-1), sp, ou, tr) else (pX8_readCommand sz sp ou tx tr).bind fun v1 => if v1.1 = 0 then some (v1.2.1, v1.2.1, v1.2.2.1, v1.2.2.2) else pX8_readText_39 k sz v1.2.1 v1.2.2.1 tx v1.2.2.2 := rfl
def pX8_readText (sz : Int32) (sp : Int32) (ou : Int32) (tx : Nat → Int32) (tr : Nat → Int32) : Option (Int32 × Int32 × Int32 × (Nat → Int32)) := (pX8_clear tr).bind fun v1 => if sz = 0 then pX8_readText_32 sz (nI 0) (nI 0) tx v1 else if nb (nI 0) 120 = true then if (tx (nI 0).toNatClampNeg) = (nI 70) then pX8_readText_39 FU sz (nI 1) (nI 0) tx v1 else pX8_readText_32 sz (nI 0) (nI 0) tx v1 else none
abbrev rmX8_readText : Room := { frames := 8, cells := 0, slots := 0, locals := 185 }
set_option maxHeartbeats 4000000 in
set_option maxRecDepth 100000 in
theorem bX8_readText_32 {p : Program} {l : Launch} {e : Env} {s : State} {m : MethodId} {args : Array Value} {below : List Frame} {meth : Method} {c : Code} {g : va_G} {cy : Nat → ClassId} (hC : CX p s m args meth c g cy 2 cX8_readText wsX8_readText RX8) (hr : meth.sig.returnType = (some .int)) {h0 ztx znw ztr zdi zkp zik : Nat} {A : Nat → Prop} {res : Int32 × Int32 × Int32 × (Nat → Int32)} : ∀ (rf : Int32) (sz : Int32) (ac : Int32) (sp : Int32) (ou : Int32) (tx : Nat → Int32) (nw : Nat → Int32) (tr : Nat → Int32) (di : Nat → Int32) (kp : Nat → Int32) (ik : Nat → Int32) (h : pX8_readText_32 sz sp ou tx tr = some res), V p l e (headSpec wsX8_readText rmX8_readText).room s m args below meth c g 2 0 0 (MQ below (QWi g A res.1 [(h0, .inr (6, [.int rf, .ref ztx, .int sz, .ref znw, .ref ztr, .ref zdi, .int ac, .ref zkp, .ref zik, .int res.2.1, .int res.2.2.1])), (ztx, .inl (cy 0, 120, .inl tx)), (znw, .inl (cy 0, 164, .inl nw)), (ztr, .inl (cy 0, 164, .inl res.2.2.2)), (zdi, .inl (cy 0, 2296, .inl di)), (zkp, .inl (cy 0, 328, .inl kp)), (zik, .inl (cy 1, 2, .inl ik))]) args s 0 0 A) A A [(h0, .inr (6, [.int rf, .ref ztx, .int sz, .ref znw, .ref ztr, .ref zdi, .int ac, .ref zkp, .ref zik, .int sp, .int ou])), (ztx, .inl (cy 0, 120, .inl tx)), (znw, .inl (cy 0, 164, .inl nw)), (ztr, .inl (cy 0, 164, .inl tr)), (zdi, .inl (cy 0, 2296, .inl di)), (zkp, .inl (cy 0, 328, .inl kp)), (zik, .inl (cy 1, 2, .inl ik))] 32 [] [] := by
  intro rf sz ac sp ou tx nw tr di kp ik  h
  unfold pX8_readText_32 at h
  refine v_iconst hC (v := (nI 0)) dX8_readText_32 (by decide) rfl ?_
  obtain rfl := Option.some.inj h
  exact v_irw hC hr rfl rfl dX8_readText_33
set_option maxHeartbeats 4000000 in
set_option maxRecDepth 100000 in
theorem bX8_readText_39 {p : Program} {l : Launch} {e : Env} {s : State} {m : MethodId} {args : Array Value} {below : List Frame} {meth : Method} {c : Code} {g : va_G} {cy : Nat → ClassId} (hC : CX p s m args meth c g cy 2 cX8_readText wsX8_readText RX8) (hr : meth.sig.returnType = (some .int)) {h0 ztx znw ztr zdi zkp zik : Nat} {A : Nat → Prop} {res : Int32 × Int32 × Int32 × (Nat → Int32)} : ∀ (k : Nat) (rf : Int32) (sz : Int32) (ac : Int32) (sp : Int32) (ou : Int32) (tx : Nat → Int32) (nw : Nat → Int32) (tr : Nat → Int32) (di : Nat → Int32) (kp : Nat → Int32) (ik : Nat → Int32)  (h : pX8_readText_39 k sz sp ou tx tr = some res), V p l e (headSpec wsX8_readText rmX8_readText).room s m args below meth c g 2 0 0 (MQ below (QWi g A res.1 [(h0, .inr (6, [.int rf, .ref ztx, .int sz, .ref znw, .ref ztr, .ref zdi, .int ac, .ref zkp, .ref zik, .int res.2.1, .int res.2.2.1])), (ztx, .inl (cy 0, 120, .inl tx)), (znw, .inl (cy 0, 164, .inl nw)), (ztr, .inl (cy 0, 164, .inl res.2.2.2)), (zdi, .inl (cy 0, 2296, .inl di)), (zkp, .inl (cy 0, 328, .inl kp)), (zik, .inl (cy 1, 2, .inl ik))]) args s 0 0 A) A A [(h0, .inr (6, [.int rf, .ref ztx, .int sz, .ref znw, .ref ztr, .ref zdi, .int ac, .ref zkp, .ref zik, .int sp, .int ou])), (ztx, .inl (cy 0, 120, .inl tx)), (znw, .inl (cy 0, 164, .inl nw)), (ztr, .inl (cy 0, 164, .inl tr)), (zdi, .inl (cy 0, 2296, .inl di)), (zkp, .inl (cy 0, 328, .inl kp)), (zik, .inl (cy 1, 2, .inl ik))] 39 [(0, .ref h0), (1, .ref ztr)] [] := by
  intro k
  induction k with
  | zero =>
    intro rf sz ac sp ou tx nw tr di kp ik  h
    have h : (none : Option _) = some res := h
    cases h
  | succ k ih =>
    intro rf sz ac sp ou tx nw tr di kp ik  h
    rw [pX8_readText_39_s] at h
    refine v_aload_n hC dX8_readText_39 rfl 0 rfl rfl ?_
    refine v_get hC iX8_readText_X8 0 rfl rfl 9 (by decide) kX8_readText_129 rfl rfl dX8_readText_40 rfl ?_
    refine v_aload_n hC dX8_readText_43 rfl 0 rfl rfl ?_
    refine v_get hC iX8_readText_X8 0 rfl rfl 2 (by decide) kX8_readText_122 rfl rfl dX8_readText_44 rfl ?_
    refine v_icmp_ge hC (tgt := 63) dX8_readText_47 (by decide) rfl (fun c => ?_) (fun c => ?_)
    · have h := ite_t c h
      refine v_iconst hC (v := (-1)) dX8_readText_63 (by decide) rfl ?_
      obtain rfl := Option.some.inj h
      exact v_irw hC hr rfl rfl dX8_readText_64
    · have h := ite_f c h
      refine v_aload_n hC dX8_readText_50 rfl 0 rfl rfl ?_
      refine v_aload_n hC dX8_readText_51 rfl 1 rfl rfl ?_
      obtain ⟨v1, hv1, h⟩ := bind_g h
      refine v_callVwi hC (n := 1) (st := []) [(h0, .inr (6, [.int rf, .ref ztx, .int sz, .ref znw, .ref ztr, .ref zdi, .int ac, .ref zkp, .ref zik, .int v1.2.1, .int v1.2.2.1])), (ztx, .inl (cy 0, 120, .inl tx)), (znw, .inl (cy 0, 164, .inl nw)), (ztr, .inl (cy 0, 164, .inl v1.2.2.2)), (zdi, .inl (cy 0, 2296, .inl di)), (zkp, .inl (cy 0, 328, .inl kp)), (zik, .inl (cy 1, 2, .inl ik))] _ (mX8_readCommand l g cy h0 ztx znw ztr zdi zkp zik rf sz ac sp ou tx nw tr di kp ik hv1) gX8_readText_X8_readCommand rfl rfl rfl (by decide +kernel) ⟨Nat.le_of_ble_eq_true rfl, Nat.le_of_ble_eq_true rfl⟩ 0 rfl rfl [0, 1, 2, 3, 4, 5, 6] [] rfl rfl rfl rfl rfl rfl rfl rfl rfl (Nat.le_of_ble_eq_true rfl) rfl ⟨Nat.zero_le _, Nat.zero_le _⟩ dX8_readText_52 rfl ?_
      refine v_if_ne hC (tgt := 39) dX8_readText_55 (by decide) rfl (fun c => ?_) (fun c => ?_)
      · have h := ite_f c h
        exact ih _ _ _ _ _ _ _ _ _ _ _ h
      · have h := ite_t c h
        refine v_aload_n hC dX8_readText_58 rfl 0 rfl rfl ?_
        refine v_get hC iX8_readText_X8 0 rfl rfl 9 (by decide) kX8_readText_129 rfl rfl dX8_readText_59 rfl ?_
        obtain rfl := Option.some.inj h
        exact v_irw hC hr rfl rfl dX8_readText_62
set_option maxHeartbeats 4000000 in
set_option maxRecDepth 100000 in
theorem mX8_readText (l : Launch) (g : va_G) (cy : Nat → ClassId) (h0 ztx znw ztr zdi zkp zik : Nat) (rf : Int32) (sz : Int32) (ac : Int32) (sp : Int32) (ou : Int32) (tx : Nat → Int32) (nw : Nat → Int32) (tr : Nat → Int32) (di : Nat → Int32) (kp : Nat → Int32) (ik : Nat → Int32)  {res : Int32 × Int32 × Int32 × (Nat → Int32)} (h : pX8_readText sz sp ou tx tr = some res) : Met l yX8_readText wsX8_readText rmX8_readText (PW [.ref h0, .ref ztr] g cy [(h0, .inr (6, [.int rf, .ref ztx, .int sz, .ref znw, .ref ztr, .ref zdi, .int ac, .ref zkp, .ref zik, .int sp, .int ou])), (ztx, .inl (cy 0, 120, .inl tx)), (znw, .inl (cy 0, 164, .inl nw)), (ztr, .inl (cy 0, 164, .inl tr)), (zdi, .inl (cy 0, 2296, .inl di)), (zkp, .inl (cy 0, 328, .inl kp)), (zik, .inl (cy 1, 2, .inl ik))]) (QWi g (wA [(h0, .inr (6, [.int rf, .ref ztx, .int sz, .ref znw, .ref ztr, .ref zdi, .int ac, .ref zkp, .ref zik, .int sp, .int ou])), (ztx, .inl (cy 0, 120, .inl tx)), (znw, .inl (cy 0, 164, .inl nw)), (ztr, .inl (cy 0, 164, .inl tr)), (zdi, .inl (cy 0, 2296, .inl di)), (zkp, .inl (cy 0, 328, .inl kp)), (zik, .inl (cy 1, 2, .inl ik))]) res.1 [(h0, .inr (6, [.int rf, .ref ztx, .int sz, .ref znw, .ref ztr, .ref zdi, .int ac, .ref zkp, .ref zik, .int res.2.1, .int res.2.2.1])), (ztx, .inl (cy 0, 120, .inl tx)), (znw, .inl (cy 0, 164, .inl nw)), (ztr, .inl (cy 0, 164, .inl res.2.2.2)), (zdi, .inl (cy 0, 2296, .inl di)), (zkp, .inl (cy 0, 328, .inl kp)), (zik, .inl (cy 1, 2, .inl ik))]) 0 0 (wA [(h0, .inr (6, [.int rf, .ref ztx, .int sz, .ref znw, .ref ztr, .ref zdi, .int ac, .ref zkp, .ref zik, .int sp, .int ou])), (ztx, .inl (cy 0, 120, .inl tx)), (znw, .inl (cy 0, 164, .inl nw)), (ztr, .inl (cy 0, 164, .inl tr)), (zdi, .inl (cy 0, 2296, .inl di)), (zkp, .inl (cy 0, 328, .inl kp)), (zik, .inl (cy 1, 2, .inl ik))]) := by
  refine m_ofV (cc := cX8_readText) (nL := 2) (ret := (some .int)) (B := (wA [(h0, .inr (6, [.int rf, .ref ztx, .int sz, .ref znw, .ref ztr, .ref zdi, .int ac, .ref zkp, .ref zik, .int sp, .int ou])), (ztx, .inl (cy 0, 120, .inl tx)), (znw, .inl (cy 0, 164, .inl nw)), (ztr, .inl (cy 0, 164, .inl tr)), (zdi, .inl (cy 0, 2296, .inl di)), (zkp, .inl (cy 0, 328, .inl kp)), (zik, .inl (cy 1, 2, .inl ik))])) RX8 rfl (by decide) rfl [(0, .ref h0), (1, .ref ztr)] rfl (Nat.le_of_ble_eq_true rfl) (wA.self) ?_
  intro p e s m args below meth c hC hr
  generalize (wA [(h0, .inr (6, [.int rf, .ref ztx, .int sz, .ref znw, .ref ztr, .ref zdi, .int ac, .ref zkp, .ref zik, .int sp, .int ou])), (ztx, .inl (cy 0, 120, .inl tx)), (znw, .inl (cy 0, 164, .inl nw)), (ztr, .inl (cy 0, 164, .inl tr)), (zdi, .inl (cy 0, 2296, .inl di)), (zkp, .inl (cy 0, 328, .inl kp)), (zik, .inl (cy 1, 2, .inl ik))]) = A
  unfold pX8_readText at h
  refine v_aload_n hC dX8_readText_0 rfl 1 rfl rfl ?_
  obtain ⟨v1, hv1, h⟩ := bind_g h
  refine v_callSwv hC (n := 1) (st := []) [(h0, .inr (6, [.int rf, .ref ztx, .int sz, .ref znw, .ref ztr, .ref zdi, .int ac, .ref zkp, .ref zik, .int sp, .int ou])), (ztx, .inl (cy 0, 120, .inl tx)), (znw, .inl (cy 0, 164, .inl nw)), (ztr, .inl (cy 0, 164, .inl v1)), (zdi, .inl (cy 0, 2296, .inl di)), (zkp, .inl (cy 0, 328, .inl kp)), (zik, .inl (cy 1, 2, .inl ik))] _ (mX8_clear l g cy ztr tr hv1) gX8_readText_X8_clear rfl rfl rfl (by decide +kernel) ⟨Nat.le_of_ble_eq_true rfl, Nat.le_of_ble_eq_true rfl⟩ [3] [0, 1, 2, 4, 5, 6] rfl rfl rfl rfl rfl rfl rfl rfl rfl (Nat.le_of_ble_eq_true rfl) rfl ⟨Nat.zero_le _, Nat.zero_le _⟩ dX8_readText_1 rfl ?_
  refine v_aload_n hC dX8_readText_4 rfl 0 rfl rfl ?_
  refine v_iconst hC (v := (nI 0)) dX8_readText_5 (by decide) rfl ?_
  refine v_put hC iX8_readText_X8 tyX8 tyX8_ok nmX8 0 rfl rfl 10 (by decide) kX8_readText_132 rfl rfl (ty := .int) (by decide +kernel) rfl rfl (Nat.le_of_ble_eq_true rfl) dX8_readText_6 [(h0, .inr (6, [.int rf, .ref ztx, .int sz, .ref znw, .ref ztr, .ref zdi, .int ac, .ref zkp, .ref zik, .int sp, .int (nI 0)])), (ztx, .inl (cy 0, 120, .inl tx)), (znw, .inl (cy 0, 164, .inl nw)), (ztr, .inl (cy 0, 164, .inl v1)), (zdi, .inl (cy 0, 2296, .inl di)), (zkp, .inl (cy 0, 328, .inl kp)), (zik, .inl (cy 1, 2, .inl ik))] rfl rfl ?_
  refine v_aload_n hC dX8_readText_9 rfl 0 rfl rfl ?_
  refine v_iconst hC (v := (nI 0)) dX8_readText_10 (by decide) rfl ?_
  refine v_put hC iX8_readText_X8 tyX8 tyX8_ok nmX8 0 rfl rfl 9 (by decide) kX8_readText_129 rfl rfl (ty := .int) (by decide +kernel) rfl rfl (Nat.le_of_ble_eq_true rfl) dX8_readText_11 [(h0, .inr (6, [.int rf, .ref ztx, .int sz, .ref znw, .ref ztr, .ref zdi, .int ac, .ref zkp, .ref zik, .int (nI 0), .int (nI 0)])), (ztx, .inl (cy 0, 120, .inl tx)), (znw, .inl (cy 0, 164, .inl nw)), (ztr, .inl (cy 0, 164, .inl v1)), (zdi, .inl (cy 0, 2296, .inl di)), (zkp, .inl (cy 0, 328, .inl kp)), (zik, .inl (cy 1, 2, .inl ik))] rfl rfl ?_
  refine v_aload_n hC dX8_readText_14 rfl 0 rfl rfl ?_
  refine v_get hC iX8_readText_X8 0 rfl rfl 2 (by decide) kX8_readText_122 rfl rfl dX8_readText_15 rfl ?_
  refine v_if_eq hC (tgt := 32) dX8_readText_18 (by decide) rfl (fun c => ?_) (fun c => ?_)
  · have h := ite_t c h
    exact v_sub [] (lv' := []) rfl (bX8_readText_32 hC hr _ _ _ _ _ _ _ _ _ _ _ h)
  · have h := ite_f c h
    refine v_aload_n hC dX8_readText_21 rfl 0 rfl rfl ?_
    refine v_get hC iX8_readText_X8 0 rfl rfl 1 (by decide) kX8_readText_7 rfl rfl dX8_readText_22 rfl ?_
    refine v_iconst hC (v := (nI 0)) dX8_readText_25 (by decide) rfl ?_
    obtain ⟨hn, h⟩ := ite_g h
    refine v_iald hC 1 rfl hn dX8_readText_26 rfl ?_
    refine v_bipush hC (v := (nI 70)) dX8_readText_27 (by decide) rfl ?_
    refine v_icmp_eq hC (tgt := 34) dX8_readText_29 (by decide) rfl (fun c => ?_) (fun c => ?_)
    · have h := ite_t c h
      refine v_aload_n hC dX8_readText_34 rfl 0 rfl rfl ?_
      refine v_iconst hC (v := (nI 1)) dX8_readText_35 (by decide) rfl ?_
      refine v_put hC iX8_readText_X8 tyX8 tyX8_ok nmX8 0 rfl rfl 9 (by decide) kX8_readText_129 rfl rfl (ty := .int) (by decide +kernel) rfl rfl (Nat.le_of_ble_eq_true rfl) dX8_readText_36 [(h0, .inr (6, [.int rf, .ref ztx, .int sz, .ref znw, .ref ztr, .ref zdi, .int ac, .ref zkp, .ref zik, .int (nI 1), .int (nI 0)])), (ztx, .inl (cy 0, 120, .inl tx)), (znw, .inl (cy 0, 164, .inl nw)), (ztr, .inl (cy 0, 164, .inl v1)), (zdi, .inl (cy 0, 2296, .inl di)), (zkp, .inl (cy 0, 328, .inl kp)), (zik, .inl (cy 1, 2, .inl ik))] rfl rfl ?_
      exact bX8_readText_39 hC hr FU _ _ _ _ _ _ _ _ _ _ _ h
    · have h := ite_f c h
      exact v_sub [] (lv' := []) rfl (bX8_readText_32 hC hr _ _ _ _ _ _ _ _ _ _ _ h)
theorem kX8_errorPosition_16 : Cond.fieldLink RX8 16 "CrowdFacesModel" "trial" "[I" ∈ wsX8_errorPosition := by decide +kernel
theorem kX8_errorPosition_33 : Cond.fieldLink RX8 33 "CrowdFacesModel" "refusal" "I" ∈ wsX8_errorPosition := by decide +kernel
theorem iX8_errorPosition_X8 : ∀ w ∈ wsX80, w ∈ wsX8_errorPosition := by decide +kernel
def pX8_errorPosition (rf : Int32) (sz : Int32) (sp : Int32) (ou : Int32) (tx : Nat → Int32) (tr : Nat → Int32) : Option (Int32 × Int32 × Int32 × Int32 × (Nat → Int32)) := (pX8_readText sz sp ou tx tr).bind fun v1 => some (v1.1, (nI 0), v1.2.1, v1.2.2.1, v1.2.2.2)
abbrev rmX8_errorPosition : Room := { frames := 9, cells := 0, slots := 0, locals := 206 }
set_option maxHeartbeats 4000000 in
set_option maxRecDepth 100000 in
theorem mX8_errorPosition (l : Launch) (g : va_G) (cy : Nat → ClassId) (h0 ztx znw ztr zdi zkp zik : Nat) (rf : Int32) (sz : Int32) (ac : Int32) (sp : Int32) (ou : Int32) (tx : Nat → Int32) (nw : Nat → Int32) (tr : Nat → Int32) (di : Nat → Int32) (kp : Nat → Int32) (ik : Nat → Int32)  {res : Int32 × Int32 × Int32 × Int32 × (Nat → Int32)} (h : pX8_errorPosition rf sz sp ou tx tr = some res) : Met l yX8_errorPosition wsX8_errorPosition rmX8_errorPosition (PW [.ref h0] g cy [(h0, .inr (6, [.int rf, .ref ztx, .int sz, .ref znw, .ref ztr, .ref zdi, .int ac, .ref zkp, .ref zik, .int sp, .int ou])), (ztx, .inl (cy 0, 120, .inl tx)), (znw, .inl (cy 0, 164, .inl nw)), (ztr, .inl (cy 0, 164, .inl tr)), (zdi, .inl (cy 0, 2296, .inl di)), (zkp, .inl (cy 0, 328, .inl kp)), (zik, .inl (cy 1, 2, .inl ik))]) (QWi g (wA [(h0, .inr (6, [.int rf, .ref ztx, .int sz, .ref znw, .ref ztr, .ref zdi, .int ac, .ref zkp, .ref zik, .int sp, .int ou])), (ztx, .inl (cy 0, 120, .inl tx)), (znw, .inl (cy 0, 164, .inl nw)), (ztr, .inl (cy 0, 164, .inl tr)), (zdi, .inl (cy 0, 2296, .inl di)), (zkp, .inl (cy 0, 328, .inl kp)), (zik, .inl (cy 1, 2, .inl ik))]) res.1 [(h0, .inr (6, [.int res.2.1, .ref ztx, .int sz, .ref znw, .ref ztr, .ref zdi, .int ac, .ref zkp, .ref zik, .int res.2.2.1, .int res.2.2.2.1])), (ztx, .inl (cy 0, 120, .inl tx)), (znw, .inl (cy 0, 164, .inl nw)), (ztr, .inl (cy 0, 164, .inl res.2.2.2.2)), (zdi, .inl (cy 0, 2296, .inl di)), (zkp, .inl (cy 0, 328, .inl kp)), (zik, .inl (cy 1, 2, .inl ik))]) 0 0 (wA [(h0, .inr (6, [.int rf, .ref ztx, .int sz, .ref znw, .ref ztr, .ref zdi, .int ac, .ref zkp, .ref zik, .int sp, .int ou])), (ztx, .inl (cy 0, 120, .inl tx)), (znw, .inl (cy 0, 164, .inl nw)), (ztr, .inl (cy 0, 164, .inl tr)), (zdi, .inl (cy 0, 2296, .inl di)), (zkp, .inl (cy 0, 328, .inl kp)), (zik, .inl (cy 1, 2, .inl ik))]) := by
  refine m_ofV (cc := cX8_errorPosition) (nL := 1) (ret := (some .int)) (B := (wA [(h0, .inr (6, [.int rf, .ref ztx, .int sz, .ref znw, .ref ztr, .ref zdi, .int ac, .ref zkp, .ref zik, .int sp, .int ou])), (ztx, .inl (cy 0, 120, .inl tx)), (znw, .inl (cy 0, 164, .inl nw)), (ztr, .inl (cy 0, 164, .inl tr)), (zdi, .inl (cy 0, 2296, .inl di)), (zkp, .inl (cy 0, 328, .inl kp)), (zik, .inl (cy 1, 2, .inl ik))])) RX8 rfl (by decide) rfl [(0, .ref h0)] rfl (Nat.le_of_ble_eq_true rfl) (wA.self) ?_
  intro p e s m args below meth c hC hr
  generalize (wA [(h0, .inr (6, [.int rf, .ref ztx, .int sz, .ref znw, .ref ztr, .ref zdi, .int ac, .ref zkp, .ref zik, .int sp, .int ou])), (ztx, .inl (cy 0, 120, .inl tx)), (znw, .inl (cy 0, 164, .inl nw)), (ztr, .inl (cy 0, 164, .inl tr)), (zdi, .inl (cy 0, 2296, .inl di)), (zkp, .inl (cy 0, 328, .inl kp)), (zik, .inl (cy 1, 2, .inl ik))]) = A
  unfold pX8_errorPosition at h
  refine v_aload_n hC dX8_errorPosition_0 rfl 0 rfl rfl ?_
  refine v_iconst hC (v := (nI 0)) dX8_errorPosition_1 (by decide) rfl ?_
  refine v_put hC iX8_errorPosition_X8 tyX8 tyX8_ok nmX8 0 rfl rfl 0 (by decide) kX8_errorPosition_33 rfl rfl (ty := .int) (by decide +kernel) rfl rfl (Nat.le_of_ble_eq_true rfl) dX8_errorPosition_2 [(h0, .inr (6, [.int (nI 0), .ref ztx, .int sz, .ref znw, .ref ztr, .ref zdi, .int ac, .ref zkp, .ref zik, .int sp, .int ou])), (ztx, .inl (cy 0, 120, .inl tx)), (znw, .inl (cy 0, 164, .inl nw)), (ztr, .inl (cy 0, 164, .inl tr)), (zdi, .inl (cy 0, 2296, .inl di)), (zkp, .inl (cy 0, 328, .inl kp)), (zik, .inl (cy 1, 2, .inl ik))] rfl rfl ?_
  refine v_aload_n hC dX8_errorPosition_5 rfl 0 rfl rfl ?_
  refine v_aload_n hC dX8_errorPosition_6 rfl 0 rfl rfl ?_
  refine v_get hC iX8_errorPosition_X8 0 rfl rfl 4 (by decide) kX8_errorPosition_16 rfl rfl dX8_errorPosition_7 rfl ?_
  obtain ⟨v1, hv1, h⟩ := bind_g h
  refine v_callVwi hC (n := 1) (st := []) [(h0, .inr (6, [.int (nI 0), .ref ztx, .int sz, .ref znw, .ref ztr, .ref zdi, .int ac, .ref zkp, .ref zik, .int v1.2.1, .int v1.2.2.1])), (ztx, .inl (cy 0, 120, .inl tx)), (znw, .inl (cy 0, 164, .inl nw)), (ztr, .inl (cy 0, 164, .inl v1.2.2.2)), (zdi, .inl (cy 0, 2296, .inl di)), (zkp, .inl (cy 0, 328, .inl kp)), (zik, .inl (cy 1, 2, .inl ik))] _ (mX8_readText l g cy h0 ztx znw ztr zdi zkp zik (nI 0) sz ac sp ou tx nw tr di kp ik hv1) gX8_errorPosition_X8_readText rfl rfl rfl (by decide +kernel) ⟨Nat.le_of_ble_eq_true rfl, Nat.le_of_ble_eq_true rfl⟩ 0 rfl rfl [0, 1, 2, 3, 4, 5, 6] [] rfl rfl rfl rfl rfl rfl rfl rfl rfl (Nat.le_of_ble_eq_true rfl) rfl ⟨Nat.zero_le _, Nat.zero_le _⟩ dX8_errorPosition_10 rfl ?_
  obtain rfl := Option.some.inj h
  exact v_irw hC hr rfl rfl dX8_errorPosition_13
theorem kX8_load_13 : Cond.fieldLink RX8 13 "CrowdFacesModel" "now" "[I" ∈ wsX8_load := by decide +kernel
theorem kX8_load_132 : Cond.fieldLink RX8 132 "CrowdFacesModel" "out" "I" ∈ wsX8_load := by decide +kernel
theorem kX8_load_16 : Cond.fieldLink RX8 16 "CrowdFacesModel" "trial" "[I" ∈ wsX8_load := by decide +kernel
theorem kX8_load_173 : Cond.fieldLink RX8 173 "CrowdFacesModel" "acts" "I" ∈ wsX8_load := by decide +kernel
theorem kX8_load_25 : Cond.fieldLink RX8 25 "CrowdFacesModel" "isKept" "[Z" ∈ wsX8_load := by decide +kernel
theorem iX8_load_X8 : ∀ w ∈ wsX80, w ∈ wsX8_load := by decide +kernel
def pX8_load_18 (rf : Int32) (sz : Int32) (ac : Int32) (sp : Int32) (ou : Int32) (tx : Nat → Int32) (nw : Nat → Int32) (tr : Nat → Int32) (ik : Nat → Int32) (s0 : Int32) : Option (Int32 × Int32 × Int32 × Int32 × Int32 × (Nat → Int32) × (Nat → Int32) × (Nat → Int32)) := (pX8_refused rf s0).bind fun v1 => if v1.1 = 0 then (pX8_copyState 164 tr 164 nw (nI 0) (nI 0)).bind fun v2 => if nb (nI 0) 2 = true then if nb (nI 1) 2 = true then some (ou, v1.2, (nI 0), sp, ou, v2, tr, (upd (upd ik (nI 0).toNatClampNeg (vp_nar .boolean (nI 0))) (nI 1).toNatClampNeg (vp_nar .boolean (nI 0)))) else none else none else some ((nI 0), v1.2, ac, sp, ou, nw, tr, ik)
def pX8_load (rf : Int32) (sz : Int32) (ac : Int32) (sp : Int32) (ou : Int32) (tx : Nat → Int32) (nw : Nat → Int32) (tr : Nat → Int32) (ik : Nat → Int32) : Option (Int32 × Int32 × Int32 × Int32 × Int32 × (Nat → Int32) × (Nat → Int32) × (Nat → Int32)) := (pX8_readText sz sp ou tx tr).bind fun v1 => if v1.1 = (-1) then pX8_load_18 rf sz ac v1.2.1 v1.2.2.1 tx nw v1.2.2.2 ik (nI 0) else pX8_load_18 rf sz ac v1.2.1 v1.2.2.1 tx nw v1.2.2.2 ik (nI 1)
abbrev rmX8_load : Room := { frames := 9, cells := 0, slots := 0, locals := 206 }
set_option maxHeartbeats 4000000 in
set_option maxRecDepth 100000 in
theorem bX8_load_18 {p : Program} {l : Launch} {e : Env} {s : State} {m : MethodId} {args : Array Value} {below : List Frame} {meth : Method} {c : Code} {g : va_G} {cy : Nat → ClassId} (hC : CX p s m args meth c g cy 1 cX8_load wsX8_load RX8) (hr : meth.sig.returnType = (some .int)) {h0 ztx znw ztr zdi zkp zik : Nat} {A : Nat → Prop} {res : Int32 × Int32 × Int32 × Int32 × Int32 × (Nat → Int32) × (Nat → Int32) × (Nat → Int32)} : ∀ (rf : Int32) (sz : Int32) (ac : Int32) (sp : Int32) (ou : Int32) (tx : Nat → Int32) (nw : Nat → Int32) (tr : Nat → Int32) (di : Nat → Int32) (kp : Nat → Int32) (ik : Nat → Int32) (s0 : Int32)(h : pX8_load_18 rf sz ac sp ou tx nw tr ik s0 = some res), V p l e (headSpec wsX8_load rmX8_load).room s m args below meth c g 1 0 0 (MQ below (QWi g A res.1 [(h0, .inr (6, [.int res.2.1, .ref ztx, .int sz, .ref znw, .ref ztr, .ref zdi, .int res.2.2.1, .ref zkp, .ref zik, .int res.2.2.2.1, .int res.2.2.2.2.1])), (ztx, .inl (cy 0, 120, .inl tx)), (znw, .inl (cy 0, 164, .inl res.2.2.2.2.2.1)), (ztr, .inl (cy 0, 164, .inl res.2.2.2.2.2.2.1)), (zdi, .inl (cy 0, 2296, .inl di)), (zkp, .inl (cy 0, 328, .inl kp)), (zik, .inl (cy 1, 2, .inl res.2.2.2.2.2.2.2))]) args s 0 0 A) A A [(h0, .inr (6, [.int rf, .ref ztx, .int sz, .ref znw, .ref ztr, .ref zdi, .int ac, .ref zkp, .ref zik, .int sp, .int ou])), (ztx, .inl (cy 0, 120, .inl tx)), (znw, .inl (cy 0, 164, .inl nw)), (ztr, .inl (cy 0, 164, .inl tr)), (zdi, .inl (cy 0, 2296, .inl di)), (zkp, .inl (cy 0, 328, .inl kp)), (zik, .inl (cy 1, 2, .inl ik))] 18 [(0, .ref h0)] [.int s0, .ref h0] := by
  intro rf sz ac sp ou tx nw tr di kp ik s0 h
  unfold pX8_load_18 at h
  obtain ⟨v1, hv1, h⟩ := bind_g h
  refine v_callVwi hC (n := 1) (st := []) [(h0, .inr (6, [.int v1.2, .ref ztx, .int sz, .ref znw, .ref ztr, .ref zdi, .int ac, .ref zkp, .ref zik, .int sp, .int ou])), (ztx, .inl (cy 0, 120, .inl tx)), (znw, .inl (cy 0, 164, .inl nw)), (ztr, .inl (cy 0, 164, .inl tr)), (zdi, .inl (cy 0, 2296, .inl di)), (zkp, .inl (cy 0, 328, .inl kp)), (zik, .inl (cy 1, 2, .inl ik))] _ (mX8_refused l g cy h0 ztx znw ztr zdi zkp zik rf sz ac sp ou tx nw tr di kp ik s0 hv1) gX8_load_X8_refused rfl rfl rfl (by decide +kernel) ⟨Nat.le_of_ble_eq_true rfl, Nat.le_of_ble_eq_true rfl⟩ 0 rfl rfl [0, 1, 2, 3, 4, 5, 6] [] rfl rfl rfl rfl rfl rfl rfl rfl rfl (Nat.le_of_ble_eq_true rfl) rfl ⟨Nat.zero_le _, Nat.zero_le _⟩ dX8_load_18 rfl ?_
  refine v_if_eq hC (tgt := 26) dX8_load_21 (by decide) rfl (fun c => ?_) (fun c => ?_)
  · have h := ite_t c h
    refine v_aload_n hC dX8_load_26 rfl 0 rfl rfl ?_
    refine v_get hC iX8_load_X8 0 rfl rfl 4 (by decide) kX8_load_16 rfl rfl dX8_load_27 rfl ?_
    refine v_iconst hC (v := (nI 0)) dX8_load_30 (by decide) rfl ?_
    refine v_aload_n hC dX8_load_31 rfl 0 rfl rfl ?_
    refine v_get hC iX8_load_X8 0 rfl rfl 3 (by decide) kX8_load_13 rfl rfl dX8_load_32 rfl ?_
    refine v_iconst hC (v := (nI 0)) dX8_load_35 (by decide) rfl ?_
    obtain ⟨v2, hv2, h⟩ := bind_g h
    refine v_callSwv hC (n := 4) (st := []) [(h0, .inr (6, [.int v1.2, .ref ztx, .int sz, .ref znw, .ref ztr, .ref zdi, .int ac, .ref zkp, .ref zik, .int sp, .int ou])), (ztx, .inl (cy 0, 120, .inl tx)), (znw, .inl (cy 0, 164, .inl v2)), (ztr, .inl (cy 0, 164, .inl tr)), (zdi, .inl (cy 0, 2296, .inl di)), (zkp, .inl (cy 0, 328, .inl kp)), (zik, .inl (cy 1, 2, .inl ik))] _ (mX8_copyState l g cy ztr znw 164 tr 164 nw (nI 0) (nI 0) hv2) gX8_load_X8_copyState rfl rfl rfl (by decide +kernel) ⟨Nat.le_of_ble_eq_true rfl, Nat.le_of_ble_eq_true rfl⟩ [3, 2] [0, 1, 4, 5, 6] rfl rfl rfl rfl rfl rfl rfl rfl rfl (Nat.le_of_ble_eq_true rfl) rfl ⟨Nat.zero_le _, Nat.zero_le _⟩ dX8_load_36 rfl ?_
    refine v_aload_n hC dX8_load_39 rfl 0 rfl rfl ?_
    refine v_iconst hC (v := (nI 0)) dX8_load_40 (by decide) rfl ?_
    refine v_put hC iX8_load_X8 tyX8 tyX8_ok nmX8 0 rfl rfl 6 (by decide) kX8_load_173 rfl rfl (ty := .int) (by decide +kernel) rfl rfl (Nat.le_of_ble_eq_true rfl) dX8_load_41 [(h0, .inr (6, [.int v1.2, .ref ztx, .int sz, .ref znw, .ref ztr, .ref zdi, .int (nI 0), .ref zkp, .ref zik, .int sp, .int ou])), (ztx, .inl (cy 0, 120, .inl tx)), (znw, .inl (cy 0, 164, .inl v2)), (ztr, .inl (cy 0, 164, .inl tr)), (zdi, .inl (cy 0, 2296, .inl di)), (zkp, .inl (cy 0, 328, .inl kp)), (zik, .inl (cy 1, 2, .inl ik))] rfl rfl ?_
    refine v_aload_n hC dX8_load_44 rfl 0 rfl rfl ?_
    refine v_get hC iX8_load_X8 0 rfl rfl 8 (by decide) kX8_load_25 rfl rfl dX8_load_45 rfl ?_
    refine v_iconst hC (v := (nI 0)) dX8_load_48 (by decide) rfl ?_
    refine v_iconst hC (v := (nI 0)) dX8_load_49 (by decide) rfl ?_
    obtain ⟨hn, h⟩ := ite_g h
    refine v_zast hC 6 rfl hn dX8_load_50 [(h0, .inr (6, [.int v1.2, .ref ztx, .int sz, .ref znw, .ref ztr, .ref zdi, .int (nI 0), .ref zkp, .ref zik, .int sp, .int ou])), (ztx, .inl (cy 0, 120, .inl tx)), (znw, .inl (cy 0, 164, .inl v2)), (ztr, .inl (cy 0, 164, .inl tr)), (zdi, .inl (cy 0, 2296, .inl di)), (zkp, .inl (cy 0, 328, .inl kp)), (zik, .inl (cy 1, 2, .inl (upd ik (nI 0).toNatClampNeg (vp_nar .boolean (nI 0)))))] rfl rfl ?_
    refine v_aload_n hC dX8_load_51 rfl 0 rfl rfl ?_
    refine v_get hC iX8_load_X8 0 rfl rfl 8 (by decide) kX8_load_25 rfl rfl dX8_load_52 rfl ?_
    refine v_iconst hC (v := (nI 1)) dX8_load_55 (by decide) rfl ?_
    refine v_iconst hC (v := (nI 0)) dX8_load_56 (by decide) rfl ?_
    obtain ⟨hn, h⟩ := ite_g h
    refine v_zast hC 6 rfl hn dX8_load_57 [(h0, .inr (6, [.int v1.2, .ref ztx, .int sz, .ref znw, .ref ztr, .ref zdi, .int (nI 0), .ref zkp, .ref zik, .int sp, .int ou])), (ztx, .inl (cy 0, 120, .inl tx)), (znw, .inl (cy 0, 164, .inl v2)), (ztr, .inl (cy 0, 164, .inl tr)), (zdi, .inl (cy 0, 2296, .inl di)), (zkp, .inl (cy 0, 328, .inl kp)), (zik, .inl (cy 1, 2, .inl (upd (upd ik (nI 0).toNatClampNeg (vp_nar .boolean (nI 0))) (nI 1).toNatClampNeg (vp_nar .boolean (nI 0)))))] rfl rfl ?_
    refine v_aload_n hC dX8_load_58 rfl 0 rfl rfl ?_
    refine v_get hC iX8_load_X8 0 rfl rfl 10 (by decide) kX8_load_132 rfl rfl dX8_load_59 rfl ?_
    obtain rfl := Option.some.inj h
    exact v_irw hC hr rfl rfl dX8_load_62
  · have h := ite_f c h
    refine v_iconst hC (v := (nI 0)) dX8_load_24 (by decide) rfl ?_
    obtain rfl := Option.some.inj h
    exact v_irw hC hr rfl rfl dX8_load_25
set_option maxHeartbeats 4000000 in
set_option maxRecDepth 100000 in
theorem mX8_load (l : Launch) (g : va_G) (cy : Nat → ClassId) (h0 ztx znw ztr zdi zkp zik : Nat) (rf : Int32) (sz : Int32) (ac : Int32) (sp : Int32) (ou : Int32) (tx : Nat → Int32) (nw : Nat → Int32) (tr : Nat → Int32) (di : Nat → Int32) (kp : Nat → Int32) (ik : Nat → Int32)  {res : Int32 × Int32 × Int32 × Int32 × Int32 × (Nat → Int32) × (Nat → Int32) × (Nat → Int32)} (h : pX8_load rf sz ac sp ou tx nw tr ik = some res) : Met l yX8_load wsX8_load rmX8_load (PW [.ref h0] g cy [(h0, .inr (6, [.int rf, .ref ztx, .int sz, .ref znw, .ref ztr, .ref zdi, .int ac, .ref zkp, .ref zik, .int sp, .int ou])), (ztx, .inl (cy 0, 120, .inl tx)), (znw, .inl (cy 0, 164, .inl nw)), (ztr, .inl (cy 0, 164, .inl tr)), (zdi, .inl (cy 0, 2296, .inl di)), (zkp, .inl (cy 0, 328, .inl kp)), (zik, .inl (cy 1, 2, .inl ik))]) (QWi g (wA [(h0, .inr (6, [.int rf, .ref ztx, .int sz, .ref znw, .ref ztr, .ref zdi, .int ac, .ref zkp, .ref zik, .int sp, .int ou])), (ztx, .inl (cy 0, 120, .inl tx)), (znw, .inl (cy 0, 164, .inl nw)), (ztr, .inl (cy 0, 164, .inl tr)), (zdi, .inl (cy 0, 2296, .inl di)), (zkp, .inl (cy 0, 328, .inl kp)), (zik, .inl (cy 1, 2, .inl ik))]) res.1 [(h0, .inr (6, [.int res.2.1, .ref ztx, .int sz, .ref znw, .ref ztr, .ref zdi, .int res.2.2.1, .ref zkp, .ref zik, .int res.2.2.2.1, .int res.2.2.2.2.1])), (ztx, .inl (cy 0, 120, .inl tx)), (znw, .inl (cy 0, 164, .inl res.2.2.2.2.2.1)), (ztr, .inl (cy 0, 164, .inl res.2.2.2.2.2.2.1)), (zdi, .inl (cy 0, 2296, .inl di)), (zkp, .inl (cy 0, 328, .inl kp)), (zik, .inl (cy 1, 2, .inl res.2.2.2.2.2.2.2))]) 0 0 (wA [(h0, .inr (6, [.int rf, .ref ztx, .int sz, .ref znw, .ref ztr, .ref zdi, .int ac, .ref zkp, .ref zik, .int sp, .int ou])), (ztx, .inl (cy 0, 120, .inl tx)), (znw, .inl (cy 0, 164, .inl nw)), (ztr, .inl (cy 0, 164, .inl tr)), (zdi, .inl (cy 0, 2296, .inl di)), (zkp, .inl (cy 0, 328, .inl kp)), (zik, .inl (cy 1, 2, .inl ik))]) := by
  refine m_ofV (cc := cX8_load) (nL := 1) (ret := (some .int)) (B := (wA [(h0, .inr (6, [.int rf, .ref ztx, .int sz, .ref znw, .ref ztr, .ref zdi, .int ac, .ref zkp, .ref zik, .int sp, .int ou])), (ztx, .inl (cy 0, 120, .inl tx)), (znw, .inl (cy 0, 164, .inl nw)), (ztr, .inl (cy 0, 164, .inl tr)), (zdi, .inl (cy 0, 2296, .inl di)), (zkp, .inl (cy 0, 328, .inl kp)), (zik, .inl (cy 1, 2, .inl ik))])) RX8 rfl (by decide) rfl [(0, .ref h0)] rfl (Nat.le_of_ble_eq_true rfl) (wA.self) ?_
  intro p e s m args below meth c hC hr
  generalize (wA [(h0, .inr (6, [.int rf, .ref ztx, .int sz, .ref znw, .ref ztr, .ref zdi, .int ac, .ref zkp, .ref zik, .int sp, .int ou])), (ztx, .inl (cy 0, 120, .inl tx)), (znw, .inl (cy 0, 164, .inl nw)), (ztr, .inl (cy 0, 164, .inl tr)), (zdi, .inl (cy 0, 2296, .inl di)), (zkp, .inl (cy 0, 328, .inl kp)), (zik, .inl (cy 1, 2, .inl ik))]) = A
  unfold pX8_load at h
  refine v_aload_n hC dX8_load_0 rfl 0 rfl rfl ?_
  refine v_aload_n hC dX8_load_1 rfl 0 rfl rfl ?_
  refine v_aload_n hC dX8_load_2 rfl 0 rfl rfl ?_
  refine v_get hC iX8_load_X8 0 rfl rfl 4 (by decide) kX8_load_16 rfl rfl dX8_load_3 rfl ?_
  obtain ⟨v1, hv1, h⟩ := bind_g h
  refine v_callVwi hC (n := 1) (st := [.ref h0]) [(h0, .inr (6, [.int rf, .ref ztx, .int sz, .ref znw, .ref ztr, .ref zdi, .int ac, .ref zkp, .ref zik, .int v1.2.1, .int v1.2.2.1])), (ztx, .inl (cy 0, 120, .inl tx)), (znw, .inl (cy 0, 164, .inl nw)), (ztr, .inl (cy 0, 164, .inl v1.2.2.2)), (zdi, .inl (cy 0, 2296, .inl di)), (zkp, .inl (cy 0, 328, .inl kp)), (zik, .inl (cy 1, 2, .inl ik))] _ (mX8_readText l g cy h0 ztx znw ztr zdi zkp zik rf sz ac sp ou tx nw tr di kp ik hv1) gX8_load_X8_readText rfl rfl rfl (by decide +kernel) ⟨Nat.le_of_ble_eq_true rfl, Nat.le_of_ble_eq_true rfl⟩ 0 rfl rfl [0, 1, 2, 3, 4, 5, 6] [] rfl rfl rfl rfl rfl rfl rfl rfl rfl (Nat.le_of_ble_eq_true rfl) rfl ⟨Nat.zero_le _, Nat.zero_le _⟩ dX8_load_6 rfl ?_
  refine v_iconst hC (v := (-1)) dX8_load_9 (by decide) rfl ?_
  refine v_icmp_ne hC (tgt := 17) dX8_load_10 (by decide) rfl (fun c => ?_) (fun c => ?_)
  · have h := ite_f c h
    refine v_iconst hC (v := (nI 1)) dX8_load_17 (by decide) rfl ?_
    exact bX8_load_18 hC hr _ _ _ _ _ _ _ _ _ _ _ _ h
  · have h := ite_t c h
    refine v_iconst hC (v := (nI 0)) dX8_load_13 (by decide) rfl ?_
    refine v_goto hC (tgt := 18) dX8_load_14 (by decide) ?_
    exact bX8_load_18 hC hr _ _ _ _ _ _ _ _ _ _ _ _ h
theorem kX8_about_13 : Cond.fieldLink RX8 13 "CrowdFacesModel" "now" "[I" ∈ wsX8_about := by decide +kernel
theorem kX8_about_176 : Cond.constantLong RX8 176 8 ∈ wsX8_about := by decide +kernel
theorem iX8_about_X8 : ∀ w ∈ wsX80, w ∈ wsX8_about := by decide +kernel
def pX8_about_76 (rf : Int32) (nw : Nat → Int32) (y1 : Int32) : Option (Int32 × Int32) := if nb y1 164 = true then some ((nw y1.toNatClampNeg), rf) else none
def pX8_about_105 (rf : Int32) (nw : Nat → Int32) (y1 : Int32) : Option (Int32 × Int32) := if nb (y1 - (nI 1)) 164 = true then some ((nw (y1 - (nI 1)).toNatClampNeg), rf) else none
def pX8_about_18 (rf : Int32) (nw : Nat → Int32) (y1 : Int32) (s0 : Int32) : Option (Int32 × Int32) := (pX8_refused rf s0).bind fun v1 => if v1.1 = 0 then if y1 = (nI 0) then pX8_about_76 v1.2 nw y1 else if y1 = (nI 1) then pX8_about_76 v1.2 nw y1 else if y1 = (nI 2) then (pX8_shots nw).bind fun v2 => some (v2, v1.2) else if y1 = (nI 8) then (pX8_facesOf nw (nI 16383)).bind fun v3 => (pX8_bits v3).bind fun v4 => some (v4, v1.2) else pX8_about_105 v1.2 nw y1 else some ((nI 0), v1.2)
def pX8_about (rf : Int32) (nw : Nat → Int32) (x1 : Int32) : Option (Int32 × Int32) := (pX8_in x1.toInt64 0 8).bind fun v1 => if v1 = 0 then pX8_about_18 rf nw x1 (nI 1) else pX8_about_18 rf nw x1 (nI 0)
abbrev rmX8_about : Room := { frames := 2, cells := 0, slots := 0, locals := 45 }
set_option maxHeartbeats 4000000 in
set_option maxRecDepth 100000 in
theorem bX8_about_76 {p : Program} {l : Launch} {e : Env} {s : State} {m : MethodId} {args : Array Value} {below : List Frame} {meth : Method} {c : Code} {g : va_G} {cy : Nat → ClassId} (hC : CX p s m args meth c g cy 2 cX8_about wsX8_about RX8) (hr : meth.sig.returnType = (some .int)) {h0 ztx znw ztr zdi zkp zik : Nat} {A : Nat → Prop} {res : Int32 × Int32} : ∀ (rf : Int32) (sz : Int32) (ac : Int32) (sp : Int32) (ou : Int32) (tx : Nat → Int32) (nw : Nat → Int32) (tr : Nat → Int32) (di : Nat → Int32) (kp : Nat → Int32) (ik : Nat → Int32) (y1 : Int32)(h : pX8_about_76 rf nw y1 = some res), V p l e (headSpec wsX8_about rmX8_about).room s m args below meth c g 2 0 0 (MQ below (QWi g A res.1 [(h0, .inr (6, [.int res.2, .ref ztx, .int sz, .ref znw, .ref ztr, .ref zdi, .int ac, .ref zkp, .ref zik, .int sp, .int ou])), (ztx, .inl (cy 0, 120, .inl tx)), (znw, .inl (cy 0, 164, .inl nw)), (ztr, .inl (cy 0, 164, .inl tr)), (zdi, .inl (cy 0, 2296, .inl di)), (zkp, .inl (cy 0, 328, .inl kp)), (zik, .inl (cy 1, 2, .inl ik))]) args s 0 0 A) A A [(h0, .inr (6, [.int rf, .ref ztx, .int sz, .ref znw, .ref ztr, .ref zdi, .int ac, .ref zkp, .ref zik, .int sp, .int ou])), (ztx, .inl (cy 0, 120, .inl tx)), (znw, .inl (cy 0, 164, .inl nw)), (ztr, .inl (cy 0, 164, .inl tr)), (zdi, .inl (cy 0, 2296, .inl di)), (zkp, .inl (cy 0, 328, .inl kp)), (zik, .inl (cy 1, 2, .inl ik))] 76 [(0, .ref h0), (1, .int y1)] [] := by
  intro rf sz ac sp ou tx nw tr di kp ik y1 h
  unfold pX8_about_76 at h
  refine v_aload_n hC dX8_about_76 rfl 0 rfl rfl ?_
  refine v_get hC iX8_about_X8 0 rfl rfl 3 (by decide) kX8_about_13 rfl rfl dX8_about_77 rfl ?_
  refine v_iload_n hC dX8_about_80 rfl 1 rfl rfl ?_
  obtain ⟨hn, h⟩ := ite_g h
  refine v_iald hC 2 rfl hn dX8_about_81 rfl ?_
  obtain rfl := Option.some.inj h
  exact v_irw hC hr rfl rfl dX8_about_82
set_option maxHeartbeats 4000000 in
set_option maxRecDepth 100000 in
theorem bX8_about_105 {p : Program} {l : Launch} {e : Env} {s : State} {m : MethodId} {args : Array Value} {below : List Frame} {meth : Method} {c : Code} {g : va_G} {cy : Nat → ClassId} (hC : CX p s m args meth c g cy 2 cX8_about wsX8_about RX8) (hr : meth.sig.returnType = (some .int)) {h0 ztx znw ztr zdi zkp zik : Nat} {A : Nat → Prop} {res : Int32 × Int32} : ∀ (rf : Int32) (sz : Int32) (ac : Int32) (sp : Int32) (ou : Int32) (tx : Nat → Int32) (nw : Nat → Int32) (tr : Nat → Int32) (di : Nat → Int32) (kp : Nat → Int32) (ik : Nat → Int32) (y1 : Int32)(h : pX8_about_105 rf nw y1 = some res), V p l e (headSpec wsX8_about rmX8_about).room s m args below meth c g 2 0 0 (MQ below (QWi g A res.1 [(h0, .inr (6, [.int res.2, .ref ztx, .int sz, .ref znw, .ref ztr, .ref zdi, .int ac, .ref zkp, .ref zik, .int sp, .int ou])), (ztx, .inl (cy 0, 120, .inl tx)), (znw, .inl (cy 0, 164, .inl nw)), (ztr, .inl (cy 0, 164, .inl tr)), (zdi, .inl (cy 0, 2296, .inl di)), (zkp, .inl (cy 0, 328, .inl kp)), (zik, .inl (cy 1, 2, .inl ik))]) args s 0 0 A) A A [(h0, .inr (6, [.int rf, .ref ztx, .int sz, .ref znw, .ref ztr, .ref zdi, .int ac, .ref zkp, .ref zik, .int sp, .int ou])), (ztx, .inl (cy 0, 120, .inl tx)), (znw, .inl (cy 0, 164, .inl nw)), (ztr, .inl (cy 0, 164, .inl tr)), (zdi, .inl (cy 0, 2296, .inl di)), (zkp, .inl (cy 0, 328, .inl kp)), (zik, .inl (cy 1, 2, .inl ik))] 105 [(0, .ref h0), (1, .int y1)] [] := by
  intro rf sz ac sp ou tx nw tr di kp ik y1 h
  unfold pX8_about_105 at h
  refine v_aload_n hC dX8_about_105 rfl 0 rfl rfl ?_
  refine v_get hC iX8_about_X8 0 rfl rfl 3 (by decide) kX8_about_13 rfl rfl dX8_about_106 rfl ?_
  refine v_iload_n hC dX8_about_109 rfl 1 rfl rfl ?_
  refine v_iconst hC (v := (nI 1)) dX8_about_110 (by decide) rfl ?_
  refine v_isub hC dX8_about_111 rfl ?_
  obtain ⟨hn, h⟩ := ite_g h
  refine v_iald hC 2 rfl hn dX8_about_112 rfl ?_
  obtain rfl := Option.some.inj h
  exact v_irw hC hr rfl rfl dX8_about_113
set_option maxHeartbeats 4000000 in
set_option maxRecDepth 100000 in
theorem bX8_about_18 {p : Program} {l : Launch} {e : Env} {s : State} {m : MethodId} {args : Array Value} {below : List Frame} {meth : Method} {c : Code} {g : va_G} {cy : Nat → ClassId} (hC : CX p s m args meth c g cy 2 cX8_about wsX8_about RX8) (hr : meth.sig.returnType = (some .int)) {h0 ztx znw ztr zdi zkp zik : Nat} {A : Nat → Prop} {res : Int32 × Int32} : ∀ (rf : Int32) (sz : Int32) (ac : Int32) (sp : Int32) (ou : Int32) (tx : Nat → Int32) (nw : Nat → Int32) (tr : Nat → Int32) (di : Nat → Int32) (kp : Nat → Int32) (ik : Nat → Int32) (y1 : Int32) (s0 : Int32)(h : pX8_about_18 rf nw y1 s0 = some res), V p l e (headSpec wsX8_about rmX8_about).room s m args below meth c g 2 0 0 (MQ below (QWi g A res.1 [(h0, .inr (6, [.int res.2, .ref ztx, .int sz, .ref znw, .ref ztr, .ref zdi, .int ac, .ref zkp, .ref zik, .int sp, .int ou])), (ztx, .inl (cy 0, 120, .inl tx)), (znw, .inl (cy 0, 164, .inl nw)), (ztr, .inl (cy 0, 164, .inl tr)), (zdi, .inl (cy 0, 2296, .inl di)), (zkp, .inl (cy 0, 328, .inl kp)), (zik, .inl (cy 1, 2, .inl ik))]) args s 0 0 A) A A [(h0, .inr (6, [.int rf, .ref ztx, .int sz, .ref znw, .ref ztr, .ref zdi, .int ac, .ref zkp, .ref zik, .int sp, .int ou])), (ztx, .inl (cy 0, 120, .inl tx)), (znw, .inl (cy 0, 164, .inl nw)), (ztr, .inl (cy 0, 164, .inl tr)), (zdi, .inl (cy 0, 2296, .inl di)), (zkp, .inl (cy 0, 328, .inl kp)), (zik, .inl (cy 1, 2, .inl ik))] 18 [(0, .ref h0), (1, .int y1)] [.int s0, .ref h0] := by
  intro rf sz ac sp ou tx nw tr di kp ik y1 s0 h
  unfold pX8_about_18 at h
  obtain ⟨v1, hv1, h⟩ := bind_g h
  refine v_callVwi hC (n := 1) (st := []) [(h0, .inr (6, [.int v1.2, .ref ztx, .int sz, .ref znw, .ref ztr, .ref zdi, .int ac, .ref zkp, .ref zik, .int sp, .int ou])), (ztx, .inl (cy 0, 120, .inl tx)), (znw, .inl (cy 0, 164, .inl nw)), (ztr, .inl (cy 0, 164, .inl tr)), (zdi, .inl (cy 0, 2296, .inl di)), (zkp, .inl (cy 0, 328, .inl kp)), (zik, .inl (cy 1, 2, .inl ik))] _ (mX8_refused l g cy h0 ztx znw ztr zdi zkp zik rf sz ac sp ou tx nw tr di kp ik s0 hv1) gX8_about_X8_refused rfl rfl rfl (by decide +kernel) ⟨Nat.le_of_ble_eq_true rfl, Nat.le_of_ble_eq_true rfl⟩ 0 rfl rfl [0, 1, 2, 3, 4, 5, 6] [] rfl rfl rfl rfl rfl rfl rfl rfl rfl (Nat.le_of_ble_eq_true rfl) rfl ⟨Nat.zero_le _, Nat.zero_le _⟩ dX8_about_18 rfl ?_
  refine v_if_eq hC (tgt := 26) dX8_about_21 (by decide) rfl (fun c => ?_) (fun c => ?_)
  · have h := ite_t c h
    refine v_iload_n hC dX8_about_26 rfl 1 rfl rfl ?_
    by_cases c0 : y1 = (nI 0)
    · have h := ite_t c0 h
      refine v_tswI hC (v := (nI 0)) (tgt := 76) dX8_about_27 c0 (by decide) (by decide) rfl (by decide) ?_
      exact bX8_about_76 hC hr _ _ _ _ _ _ _ _ _ _ _ _ h
    · have h := ite_f c0 h
      by_cases c1 : y1 = (nI 1)
      · have h := ite_t c1 h
        refine v_tswI hC (v := (nI 1)) (tgt := 76) dX8_about_27 c1 (by decide) (by decide) rfl (by decide) ?_
        exact bX8_about_76 hC hr _ _ _ _ _ _ _ _ _ _ _ _ h
      · have h := ite_f c1 h
        by_cases c2 : y1 = (nI 2)
        · have h := ite_t c2 h
          refine v_tswI hC (v := (nI 2)) (tgt := 83) dX8_about_27 c2 (by decide) (by decide) rfl (by decide) ?_
          refine v_aload_n hC dX8_about_83 rfl 0 rfl rfl ?_
          refine v_get hC iX8_about_X8 0 rfl rfl 3 (by decide) kX8_about_13 rfl rfl dX8_about_84 rfl ?_
          obtain ⟨v2, hv2, h⟩ := bind_g h
          refine v_callSri hC (n := 1) (st := []) (mX8_shots l g cy znw nw hv2) gX8_about_X8_shots rfl rfl rfl (by decide +kernel) ⟨Nat.le_of_ble_eq_true rfl, Nat.le_of_ble_eq_true rfl⟩ [2] rfl rfl rfl rfl (Nat.le_of_ble_eq_true rfl) rfl ⟨Nat.zero_le _, Nat.zero_le _⟩ dX8_about_87 rfl ?_
          obtain rfl := Option.some.inj h
          exact v_irw hC hr rfl rfl dX8_about_90
        · have h := ite_f c2 h
          by_cases c8 : y1 = (nI 8)
          · have h := ite_t c8 h
            refine v_tswI hC (v := (nI 8)) (tgt := 91) dX8_about_27 c8 (by decide) (by decide) rfl (by decide) ?_
            refine v_aload_n hC dX8_about_91 rfl 0 rfl rfl ?_
            refine v_get hC iX8_about_X8 0 rfl rfl 3 (by decide) kX8_about_13 rfl rfl dX8_about_92 rfl ?_
            refine v_sipush hC (v := (nI 16383)) dX8_about_95 (by decide) rfl ?_
            obtain ⟨v3, hv3, h⟩ := bind_g h
            refine v_callSri hC (n := 2) (st := []) (mX8_facesOf l g cy znw nw (nI 16383) hv3) gX8_about_X8_facesOf rfl rfl rfl (by decide +kernel) ⟨Nat.le_of_ble_eq_true rfl, Nat.le_of_ble_eq_true rfl⟩ [2] rfl rfl rfl rfl (Nat.le_of_ble_eq_true rfl) rfl ⟨Nat.zero_le _, Nat.zero_le _⟩ dX8_about_98 rfl ?_
            obtain ⟨v4, hv4, h⟩ := bind_g h
            refine v_callSri hC (n := 1) (st := []) (mX8_bits l g cy v3 hv4) gX8_about_X8_bits rfl rfl rfl (by decide +kernel) ⟨Nat.le_of_ble_eq_true rfl, Nat.le_of_ble_eq_true rfl⟩ [] rfl rfl rfl rfl (Nat.le_of_ble_eq_true rfl) rfl ⟨Nat.zero_le _, Nat.zero_le _⟩ dX8_about_101 rfl ?_
            obtain rfl := Option.some.inj h
            exact v_irw hC hr rfl rfl dX8_about_104
          · have h := ite_f c8 h
            by_cases c3 : y1 = (nI 3)
            · refine v_tswI hC (v := (nI 3)) (tgt := 105) dX8_about_27 c3 (by decide) (by decide) rfl (by decide) ?_
              exact bX8_about_105 hC hr _ _ _ _ _ _ _ _ _ _ _ _ h
            · skip
              by_cases c4 : y1 = (nI 4)
              · refine v_tswI hC (v := (nI 4)) (tgt := 105) dX8_about_27 c4 (by decide) (by decide) rfl (by decide) ?_
                exact bX8_about_105 hC hr _ _ _ _ _ _ _ _ _ _ _ _ h
              · skip
                by_cases c5 : y1 = (nI 5)
                · refine v_tswI hC (v := (nI 5)) (tgt := 105) dX8_about_27 c5 (by decide) (by decide) rfl (by decide) ?_
                  exact bX8_about_105 hC hr _ _ _ _ _ _ _ _ _ _ _ _ h
                · skip
                  by_cases c6 : y1 = (nI 6)
                  · refine v_tswI hC (v := (nI 6)) (tgt := 105) dX8_about_27 c6 (by decide) (by decide) rfl (by decide) ?_
                    exact bX8_about_105 hC hr _ _ _ _ _ _ _ _ _ _ _ _ h
                  · skip
                    by_cases c7 : y1 = (nI 7)
                    · refine v_tswI hC (v := (nI 7)) (tgt := 105) dX8_about_27 c7 (by decide) (by decide) rfl (by decide) ?_
                      exact bX8_about_105 hC hr _ _ _ _ _ _ _ _ _ _ _ _ h
                    · skip
                      refine v_tswO hC (tgt := 105) dX8_about_27 (by have e0 := ne_I (z := 0) (by decide) c0; have e1 := ne_I (z := 1) (by decide) c1; have e2 := ne_I (z := 2) (by decide) c2; have e3 := ne_I (z := 3) (by decide) c3; have e4 := ne_I (z := 4) (by decide) c4; have e5 := ne_I (z := 5) (by decide) c5; have e6 := ne_I (z := 6) (by decide) c6; have e7 := ne_I (z := 7) (by decide) c7; have e8 := ne_I (z := 8) (by decide) c8; omega) (by decide) ?_
                      exact bX8_about_105 hC hr _ _ _ _ _ _ _ _ _ _ _ _ h
  · have h := ite_f c h
    refine v_iconst hC (v := (nI 0)) dX8_about_24 (by decide) rfl ?_
    obtain rfl := Option.some.inj h
    exact v_irw hC hr rfl rfl dX8_about_25
set_option maxHeartbeats 4000000 in
set_option maxRecDepth 100000 in
theorem mX8_about (l : Launch) (g : va_G) (cy : Nat → ClassId) (h0 ztx znw ztr zdi zkp zik : Nat) (rf : Int32) (sz : Int32) (ac : Int32) (sp : Int32) (ou : Int32) (tx : Nat → Int32) (nw : Nat → Int32) (tr : Nat → Int32) (di : Nat → Int32) (kp : Nat → Int32) (ik : Nat → Int32) (x1 : Int32) {res : Int32 × Int32} (h : pX8_about rf nw x1 = some res) : Met l yX8_about wsX8_about rmX8_about (PW [.ref h0, .int x1] g cy [(h0, .inr (6, [.int rf, .ref ztx, .int sz, .ref znw, .ref ztr, .ref zdi, .int ac, .ref zkp, .ref zik, .int sp, .int ou])), (ztx, .inl (cy 0, 120, .inl tx)), (znw, .inl (cy 0, 164, .inl nw)), (ztr, .inl (cy 0, 164, .inl tr)), (zdi, .inl (cy 0, 2296, .inl di)), (zkp, .inl (cy 0, 328, .inl kp)), (zik, .inl (cy 1, 2, .inl ik))]) (QWi g (wA [(h0, .inr (6, [.int rf, .ref ztx, .int sz, .ref znw, .ref ztr, .ref zdi, .int ac, .ref zkp, .ref zik, .int sp, .int ou])), (ztx, .inl (cy 0, 120, .inl tx)), (znw, .inl (cy 0, 164, .inl nw)), (ztr, .inl (cy 0, 164, .inl tr)), (zdi, .inl (cy 0, 2296, .inl di)), (zkp, .inl (cy 0, 328, .inl kp)), (zik, .inl (cy 1, 2, .inl ik))]) res.1 [(h0, .inr (6, [.int res.2, .ref ztx, .int sz, .ref znw, .ref ztr, .ref zdi, .int ac, .ref zkp, .ref zik, .int sp, .int ou])), (ztx, .inl (cy 0, 120, .inl tx)), (znw, .inl (cy 0, 164, .inl nw)), (ztr, .inl (cy 0, 164, .inl tr)), (zdi, .inl (cy 0, 2296, .inl di)), (zkp, .inl (cy 0, 328, .inl kp)), (zik, .inl (cy 1, 2, .inl ik))]) 0 0 (wA [(h0, .inr (6, [.int rf, .ref ztx, .int sz, .ref znw, .ref ztr, .ref zdi, .int ac, .ref zkp, .ref zik, .int sp, .int ou])), (ztx, .inl (cy 0, 120, .inl tx)), (znw, .inl (cy 0, 164, .inl nw)), (ztr, .inl (cy 0, 164, .inl tr)), (zdi, .inl (cy 0, 2296, .inl di)), (zkp, .inl (cy 0, 328, .inl kp)), (zik, .inl (cy 1, 2, .inl ik))]) := by
  refine m_ofV (cc := cX8_about) (nL := 2) (ret := (some .int)) (B := (wA [(h0, .inr (6, [.int rf, .ref ztx, .int sz, .ref znw, .ref ztr, .ref zdi, .int ac, .ref zkp, .ref zik, .int sp, .int ou])), (ztx, .inl (cy 0, 120, .inl tx)), (znw, .inl (cy 0, 164, .inl nw)), (ztr, .inl (cy 0, 164, .inl tr)), (zdi, .inl (cy 0, 2296, .inl di)), (zkp, .inl (cy 0, 328, .inl kp)), (zik, .inl (cy 1, 2, .inl ik))])) RX8 rfl (by decide) rfl [(0, .ref h0), (1, .int x1)] rfl (Nat.le_of_ble_eq_true rfl) (wA.self) ?_
  intro p e s m args below meth c hC hr
  generalize (wA [(h0, .inr (6, [.int rf, .ref ztx, .int sz, .ref znw, .ref ztr, .ref zdi, .int ac, .ref zkp, .ref zik, .int sp, .int ou])), (ztx, .inl (cy 0, 120, .inl tx)), (znw, .inl (cy 0, 164, .inl nw)), (ztr, .inl (cy 0, 164, .inl tr)), (zdi, .inl (cy 0, 2296, .inl di)), (zkp, .inl (cy 0, 328, .inl kp)), (zik, .inl (cy 1, 2, .inl ik))]) = A
  unfold pX8_about at h
  refine v_aload_n hC dX8_about_0 rfl 0 rfl rfl ?_
  refine v_iload_n hC dX8_about_1 rfl 1 rfl rfl ?_
  refine v_i2l hC dX8_about_2 rfl ?_
  refine v_lconst hC (v := 0) dX8_about_3 rfl rfl ?_
  refine v_ldc2 hC (v := 8) dX8_about_4 kX8_about_176 rfl ?_
  obtain ⟨v1, hv1, h⟩ := bind_g h
  refine v_callSri hC (n := 3) (st := [.ref h0]) (mX8_in l g cy x1.toInt64 0 8 hv1) gX8_about_X8_in rfl rfl rfl (by decide +kernel) ⟨Nat.le_of_ble_eq_true rfl, Nat.le_of_ble_eq_true rfl⟩ [] rfl rfl rfl rfl (Nat.le_of_ble_eq_true rfl) rfl ⟨Nat.zero_le _, Nat.zero_le _⟩ dX8_about_7 rfl ?_
  refine v_if_eq hC (tgt := 17) dX8_about_10 (by decide) rfl (fun c => ?_) (fun c => ?_)
  · have h := ite_t c h
    refine v_iconst hC (v := (nI 1)) dX8_about_17 (by decide) rfl ?_
    exact bX8_about_18 hC hr _ _ _ _ _ _ _ _ _ _ _ _ _ h
  · have h := ite_f c h
    refine v_iconst hC (v := (nI 0)) dX8_about_13 (by decide) rfl ?_
    refine v_goto hC (tgt := 18) dX8_about_14 (by decide) ?_
    exact bX8_about_18 hC hr _ _ _ _ _ _ _ _ _ _ _ _ _ h
theorem kX8_extraOf_102 : Cond.constantLong RX8 102 6 ∈ wsX8_extraOf := by decide +kernel
theorem kX8_extraOf_13 : Cond.fieldLink RX8 13 "CrowdFacesModel" "now" "[I" ∈ wsX8_extraOf := by decide +kernel
theorem iX8_extraOf_X8 : ∀ w ∈ wsX80, w ∈ wsX8_extraOf := by decide +kernel
def pX8_extraOf_84 (kk : Int32 → (Nat → Int32) → Int32 → Int32 → Int32 → Int32 → Int32 → Option (Int32 × Int32)) (rf : Int32) (nw : Nat → Int32) (y1 : Int32) (y2 : Int32) (y4 : Int32) (y5 : Int32) (s0 : Int32) (s1 : Int32) : Option (Int32 × Int32) := kk rf nw y1 y2 (s1 + s0) y4 (y5 + (nI 1))
def pX8_extraOf_144 (kk : Int32 → (Nat → Int32) → Int32 → Int32 → Int32 → Int32 → Int32 → Option (Int32 × Int32)) (rf : Int32) (nw : Nat → Int32) (y1 : Int32) (y2 : Int32) (y3 : Int32) (y5 : Int32) (s0 : Int32) (s1 : Int32) : Option (Int32 × Int32) := kk rf nw y1 y2 y3 (s1 ||| s0) (y5 + (nI 1))
def pX8_extraOf_143 (kk : Int32 → (Nat → Int32) → Int32 → Int32 → Int32 → Int32 → Int32 → Option (Int32 × Int32)) (rf : Int32) (nw : Nat → Int32) (y1 : Int32) (y2 : Int32) (y3 : Int32) (y5 : Int32) (s0 : Int32) : Option (Int32 × Int32) := pX8_extraOf_144 kk rf nw y1 y2 y3 y5 (nI 0) s0
def pX8_extraOf_198 (rf : Int32) (nw : Nat → Int32) (s0 : Int32) : Option (Int32 × Int32) := some (s0, rf)
def pX8_extraOf_95 : Nat → Int32 → (Nat → Int32) → Int32 → Int32 → Int32 → Int32 → Int32 → Option (Int32 × Int32)
  | 0, _, _, _, _, _, _, _ => none
  | k + 1, rf, nw, y1, y2, y3, y4, y5 => if nb (nI 0) 164 = true then if (nw (nI 0).toNatClampNeg) ≤ y5 then if (nI 4) ≤ y2 then if y2 = (nI 4) then pX8_extraOf_198 rf nw y3 else if y2 = (nI 5) then pX8_extraOf_198 rf nw y4 else (pX8_of nw y1 (nI 5)).bind fun v1 => pX8_extraOf_198 rf nw v1 else (pX8_of nw y1 y2).bind fun v2 => pX8_extraOf_198 rf nw v2 else if y5 = y1 then pX8_extraOf_143 (fun u0 u1 u2 u3 u4 u5 u6 => pX8_extraOf_95 k u0 u1 u2 u3 u4 u5 u6) rf nw y1 y2 y3 y5 y4 else (pX8_of nw y5 (nI 1)).bind fun v3 => (pX8_of nw y1 (nI 1)).bind fun v4 => if v3 = v4 then pX8_extraOf_144 (fun u0 u1 u2 u3 u4 u5 u6 => pX8_extraOf_95 k u0 u1 u2 u3 u4 u5 u6) rf nw y1 y2 y3 y5 ((nI 1) <<< (y5 &&& 31)) y4 else pX8_extraOf_143 (fun u0 u1 u2 u3 u4 u5 u6 => pX8_extraOf_95 k u0 u1 u2 u3 u4 u5 u6) rf nw y1 y2 y3 y5 y4 else none
theorem pX8_extraOf_95_s {k : Nat} (rf : Int32) (nw : Nat → Int32) (y1 : Int32) (y2 : Int32) (y3 : Int32) (y4 : Int32) (y5 : Int32) : pX8_extraOf_95 (k + 1) rf nw y1 y2 y3 y4 y5 = if nb (nI 0) 164 = true then if (nw (nI 0).toNatClampNeg) ≤ y5 then if (nI 4) ≤ y2 then if y2 = (nI 4) then pX8_extraOf_198 rf nw y3 else if y2 = (nI 5) then pX8_extraOf_198 rf nw y4 else (pX8_of nw y1 (nI 5)).bind fun v1 => pX8_extraOf_198 rf nw v1 else (pX8_of nw y1 y2).bind fun v2 => pX8_extraOf_198 rf nw v2 else if y5 = y1 then pX8_extraOf_143 (fun u0 u1 u2 u3 u4 u5 u6 => pX8_extraOf_95 k u0 u1 u2 u3 u4 u5 u6) rf nw y1 y2 y3 y5 y4 else (pX8_of nw y5 (nI 1)).bind fun v3 => (pX8_of nw y1 (nI 1)).bind fun v4 => if v3 = v4 then pX8_extraOf_144 (fun u0 u1 u2 u3 u4 u5 u6 => pX8_extraOf_95 k u0 u1 u2 u3 u4 u5 u6) rf nw y1 y2 y3 y5 ((nI 1) <<< (y5 &&& 31)) y4 else pX8_extraOf_143 (fun u0 u1 u2 u3 u4 u5 u6 => pX8_extraOf_95 k u0 u1 u2 u3 u4 u5 u6) rf nw y1 y2 y3 y5 y4 else none := rfl
def pX8_extraOf_49 : Nat → Int32 → (Nat → Int32) → Int32 → Int32 → Int32 → Int32 → Int32 → Option (Int32 × Int32)
  | 0, _, _, _, _, _, _, _ => none
  | k + 1, rf, nw, y1, y2, y3, y4, y5 => if nb (nI 1) 164 = true then if (nw (nI 1).toNatClampNeg) ≤ y5 then pX8_extraOf_95 FU rf nw y1 y2 y3 y4 (nI 0) else (pX8_told nw y5 (nI 6)).bind fun v1 => (pX8_has v1 y1).bind fun v2 => if v2 = 0 then pX8_extraOf_84 (fun u0 u1 u2 u3 u4 u5 u6 => pX8_extraOf_49 k u0 u1 u2 u3 u4 u5 u6) rf nw y1 y2 y4 y5 (nI 0) y3 else pX8_extraOf_84 (fun u0 u1 u2 u3 u4 u5 u6 => pX8_extraOf_49 k u0 u1 u2 u3 u4 u5 u6) rf nw y1 y2 y4 y5 (nI 1) y3 else none
theorem pX8_extraOf_49_s {k : Nat} (rf : Int32) (nw : Nat → Int32) (y1 : Int32) (y2 : Int32) (y3 : Int32) (y4 : Int32) (y5 : Int32) : pX8_extraOf_49 (k + 1) rf nw y1 y2 y3 y4 y5 = if nb (nI 1) 164 = true then if (nw (nI 1).toNatClampNeg) ≤ y5 then pX8_extraOf_95 FU rf nw y1 y2 y3 y4 (nI 0) else (pX8_told nw y5 (nI 6)).bind fun v1 => (pX8_has v1 y1).bind fun v2 => if v2 = 0 then pX8_extraOf_84 (fun u0 u1 u2 u3 u4 u5 u6 => pX8_extraOf_49 k u0 u1 u2 u3 u4 u5 u6) rf nw y1 y2 y4 y5 (nI 0) y3 else pX8_extraOf_84 (fun u0 u1 u2 u3 u4 u5 u6 => pX8_extraOf_49 k u0 u1 u2 u3 u4 u5 u6) rf nw y1 y2 y4 y5 (nI 1) y3 else none := rfl
def pX8_extraOf_33 (rf : Int32) (nw : Nat → Int32) (y1 : Int32) (y2 : Int32) (s0 : Int32) : Option (Int32 × Int32) := (pX8_refused rf s0).bind fun v1 => if v1.1 = 0 then pX8_extraOf_49 FU v1.2 nw y1 y2 (nI 0) (nI 0) (nI 0) else some ((nI 0), v1.2)
def pX8_extraOf (rf : Int32) (nw : Nat → Int32) (x1 : Int32) (x2 : Int32) : Option (Int32 × Int32) := (pX8_isExtra nw x1).bind fun v1 => if v1 = 0 then pX8_extraOf_33 rf nw x1 x2 (nI 1) else (pX8_in x2.toInt64 0 6).bind fun v2 => if v2 = 0 then pX8_extraOf_33 rf nw x1 x2 (nI 2) else pX8_extraOf_33 rf nw x1 x2 (nI 0)
abbrev rmX8_extraOf : Room := { frames := 2, cells := 0, slots := 0, locals := 46 }
set_option maxHeartbeats 4000000 in
set_option maxRecDepth 100000 in
theorem bX8_extraOf_84 {p : Program} {l : Launch} {e : Env} {s : State} {m : MethodId} {args : Array Value} {below : List Frame} {meth : Method} {c : Code} {g : va_G} {cy : Nat → ClassId} (hC : CX p s m args meth c g cy 6 cX8_extraOf wsX8_extraOf RX8) (hr : meth.sig.returnType = (some .int)) {h0 ztx znw ztr zdi zkp zik : Nat} {A : Nat → Prop} {res : Int32 × Int32} : ∀ (rf : Int32) (sz : Int32) (ac : Int32) (sp : Int32) (ou : Int32) (tx : Nat → Int32) (nw : Nat → Int32) (tr : Nat → Int32) (di : Nat → Int32) (kp : Nat → Int32) (ik : Nat → Int32) (y1 : Int32) (y2 : Int32) (y4 : Int32) (y5 : Int32) (s0 : Int32) (s1 : Int32) {kk : Int32 → (Nat → Int32) → Int32 → Int32 → Int32 → Int32 → Int32 → Option (Int32 × Int32)} (hk : ∀ (rf : Int32) (sz : Int32) (ac : Int32) (sp : Int32) (ou : Int32) (tx : Nat → Int32) (nw : Nat → Int32) (tr : Nat → Int32) (di : Nat → Int32) (kp : Nat → Int32) (ik : Nat → Int32) (y1 : Int32) (y2 : Int32) (y3 : Int32) (y4 : Int32) (y5 : Int32), kk rf nw y1 y2 y3 y4 y5 = some res → V p l e (headSpec wsX8_extraOf rmX8_extraOf).room s m args below meth c g 6 0 0 (MQ below (QWi g A res.1 [(h0, .inr (6, [.int res.2, .ref ztx, .int sz, .ref znw, .ref ztr, .ref zdi, .int ac, .ref zkp, .ref zik, .int sp, .int ou])), (ztx, .inl (cy 0, 120, .inl tx)), (znw, .inl (cy 0, 164, .inl nw)), (ztr, .inl (cy 0, 164, .inl tr)), (zdi, .inl (cy 0, 2296, .inl di)), (zkp, .inl (cy 0, 328, .inl kp)), (zik, .inl (cy 1, 2, .inl ik))]) args s 0 0 A) A A [(h0, .inr (6, [.int rf, .ref ztx, .int sz, .ref znw, .ref ztr, .ref zdi, .int ac, .ref zkp, .ref zik, .int sp, .int ou])), (ztx, .inl (cy 0, 120, .inl tx)), (znw, .inl (cy 0, 164, .inl nw)), (ztr, .inl (cy 0, 164, .inl tr)), (zdi, .inl (cy 0, 2296, .inl di)), (zkp, .inl (cy 0, 328, .inl kp)), (zik, .inl (cy 1, 2, .inl ik))] 49 [(0, .ref h0), (1, .int y1), (2, .int y2), (3, .int y3), (4, .int y4), (5, .int y5)] []) (h : pX8_extraOf_84 kk rf nw y1 y2 y4 y5 s0 s1 = some res), V p l e (headSpec wsX8_extraOf rmX8_extraOf).room s m args below meth c g 6 0 0 (MQ below (QWi g A res.1 [(h0, .inr (6, [.int res.2, .ref ztx, .int sz, .ref znw, .ref ztr, .ref zdi, .int ac, .ref zkp, .ref zik, .int sp, .int ou])), (ztx, .inl (cy 0, 120, .inl tx)), (znw, .inl (cy 0, 164, .inl nw)), (ztr, .inl (cy 0, 164, .inl tr)), (zdi, .inl (cy 0, 2296, .inl di)), (zkp, .inl (cy 0, 328, .inl kp)), (zik, .inl (cy 1, 2, .inl ik))]) args s 0 0 A) A A [(h0, .inr (6, [.int rf, .ref ztx, .int sz, .ref znw, .ref ztr, .ref zdi, .int ac, .ref zkp, .ref zik, .int sp, .int ou])), (ztx, .inl (cy 0, 120, .inl tx)), (znw, .inl (cy 0, 164, .inl nw)), (ztr, .inl (cy 0, 164, .inl tr)), (zdi, .inl (cy 0, 2296, .inl di)), (zkp, .inl (cy 0, 328, .inl kp)), (zik, .inl (cy 1, 2, .inl ik))] 84 [(0, .ref h0), (1, .int y1), (2, .int y2), (4, .int y4), (5, .int y5)] [.int s0, .int s1] := by
  intro rf sz ac sp ou tx nw tr di kp ik y1 y2 y4 y5 s0 s1 kk hk h
  unfold pX8_extraOf_84 at h
  refine v_iadd hC dX8_extraOf_84 rfl ?_
  refine v_istore_n hC dX8_extraOf_85 rfl (by decide) [(3, .int (s1 + s0)), (0, .ref h0), (1, .int y1), (2, .int y2), (4, .int y4), (5, .int y5)] rfl rfl ?_
  refine v_iinc hC dX8_extraOf_86 5 rfl (v := (y5 + (nI 1))) rfl (by decide) [(5, .int (y5 + (nI 1))), (3, .int (s1 + s0)), (0, .ref h0), (1, .int y1), (2, .int y2), (4, .int y4)] rfl rfl ?_
  refine v_goto hC (tgt := 49) dX8_extraOf_89 (by decide) ?_
  exact v_sub [2, 3, 4, 1, 5, 0] (lv' := [(0, .ref h0), (1, .int y1), (2, .int y2), (3, .int (s1 + s0)), (4, .int y4), (5, .int (y5 + (nI 1)))]) rfl (hk _ _ _ _ _ _ _ _ _ _ _ _ _ _ _ _ h)
set_option maxHeartbeats 4000000 in
set_option maxRecDepth 100000 in
theorem bX8_extraOf_144 {p : Program} {l : Launch} {e : Env} {s : State} {m : MethodId} {args : Array Value} {below : List Frame} {meth : Method} {c : Code} {g : va_G} {cy : Nat → ClassId} (hC : CX p s m args meth c g cy 6 cX8_extraOf wsX8_extraOf RX8) (hr : meth.sig.returnType = (some .int)) {h0 ztx znw ztr zdi zkp zik : Nat} {A : Nat → Prop} {res : Int32 × Int32} : ∀ (rf : Int32) (sz : Int32) (ac : Int32) (sp : Int32) (ou : Int32) (tx : Nat → Int32) (nw : Nat → Int32) (tr : Nat → Int32) (di : Nat → Int32) (kp : Nat → Int32) (ik : Nat → Int32) (y1 : Int32) (y2 : Int32) (y3 : Int32) (y5 : Int32) (s0 : Int32) (s1 : Int32) {kk : Int32 → (Nat → Int32) → Int32 → Int32 → Int32 → Int32 → Int32 → Option (Int32 × Int32)} (hk : ∀ (rf : Int32) (sz : Int32) (ac : Int32) (sp : Int32) (ou : Int32) (tx : Nat → Int32) (nw : Nat → Int32) (tr : Nat → Int32) (di : Nat → Int32) (kp : Nat → Int32) (ik : Nat → Int32) (y1 : Int32) (y2 : Int32) (y3 : Int32) (y4 : Int32) (y5 : Int32), kk rf nw y1 y2 y3 y4 y5 = some res → V p l e (headSpec wsX8_extraOf rmX8_extraOf).room s m args below meth c g 6 0 0 (MQ below (QWi g A res.1 [(h0, .inr (6, [.int res.2, .ref ztx, .int sz, .ref znw, .ref ztr, .ref zdi, .int ac, .ref zkp, .ref zik, .int sp, .int ou])), (ztx, .inl (cy 0, 120, .inl tx)), (znw, .inl (cy 0, 164, .inl nw)), (ztr, .inl (cy 0, 164, .inl tr)), (zdi, .inl (cy 0, 2296, .inl di)), (zkp, .inl (cy 0, 328, .inl kp)), (zik, .inl (cy 1, 2, .inl ik))]) args s 0 0 A) A A [(h0, .inr (6, [.int rf, .ref ztx, .int sz, .ref znw, .ref ztr, .ref zdi, .int ac, .ref zkp, .ref zik, .int sp, .int ou])), (ztx, .inl (cy 0, 120, .inl tx)), (znw, .inl (cy 0, 164, .inl nw)), (ztr, .inl (cy 0, 164, .inl tr)), (zdi, .inl (cy 0, 2296, .inl di)), (zkp, .inl (cy 0, 328, .inl kp)), (zik, .inl (cy 1, 2, .inl ik))] 95 [(0, .ref h0), (1, .int y1), (2, .int y2), (3, .int y3), (4, .int y4), (5, .int y5)] []) (h : pX8_extraOf_144 kk rf nw y1 y2 y3 y5 s0 s1 = some res), V p l e (headSpec wsX8_extraOf rmX8_extraOf).room s m args below meth c g 6 0 0 (MQ below (QWi g A res.1 [(h0, .inr (6, [.int res.2, .ref ztx, .int sz, .ref znw, .ref ztr, .ref zdi, .int ac, .ref zkp, .ref zik, .int sp, .int ou])), (ztx, .inl (cy 0, 120, .inl tx)), (znw, .inl (cy 0, 164, .inl nw)), (ztr, .inl (cy 0, 164, .inl tr)), (zdi, .inl (cy 0, 2296, .inl di)), (zkp, .inl (cy 0, 328, .inl kp)), (zik, .inl (cy 1, 2, .inl ik))]) args s 0 0 A) A A [(h0, .inr (6, [.int rf, .ref ztx, .int sz, .ref znw, .ref ztr, .ref zdi, .int ac, .ref zkp, .ref zik, .int sp, .int ou])), (ztx, .inl (cy 0, 120, .inl tx)), (znw, .inl (cy 0, 164, .inl nw)), (ztr, .inl (cy 0, 164, .inl tr)), (zdi, .inl (cy 0, 2296, .inl di)), (zkp, .inl (cy 0, 328, .inl kp)), (zik, .inl (cy 1, 2, .inl ik))] 144 [(0, .ref h0), (1, .int y1), (2, .int y2), (3, .int y3), (5, .int y5)] [.int s0, .int s1] := by
  intro rf sz ac sp ou tx nw tr di kp ik y1 y2 y3 y5 s0 s1 kk hk h
  unfold pX8_extraOf_144 at h
  refine v_ior hC dX8_extraOf_144 rfl ?_
  refine v_istore hC dX8_extraOf_145 (by decide) [(4, .int (s1 ||| s0)), (0, .ref h0), (1, .int y1), (2, .int y2), (3, .int y3), (5, .int y5)] rfl rfl ?_
  refine v_iinc hC dX8_extraOf_147 5 rfl (v := (y5 + (nI 1))) rfl (by decide) [(5, .int (y5 + (nI 1))), (4, .int (s1 ||| s0)), (0, .ref h0), (1, .int y1), (2, .int y2), (3, .int y3)] rfl rfl ?_
  refine v_goto hC (tgt := 95) dX8_extraOf_150 (by decide) ?_
  exact v_sub [2, 3, 4, 5, 1, 0] (lv' := [(0, .ref h0), (1, .int y1), (2, .int y2), (3, .int y3), (4, .int (s1 ||| s0)), (5, .int (y5 + (nI 1)))]) rfl (hk _ _ _ _ _ _ _ _ _ _ _ _ _ _ _ _ h)
set_option maxHeartbeats 4000000 in
set_option maxRecDepth 100000 in
theorem bX8_extraOf_143 {p : Program} {l : Launch} {e : Env} {s : State} {m : MethodId} {args : Array Value} {below : List Frame} {meth : Method} {c : Code} {g : va_G} {cy : Nat → ClassId} (hC : CX p s m args meth c g cy 6 cX8_extraOf wsX8_extraOf RX8) (hr : meth.sig.returnType = (some .int)) {h0 ztx znw ztr zdi zkp zik : Nat} {A : Nat → Prop} {res : Int32 × Int32} : ∀ (rf : Int32) (sz : Int32) (ac : Int32) (sp : Int32) (ou : Int32) (tx : Nat → Int32) (nw : Nat → Int32) (tr : Nat → Int32) (di : Nat → Int32) (kp : Nat → Int32) (ik : Nat → Int32) (y1 : Int32) (y2 : Int32) (y3 : Int32) (y5 : Int32) (s0 : Int32) {kk : Int32 → (Nat → Int32) → Int32 → Int32 → Int32 → Int32 → Int32 → Option (Int32 × Int32)} (hk : ∀ (rf : Int32) (sz : Int32) (ac : Int32) (sp : Int32) (ou : Int32) (tx : Nat → Int32) (nw : Nat → Int32) (tr : Nat → Int32) (di : Nat → Int32) (kp : Nat → Int32) (ik : Nat → Int32) (y1 : Int32) (y2 : Int32) (y3 : Int32) (y4 : Int32) (y5 : Int32), kk rf nw y1 y2 y3 y4 y5 = some res → V p l e (headSpec wsX8_extraOf rmX8_extraOf).room s m args below meth c g 6 0 0 (MQ below (QWi g A res.1 [(h0, .inr (6, [.int res.2, .ref ztx, .int sz, .ref znw, .ref ztr, .ref zdi, .int ac, .ref zkp, .ref zik, .int sp, .int ou])), (ztx, .inl (cy 0, 120, .inl tx)), (znw, .inl (cy 0, 164, .inl nw)), (ztr, .inl (cy 0, 164, .inl tr)), (zdi, .inl (cy 0, 2296, .inl di)), (zkp, .inl (cy 0, 328, .inl kp)), (zik, .inl (cy 1, 2, .inl ik))]) args s 0 0 A) A A [(h0, .inr (6, [.int rf, .ref ztx, .int sz, .ref znw, .ref ztr, .ref zdi, .int ac, .ref zkp, .ref zik, .int sp, .int ou])), (ztx, .inl (cy 0, 120, .inl tx)), (znw, .inl (cy 0, 164, .inl nw)), (ztr, .inl (cy 0, 164, .inl tr)), (zdi, .inl (cy 0, 2296, .inl di)), (zkp, .inl (cy 0, 328, .inl kp)), (zik, .inl (cy 1, 2, .inl ik))] 95 [(0, .ref h0), (1, .int y1), (2, .int y2), (3, .int y3), (4, .int y4), (5, .int y5)] []) (h : pX8_extraOf_143 kk rf nw y1 y2 y3 y5 s0 = some res), V p l e (headSpec wsX8_extraOf rmX8_extraOf).room s m args below meth c g 6 0 0 (MQ below (QWi g A res.1 [(h0, .inr (6, [.int res.2, .ref ztx, .int sz, .ref znw, .ref ztr, .ref zdi, .int ac, .ref zkp, .ref zik, .int sp, .int ou])), (ztx, .inl (cy 0, 120, .inl tx)), (znw, .inl (cy 0, 164, .inl nw)), (ztr, .inl (cy 0, 164, .inl tr)), (zdi, .inl (cy 0, 2296, .inl di)), (zkp, .inl (cy 0, 328, .inl kp)), (zik, .inl (cy 1, 2, .inl ik))]) args s 0 0 A) A A [(h0, .inr (6, [.int rf, .ref ztx, .int sz, .ref znw, .ref ztr, .ref zdi, .int ac, .ref zkp, .ref zik, .int sp, .int ou])), (ztx, .inl (cy 0, 120, .inl tx)), (znw, .inl (cy 0, 164, .inl nw)), (ztr, .inl (cy 0, 164, .inl tr)), (zdi, .inl (cy 0, 2296, .inl di)), (zkp, .inl (cy 0, 328, .inl kp)), (zik, .inl (cy 1, 2, .inl ik))] 143 [(0, .ref h0), (1, .int y1), (2, .int y2), (3, .int y3), (5, .int y5)] [.int s0] := by
  intro rf sz ac sp ou tx nw tr di kp ik y1 y2 y3 y5 s0 kk hk h
  unfold pX8_extraOf_143 at h
  refine v_iconst hC (v := (nI 0)) dX8_extraOf_143 (by decide) rfl ?_
  exact bX8_extraOf_144 hC hr _ _ _ _ _ _ _ _ _ _ _ _ _ _ _ _ _ hk h
set_option maxHeartbeats 4000000 in
set_option maxRecDepth 100000 in
theorem bX8_extraOf_198 {p : Program} {l : Launch} {e : Env} {s : State} {m : MethodId} {args : Array Value} {below : List Frame} {meth : Method} {c : Code} {g : va_G} {cy : Nat → ClassId} (hC : CX p s m args meth c g cy 6 cX8_extraOf wsX8_extraOf RX8) (hr : meth.sig.returnType = (some .int)) {h0 ztx znw ztr zdi zkp zik : Nat} {A : Nat → Prop} {res : Int32 × Int32} : ∀ (rf : Int32) (sz : Int32) (ac : Int32) (sp : Int32) (ou : Int32) (tx : Nat → Int32) (nw : Nat → Int32) (tr : Nat → Int32) (di : Nat → Int32) (kp : Nat → Int32) (ik : Nat → Int32) (s0 : Int32)(h : pX8_extraOf_198 rf nw s0 = some res), V p l e (headSpec wsX8_extraOf rmX8_extraOf).room s m args below meth c g 6 0 0 (MQ below (QWi g A res.1 [(h0, .inr (6, [.int res.2, .ref ztx, .int sz, .ref znw, .ref ztr, .ref zdi, .int ac, .ref zkp, .ref zik, .int sp, .int ou])), (ztx, .inl (cy 0, 120, .inl tx)), (znw, .inl (cy 0, 164, .inl nw)), (ztr, .inl (cy 0, 164, .inl tr)), (zdi, .inl (cy 0, 2296, .inl di)), (zkp, .inl (cy 0, 328, .inl kp)), (zik, .inl (cy 1, 2, .inl ik))]) args s 0 0 A) A A [(h0, .inr (6, [.int rf, .ref ztx, .int sz, .ref znw, .ref ztr, .ref zdi, .int ac, .ref zkp, .ref zik, .int sp, .int ou])), (ztx, .inl (cy 0, 120, .inl tx)), (znw, .inl (cy 0, 164, .inl nw)), (ztr, .inl (cy 0, 164, .inl tr)), (zdi, .inl (cy 0, 2296, .inl di)), (zkp, .inl (cy 0, 328, .inl kp)), (zik, .inl (cy 1, 2, .inl ik))] 198 [] [.int s0] := by
  intro rf sz ac sp ou tx nw tr di kp ik s0 h
  unfold pX8_extraOf_198 at h
  obtain rfl := Option.some.inj h
  exact v_irw hC hr rfl rfl dX8_extraOf_198
set_option maxHeartbeats 4000000 in
set_option maxRecDepth 100000 in
theorem bX8_extraOf_95 {p : Program} {l : Launch} {e : Env} {s : State} {m : MethodId} {args : Array Value} {below : List Frame} {meth : Method} {c : Code} {g : va_G} {cy : Nat → ClassId} (hC : CX p s m args meth c g cy 6 cX8_extraOf wsX8_extraOf RX8) (hr : meth.sig.returnType = (some .int)) {h0 ztx znw ztr zdi zkp zik : Nat} {A : Nat → Prop} {res : Int32 × Int32} : ∀ (k : Nat) (rf : Int32) (sz : Int32) (ac : Int32) (sp : Int32) (ou : Int32) (tx : Nat → Int32) (nw : Nat → Int32) (tr : Nat → Int32) (di : Nat → Int32) (kp : Nat → Int32) (ik : Nat → Int32) (y1 : Int32) (y2 : Int32) (y3 : Int32) (y4 : Int32) (y5 : Int32) (h : pX8_extraOf_95 k rf nw y1 y2 y3 y4 y5 = some res), V p l e (headSpec wsX8_extraOf rmX8_extraOf).room s m args below meth c g 6 0 0 (MQ below (QWi g A res.1 [(h0, .inr (6, [.int res.2, .ref ztx, .int sz, .ref znw, .ref ztr, .ref zdi, .int ac, .ref zkp, .ref zik, .int sp, .int ou])), (ztx, .inl (cy 0, 120, .inl tx)), (znw, .inl (cy 0, 164, .inl nw)), (ztr, .inl (cy 0, 164, .inl tr)), (zdi, .inl (cy 0, 2296, .inl di)), (zkp, .inl (cy 0, 328, .inl kp)), (zik, .inl (cy 1, 2, .inl ik))]) args s 0 0 A) A A [(h0, .inr (6, [.int rf, .ref ztx, .int sz, .ref znw, .ref ztr, .ref zdi, .int ac, .ref zkp, .ref zik, .int sp, .int ou])), (ztx, .inl (cy 0, 120, .inl tx)), (znw, .inl (cy 0, 164, .inl nw)), (ztr, .inl (cy 0, 164, .inl tr)), (zdi, .inl (cy 0, 2296, .inl di)), (zkp, .inl (cy 0, 328, .inl kp)), (zik, .inl (cy 1, 2, .inl ik))] 95 [(0, .ref h0), (1, .int y1), (2, .int y2), (3, .int y3), (4, .int y4), (5, .int y5)] [] := by
  intro k
  induction k with
  | zero =>
    intro rf sz ac sp ou tx nw tr di kp ik y1 y2 y3 y4 y5 h
    have h : (none : Option _) = some res := h
    cases h
  | succ k ih =>
    intro rf sz ac sp ou tx nw tr di kp ik y1 y2 y3 y4 y5 h
    rw [pX8_extraOf_95_s] at h
    refine v_iload hC dX8_extraOf_95 5 rfl rfl ?_
    refine v_aload_n hC dX8_extraOf_97 rfl 0 rfl rfl ?_
    refine v_get hC iX8_extraOf_X8 0 rfl rfl 3 (by decide) kX8_extraOf_13 rfl rfl dX8_extraOf_98 rfl ?_
    refine v_iconst hC (v := (nI 0)) dX8_extraOf_101 (by decide) rfl ?_
    obtain ⟨hn, h⟩ := ite_g h
    refine v_iald hC 2 rfl hn dX8_extraOf_102 rfl ?_
    refine v_icmp_ge hC (tgt := 153) dX8_extraOf_103 (by decide) rfl (fun c => ?_) (fun c => ?_)
    · have h := ite_t c h
      refine v_iload_n hC dX8_extraOf_153 rfl 2 rfl rfl ?_
      refine v_iconst hC (v := (nI 4)) dX8_extraOf_154 (by decide) rfl ?_
      refine v_icmp_ge hC (tgt := 170) dX8_extraOf_155 (by decide) rfl (fun c => ?_) (fun c => ?_)
      · have h := ite_t c h
        refine v_iload_n hC dX8_extraOf_170 rfl 2 rfl rfl ?_
        refine v_iconst hC (v := (nI 4)) dX8_extraOf_171 (by decide) rfl ?_
        refine v_icmp_ne hC (tgt := 179) dX8_extraOf_172 (by decide) rfl (fun c => ?_) (fun c => ?_)
        · have h := ite_f c h
          refine v_iload_n hC dX8_extraOf_179 rfl 2 rfl rfl ?_
          refine v_iconst hC (v := (nI 5)) dX8_extraOf_180 (by decide) rfl ?_
          refine v_icmp_ne hC (tgt := 189) dX8_extraOf_181 (by decide) rfl (fun c => ?_) (fun c => ?_)
          · have h := ite_f c h
            refine v_aload_n hC dX8_extraOf_189 rfl 0 rfl rfl ?_
            refine v_get hC iX8_extraOf_X8 0 rfl rfl 3 (by decide) kX8_extraOf_13 rfl rfl dX8_extraOf_190 rfl ?_
            refine v_iload_n hC dX8_extraOf_193 rfl 1 rfl rfl ?_
            refine v_iconst hC (v := (nI 5)) dX8_extraOf_194 (by decide) rfl ?_
            obtain ⟨v1, hv1, h⟩ := bind_g h
            refine v_callSri hC (n := 3) (st := []) (mX8_of l g cy znw nw y1 (nI 5) hv1) gX8_extraOf_X8_of rfl rfl rfl (by decide +kernel) ⟨Nat.le_of_ble_eq_true rfl, Nat.le_of_ble_eq_true rfl⟩ [2] rfl rfl rfl rfl (Nat.le_of_ble_eq_true rfl) rfl ⟨Nat.zero_le _, Nat.zero_le _⟩ dX8_extraOf_195 rfl ?_
            exact v_sub [] (lv' := []) rfl (bX8_extraOf_198 hC hr _ _ _ _ _ _ _ _ _ _ _ _ h)
          · have h := ite_t c h
            refine v_iload hC dX8_extraOf_184 4 rfl rfl ?_
            refine v_goto hC (tgt := 198) dX8_extraOf_186 (by decide) ?_
            exact v_sub [] (lv' := []) rfl (bX8_extraOf_198 hC hr _ _ _ _ _ _ _ _ _ _ _ _ h)
        · have h := ite_t c h
          refine v_iload_n hC dX8_extraOf_175 rfl 3 rfl rfl ?_
          refine v_goto hC (tgt := 198) dX8_extraOf_176 (by decide) ?_
          exact v_sub [] (lv' := []) rfl (bX8_extraOf_198 hC hr _ _ _ _ _ _ _ _ _ _ _ _ h)
      · have h := ite_f c h
        refine v_aload_n hC dX8_extraOf_158 rfl 0 rfl rfl ?_
        refine v_get hC iX8_extraOf_X8 0 rfl rfl 3 (by decide) kX8_extraOf_13 rfl rfl dX8_extraOf_159 rfl ?_
        refine v_iload_n hC dX8_extraOf_162 rfl 1 rfl rfl ?_
        refine v_iload_n hC dX8_extraOf_163 rfl 2 rfl rfl ?_
        obtain ⟨v2, hv2, h⟩ := bind_g h
        refine v_callSri hC (n := 3) (st := []) (mX8_of l g cy znw nw y1 y2 hv2) gX8_extraOf_X8_of rfl rfl rfl (by decide +kernel) ⟨Nat.le_of_ble_eq_true rfl, Nat.le_of_ble_eq_true rfl⟩ [2] rfl rfl rfl rfl (Nat.le_of_ble_eq_true rfl) rfl ⟨Nat.zero_le _, Nat.zero_le _⟩ dX8_extraOf_164 rfl ?_
        refine v_goto hC (tgt := 198) dX8_extraOf_167 (by decide) ?_
        exact v_sub [] (lv' := []) rfl (bX8_extraOf_198 hC hr _ _ _ _ _ _ _ _ _ _ _ _ h)
    · have h := ite_f c h
      refine v_iload hC dX8_extraOf_106 4 rfl rfl ?_
      refine v_iload hC dX8_extraOf_108 5 rfl rfl ?_
      refine v_iload_n hC dX8_extraOf_110 rfl 1 rfl rfl ?_
      refine v_icmp_eq hC (tgt := 143) dX8_extraOf_111 (by decide) rfl (fun c => ?_) (fun c => ?_)
      · have h := ite_t c h
        exact v_sub [0, 1, 2, 3, 5] (lv' := [(0, .ref h0), (1, .int y1), (2, .int y2), (3, .int y3), (5, .int y5)]) rfl (bX8_extraOf_143 hC hr _ _ _ _ _ _ _ _ _ _ _ _ _ _ _ _ ih h)
      · have h := ite_f c h
        refine v_aload_n hC dX8_extraOf_114 rfl 0 rfl rfl ?_
        refine v_get hC iX8_extraOf_X8 0 rfl rfl 3 (by decide) kX8_extraOf_13 rfl rfl dX8_extraOf_115 rfl ?_
        refine v_iload hC dX8_extraOf_118 5 rfl rfl ?_
        refine v_iconst hC (v := (nI 1)) dX8_extraOf_120 (by decide) rfl ?_
        obtain ⟨v3, hv3, h⟩ := bind_g h
        refine v_callSri hC (n := 3) (st := [.int y4]) (mX8_of l g cy znw nw y5 (nI 1) hv3) gX8_extraOf_X8_of rfl rfl rfl (by decide +kernel) ⟨Nat.le_of_ble_eq_true rfl, Nat.le_of_ble_eq_true rfl⟩ [2] rfl rfl rfl rfl (Nat.le_of_ble_eq_true rfl) rfl ⟨Nat.zero_le _, Nat.zero_le _⟩ dX8_extraOf_121 rfl ?_
        refine v_aload_n hC dX8_extraOf_124 rfl 0 rfl rfl ?_
        refine v_get hC iX8_extraOf_X8 0 rfl rfl 3 (by decide) kX8_extraOf_13 rfl rfl dX8_extraOf_125 rfl ?_
        refine v_iload_n hC dX8_extraOf_128 rfl 1 rfl rfl ?_
        refine v_iconst hC (v := (nI 1)) dX8_extraOf_129 (by decide) rfl ?_
        obtain ⟨v4, hv4, h⟩ := bind_g h
        refine v_callSri hC (n := 3) (st := [.int v3, .int y4]) (mX8_of l g cy znw nw y1 (nI 1) hv4) gX8_extraOf_X8_of rfl rfl rfl (by decide +kernel) ⟨Nat.le_of_ble_eq_true rfl, Nat.le_of_ble_eq_true rfl⟩ [2] rfl rfl rfl rfl (Nat.le_of_ble_eq_true rfl) rfl ⟨Nat.zero_le _, Nat.zero_le _⟩ dX8_extraOf_130 rfl ?_
        refine v_icmp_ne hC (tgt := 143) dX8_extraOf_133 (by decide) rfl (fun c => ?_) (fun c => ?_)
        · have h := ite_f c h
          exact v_sub [0, 1, 2, 3, 5] (lv' := [(0, .ref h0), (1, .int y1), (2, .int y2), (3, .int y3), (5, .int y5)]) rfl (bX8_extraOf_143 hC hr _ _ _ _ _ _ _ _ _ _ _ _ _ _ _ _ ih h)
        · have h := ite_t c h
          refine v_iconst hC (v := (nI 1)) dX8_extraOf_136 (by decide) rfl ?_
          refine v_iload hC dX8_extraOf_137 5 rfl rfl ?_
          refine v_ishl hC dX8_extraOf_139 rfl ?_
          refine v_goto hC (tgt := 144) dX8_extraOf_140 (by decide) ?_
          exact v_sub [0, 1, 2, 3, 5] (lv' := [(0, .ref h0), (1, .int y1), (2, .int y2), (3, .int y3), (5, .int y5)]) rfl (bX8_extraOf_144 hC hr _ _ _ _ _ _ _ _ _ _ _ _ _ _ _ _ _ ih h)
set_option maxHeartbeats 4000000 in
set_option maxRecDepth 100000 in
theorem bX8_extraOf_49 {p : Program} {l : Launch} {e : Env} {s : State} {m : MethodId} {args : Array Value} {below : List Frame} {meth : Method} {c : Code} {g : va_G} {cy : Nat → ClassId} (hC : CX p s m args meth c g cy 6 cX8_extraOf wsX8_extraOf RX8) (hr : meth.sig.returnType = (some .int)) {h0 ztx znw ztr zdi zkp zik : Nat} {A : Nat → Prop} {res : Int32 × Int32} : ∀ (k : Nat) (rf : Int32) (sz : Int32) (ac : Int32) (sp : Int32) (ou : Int32) (tx : Nat → Int32) (nw : Nat → Int32) (tr : Nat → Int32) (di : Nat → Int32) (kp : Nat → Int32) (ik : Nat → Int32) (y1 : Int32) (y2 : Int32) (y3 : Int32) (y4 : Int32) (y5 : Int32) (h : pX8_extraOf_49 k rf nw y1 y2 y3 y4 y5 = some res), V p l e (headSpec wsX8_extraOf rmX8_extraOf).room s m args below meth c g 6 0 0 (MQ below (QWi g A res.1 [(h0, .inr (6, [.int res.2, .ref ztx, .int sz, .ref znw, .ref ztr, .ref zdi, .int ac, .ref zkp, .ref zik, .int sp, .int ou])), (ztx, .inl (cy 0, 120, .inl tx)), (znw, .inl (cy 0, 164, .inl nw)), (ztr, .inl (cy 0, 164, .inl tr)), (zdi, .inl (cy 0, 2296, .inl di)), (zkp, .inl (cy 0, 328, .inl kp)), (zik, .inl (cy 1, 2, .inl ik))]) args s 0 0 A) A A [(h0, .inr (6, [.int rf, .ref ztx, .int sz, .ref znw, .ref ztr, .ref zdi, .int ac, .ref zkp, .ref zik, .int sp, .int ou])), (ztx, .inl (cy 0, 120, .inl tx)), (znw, .inl (cy 0, 164, .inl nw)), (ztr, .inl (cy 0, 164, .inl tr)), (zdi, .inl (cy 0, 2296, .inl di)), (zkp, .inl (cy 0, 328, .inl kp)), (zik, .inl (cy 1, 2, .inl ik))] 49 [(0, .ref h0), (1, .int y1), (2, .int y2), (3, .int y3), (4, .int y4), (5, .int y5)] [] := by
  intro k
  induction k with
  | zero =>
    intro rf sz ac sp ou tx nw tr di kp ik y1 y2 y3 y4 y5 h
    have h : (none : Option _) = some res := h
    cases h
  | succ k ih =>
    intro rf sz ac sp ou tx nw tr di kp ik y1 y2 y3 y4 y5 h
    rw [pX8_extraOf_49_s] at h
    refine v_iload hC dX8_extraOf_49 5 rfl rfl ?_
    refine v_aload_n hC dX8_extraOf_51 rfl 0 rfl rfl ?_
    refine v_get hC iX8_extraOf_X8 0 rfl rfl 3 (by decide) kX8_extraOf_13 rfl rfl dX8_extraOf_52 rfl ?_
    refine v_iconst hC (v := (nI 1)) dX8_extraOf_55 (by decide) rfl ?_
    obtain ⟨hn, h⟩ := ite_g h
    refine v_iald hC 2 rfl hn dX8_extraOf_56 rfl ?_
    refine v_icmp_ge hC (tgt := 92) dX8_extraOf_57 (by decide) rfl (fun c => ?_) (fun c => ?_)
    · have h := ite_t c h
      refine v_iconst hC (v := (nI 0)) dX8_extraOf_92 (by decide) rfl ?_
      refine v_istore hC dX8_extraOf_93 (by decide) [(5, .int (nI 0)), (0, .ref h0), (1, .int y1), (2, .int y2), (3, .int y3), (4, .int y4)] rfl rfl ?_
      exact v_sub [1, 2, 3, 4, 5, 0] (lv' := [(0, .ref h0), (1, .int y1), (2, .int y2), (3, .int y3), (4, .int y4), (5, .int (nI 0))]) rfl (bX8_extraOf_95 hC hr FU _ _ _ _ _ _ _ _ _ _ _ _ _ _ _ _ h)
    · have h := ite_f c h
      refine v_iload_n hC dX8_extraOf_60 rfl 3 rfl rfl ?_
      refine v_aload_n hC dX8_extraOf_61 rfl 0 rfl rfl ?_
      refine v_get hC iX8_extraOf_X8 0 rfl rfl 3 (by decide) kX8_extraOf_13 rfl rfl dX8_extraOf_62 rfl ?_
      refine v_iload hC dX8_extraOf_65 5 rfl rfl ?_
      refine v_bipush hC (v := (nI 6)) dX8_extraOf_67 (by decide) rfl ?_
      obtain ⟨v1, hv1, h⟩ := bind_g h
      refine v_callSri hC (n := 3) (st := [.int y3]) (mX8_told l g cy znw nw y5 (nI 6) hv1) gX8_extraOf_X8_told rfl rfl rfl (by decide +kernel) ⟨Nat.le_of_ble_eq_true rfl, Nat.le_of_ble_eq_true rfl⟩ [2] rfl rfl rfl rfl (Nat.le_of_ble_eq_true rfl) rfl ⟨Nat.zero_le _, Nat.zero_le _⟩ dX8_extraOf_69 rfl ?_
      refine v_iload_n hC dX8_extraOf_72 rfl 1 rfl rfl ?_
      obtain ⟨v2, hv2, h⟩ := bind_g h
      refine v_callSri hC (n := 2) (st := [.int y3]) (mX8_has l g cy v1 y1 hv2) gX8_extraOf_X8_has rfl rfl rfl (by decide +kernel) ⟨Nat.le_of_ble_eq_true rfl, Nat.le_of_ble_eq_true rfl⟩ [] rfl rfl rfl rfl (Nat.le_of_ble_eq_true rfl) rfl ⟨Nat.zero_le _, Nat.zero_le _⟩ dX8_extraOf_73 rfl ?_
      refine v_if_eq hC (tgt := 83) dX8_extraOf_76 (by decide) rfl (fun c => ?_) (fun c => ?_)
      · have h := ite_t c h
        refine v_iconst hC (v := (nI 0)) dX8_extraOf_83 (by decide) rfl ?_
        exact v_sub [0, 1, 2, 4, 5] (lv' := [(0, .ref h0), (1, .int y1), (2, .int y2), (4, .int y4), (5, .int y5)]) rfl (bX8_extraOf_84 hC hr _ _ _ _ _ _ _ _ _ _ _ _ _ _ _ _ _ ih h)
      · have h := ite_f c h
        refine v_iconst hC (v := (nI 1)) dX8_extraOf_79 (by decide) rfl ?_
        refine v_goto hC (tgt := 84) dX8_extraOf_80 (by decide) ?_
        exact v_sub [0, 1, 2, 4, 5] (lv' := [(0, .ref h0), (1, .int y1), (2, .int y2), (4, .int y4), (5, .int y5)]) rfl (bX8_extraOf_84 hC hr _ _ _ _ _ _ _ _ _ _ _ _ _ _ _ _ _ ih h)
set_option maxHeartbeats 4000000 in
set_option maxRecDepth 100000 in
theorem bX8_extraOf_33 {p : Program} {l : Launch} {e : Env} {s : State} {m : MethodId} {args : Array Value} {below : List Frame} {meth : Method} {c : Code} {g : va_G} {cy : Nat → ClassId} (hC : CX p s m args meth c g cy 6 cX8_extraOf wsX8_extraOf RX8) (hr : meth.sig.returnType = (some .int)) {h0 ztx znw ztr zdi zkp zik : Nat} {A : Nat → Prop} {res : Int32 × Int32} : ∀ (rf : Int32) (sz : Int32) (ac : Int32) (sp : Int32) (ou : Int32) (tx : Nat → Int32) (nw : Nat → Int32) (tr : Nat → Int32) (di : Nat → Int32) (kp : Nat → Int32) (ik : Nat → Int32) (y1 : Int32) (y2 : Int32) (s0 : Int32)(h : pX8_extraOf_33 rf nw y1 y2 s0 = some res), V p l e (headSpec wsX8_extraOf rmX8_extraOf).room s m args below meth c g 6 0 0 (MQ below (QWi g A res.1 [(h0, .inr (6, [.int res.2, .ref ztx, .int sz, .ref znw, .ref ztr, .ref zdi, .int ac, .ref zkp, .ref zik, .int sp, .int ou])), (ztx, .inl (cy 0, 120, .inl tx)), (znw, .inl (cy 0, 164, .inl nw)), (ztr, .inl (cy 0, 164, .inl tr)), (zdi, .inl (cy 0, 2296, .inl di)), (zkp, .inl (cy 0, 328, .inl kp)), (zik, .inl (cy 1, 2, .inl ik))]) args s 0 0 A) A A [(h0, .inr (6, [.int rf, .ref ztx, .int sz, .ref znw, .ref ztr, .ref zdi, .int ac, .ref zkp, .ref zik, .int sp, .int ou])), (ztx, .inl (cy 0, 120, .inl tx)), (znw, .inl (cy 0, 164, .inl nw)), (ztr, .inl (cy 0, 164, .inl tr)), (zdi, .inl (cy 0, 2296, .inl di)), (zkp, .inl (cy 0, 328, .inl kp)), (zik, .inl (cy 1, 2, .inl ik))] 33 [(0, .ref h0), (1, .int y1), (2, .int y2)] [.int s0, .ref h0] := by
  intro rf sz ac sp ou tx nw tr di kp ik y1 y2 s0 h
  unfold pX8_extraOf_33 at h
  obtain ⟨v1, hv1, h⟩ := bind_g h
  refine v_callVwi hC (n := 1) (st := []) [(h0, .inr (6, [.int v1.2, .ref ztx, .int sz, .ref znw, .ref ztr, .ref zdi, .int ac, .ref zkp, .ref zik, .int sp, .int ou])), (ztx, .inl (cy 0, 120, .inl tx)), (znw, .inl (cy 0, 164, .inl nw)), (ztr, .inl (cy 0, 164, .inl tr)), (zdi, .inl (cy 0, 2296, .inl di)), (zkp, .inl (cy 0, 328, .inl kp)), (zik, .inl (cy 1, 2, .inl ik))] _ (mX8_refused l g cy h0 ztx znw ztr zdi zkp zik rf sz ac sp ou tx nw tr di kp ik s0 hv1) gX8_extraOf_X8_refused rfl rfl rfl (by decide +kernel) ⟨Nat.le_of_ble_eq_true rfl, Nat.le_of_ble_eq_true rfl⟩ 0 rfl rfl [0, 1, 2, 3, 4, 5, 6] [] rfl rfl rfl rfl rfl rfl rfl rfl rfl (Nat.le_of_ble_eq_true rfl) rfl ⟨Nat.zero_le _, Nat.zero_le _⟩ dX8_extraOf_33 rfl ?_
  refine v_if_eq hC (tgt := 41) dX8_extraOf_36 (by decide) rfl (fun c => ?_) (fun c => ?_)
  · have h := ite_t c h
    refine v_iconst hC (v := (nI 0)) dX8_extraOf_41 (by decide) rfl ?_
    refine v_istore_n hC dX8_extraOf_42 rfl (by decide) [(3, .int (nI 0)), (0, .ref h0), (1, .int y1), (2, .int y2)] rfl rfl ?_
    refine v_iconst hC (v := (nI 0)) dX8_extraOf_43 (by decide) rfl ?_
    refine v_istore hC dX8_extraOf_44 (by decide) [(4, .int (nI 0)), (3, .int (nI 0)), (0, .ref h0), (1, .int y1), (2, .int y2)] rfl rfl ?_
    refine v_iconst hC (v := (nI 0)) dX8_extraOf_46 (by decide) rfl ?_
    refine v_istore hC dX8_extraOf_47 (by decide) [(5, .int (nI 0)), (4, .int (nI 0)), (3, .int (nI 0)), (0, .ref h0), (1, .int y1), (2, .int y2)] rfl rfl ?_
    exact v_sub [3, 4, 5, 2, 1, 0] (lv' := [(0, .ref h0), (1, .int y1), (2, .int y2), (3, .int (nI 0)), (4, .int (nI 0)), (5, .int (nI 0))]) rfl (bX8_extraOf_49 hC hr FU _ _ _ _ _ _ _ _ _ _ _ _ _ _ _ _ h)
  · have h := ite_f c h
    refine v_iconst hC (v := (nI 0)) dX8_extraOf_39 (by decide) rfl ?_
    obtain rfl := Option.some.inj h
    exact v_irw hC hr rfl rfl dX8_extraOf_40
set_option maxHeartbeats 4000000 in
set_option maxRecDepth 100000 in
theorem mX8_extraOf (l : Launch) (g : va_G) (cy : Nat → ClassId) (h0 ztx znw ztr zdi zkp zik : Nat) (rf : Int32) (sz : Int32) (ac : Int32) (sp : Int32) (ou : Int32) (tx : Nat → Int32) (nw : Nat → Int32) (tr : Nat → Int32) (di : Nat → Int32) (kp : Nat → Int32) (ik : Nat → Int32) (x1 : Int32) (x2 : Int32) {res : Int32 × Int32} (h : pX8_extraOf rf nw x1 x2 = some res) : Met l yX8_extraOf wsX8_extraOf rmX8_extraOf (PW [.ref h0, .int x1, .int x2] g cy [(h0, .inr (6, [.int rf, .ref ztx, .int sz, .ref znw, .ref ztr, .ref zdi, .int ac, .ref zkp, .ref zik, .int sp, .int ou])), (ztx, .inl (cy 0, 120, .inl tx)), (znw, .inl (cy 0, 164, .inl nw)), (ztr, .inl (cy 0, 164, .inl tr)), (zdi, .inl (cy 0, 2296, .inl di)), (zkp, .inl (cy 0, 328, .inl kp)), (zik, .inl (cy 1, 2, .inl ik))]) (QWi g (wA [(h0, .inr (6, [.int rf, .ref ztx, .int sz, .ref znw, .ref ztr, .ref zdi, .int ac, .ref zkp, .ref zik, .int sp, .int ou])), (ztx, .inl (cy 0, 120, .inl tx)), (znw, .inl (cy 0, 164, .inl nw)), (ztr, .inl (cy 0, 164, .inl tr)), (zdi, .inl (cy 0, 2296, .inl di)), (zkp, .inl (cy 0, 328, .inl kp)), (zik, .inl (cy 1, 2, .inl ik))]) res.1 [(h0, .inr (6, [.int res.2, .ref ztx, .int sz, .ref znw, .ref ztr, .ref zdi, .int ac, .ref zkp, .ref zik, .int sp, .int ou])), (ztx, .inl (cy 0, 120, .inl tx)), (znw, .inl (cy 0, 164, .inl nw)), (ztr, .inl (cy 0, 164, .inl tr)), (zdi, .inl (cy 0, 2296, .inl di)), (zkp, .inl (cy 0, 328, .inl kp)), (zik, .inl (cy 1, 2, .inl ik))]) 0 0 (wA [(h0, .inr (6, [.int rf, .ref ztx, .int sz, .ref znw, .ref ztr, .ref zdi, .int ac, .ref zkp, .ref zik, .int sp, .int ou])), (ztx, .inl (cy 0, 120, .inl tx)), (znw, .inl (cy 0, 164, .inl nw)), (ztr, .inl (cy 0, 164, .inl tr)), (zdi, .inl (cy 0, 2296, .inl di)), (zkp, .inl (cy 0, 328, .inl kp)), (zik, .inl (cy 1, 2, .inl ik))]) := by
  refine m_ofV (cc := cX8_extraOf) (nL := 6) (ret := (some .int)) (B := (wA [(h0, .inr (6, [.int rf, .ref ztx, .int sz, .ref znw, .ref ztr, .ref zdi, .int ac, .ref zkp, .ref zik, .int sp, .int ou])), (ztx, .inl (cy 0, 120, .inl tx)), (znw, .inl (cy 0, 164, .inl nw)), (ztr, .inl (cy 0, 164, .inl tr)), (zdi, .inl (cy 0, 2296, .inl di)), (zkp, .inl (cy 0, 328, .inl kp)), (zik, .inl (cy 1, 2, .inl ik))])) RX8 rfl (by decide) rfl [(0, .ref h0), (1, .int x1), (2, .int x2)] rfl (Nat.le_of_ble_eq_true rfl) (wA.self) ?_
  intro p e s m args below meth c hC hr
  generalize (wA [(h0, .inr (6, [.int rf, .ref ztx, .int sz, .ref znw, .ref ztr, .ref zdi, .int ac, .ref zkp, .ref zik, .int sp, .int ou])), (ztx, .inl (cy 0, 120, .inl tx)), (znw, .inl (cy 0, 164, .inl nw)), (ztr, .inl (cy 0, 164, .inl tr)), (zdi, .inl (cy 0, 2296, .inl di)), (zkp, .inl (cy 0, 328, .inl kp)), (zik, .inl (cy 1, 2, .inl ik))]) = A
  unfold pX8_extraOf at h
  refine v_aload_n hC dX8_extraOf_0 rfl 0 rfl rfl ?_
  refine v_aload_n hC dX8_extraOf_1 rfl 0 rfl rfl ?_
  refine v_get hC iX8_extraOf_X8 0 rfl rfl 3 (by decide) kX8_extraOf_13 rfl rfl dX8_extraOf_2 rfl ?_
  refine v_iload_n hC dX8_extraOf_5 rfl 1 rfl rfl ?_
  obtain ⟨v1, hv1, h⟩ := bind_g h
  refine v_callSri hC (n := 2) (st := [.ref h0]) (mX8_isExtra l g cy znw nw x1 hv1) gX8_extraOf_X8_isExtra rfl rfl rfl (by decide +kernel) ⟨Nat.le_of_ble_eq_true rfl, Nat.le_of_ble_eq_true rfl⟩ [2] rfl rfl rfl rfl (Nat.le_of_ble_eq_true rfl) rfl ⟨Nat.zero_le _, Nat.zero_le _⟩ dX8_extraOf_6 rfl ?_
  refine v_if_ne hC (tgt := 16) dX8_extraOf_9 (by decide) rfl (fun c => ?_) (fun c => ?_)
  · have h := ite_f c h
    refine v_iload_n hC dX8_extraOf_16 rfl 2 rfl rfl ?_
    refine v_i2l hC dX8_extraOf_17 rfl ?_
    refine v_lconst hC (v := 0) dX8_extraOf_18 rfl rfl ?_
    refine v_ldc2 hC (v := 6) dX8_extraOf_19 kX8_extraOf_102 rfl ?_
    obtain ⟨v2, hv2, h⟩ := bind_g h
    refine v_callSri hC (n := 3) (st := [.ref h0]) (mX8_in l g cy x2.toInt64 0 6 hv2) gX8_extraOf_X8_in rfl rfl rfl (by decide +kernel) ⟨Nat.le_of_ble_eq_true rfl, Nat.le_of_ble_eq_true rfl⟩ [] rfl rfl rfl rfl (Nat.le_of_ble_eq_true rfl) rfl ⟨Nat.zero_le _, Nat.zero_le _⟩ dX8_extraOf_22 rfl ?_
    refine v_if_eq hC (tgt := 32) dX8_extraOf_25 (by decide) rfl (fun c => ?_) (fun c => ?_)
    · have h := ite_t c h
      refine v_iconst hC (v := (nI 2)) dX8_extraOf_32 (by decide) rfl ?_
      exact bX8_extraOf_33 hC hr _ _ _ _ _ _ _ _ _ _ _ _ _ _ h
    · have h := ite_f c h
      refine v_iconst hC (v := (nI 0)) dX8_extraOf_28 (by decide) rfl ?_
      refine v_goto hC (tgt := 33) dX8_extraOf_29 (by decide) ?_
      exact bX8_extraOf_33 hC hr _ _ _ _ _ _ _ _ _ _ _ _ _ _ h
  · have h := ite_t c h
    refine v_iconst hC (v := (nI 1)) dX8_extraOf_12 (by decide) rfl ?_
    refine v_goto hC (tgt := 33) dX8_extraOf_13 (by decide) ?_
    exact bX8_extraOf_33 hC hr _ _ _ _ _ _ _ _ _ _ _ _ _ _ h
theorem kX8_sceneOf_13 : Cond.fieldLink RX8 13 "CrowdFacesModel" "now" "[I" ∈ wsX8_sceneOf := by decide +kernel
theorem kX8_sceneOf_176 : Cond.constantLong RX8 176 8 ∈ wsX8_sceneOf := by decide +kernel
theorem iX8_sceneOf_X8 : ∀ w ∈ wsX80, w ∈ wsX8_sceneOf := by decide +kernel
def pX8_sceneOf_78 (rf : Int32) (nw : Nat → Int32) (s0 : Int32) : Option (Int32 × Int32) := some (s0, rf)
def pX8_sceneOf_75 (rf : Int32) (nw : Nat → Int32) (s0 : Int32) (s1 : Int32) : Option (Int32 × Int32) := (pX8_seen nw s1 s0).bind fun v1 => pX8_sceneOf_78 rf nw v1
def pX8_sceneOf_33 (rf : Int32) (nw : Nat → Int32) (y1 : Int32) (y2 : Int32) (s0 : Int32) : Option (Int32 × Int32) := (pX8_refused rf s0).bind fun v1 => if v1.1 = 0 then if (nI 7) ≤ y2 then if y2 = (nI 7) then pX8_sceneOf_75 v1.2 nw (nI 1) y1 else pX8_sceneOf_75 v1.2 nw (nI 0) y1 else (pX8_told nw y1 y2).bind fun v2 => pX8_sceneOf_78 v1.2 nw v2 else some ((nI 0), v1.2)
def pX8_sceneOf (rf : Int32) (nw : Nat → Int32) (x1 : Int32) (x2 : Int32) : Option (Int32 × Int32) := (pX8_isScene nw x1).bind fun v1 => if v1 = 0 then pX8_sceneOf_33 rf nw x1 x2 (nI 1) else (pX8_in x2.toInt64 0 8).bind fun v2 => if v2 = 0 then pX8_sceneOf_33 rf nw x1 x2 (nI 2) else pX8_sceneOf_33 rf nw x1 x2 (nI 0)
abbrev rmX8_sceneOf : Room := { frames := 3, cells := 0, slots := 0, locals := 70 }
set_option maxHeartbeats 4000000 in
set_option maxRecDepth 100000 in
theorem bX8_sceneOf_78 {p : Program} {l : Launch} {e : Env} {s : State} {m : MethodId} {args : Array Value} {below : List Frame} {meth : Method} {c : Code} {g : va_G} {cy : Nat → ClassId} (hC : CX p s m args meth c g cy 3 cX8_sceneOf wsX8_sceneOf RX8) (hr : meth.sig.returnType = (some .int)) {h0 ztx znw ztr zdi zkp zik : Nat} {A : Nat → Prop} {res : Int32 × Int32} : ∀ (rf : Int32) (sz : Int32) (ac : Int32) (sp : Int32) (ou : Int32) (tx : Nat → Int32) (nw : Nat → Int32) (tr : Nat → Int32) (di : Nat → Int32) (kp : Nat → Int32) (ik : Nat → Int32) (s0 : Int32)(h : pX8_sceneOf_78 rf nw s0 = some res), V p l e (headSpec wsX8_sceneOf rmX8_sceneOf).room s m args below meth c g 3 0 0 (MQ below (QWi g A res.1 [(h0, .inr (6, [.int res.2, .ref ztx, .int sz, .ref znw, .ref ztr, .ref zdi, .int ac, .ref zkp, .ref zik, .int sp, .int ou])), (ztx, .inl (cy 0, 120, .inl tx)), (znw, .inl (cy 0, 164, .inl nw)), (ztr, .inl (cy 0, 164, .inl tr)), (zdi, .inl (cy 0, 2296, .inl di)), (zkp, .inl (cy 0, 328, .inl kp)), (zik, .inl (cy 1, 2, .inl ik))]) args s 0 0 A) A A [(h0, .inr (6, [.int rf, .ref ztx, .int sz, .ref znw, .ref ztr, .ref zdi, .int ac, .ref zkp, .ref zik, .int sp, .int ou])), (ztx, .inl (cy 0, 120, .inl tx)), (znw, .inl (cy 0, 164, .inl nw)), (ztr, .inl (cy 0, 164, .inl tr)), (zdi, .inl (cy 0, 2296, .inl di)), (zkp, .inl (cy 0, 328, .inl kp)), (zik, .inl (cy 1, 2, .inl ik))] 78 [] [.int s0] := by
  intro rf sz ac sp ou tx nw tr di kp ik s0 h
  unfold pX8_sceneOf_78 at h
  obtain rfl := Option.some.inj h
  exact v_irw hC hr rfl rfl dX8_sceneOf_78
set_option maxHeartbeats 4000000 in
set_option maxRecDepth 100000 in
theorem bX8_sceneOf_75 {p : Program} {l : Launch} {e : Env} {s : State} {m : MethodId} {args : Array Value} {below : List Frame} {meth : Method} {c : Code} {g : va_G} {cy : Nat → ClassId} (hC : CX p s m args meth c g cy 3 cX8_sceneOf wsX8_sceneOf RX8) (hr : meth.sig.returnType = (some .int)) {h0 ztx znw ztr zdi zkp zik : Nat} {A : Nat → Prop} {res : Int32 × Int32} : ∀ (rf : Int32) (sz : Int32) (ac : Int32) (sp : Int32) (ou : Int32) (tx : Nat → Int32) (nw : Nat → Int32) (tr : Nat → Int32) (di : Nat → Int32) (kp : Nat → Int32) (ik : Nat → Int32) (s0 : Int32) (s1 : Int32)(h : pX8_sceneOf_75 rf nw s0 s1 = some res), V p l e (headSpec wsX8_sceneOf rmX8_sceneOf).room s m args below meth c g 3 0 0 (MQ below (QWi g A res.1 [(h0, .inr (6, [.int res.2, .ref ztx, .int sz, .ref znw, .ref ztr, .ref zdi, .int ac, .ref zkp, .ref zik, .int sp, .int ou])), (ztx, .inl (cy 0, 120, .inl tx)), (znw, .inl (cy 0, 164, .inl nw)), (ztr, .inl (cy 0, 164, .inl tr)), (zdi, .inl (cy 0, 2296, .inl di)), (zkp, .inl (cy 0, 328, .inl kp)), (zik, .inl (cy 1, 2, .inl ik))]) args s 0 0 A) A A [(h0, .inr (6, [.int rf, .ref ztx, .int sz, .ref znw, .ref ztr, .ref zdi, .int ac, .ref zkp, .ref zik, .int sp, .int ou])), (ztx, .inl (cy 0, 120, .inl tx)), (znw, .inl (cy 0, 164, .inl nw)), (ztr, .inl (cy 0, 164, .inl tr)), (zdi, .inl (cy 0, 2296, .inl di)), (zkp, .inl (cy 0, 328, .inl kp)), (zik, .inl (cy 1, 2, .inl ik))] 75 [] [.int s0, .int s1, .ref znw] := by
  intro rf sz ac sp ou tx nw tr di kp ik s0 s1 h
  unfold pX8_sceneOf_75 at h
  obtain ⟨v1, hv1, h⟩ := bind_g h
  refine v_callSri hC (n := 3) (st := []) (mX8_seen l g cy znw nw s1 s0 hv1) gX8_sceneOf_X8_seen rfl rfl rfl (by decide +kernel) ⟨Nat.le_of_ble_eq_true rfl, Nat.le_of_ble_eq_true rfl⟩ [2] rfl rfl rfl rfl (Nat.le_of_ble_eq_true rfl) rfl ⟨Nat.zero_le _, Nat.zero_le _⟩ dX8_sceneOf_75 rfl ?_
  exact bX8_sceneOf_78 hC hr _ _ _ _ _ _ _ _ _ _ _ _ h
set_option maxHeartbeats 4000000 in
set_option maxRecDepth 100000 in
theorem bX8_sceneOf_33 {p : Program} {l : Launch} {e : Env} {s : State} {m : MethodId} {args : Array Value} {below : List Frame} {meth : Method} {c : Code} {g : va_G} {cy : Nat → ClassId} (hC : CX p s m args meth c g cy 3 cX8_sceneOf wsX8_sceneOf RX8) (hr : meth.sig.returnType = (some .int)) {h0 ztx znw ztr zdi zkp zik : Nat} {A : Nat → Prop} {res : Int32 × Int32} : ∀ (rf : Int32) (sz : Int32) (ac : Int32) (sp : Int32) (ou : Int32) (tx : Nat → Int32) (nw : Nat → Int32) (tr : Nat → Int32) (di : Nat → Int32) (kp : Nat → Int32) (ik : Nat → Int32) (y1 : Int32) (y2 : Int32) (s0 : Int32)(h : pX8_sceneOf_33 rf nw y1 y2 s0 = some res), V p l e (headSpec wsX8_sceneOf rmX8_sceneOf).room s m args below meth c g 3 0 0 (MQ below (QWi g A res.1 [(h0, .inr (6, [.int res.2, .ref ztx, .int sz, .ref znw, .ref ztr, .ref zdi, .int ac, .ref zkp, .ref zik, .int sp, .int ou])), (ztx, .inl (cy 0, 120, .inl tx)), (znw, .inl (cy 0, 164, .inl nw)), (ztr, .inl (cy 0, 164, .inl tr)), (zdi, .inl (cy 0, 2296, .inl di)), (zkp, .inl (cy 0, 328, .inl kp)), (zik, .inl (cy 1, 2, .inl ik))]) args s 0 0 A) A A [(h0, .inr (6, [.int rf, .ref ztx, .int sz, .ref znw, .ref ztr, .ref zdi, .int ac, .ref zkp, .ref zik, .int sp, .int ou])), (ztx, .inl (cy 0, 120, .inl tx)), (znw, .inl (cy 0, 164, .inl nw)), (ztr, .inl (cy 0, 164, .inl tr)), (zdi, .inl (cy 0, 2296, .inl di)), (zkp, .inl (cy 0, 328, .inl kp)), (zik, .inl (cy 1, 2, .inl ik))] 33 [(0, .ref h0), (1, .int y1), (2, .int y2)] [.int s0, .ref h0] := by
  intro rf sz ac sp ou tx nw tr di kp ik y1 y2 s0 h
  unfold pX8_sceneOf_33 at h
  obtain ⟨v1, hv1, h⟩ := bind_g h
  refine v_callVwi hC (n := 1) (st := []) [(h0, .inr (6, [.int v1.2, .ref ztx, .int sz, .ref znw, .ref ztr, .ref zdi, .int ac, .ref zkp, .ref zik, .int sp, .int ou])), (ztx, .inl (cy 0, 120, .inl tx)), (znw, .inl (cy 0, 164, .inl nw)), (ztr, .inl (cy 0, 164, .inl tr)), (zdi, .inl (cy 0, 2296, .inl di)), (zkp, .inl (cy 0, 328, .inl kp)), (zik, .inl (cy 1, 2, .inl ik))] _ (mX8_refused l g cy h0 ztx znw ztr zdi zkp zik rf sz ac sp ou tx nw tr di kp ik s0 hv1) gX8_sceneOf_X8_refused rfl rfl rfl (by decide +kernel) ⟨Nat.le_of_ble_eq_true rfl, Nat.le_of_ble_eq_true rfl⟩ 0 rfl rfl [0, 1, 2, 3, 4, 5, 6] [] rfl rfl rfl rfl rfl rfl rfl rfl rfl (Nat.le_of_ble_eq_true rfl) rfl ⟨Nat.zero_le _, Nat.zero_le _⟩ dX8_sceneOf_33 rfl ?_
  refine v_if_eq hC (tgt := 41) dX8_sceneOf_36 (by decide) rfl (fun c => ?_) (fun c => ?_)
  · have h := ite_t c h
    refine v_iload_n hC dX8_sceneOf_41 rfl 2 rfl rfl ?_
    refine v_bipush hC (v := (nI 7)) dX8_sceneOf_42 (by decide) rfl ?_
    refine v_icmp_ge hC (tgt := 59) dX8_sceneOf_44 (by decide) rfl (fun c => ?_) (fun c => ?_)
    · have h := ite_t c h
      refine v_aload_n hC dX8_sceneOf_59 rfl 0 rfl rfl ?_
      refine v_get hC iX8_sceneOf_X8 0 rfl rfl 3 (by decide) kX8_sceneOf_13 rfl rfl dX8_sceneOf_60 rfl ?_
      refine v_iload_n hC dX8_sceneOf_63 rfl 1 rfl rfl ?_
      refine v_iload_n hC dX8_sceneOf_64 rfl 2 rfl rfl ?_
      refine v_bipush hC (v := (nI 7)) dX8_sceneOf_65 (by decide) rfl ?_
      refine v_icmp_ne hC (tgt := 74) dX8_sceneOf_67 (by decide) rfl (fun c => ?_) (fun c => ?_)
      · have h := ite_f c h
        refine v_iconst hC (v := (nI 0)) dX8_sceneOf_74 (by decide) rfl ?_
        exact v_sub [] (lv' := []) rfl (bX8_sceneOf_75 hC hr _ _ _ _ _ _ _ _ _ _ _ _ _ h)
      · have h := ite_t c h
        refine v_iconst hC (v := (nI 1)) dX8_sceneOf_70 (by decide) rfl ?_
        refine v_goto hC (tgt := 75) dX8_sceneOf_71 (by decide) ?_
        exact v_sub [] (lv' := []) rfl (bX8_sceneOf_75 hC hr _ _ _ _ _ _ _ _ _ _ _ _ _ h)
    · have h := ite_f c h
      refine v_aload_n hC dX8_sceneOf_47 rfl 0 rfl rfl ?_
      refine v_get hC iX8_sceneOf_X8 0 rfl rfl 3 (by decide) kX8_sceneOf_13 rfl rfl dX8_sceneOf_48 rfl ?_
      refine v_iload_n hC dX8_sceneOf_51 rfl 1 rfl rfl ?_
      refine v_iload_n hC dX8_sceneOf_52 rfl 2 rfl rfl ?_
      obtain ⟨v2, hv2, h⟩ := bind_g h
      refine v_callSri hC (n := 3) (st := []) (mX8_told l g cy znw nw y1 y2 hv2) gX8_sceneOf_X8_told rfl rfl rfl (by decide +kernel) ⟨Nat.le_of_ble_eq_true rfl, Nat.le_of_ble_eq_true rfl⟩ [2] rfl rfl rfl rfl (Nat.le_of_ble_eq_true rfl) rfl ⟨Nat.zero_le _, Nat.zero_le _⟩ dX8_sceneOf_53 rfl ?_
      refine v_goto hC (tgt := 78) dX8_sceneOf_56 (by decide) ?_
      exact v_sub [] (lv' := []) rfl (bX8_sceneOf_78 hC hr _ _ _ _ _ _ _ _ _ _ _ _ h)
  · have h := ite_f c h
    refine v_iconst hC (v := (nI 0)) dX8_sceneOf_39 (by decide) rfl ?_
    obtain rfl := Option.some.inj h
    exact v_irw hC hr rfl rfl dX8_sceneOf_40
set_option maxHeartbeats 4000000 in
set_option maxRecDepth 100000 in
theorem mX8_sceneOf (l : Launch) (g : va_G) (cy : Nat → ClassId) (h0 ztx znw ztr zdi zkp zik : Nat) (rf : Int32) (sz : Int32) (ac : Int32) (sp : Int32) (ou : Int32) (tx : Nat → Int32) (nw : Nat → Int32) (tr : Nat → Int32) (di : Nat → Int32) (kp : Nat → Int32) (ik : Nat → Int32) (x1 : Int32) (x2 : Int32) {res : Int32 × Int32} (h : pX8_sceneOf rf nw x1 x2 = some res) : Met l yX8_sceneOf wsX8_sceneOf rmX8_sceneOf (PW [.ref h0, .int x1, .int x2] g cy [(h0, .inr (6, [.int rf, .ref ztx, .int sz, .ref znw, .ref ztr, .ref zdi, .int ac, .ref zkp, .ref zik, .int sp, .int ou])), (ztx, .inl (cy 0, 120, .inl tx)), (znw, .inl (cy 0, 164, .inl nw)), (ztr, .inl (cy 0, 164, .inl tr)), (zdi, .inl (cy 0, 2296, .inl di)), (zkp, .inl (cy 0, 328, .inl kp)), (zik, .inl (cy 1, 2, .inl ik))]) (QWi g (wA [(h0, .inr (6, [.int rf, .ref ztx, .int sz, .ref znw, .ref ztr, .ref zdi, .int ac, .ref zkp, .ref zik, .int sp, .int ou])), (ztx, .inl (cy 0, 120, .inl tx)), (znw, .inl (cy 0, 164, .inl nw)), (ztr, .inl (cy 0, 164, .inl tr)), (zdi, .inl (cy 0, 2296, .inl di)), (zkp, .inl (cy 0, 328, .inl kp)), (zik, .inl (cy 1, 2, .inl ik))]) res.1 [(h0, .inr (6, [.int res.2, .ref ztx, .int sz, .ref znw, .ref ztr, .ref zdi, .int ac, .ref zkp, .ref zik, .int sp, .int ou])), (ztx, .inl (cy 0, 120, .inl tx)), (znw, .inl (cy 0, 164, .inl nw)), (ztr, .inl (cy 0, 164, .inl tr)), (zdi, .inl (cy 0, 2296, .inl di)), (zkp, .inl (cy 0, 328, .inl kp)), (zik, .inl (cy 1, 2, .inl ik))]) 0 0 (wA [(h0, .inr (6, [.int rf, .ref ztx, .int sz, .ref znw, .ref ztr, .ref zdi, .int ac, .ref zkp, .ref zik, .int sp, .int ou])), (ztx, .inl (cy 0, 120, .inl tx)), (znw, .inl (cy 0, 164, .inl nw)), (ztr, .inl (cy 0, 164, .inl tr)), (zdi, .inl (cy 0, 2296, .inl di)), (zkp, .inl (cy 0, 328, .inl kp)), (zik, .inl (cy 1, 2, .inl ik))]) := by
  refine m_ofV (cc := cX8_sceneOf) (nL := 3) (ret := (some .int)) (B := (wA [(h0, .inr (6, [.int rf, .ref ztx, .int sz, .ref znw, .ref ztr, .ref zdi, .int ac, .ref zkp, .ref zik, .int sp, .int ou])), (ztx, .inl (cy 0, 120, .inl tx)), (znw, .inl (cy 0, 164, .inl nw)), (ztr, .inl (cy 0, 164, .inl tr)), (zdi, .inl (cy 0, 2296, .inl di)), (zkp, .inl (cy 0, 328, .inl kp)), (zik, .inl (cy 1, 2, .inl ik))])) RX8 rfl (by decide) rfl [(0, .ref h0), (1, .int x1), (2, .int x2)] rfl (Nat.le_of_ble_eq_true rfl) (wA.self) ?_
  intro p e s m args below meth c hC hr
  generalize (wA [(h0, .inr (6, [.int rf, .ref ztx, .int sz, .ref znw, .ref ztr, .ref zdi, .int ac, .ref zkp, .ref zik, .int sp, .int ou])), (ztx, .inl (cy 0, 120, .inl tx)), (znw, .inl (cy 0, 164, .inl nw)), (ztr, .inl (cy 0, 164, .inl tr)), (zdi, .inl (cy 0, 2296, .inl di)), (zkp, .inl (cy 0, 328, .inl kp)), (zik, .inl (cy 1, 2, .inl ik))]) = A
  unfold pX8_sceneOf at h
  refine v_aload_n hC dX8_sceneOf_0 rfl 0 rfl rfl ?_
  refine v_aload_n hC dX8_sceneOf_1 rfl 0 rfl rfl ?_
  refine v_get hC iX8_sceneOf_X8 0 rfl rfl 3 (by decide) kX8_sceneOf_13 rfl rfl dX8_sceneOf_2 rfl ?_
  refine v_iload_n hC dX8_sceneOf_5 rfl 1 rfl rfl ?_
  obtain ⟨v1, hv1, h⟩ := bind_g h
  refine v_callSri hC (n := 2) (st := [.ref h0]) (mX8_isScene l g cy znw nw x1 hv1) gX8_sceneOf_X8_isScene rfl rfl rfl (by decide +kernel) ⟨Nat.le_of_ble_eq_true rfl, Nat.le_of_ble_eq_true rfl⟩ [2] rfl rfl rfl rfl (Nat.le_of_ble_eq_true rfl) rfl ⟨Nat.zero_le _, Nat.zero_le _⟩ dX8_sceneOf_6 rfl ?_
  refine v_if_ne hC (tgt := 16) dX8_sceneOf_9 (by decide) rfl (fun c => ?_) (fun c => ?_)
  · have h := ite_f c h
    refine v_iload_n hC dX8_sceneOf_16 rfl 2 rfl rfl ?_
    refine v_i2l hC dX8_sceneOf_17 rfl ?_
    refine v_lconst hC (v := 0) dX8_sceneOf_18 rfl rfl ?_
    refine v_ldc2 hC (v := 8) dX8_sceneOf_19 kX8_sceneOf_176 rfl ?_
    obtain ⟨v2, hv2, h⟩ := bind_g h
    refine v_callSri hC (n := 3) (st := [.ref h0]) (mX8_in l g cy x2.toInt64 0 8 hv2) gX8_sceneOf_X8_in rfl rfl rfl (by decide +kernel) ⟨Nat.le_of_ble_eq_true rfl, Nat.le_of_ble_eq_true rfl⟩ [] rfl rfl rfl rfl (Nat.le_of_ble_eq_true rfl) rfl ⟨Nat.zero_le _, Nat.zero_le _⟩ dX8_sceneOf_22 rfl ?_
    refine v_if_eq hC (tgt := 32) dX8_sceneOf_25 (by decide) rfl (fun c => ?_) (fun c => ?_)
    · have h := ite_t c h
      refine v_iconst hC (v := (nI 2)) dX8_sceneOf_32 (by decide) rfl ?_
      exact bX8_sceneOf_33 hC hr _ _ _ _ _ _ _ _ _ _ _ _ _ _ h
    · have h := ite_f c h
      refine v_iconst hC (v := (nI 0)) dX8_sceneOf_28 (by decide) rfl ?_
      refine v_goto hC (tgt := 33) dX8_sceneOf_29 (by decide) ?_
      exact bX8_sceneOf_33 hC hr _ _ _ _ _ _ _ _ _ _ _ _ _ _ h
  · have h := ite_t c h
    refine v_iconst hC (v := (nI 1)) dX8_sceneOf_12 (by decide) rfl ?_
    refine v_goto hC (tgt := 33) dX8_sceneOf_13 (by decide) ?_
    exact bX8_sceneOf_33 hC hr _ _ _ _ _ _ _ _ _ _ _ _ _ _ h
theorem kX8_setting_13 : Cond.fieldLink RX8 13 "CrowdFacesModel" "now" "[I" ∈ wsX8_setting := by decide +kernel
theorem kX8_setting_184 : Cond.constantLong RX8 184 2 ∈ wsX8_setting := by decide +kernel
theorem iX8_setting_X8 : ∀ w ∈ wsX80, w ∈ wsX8_setting := by decide +kernel
def pX8_setting_18 (rf : Int32) (nw : Nat → Int32) (y1 : Int32) (s0 : Int32) : Option (Int32 × Int32) := (pX8_refused rf s0).bind fun v1 => if v1.1 = 0 then if nb ((nI 7) + y1) 164 = true then some ((nw ((nI 7) + y1).toNatClampNeg), v1.2) else none else some ((nI 0), v1.2)
def pX8_setting (rf : Int32) (nw : Nat → Int32) (x1 : Int32) : Option (Int32 × Int32) := (pX8_in x1.toInt64 0 2).bind fun v1 => if v1 = 0 then pX8_setting_18 rf nw x1 (nI 1) else pX8_setting_18 rf nw x1 (nI 0)
abbrev rmX8_setting : Room := { frames := 1, cells := 0, slots := 0, locals := 25 }
set_option maxHeartbeats 4000000 in
set_option maxRecDepth 100000 in
theorem bX8_setting_18 {p : Program} {l : Launch} {e : Env} {s : State} {m : MethodId} {args : Array Value} {below : List Frame} {meth : Method} {c : Code} {g : va_G} {cy : Nat → ClassId} (hC : CX p s m args meth c g cy 2 cX8_setting wsX8_setting RX8) (hr : meth.sig.returnType = (some .int)) {h0 ztx znw ztr zdi zkp zik : Nat} {A : Nat → Prop} {res : Int32 × Int32} : ∀ (rf : Int32) (sz : Int32) (ac : Int32) (sp : Int32) (ou : Int32) (tx : Nat → Int32) (nw : Nat → Int32) (tr : Nat → Int32) (di : Nat → Int32) (kp : Nat → Int32) (ik : Nat → Int32) (y1 : Int32) (s0 : Int32)(h : pX8_setting_18 rf nw y1 s0 = some res), V p l e (headSpec wsX8_setting rmX8_setting).room s m args below meth c g 2 0 0 (MQ below (QWi g A res.1 [(h0, .inr (6, [.int res.2, .ref ztx, .int sz, .ref znw, .ref ztr, .ref zdi, .int ac, .ref zkp, .ref zik, .int sp, .int ou])), (ztx, .inl (cy 0, 120, .inl tx)), (znw, .inl (cy 0, 164, .inl nw)), (ztr, .inl (cy 0, 164, .inl tr)), (zdi, .inl (cy 0, 2296, .inl di)), (zkp, .inl (cy 0, 328, .inl kp)), (zik, .inl (cy 1, 2, .inl ik))]) args s 0 0 A) A A [(h0, .inr (6, [.int rf, .ref ztx, .int sz, .ref znw, .ref ztr, .ref zdi, .int ac, .ref zkp, .ref zik, .int sp, .int ou])), (ztx, .inl (cy 0, 120, .inl tx)), (znw, .inl (cy 0, 164, .inl nw)), (ztr, .inl (cy 0, 164, .inl tr)), (zdi, .inl (cy 0, 2296, .inl di)), (zkp, .inl (cy 0, 328, .inl kp)), (zik, .inl (cy 1, 2, .inl ik))] 18 [(0, .ref h0), (1, .int y1)] [.int s0, .ref h0] := by
  intro rf sz ac sp ou tx nw tr di kp ik y1 s0 h
  unfold pX8_setting_18 at h
  obtain ⟨v1, hv1, h⟩ := bind_g h
  refine v_callVwi hC (n := 1) (st := []) [(h0, .inr (6, [.int v1.2, .ref ztx, .int sz, .ref znw, .ref ztr, .ref zdi, .int ac, .ref zkp, .ref zik, .int sp, .int ou])), (ztx, .inl (cy 0, 120, .inl tx)), (znw, .inl (cy 0, 164, .inl nw)), (ztr, .inl (cy 0, 164, .inl tr)), (zdi, .inl (cy 0, 2296, .inl di)), (zkp, .inl (cy 0, 328, .inl kp)), (zik, .inl (cy 1, 2, .inl ik))] _ (mX8_refused l g cy h0 ztx znw ztr zdi zkp zik rf sz ac sp ou tx nw tr di kp ik s0 hv1) gX8_setting_X8_refused rfl rfl rfl (by decide +kernel) ⟨Nat.le_of_ble_eq_true rfl, Nat.le_of_ble_eq_true rfl⟩ 0 rfl rfl [0, 1, 2, 3, 4, 5, 6] [] rfl rfl rfl rfl rfl rfl rfl rfl rfl (Nat.le_of_ble_eq_true rfl) rfl ⟨Nat.zero_le _, Nat.zero_le _⟩ dX8_setting_18 rfl ?_
  refine v_if_eq hC (tgt := 26) dX8_setting_21 (by decide) rfl (fun c => ?_) (fun c => ?_)
  · have h := ite_t c h
    refine v_aload_n hC dX8_setting_26 rfl 0 rfl rfl ?_
    refine v_get hC iX8_setting_X8 0 rfl rfl 3 (by decide) kX8_setting_13 rfl rfl dX8_setting_27 rfl ?_
    refine v_bipush hC (v := (nI 7)) dX8_setting_30 (by decide) rfl ?_
    refine v_iload_n hC dX8_setting_32 rfl 1 rfl rfl ?_
    refine v_iadd hC dX8_setting_33 rfl ?_
    obtain ⟨hn, h⟩ := ite_g h
    refine v_iald hC 2 rfl hn dX8_setting_34 rfl ?_
    obtain rfl := Option.some.inj h
    exact v_irw hC hr rfl rfl dX8_setting_35
  · have h := ite_f c h
    refine v_iconst hC (v := (nI 0)) dX8_setting_24 (by decide) rfl ?_
    obtain rfl := Option.some.inj h
    exact v_irw hC hr rfl rfl dX8_setting_25
set_option maxHeartbeats 4000000 in
set_option maxRecDepth 100000 in
theorem mX8_setting (l : Launch) (g : va_G) (cy : Nat → ClassId) (h0 ztx znw ztr zdi zkp zik : Nat) (rf : Int32) (sz : Int32) (ac : Int32) (sp : Int32) (ou : Int32) (tx : Nat → Int32) (nw : Nat → Int32) (tr : Nat → Int32) (di : Nat → Int32) (kp : Nat → Int32) (ik : Nat → Int32) (x1 : Int32) {res : Int32 × Int32} (h : pX8_setting rf nw x1 = some res) : Met l yX8_setting wsX8_setting rmX8_setting (PW [.ref h0, .int x1] g cy [(h0, .inr (6, [.int rf, .ref ztx, .int sz, .ref znw, .ref ztr, .ref zdi, .int ac, .ref zkp, .ref zik, .int sp, .int ou])), (ztx, .inl (cy 0, 120, .inl tx)), (znw, .inl (cy 0, 164, .inl nw)), (ztr, .inl (cy 0, 164, .inl tr)), (zdi, .inl (cy 0, 2296, .inl di)), (zkp, .inl (cy 0, 328, .inl kp)), (zik, .inl (cy 1, 2, .inl ik))]) (QWi g (wA [(h0, .inr (6, [.int rf, .ref ztx, .int sz, .ref znw, .ref ztr, .ref zdi, .int ac, .ref zkp, .ref zik, .int sp, .int ou])), (ztx, .inl (cy 0, 120, .inl tx)), (znw, .inl (cy 0, 164, .inl nw)), (ztr, .inl (cy 0, 164, .inl tr)), (zdi, .inl (cy 0, 2296, .inl di)), (zkp, .inl (cy 0, 328, .inl kp)), (zik, .inl (cy 1, 2, .inl ik))]) res.1 [(h0, .inr (6, [.int res.2, .ref ztx, .int sz, .ref znw, .ref ztr, .ref zdi, .int ac, .ref zkp, .ref zik, .int sp, .int ou])), (ztx, .inl (cy 0, 120, .inl tx)), (znw, .inl (cy 0, 164, .inl nw)), (ztr, .inl (cy 0, 164, .inl tr)), (zdi, .inl (cy 0, 2296, .inl di)), (zkp, .inl (cy 0, 328, .inl kp)), (zik, .inl (cy 1, 2, .inl ik))]) 0 0 (wA [(h0, .inr (6, [.int rf, .ref ztx, .int sz, .ref znw, .ref ztr, .ref zdi, .int ac, .ref zkp, .ref zik, .int sp, .int ou])), (ztx, .inl (cy 0, 120, .inl tx)), (znw, .inl (cy 0, 164, .inl nw)), (ztr, .inl (cy 0, 164, .inl tr)), (zdi, .inl (cy 0, 2296, .inl di)), (zkp, .inl (cy 0, 328, .inl kp)), (zik, .inl (cy 1, 2, .inl ik))]) := by
  refine m_ofV (cc := cX8_setting) (nL := 2) (ret := (some .int)) (B := (wA [(h0, .inr (6, [.int rf, .ref ztx, .int sz, .ref znw, .ref ztr, .ref zdi, .int ac, .ref zkp, .ref zik, .int sp, .int ou])), (ztx, .inl (cy 0, 120, .inl tx)), (znw, .inl (cy 0, 164, .inl nw)), (ztr, .inl (cy 0, 164, .inl tr)), (zdi, .inl (cy 0, 2296, .inl di)), (zkp, .inl (cy 0, 328, .inl kp)), (zik, .inl (cy 1, 2, .inl ik))])) RX8 rfl (by decide) rfl [(0, .ref h0), (1, .int x1)] rfl (Nat.le_of_ble_eq_true rfl) (wA.self) ?_
  intro p e s m args below meth c hC hr
  generalize (wA [(h0, .inr (6, [.int rf, .ref ztx, .int sz, .ref znw, .ref ztr, .ref zdi, .int ac, .ref zkp, .ref zik, .int sp, .int ou])), (ztx, .inl (cy 0, 120, .inl tx)), (znw, .inl (cy 0, 164, .inl nw)), (ztr, .inl (cy 0, 164, .inl tr)), (zdi, .inl (cy 0, 2296, .inl di)), (zkp, .inl (cy 0, 328, .inl kp)), (zik, .inl (cy 1, 2, .inl ik))]) = A
  unfold pX8_setting at h
  refine v_aload_n hC dX8_setting_0 rfl 0 rfl rfl ?_
  refine v_iload_n hC dX8_setting_1 rfl 1 rfl rfl ?_
  refine v_i2l hC dX8_setting_2 rfl ?_
  refine v_lconst hC (v := 0) dX8_setting_3 rfl rfl ?_
  refine v_ldc2 hC (v := 2) dX8_setting_4 kX8_setting_184 rfl ?_
  obtain ⟨v1, hv1, h⟩ := bind_g h
  refine v_callSri hC (n := 3) (st := [.ref h0]) (mX8_in l g cy x1.toInt64 0 2 hv1) gX8_setting_X8_in rfl rfl rfl (by decide +kernel) ⟨Nat.le_of_ble_eq_true rfl, Nat.le_of_ble_eq_true rfl⟩ [] rfl rfl rfl rfl (Nat.le_of_ble_eq_true rfl) rfl ⟨Nat.zero_le _, Nat.zero_le _⟩ dX8_setting_7 rfl ?_
  refine v_if_eq hC (tgt := 17) dX8_setting_10 (by decide) rfl (fun c => ?_) (fun c => ?_)
  · have h := ite_t c h
    refine v_iconst hC (v := (nI 1)) dX8_setting_17 (by decide) rfl ?_
    exact bX8_setting_18 hC hr _ _ _ _ _ _ _ _ _ _ _ _ _ h
  · have h := ite_f c h
    refine v_iconst hC (v := (nI 0)) dX8_setting_13 (by decide) rfl ?_
    refine v_goto hC (tgt := 18) dX8_setting_14 (by decide) ?_
    exact bX8_setting_18 hC hr _ _ _ _ _ _ _ _ _ _ _ _ _ h
theorem kX8_remember_13 : Cond.fieldLink RX8 13 "CrowdFacesModel" "now" "[I" ∈ wsX8_remember := by decide +kernel
theorem kX8_remember_173 : Cond.fieldLink RX8 173 "CrowdFacesModel" "acts" "I" ∈ wsX8_remember := by decide +kernel
theorem kX8_remember_19 : Cond.fieldLink RX8 19 "CrowdFacesModel" "diary" "[I" ∈ wsX8_remember := by decide +kernel
theorem iX8_remember_X8 : ∀ w ∈ wsX80, w ∈ wsX8_remember := by decide +kernel
def pX8_remember_50 (ac : Int32) (nw : Nat → Int32) (di : Nat → Int32) : Option (Int32 × (Nat → Int32)) := (pX8_copyState 164 nw 2296 di (nI 0) ((nI 164) * ac)).bind fun v1 => some ((ac + (nI 1)), v1)
def pX8_remember_11 : Nat → Int32 → (Nat → Int32) → (Nat → Int32) → Int32 → Option (Int32 × (Nat → Int32))
  | 0, _, _, _, _ => none
  | k + 1, ac, nw, di, y1 => if (nI 2132) ≤ y1 then pX8_remember_50 (ac - (nI 1)) nw di else if nb (y1 + (nI 164)) 2296 = true then if nb y1 2296 = true then pX8_remember_11 k ac nw (upd di y1.toNatClampNeg (di (y1 + (nI 164)).toNatClampNeg)) (y1 + (nI 1)) else none else none
theorem pX8_remember_11_s {k : Nat} (ac : Int32) (nw : Nat → Int32) (di : Nat → Int32) (y1 : Int32) : pX8_remember_11 (k + 1) ac nw di y1 = if (nI 2132) ≤ y1 then pX8_remember_50 (ac - (nI 1)) nw di else if nb (y1 + (nI 164)) 2296 = true then if nb y1 2296 = true then pX8_remember_11 k ac nw (upd di y1.toNatClampNeg (di (y1 + (nI 164)).toNatClampNeg)) (y1 + (nI 1)) else none else none := rfl
def pX8_remember (ac : Int32) (nw : Nat → Int32) (di : Nat → Int32) : Option (Int32 × (Nat → Int32)) := if ac = (nI 14) then pX8_remember_11 FU ac nw di (nI 0) else pX8_remember_50 ac nw di
abbrev rmX8_remember : Room := { frames := 1, cells := 0, slots := 0, locals := 24 }
set_option maxHeartbeats 4000000 in
set_option maxRecDepth 100000 in
theorem bX8_remember_50 {p : Program} {l : Launch} {e : Env} {s : State} {m : MethodId} {args : Array Value} {below : List Frame} {meth : Method} {c : Code} {g : va_G} {cy : Nat → ClassId} (hC : CX p s m args meth c g cy 2 cX8_remember wsX8_remember RX8) (hr : meth.sig.returnType = none) {h0 ztx znw ztr zdi zkp zik : Nat} {A : Nat → Prop} {res : Int32 × (Nat → Int32)} : ∀ (rf : Int32) (sz : Int32) (ac : Int32) (sp : Int32) (ou : Int32) (tx : Nat → Int32) (nw : Nat → Int32) (tr : Nat → Int32) (di : Nat → Int32) (kp : Nat → Int32) (ik : Nat → Int32) (h : pX8_remember_50 ac nw di = some res), V p l e (headSpec wsX8_remember rmX8_remember).room s m args below meth c g 2 0 0 (MQ below (QWv g A [(h0, .inr (6, [.int rf, .ref ztx, .int sz, .ref znw, .ref ztr, .ref zdi, .int res.1, .ref zkp, .ref zik, .int sp, .int ou])), (ztx, .inl (cy 0, 120, .inl tx)), (znw, .inl (cy 0, 164, .inl nw)), (ztr, .inl (cy 0, 164, .inl tr)), (zdi, .inl (cy 0, 2296, .inl res.2)), (zkp, .inl (cy 0, 328, .inl kp)), (zik, .inl (cy 1, 2, .inl ik))]) args s 0 0 A) A A [(h0, .inr (6, [.int rf, .ref ztx, .int sz, .ref znw, .ref ztr, .ref zdi, .int ac, .ref zkp, .ref zik, .int sp, .int ou])), (ztx, .inl (cy 0, 120, .inl tx)), (znw, .inl (cy 0, 164, .inl nw)), (ztr, .inl (cy 0, 164, .inl tr)), (zdi, .inl (cy 0, 2296, .inl di)), (zkp, .inl (cy 0, 328, .inl kp)), (zik, .inl (cy 1, 2, .inl ik))] 50 [(0, .ref h0)] [] := by
  intro rf sz ac sp ou tx nw tr di kp ik  h
  unfold pX8_remember_50 at h
  refine v_aload_n hC dX8_remember_50 rfl 0 rfl rfl ?_
  refine v_get hC iX8_remember_X8 0 rfl rfl 3 (by decide) kX8_remember_13 rfl rfl dX8_remember_51 rfl ?_
  refine v_iconst hC (v := (nI 0)) dX8_remember_54 (by decide) rfl ?_
  refine v_aload_n hC dX8_remember_55 rfl 0 rfl rfl ?_
  refine v_get hC iX8_remember_X8 0 rfl rfl 5 (by decide) kX8_remember_19 rfl rfl dX8_remember_56 rfl ?_
  refine v_sipush hC (v := (nI 164)) dX8_remember_59 (by decide) rfl ?_
  refine v_aload_n hC dX8_remember_62 rfl 0 rfl rfl ?_
  refine v_get hC iX8_remember_X8 0 rfl rfl 6 (by decide) kX8_remember_173 rfl rfl dX8_remember_63 rfl ?_
  refine v_imul hC dX8_remember_66 rfl ?_
  obtain ⟨v1, hv1, h⟩ := bind_g h
  refine v_callSwv hC (n := 4) (st := []) [(h0, .inr (6, [.int rf, .ref ztx, .int sz, .ref znw, .ref ztr, .ref zdi, .int ac, .ref zkp, .ref zik, .int sp, .int ou])), (ztx, .inl (cy 0, 120, .inl tx)), (znw, .inl (cy 0, 164, .inl nw)), (ztr, .inl (cy 0, 164, .inl tr)), (zdi, .inl (cy 0, 2296, .inl v1)), (zkp, .inl (cy 0, 328, .inl kp)), (zik, .inl (cy 1, 2, .inl ik))] _ (mX8_copyState l g cy znw zdi 164 nw 2296 di (nI 0) ((nI 164) * ac) hv1) gX8_remember_X8_copyState rfl rfl rfl (by decide +kernel) ⟨Nat.le_of_ble_eq_true rfl, Nat.le_of_ble_eq_true rfl⟩ [2, 4] [0, 1, 3, 5, 6] rfl rfl rfl rfl rfl rfl rfl rfl rfl (Nat.le_of_ble_eq_true rfl) rfl ⟨Nat.zero_le _, Nat.zero_le _⟩ dX8_remember_67 rfl ?_
  refine v_aload_n hC dX8_remember_70 rfl 0 rfl rfl ?_
  refine v_dup hC dX8_remember_71 rfl rfl ?_
  refine v_get hC iX8_remember_X8 0 rfl rfl 6 (by decide) kX8_remember_173 rfl rfl dX8_remember_72 rfl ?_
  refine v_iconst hC (v := (nI 1)) dX8_remember_75 (by decide) rfl ?_
  refine v_iadd hC dX8_remember_76 rfl ?_
  refine v_put hC iX8_remember_X8 tyX8 tyX8_ok nmX8 0 rfl rfl 6 (by decide) kX8_remember_173 rfl rfl (ty := .int) (by decide +kernel) rfl rfl (Nat.le_of_ble_eq_true rfl) dX8_remember_77 [(h0, .inr (6, [.int rf, .ref ztx, .int sz, .ref znw, .ref ztr, .ref zdi, .int (ac + (nI 1)), .ref zkp, .ref zik, .int sp, .int ou])), (ztx, .inl (cy 0, 120, .inl tx)), (znw, .inl (cy 0, 164, .inl nw)), (ztr, .inl (cy 0, 164, .inl tr)), (zdi, .inl (cy 0, 2296, .inl v1)), (zkp, .inl (cy 0, 328, .inl kp)), (zik, .inl (cy 1, 2, .inl ik))] rfl rfl ?_
  obtain rfl := Option.some.inj h
  exact v_vrw hC hr dX8_remember_80
set_option maxHeartbeats 4000000 in
set_option maxRecDepth 100000 in
theorem bX8_remember_11 {p : Program} {l : Launch} {e : Env} {s : State} {m : MethodId} {args : Array Value} {below : List Frame} {meth : Method} {c : Code} {g : va_G} {cy : Nat → ClassId} (hC : CX p s m args meth c g cy 2 cX8_remember wsX8_remember RX8) (hr : meth.sig.returnType = none) {h0 ztx znw ztr zdi zkp zik : Nat} {A : Nat → Prop} {res : Int32 × (Nat → Int32)} : ∀ (k : Nat) (rf : Int32) (sz : Int32) (ac : Int32) (sp : Int32) (ou : Int32) (tx : Nat → Int32) (nw : Nat → Int32) (tr : Nat → Int32) (di : Nat → Int32) (kp : Nat → Int32) (ik : Nat → Int32) (y1 : Int32) (h : pX8_remember_11 k ac nw di y1 = some res), V p l e (headSpec wsX8_remember rmX8_remember).room s m args below meth c g 2 0 0 (MQ below (QWv g A [(h0, .inr (6, [.int rf, .ref ztx, .int sz, .ref znw, .ref ztr, .ref zdi, .int res.1, .ref zkp, .ref zik, .int sp, .int ou])), (ztx, .inl (cy 0, 120, .inl tx)), (znw, .inl (cy 0, 164, .inl nw)), (ztr, .inl (cy 0, 164, .inl tr)), (zdi, .inl (cy 0, 2296, .inl res.2)), (zkp, .inl (cy 0, 328, .inl kp)), (zik, .inl (cy 1, 2, .inl ik))]) args s 0 0 A) A A [(h0, .inr (6, [.int rf, .ref ztx, .int sz, .ref znw, .ref ztr, .ref zdi, .int ac, .ref zkp, .ref zik, .int sp, .int ou])), (ztx, .inl (cy 0, 120, .inl tx)), (znw, .inl (cy 0, 164, .inl nw)), (ztr, .inl (cy 0, 164, .inl tr)), (zdi, .inl (cy 0, 2296, .inl di)), (zkp, .inl (cy 0, 328, .inl kp)), (zik, .inl (cy 1, 2, .inl ik))] 11 [(0, .ref h0), (1, .int y1)] [] := by
  intro k
  induction k with
  | zero =>
    intro rf sz ac sp ou tx nw tr di kp ik y1 h
    have h : (none : Option _) = some res := h
    cases h
  | succ k ih =>
    intro rf sz ac sp ou tx nw tr di kp ik y1 h
    rw [pX8_remember_11_s] at h
    refine v_iload_n hC dX8_remember_11 rfl 1 rfl rfl ?_
    refine v_sipush hC (v := (nI 2132)) dX8_remember_12 (by decide) rfl ?_
    refine v_icmp_ge hC (tgt := 40) dX8_remember_15 (by decide) rfl (fun c => ?_) (fun c => ?_)
    · have h := ite_t c h
      refine v_aload_n hC dX8_remember_40 rfl 0 rfl rfl ?_
      refine v_dup hC dX8_remember_41 rfl rfl ?_
      refine v_get hC iX8_remember_X8 0 rfl rfl 6 (by decide) kX8_remember_173 rfl rfl dX8_remember_42 rfl ?_
      refine v_iconst hC (v := (nI 1)) dX8_remember_45 (by decide) rfl ?_
      refine v_isub hC dX8_remember_46 rfl ?_
      refine v_put hC iX8_remember_X8 tyX8 tyX8_ok nmX8 0 rfl rfl 6 (by decide) kX8_remember_173 rfl rfl (ty := .int) (by decide +kernel) rfl rfl (Nat.le_of_ble_eq_true rfl) dX8_remember_47 [(h0, .inr (6, [.int rf, .ref ztx, .int sz, .ref znw, .ref ztr, .ref zdi, .int (ac - (nI 1)), .ref zkp, .ref zik, .int sp, .int ou])), (ztx, .inl (cy 0, 120, .inl tx)), (znw, .inl (cy 0, 164, .inl nw)), (ztr, .inl (cy 0, 164, .inl tr)), (zdi, .inl (cy 0, 2296, .inl di)), (zkp, .inl (cy 0, 328, .inl kp)), (zik, .inl (cy 1, 2, .inl ik))] rfl rfl ?_
      exact v_sub [0] (lv' := [(0, .ref h0)]) rfl (bX8_remember_50 hC hr _ _ _ _ _ _ _ _ _ _ _ h)
    · have h := ite_f c h
      refine v_aload_n hC dX8_remember_18 rfl 0 rfl rfl ?_
      refine v_get hC iX8_remember_X8 0 rfl rfl 5 (by decide) kX8_remember_19 rfl rfl dX8_remember_19 rfl ?_
      refine v_iload_n hC dX8_remember_22 rfl 1 rfl rfl ?_
      refine v_aload_n hC dX8_remember_23 rfl 0 rfl rfl ?_
      refine v_get hC iX8_remember_X8 0 rfl rfl 5 (by decide) kX8_remember_19 rfl rfl dX8_remember_24 rfl ?_
      refine v_iload_n hC dX8_remember_27 rfl 1 rfl rfl ?_
      refine v_sipush hC (v := (nI 164)) dX8_remember_28 (by decide) rfl ?_
      refine v_iadd hC dX8_remember_31 rfl ?_
      obtain ⟨hn, h⟩ := ite_g h
      refine v_iald hC 4 rfl hn dX8_remember_32 rfl ?_
      obtain ⟨hn, h⟩ := ite_g h
      refine v_iast hC 4 rfl hn dX8_remember_33 [(h0, .inr (6, [.int rf, .ref ztx, .int sz, .ref znw, .ref ztr, .ref zdi, .int ac, .ref zkp, .ref zik, .int sp, .int ou])), (ztx, .inl (cy 0, 120, .inl tx)), (znw, .inl (cy 0, 164, .inl nw)), (ztr, .inl (cy 0, 164, .inl tr)), (zdi, .inl (cy 0, 2296, .inl (upd di y1.toNatClampNeg (di (y1 + (nI 164)).toNatClampNeg)))), (zkp, .inl (cy 0, 328, .inl kp)), (zik, .inl (cy 1, 2, .inl ik))] rfl rfl ?_
      refine v_iinc hC dX8_remember_34 1 rfl (v := (y1 + (nI 1))) rfl (by decide) [(1, .int (y1 + (nI 1))), (0, .ref h0)] rfl rfl ?_
      refine v_goto hC (tgt := 11) dX8_remember_37 (by decide) ?_
      exact v_sub [1, 0] (lv' := [(0, .ref h0), (1, .int (y1 + (nI 1)))]) rfl (ih _ _ _ _ _ _ _ _ _ _ _ _ h)
set_option maxHeartbeats 4000000 in
set_option maxRecDepth 100000 in
theorem mX8_remember (l : Launch) (g : va_G) (cy : Nat → ClassId) (h0 ztx znw ztr zdi zkp zik : Nat) (rf : Int32) (sz : Int32) (ac : Int32) (sp : Int32) (ou : Int32) (tx : Nat → Int32) (nw : Nat → Int32) (tr : Nat → Int32) (di : Nat → Int32) (kp : Nat → Int32) (ik : Nat → Int32)  {res : Int32 × (Nat → Int32)} (h : pX8_remember ac nw di = some res) : Met l yX8_remember wsX8_remember rmX8_remember (PW [.ref h0] g cy [(h0, .inr (6, [.int rf, .ref ztx, .int sz, .ref znw, .ref ztr, .ref zdi, .int ac, .ref zkp, .ref zik, .int sp, .int ou])), (ztx, .inl (cy 0, 120, .inl tx)), (znw, .inl (cy 0, 164, .inl nw)), (ztr, .inl (cy 0, 164, .inl tr)), (zdi, .inl (cy 0, 2296, .inl di)), (zkp, .inl (cy 0, 328, .inl kp)), (zik, .inl (cy 1, 2, .inl ik))]) (QWv g (wA [(h0, .inr (6, [.int rf, .ref ztx, .int sz, .ref znw, .ref ztr, .ref zdi, .int ac, .ref zkp, .ref zik, .int sp, .int ou])), (ztx, .inl (cy 0, 120, .inl tx)), (znw, .inl (cy 0, 164, .inl nw)), (ztr, .inl (cy 0, 164, .inl tr)), (zdi, .inl (cy 0, 2296, .inl di)), (zkp, .inl (cy 0, 328, .inl kp)), (zik, .inl (cy 1, 2, .inl ik))]) [(h0, .inr (6, [.int rf, .ref ztx, .int sz, .ref znw, .ref ztr, .ref zdi, .int res.1, .ref zkp, .ref zik, .int sp, .int ou])), (ztx, .inl (cy 0, 120, .inl tx)), (znw, .inl (cy 0, 164, .inl nw)), (ztr, .inl (cy 0, 164, .inl tr)), (zdi, .inl (cy 0, 2296, .inl res.2)), (zkp, .inl (cy 0, 328, .inl kp)), (zik, .inl (cy 1, 2, .inl ik))]) 0 0 (wA [(h0, .inr (6, [.int rf, .ref ztx, .int sz, .ref znw, .ref ztr, .ref zdi, .int ac, .ref zkp, .ref zik, .int sp, .int ou])), (ztx, .inl (cy 0, 120, .inl tx)), (znw, .inl (cy 0, 164, .inl nw)), (ztr, .inl (cy 0, 164, .inl tr)), (zdi, .inl (cy 0, 2296, .inl di)), (zkp, .inl (cy 0, 328, .inl kp)), (zik, .inl (cy 1, 2, .inl ik))]) := by
  refine m_ofV (cc := cX8_remember) (nL := 2) (ret := none) (B := (wA [(h0, .inr (6, [.int rf, .ref ztx, .int sz, .ref znw, .ref ztr, .ref zdi, .int ac, .ref zkp, .ref zik, .int sp, .int ou])), (ztx, .inl (cy 0, 120, .inl tx)), (znw, .inl (cy 0, 164, .inl nw)), (ztr, .inl (cy 0, 164, .inl tr)), (zdi, .inl (cy 0, 2296, .inl di)), (zkp, .inl (cy 0, 328, .inl kp)), (zik, .inl (cy 1, 2, .inl ik))])) RX8 rfl (by decide) rfl [(0, .ref h0)] rfl (Nat.le_of_ble_eq_true rfl) (wA.self) ?_
  intro p e s m args below meth c hC hr
  generalize (wA [(h0, .inr (6, [.int rf, .ref ztx, .int sz, .ref znw, .ref ztr, .ref zdi, .int ac, .ref zkp, .ref zik, .int sp, .int ou])), (ztx, .inl (cy 0, 120, .inl tx)), (znw, .inl (cy 0, 164, .inl nw)), (ztr, .inl (cy 0, 164, .inl tr)), (zdi, .inl (cy 0, 2296, .inl di)), (zkp, .inl (cy 0, 328, .inl kp)), (zik, .inl (cy 1, 2, .inl ik))]) = A
  unfold pX8_remember at h
  refine v_aload_n hC dX8_remember_0 rfl 0 rfl rfl ?_
  refine v_get hC iX8_remember_X8 0 rfl rfl 6 (by decide) kX8_remember_173 rfl rfl dX8_remember_1 rfl ?_
  refine v_bipush hC (v := (nI 14)) dX8_remember_4 (by decide) rfl ?_
  refine v_icmp_ne hC (tgt := 50) dX8_remember_6 (by decide) rfl (fun c => ?_) (fun c => ?_)
  · have h := ite_f c h
    exact bX8_remember_50 hC hr _ _ _ _ _ _ _ _ _ _ _ h
  · have h := ite_t c h
    refine v_iconst hC (v := (nI 0)) dX8_remember_9 (by decide) rfl ?_
    refine v_istore_n hC dX8_remember_10 rfl (by decide) [(1, .int (nI 0)), (0, .ref h0)] rfl rfl ?_
    exact v_sub [1, 0] (lv' := [(0, .ref h0), (1, .int (nI 0))]) rfl (bX8_remember_11 hC hr FU _ _ _ _ _ _ _ _ _ _ _ _ h)
theorem kX8_extra_13 : Cond.fieldLink RX8 13 "CrowdFacesModel" "now" "[I" ∈ wsX8_extra := by decide +kernel
theorem iX8_extra_X8 : ∀ w ∈ wsX80, w ∈ wsX8_extra := by decide +kernel
def pX8_extra_29 (rf : Int32) (ac : Int32) (nw : Nat → Int32) (di : Nat → Int32) (y1 : Int32) (y2 : Int32) (s0 : Int32) : Option (Int32 × Int32 × Int32 × (Nat → Int32) × (Nat → Int32)) := (pX8_refused rf s0).bind fun v1 => if v1.1 = 0 then (pX8_remember ac nw di).bind fun v2 => (pX8_extraOn nw y1 y2).bind fun v3 => some (v3.1, v1.2, v2.1, v3.2, v2.2) else some ((nI 0), v1.2, ac, nw, di)
def pX8_extra (rf : Int32) (ac : Int32) (nw : Nat → Int32) (di : Nat → Int32) (x1 : Int32) (x2 : Int32) : Option (Int32 × Int32 × Int32 × (Nat → Int32) × (Nat → Int32)) := (pX8_isNewExtra x1 x2).bind fun v1 => if v1 = 0 then pX8_extra_29 rf ac nw di x1 x2 (nI 1) else if nb (nI 0) 164 = true then if (nI 14) ≤ (nw (nI 0).toNatClampNeg) then pX8_extra_29 rf ac nw di x1 x2 (nI 2) else pX8_extra_29 rf ac nw di x1 x2 (nI 0) else none
abbrev rmX8_extra : Room := { frames := 2, cells := 0, slots := 0, locals := 47 }
set_option maxHeartbeats 4000000 in
set_option maxRecDepth 100000 in
theorem bX8_extra_29 {p : Program} {l : Launch} {e : Env} {s : State} {m : MethodId} {args : Array Value} {below : List Frame} {meth : Method} {c : Code} {g : va_G} {cy : Nat → ClassId} (hC : CX p s m args meth c g cy 3 cX8_extra wsX8_extra RX8) (hr : meth.sig.returnType = (some .int)) {h0 ztx znw ztr zdi zkp zik : Nat} {A : Nat → Prop} {res : Int32 × Int32 × Int32 × (Nat → Int32) × (Nat → Int32)} : ∀ (rf : Int32) (sz : Int32) (ac : Int32) (sp : Int32) (ou : Int32) (tx : Nat → Int32) (nw : Nat → Int32) (tr : Nat → Int32) (di : Nat → Int32) (kp : Nat → Int32) (ik : Nat → Int32) (y1 : Int32) (y2 : Int32) (s0 : Int32)(h : pX8_extra_29 rf ac nw di y1 y2 s0 = some res), V p l e (headSpec wsX8_extra rmX8_extra).room s m args below meth c g 3 0 0 (MQ below (QWi g A res.1 [(h0, .inr (6, [.int res.2.1, .ref ztx, .int sz, .ref znw, .ref ztr, .ref zdi, .int res.2.2.1, .ref zkp, .ref zik, .int sp, .int ou])), (ztx, .inl (cy 0, 120, .inl tx)), (znw, .inl (cy 0, 164, .inl res.2.2.2.1)), (ztr, .inl (cy 0, 164, .inl tr)), (zdi, .inl (cy 0, 2296, .inl res.2.2.2.2)), (zkp, .inl (cy 0, 328, .inl kp)), (zik, .inl (cy 1, 2, .inl ik))]) args s 0 0 A) A A [(h0, .inr (6, [.int rf, .ref ztx, .int sz, .ref znw, .ref ztr, .ref zdi, .int ac, .ref zkp, .ref zik, .int sp, .int ou])), (ztx, .inl (cy 0, 120, .inl tx)), (znw, .inl (cy 0, 164, .inl nw)), (ztr, .inl (cy 0, 164, .inl tr)), (zdi, .inl (cy 0, 2296, .inl di)), (zkp, .inl (cy 0, 328, .inl kp)), (zik, .inl (cy 1, 2, .inl ik))] 29 [(0, .ref h0), (1, .int y1), (2, .int y2)] [.int s0, .ref h0] := by
  intro rf sz ac sp ou tx nw tr di kp ik y1 y2 s0 h
  unfold pX8_extra_29 at h
  obtain ⟨v1, hv1, h⟩ := bind_g h
  refine v_callVwi hC (n := 1) (st := []) [(h0, .inr (6, [.int v1.2, .ref ztx, .int sz, .ref znw, .ref ztr, .ref zdi, .int ac, .ref zkp, .ref zik, .int sp, .int ou])), (ztx, .inl (cy 0, 120, .inl tx)), (znw, .inl (cy 0, 164, .inl nw)), (ztr, .inl (cy 0, 164, .inl tr)), (zdi, .inl (cy 0, 2296, .inl di)), (zkp, .inl (cy 0, 328, .inl kp)), (zik, .inl (cy 1, 2, .inl ik))] _ (mX8_refused l g cy h0 ztx znw ztr zdi zkp zik rf sz ac sp ou tx nw tr di kp ik s0 hv1) gX8_extra_X8_refused rfl rfl rfl (by decide +kernel) ⟨Nat.le_of_ble_eq_true rfl, Nat.le_of_ble_eq_true rfl⟩ 0 rfl rfl [0, 1, 2, 3, 4, 5, 6] [] rfl rfl rfl rfl rfl rfl rfl rfl rfl (Nat.le_of_ble_eq_true rfl) rfl ⟨Nat.zero_le _, Nat.zero_le _⟩ dX8_extra_29 rfl ?_
  refine v_if_eq hC (tgt := 37) dX8_extra_32 (by decide) rfl (fun c => ?_) (fun c => ?_)
  · have h := ite_t c h
    refine v_aload_n hC dX8_extra_37 rfl 0 rfl rfl ?_
    obtain ⟨v2, hv2, h⟩ := bind_g h
    refine v_callVwv hC (n := 0) (st := []) [(h0, .inr (6, [.int v1.2, .ref ztx, .int sz, .ref znw, .ref ztr, .ref zdi, .int v2.1, .ref zkp, .ref zik, .int sp, .int ou])), (ztx, .inl (cy 0, 120, .inl tx)), (znw, .inl (cy 0, 164, .inl nw)), (ztr, .inl (cy 0, 164, .inl tr)), (zdi, .inl (cy 0, 2296, .inl v2.2)), (zkp, .inl (cy 0, 328, .inl kp)), (zik, .inl (cy 1, 2, .inl ik))] _ (mX8_remember l g cy h0 ztx znw ztr zdi zkp zik v1.2 sz ac sp ou tx nw tr di kp ik hv2) gX8_extra_X8_remember rfl rfl rfl (by decide +kernel) ⟨Nat.le_of_ble_eq_true rfl, Nat.le_of_ble_eq_true rfl⟩ 0 rfl rfl [0, 1, 2, 3, 4, 5, 6] [] rfl rfl rfl rfl rfl rfl rfl rfl rfl (Nat.le_of_ble_eq_true rfl) rfl ⟨Nat.zero_le _, Nat.zero_le _⟩ dX8_extra_38 rfl ?_
    refine v_aload_n hC dX8_extra_41 rfl 0 rfl rfl ?_
    refine v_get hC iX8_extra_X8 0 rfl rfl 3 (by decide) kX8_extra_13 rfl rfl dX8_extra_42 rfl ?_
    refine v_iload_n hC dX8_extra_45 rfl 1 rfl rfl ?_
    refine v_iload_n hC dX8_extra_46 rfl 2 rfl rfl ?_
    obtain ⟨v3, hv3, h⟩ := bind_g h
    refine v_callSwi hC (n := 3) (st := []) [(h0, .inr (6, [.int v1.2, .ref ztx, .int sz, .ref znw, .ref ztr, .ref zdi, .int v2.1, .ref zkp, .ref zik, .int sp, .int ou])), (ztx, .inl (cy 0, 120, .inl tx)), (znw, .inl (cy 0, 164, .inl v3.2)), (ztr, .inl (cy 0, 164, .inl tr)), (zdi, .inl (cy 0, 2296, .inl v2.2)), (zkp, .inl (cy 0, 328, .inl kp)), (zik, .inl (cy 1, 2, .inl ik))] _ (mX8_extraOn l g cy znw nw y1 y2 hv3) gX8_extra_X8_extraOn rfl rfl rfl (by decide +kernel) ⟨Nat.le_of_ble_eq_true rfl, Nat.le_of_ble_eq_true rfl⟩ [2] [0, 1, 3, 4, 5, 6] rfl rfl rfl rfl rfl rfl rfl rfl rfl (Nat.le_of_ble_eq_true rfl) rfl ⟨Nat.zero_le _, Nat.zero_le _⟩ dX8_extra_47 rfl ?_
    obtain rfl := Option.some.inj h
    exact v_irw hC hr rfl rfl dX8_extra_50
  · have h := ite_f c h
    refine v_iconst hC (v := (nI 0)) dX8_extra_35 (by decide) rfl ?_
    obtain rfl := Option.some.inj h
    exact v_irw hC hr rfl rfl dX8_extra_36
set_option maxHeartbeats 4000000 in
set_option maxRecDepth 100000 in
theorem mX8_extra (l : Launch) (g : va_G) (cy : Nat → ClassId) (h0 ztx znw ztr zdi zkp zik : Nat) (rf : Int32) (sz : Int32) (ac : Int32) (sp : Int32) (ou : Int32) (tx : Nat → Int32) (nw : Nat → Int32) (tr : Nat → Int32) (di : Nat → Int32) (kp : Nat → Int32) (ik : Nat → Int32) (x1 : Int32) (x2 : Int32) {res : Int32 × Int32 × Int32 × (Nat → Int32) × (Nat → Int32)} (h : pX8_extra rf ac nw di x1 x2 = some res) : Met l yX8_extra wsX8_extra rmX8_extra (PW [.ref h0, .int x1, .int x2] g cy [(h0, .inr (6, [.int rf, .ref ztx, .int sz, .ref znw, .ref ztr, .ref zdi, .int ac, .ref zkp, .ref zik, .int sp, .int ou])), (ztx, .inl (cy 0, 120, .inl tx)), (znw, .inl (cy 0, 164, .inl nw)), (ztr, .inl (cy 0, 164, .inl tr)), (zdi, .inl (cy 0, 2296, .inl di)), (zkp, .inl (cy 0, 328, .inl kp)), (zik, .inl (cy 1, 2, .inl ik))]) (QWi g (wA [(h0, .inr (6, [.int rf, .ref ztx, .int sz, .ref znw, .ref ztr, .ref zdi, .int ac, .ref zkp, .ref zik, .int sp, .int ou])), (ztx, .inl (cy 0, 120, .inl tx)), (znw, .inl (cy 0, 164, .inl nw)), (ztr, .inl (cy 0, 164, .inl tr)), (zdi, .inl (cy 0, 2296, .inl di)), (zkp, .inl (cy 0, 328, .inl kp)), (zik, .inl (cy 1, 2, .inl ik))]) res.1 [(h0, .inr (6, [.int res.2.1, .ref ztx, .int sz, .ref znw, .ref ztr, .ref zdi, .int res.2.2.1, .ref zkp, .ref zik, .int sp, .int ou])), (ztx, .inl (cy 0, 120, .inl tx)), (znw, .inl (cy 0, 164, .inl res.2.2.2.1)), (ztr, .inl (cy 0, 164, .inl tr)), (zdi, .inl (cy 0, 2296, .inl res.2.2.2.2)), (zkp, .inl (cy 0, 328, .inl kp)), (zik, .inl (cy 1, 2, .inl ik))]) 0 0 (wA [(h0, .inr (6, [.int rf, .ref ztx, .int sz, .ref znw, .ref ztr, .ref zdi, .int ac, .ref zkp, .ref zik, .int sp, .int ou])), (ztx, .inl (cy 0, 120, .inl tx)), (znw, .inl (cy 0, 164, .inl nw)), (ztr, .inl (cy 0, 164, .inl tr)), (zdi, .inl (cy 0, 2296, .inl di)), (zkp, .inl (cy 0, 328, .inl kp)), (zik, .inl (cy 1, 2, .inl ik))]) := by
  refine m_ofV (cc := cX8_extra) (nL := 3) (ret := (some .int)) (B := (wA [(h0, .inr (6, [.int rf, .ref ztx, .int sz, .ref znw, .ref ztr, .ref zdi, .int ac, .ref zkp, .ref zik, .int sp, .int ou])), (ztx, .inl (cy 0, 120, .inl tx)), (znw, .inl (cy 0, 164, .inl nw)), (ztr, .inl (cy 0, 164, .inl tr)), (zdi, .inl (cy 0, 2296, .inl di)), (zkp, .inl (cy 0, 328, .inl kp)), (zik, .inl (cy 1, 2, .inl ik))])) RX8 rfl (by decide) rfl [(0, .ref h0), (1, .int x1), (2, .int x2)] rfl (Nat.le_of_ble_eq_true rfl) (wA.self) ?_
  intro p e s m args below meth c hC hr
  generalize (wA [(h0, .inr (6, [.int rf, .ref ztx, .int sz, .ref znw, .ref ztr, .ref zdi, .int ac, .ref zkp, .ref zik, .int sp, .int ou])), (ztx, .inl (cy 0, 120, .inl tx)), (znw, .inl (cy 0, 164, .inl nw)), (ztr, .inl (cy 0, 164, .inl tr)), (zdi, .inl (cy 0, 2296, .inl di)), (zkp, .inl (cy 0, 328, .inl kp)), (zik, .inl (cy 1, 2, .inl ik))]) = A
  unfold pX8_extra at h
  refine v_aload_n hC dX8_extra_0 rfl 0 rfl rfl ?_
  refine v_iload_n hC dX8_extra_1 rfl 1 rfl rfl ?_
  refine v_iload_n hC dX8_extra_2 rfl 2 rfl rfl ?_
  obtain ⟨v1, hv1, h⟩ := bind_g h
  refine v_callSri hC (n := 2) (st := [.ref h0]) (mX8_isNewExtra l g cy x1 x2 hv1) gX8_extra_X8_isNewExtra rfl rfl rfl (by decide +kernel) ⟨Nat.le_of_ble_eq_true rfl, Nat.le_of_ble_eq_true rfl⟩ [] rfl rfl rfl rfl (Nat.le_of_ble_eq_true rfl) rfl ⟨Nat.zero_le _, Nat.zero_le _⟩ dX8_extra_3 rfl ?_
  refine v_if_ne hC (tgt := 13) dX8_extra_6 (by decide) rfl (fun c => ?_) (fun c => ?_)
  · have h := ite_f c h
    refine v_aload_n hC dX8_extra_13 rfl 0 rfl rfl ?_
    refine v_get hC iX8_extra_X8 0 rfl rfl 3 (by decide) kX8_extra_13 rfl rfl dX8_extra_14 rfl ?_
    refine v_iconst hC (v := (nI 0)) dX8_extra_17 (by decide) rfl ?_
    obtain ⟨hn, h⟩ := ite_g h
    refine v_iald hC 2 rfl hn dX8_extra_18 rfl ?_
    refine v_bipush hC (v := (nI 14)) dX8_extra_19 (by decide) rfl ?_
    refine v_icmp_ge hC (tgt := 28) dX8_extra_21 (by decide) rfl (fun c => ?_) (fun c => ?_)
    · have h := ite_t c h
      refine v_iconst hC (v := (nI 2)) dX8_extra_28 (by decide) rfl ?_
      exact bX8_extra_29 hC hr _ _ _ _ _ _ _ _ _ _ _ _ _ _ h
    · have h := ite_f c h
      refine v_iconst hC (v := (nI 0)) dX8_extra_24 (by decide) rfl ?_
      refine v_goto hC (tgt := 29) dX8_extra_25 (by decide) ?_
      exact bX8_extra_29 hC hr _ _ _ _ _ _ _ _ _ _ _ _ _ _ h
  · have h := ite_t c h
    refine v_iconst hC (v := (nI 1)) dX8_extra_9 (by decide) rfl ?_
    refine v_goto hC (tgt := 29) dX8_extra_10 (by decide) ?_
    exact bX8_extra_29 hC hr _ _ _ _ _ _ _ _ _ _ _ _ _ _ h
theorem kX8_scene_13 : Cond.fieldLink RX8 13 "CrowdFacesModel" "now" "[I" ∈ wsX8_scene := by decide +kernel
theorem iX8_scene_X8 : ∀ w ∈ wsX80, w ∈ wsX8_scene := by decide +kernel
def pX8_scene_34 (rf : Int32) (ac : Int32) (nw : Nat → Int32) (di : Nat → Int32) (y1 : Int32) (y2 : Int32) (y3 : Int32) (y4 : Int32) (y5 : Int32) (s0 : Int32) : Option (Int32 × Int32 × Int32 × (Nat → Int32) × (Nat → Int32)) := (pX8_refused rf s0).bind fun v1 => if v1.1 = 0 then (pX8_remember ac nw di).bind fun v2 => (pX8_sceneOn nw y1 y2 y3 y4 y5).bind fun v3 => some (v3.1, v1.2, v2.1, v3.2, v2.2) else some ((nI 0), v1.2, ac, nw, di)
def pX8_scene (rf : Int32) (ac : Int32) (nw : Nat → Int32) (di : Nat → Int32) (x1 : Int32) (x2 : Int32) (x3 : Int32) (x4 : Int32) (x5 : Int32) : Option (Int32 × Int32 × Int32 × (Nat → Int32) × (Nat → Int32)) := (pX8_isNewScene x1 x2 x3 x4 x5).bind fun v1 => if v1 = 0 then pX8_scene_34 rf ac nw di x1 x2 x3 x4 x5 (nI 1) else if nb (nI 1) 164 = true then if (nI 10) ≤ (nw (nI 1).toNatClampNeg) then pX8_scene_34 rf ac nw di x1 x2 x3 x4 x5 (nI 2) else pX8_scene_34 rf ac nw di x1 x2 x3 x4 x5 (nI 0) else none
abbrev rmX8_scene : Room := { frames := 2, cells := 0, slots := 0, locals := 49 }
set_option maxHeartbeats 4000000 in
set_option maxRecDepth 100000 in
theorem bX8_scene_34 {p : Program} {l : Launch} {e : Env} {s : State} {m : MethodId} {args : Array Value} {below : List Frame} {meth : Method} {c : Code} {g : va_G} {cy : Nat → ClassId} (hC : CX p s m args meth c g cy 6 cX8_scene wsX8_scene RX8) (hr : meth.sig.returnType = (some .int)) {h0 ztx znw ztr zdi zkp zik : Nat} {A : Nat → Prop} {res : Int32 × Int32 × Int32 × (Nat → Int32) × (Nat → Int32)} : ∀ (rf : Int32) (sz : Int32) (ac : Int32) (sp : Int32) (ou : Int32) (tx : Nat → Int32) (nw : Nat → Int32) (tr : Nat → Int32) (di : Nat → Int32) (kp : Nat → Int32) (ik : Nat → Int32) (y1 : Int32) (y2 : Int32) (y3 : Int32) (y4 : Int32) (y5 : Int32) (s0 : Int32)(h : pX8_scene_34 rf ac nw di y1 y2 y3 y4 y5 s0 = some res), V p l e (headSpec wsX8_scene rmX8_scene).room s m args below meth c g 6 0 0 (MQ below (QWi g A res.1 [(h0, .inr (6, [.int res.2.1, .ref ztx, .int sz, .ref znw, .ref ztr, .ref zdi, .int res.2.2.1, .ref zkp, .ref zik, .int sp, .int ou])), (ztx, .inl (cy 0, 120, .inl tx)), (znw, .inl (cy 0, 164, .inl res.2.2.2.1)), (ztr, .inl (cy 0, 164, .inl tr)), (zdi, .inl (cy 0, 2296, .inl res.2.2.2.2)), (zkp, .inl (cy 0, 328, .inl kp)), (zik, .inl (cy 1, 2, .inl ik))]) args s 0 0 A) A A [(h0, .inr (6, [.int rf, .ref ztx, .int sz, .ref znw, .ref ztr, .ref zdi, .int ac, .ref zkp, .ref zik, .int sp, .int ou])), (ztx, .inl (cy 0, 120, .inl tx)), (znw, .inl (cy 0, 164, .inl nw)), (ztr, .inl (cy 0, 164, .inl tr)), (zdi, .inl (cy 0, 2296, .inl di)), (zkp, .inl (cy 0, 328, .inl kp)), (zik, .inl (cy 1, 2, .inl ik))] 34 [(0, .ref h0), (1, .int y1), (2, .int y2), (3, .int y3), (4, .int y4), (5, .int y5)] [.int s0, .ref h0] := by
  intro rf sz ac sp ou tx nw tr di kp ik y1 y2 y3 y4 y5 s0 h
  unfold pX8_scene_34 at h
  obtain ⟨v1, hv1, h⟩ := bind_g h
  refine v_callVwi hC (n := 1) (st := []) [(h0, .inr (6, [.int v1.2, .ref ztx, .int sz, .ref znw, .ref ztr, .ref zdi, .int ac, .ref zkp, .ref zik, .int sp, .int ou])), (ztx, .inl (cy 0, 120, .inl tx)), (znw, .inl (cy 0, 164, .inl nw)), (ztr, .inl (cy 0, 164, .inl tr)), (zdi, .inl (cy 0, 2296, .inl di)), (zkp, .inl (cy 0, 328, .inl kp)), (zik, .inl (cy 1, 2, .inl ik))] _ (mX8_refused l g cy h0 ztx znw ztr zdi zkp zik rf sz ac sp ou tx nw tr di kp ik s0 hv1) gX8_scene_X8_refused rfl rfl rfl (by decide +kernel) ⟨Nat.le_of_ble_eq_true rfl, Nat.le_of_ble_eq_true rfl⟩ 0 rfl rfl [0, 1, 2, 3, 4, 5, 6] [] rfl rfl rfl rfl rfl rfl rfl rfl rfl (Nat.le_of_ble_eq_true rfl) rfl ⟨Nat.zero_le _, Nat.zero_le _⟩ dX8_scene_34 rfl ?_
  refine v_if_eq hC (tgt := 42) dX8_scene_37 (by decide) rfl (fun c => ?_) (fun c => ?_)
  · have h := ite_t c h
    refine v_aload_n hC dX8_scene_42 rfl 0 rfl rfl ?_
    obtain ⟨v2, hv2, h⟩ := bind_g h
    refine v_callVwv hC (n := 0) (st := []) [(h0, .inr (6, [.int v1.2, .ref ztx, .int sz, .ref znw, .ref ztr, .ref zdi, .int v2.1, .ref zkp, .ref zik, .int sp, .int ou])), (ztx, .inl (cy 0, 120, .inl tx)), (znw, .inl (cy 0, 164, .inl nw)), (ztr, .inl (cy 0, 164, .inl tr)), (zdi, .inl (cy 0, 2296, .inl v2.2)), (zkp, .inl (cy 0, 328, .inl kp)), (zik, .inl (cy 1, 2, .inl ik))] _ (mX8_remember l g cy h0 ztx znw ztr zdi zkp zik v1.2 sz ac sp ou tx nw tr di kp ik hv2) gX8_scene_X8_remember rfl rfl rfl (by decide +kernel) ⟨Nat.le_of_ble_eq_true rfl, Nat.le_of_ble_eq_true rfl⟩ 0 rfl rfl [0, 1, 2, 3, 4, 5, 6] [] rfl rfl rfl rfl rfl rfl rfl rfl rfl (Nat.le_of_ble_eq_true rfl) rfl ⟨Nat.zero_le _, Nat.zero_le _⟩ dX8_scene_43 rfl ?_
    refine v_aload_n hC dX8_scene_46 rfl 0 rfl rfl ?_
    refine v_get hC iX8_scene_X8 0 rfl rfl 3 (by decide) kX8_scene_13 rfl rfl dX8_scene_47 rfl ?_
    refine v_iload_n hC dX8_scene_50 rfl 1 rfl rfl ?_
    refine v_iload_n hC dX8_scene_51 rfl 2 rfl rfl ?_
    refine v_iload_n hC dX8_scene_52 rfl 3 rfl rfl ?_
    refine v_iload hC dX8_scene_53 4 rfl rfl ?_
    refine v_iload hC dX8_scene_55 5 rfl rfl ?_
    obtain ⟨v3, hv3, h⟩ := bind_g h
    refine v_callSwi hC (n := 6) (st := []) [(h0, .inr (6, [.int v1.2, .ref ztx, .int sz, .ref znw, .ref ztr, .ref zdi, .int v2.1, .ref zkp, .ref zik, .int sp, .int ou])), (ztx, .inl (cy 0, 120, .inl tx)), (znw, .inl (cy 0, 164, .inl v3.2)), (ztr, .inl (cy 0, 164, .inl tr)), (zdi, .inl (cy 0, 2296, .inl v2.2)), (zkp, .inl (cy 0, 328, .inl kp)), (zik, .inl (cy 1, 2, .inl ik))] _ (mX8_sceneOn l g cy znw nw y1 y2 y3 y4 y5 hv3) gX8_scene_X8_sceneOn rfl rfl rfl (by decide +kernel) ⟨Nat.le_of_ble_eq_true rfl, Nat.le_of_ble_eq_true rfl⟩ [2] [0, 1, 3, 4, 5, 6] rfl rfl rfl rfl rfl rfl rfl rfl rfl (Nat.le_of_ble_eq_true rfl) rfl ⟨Nat.zero_le _, Nat.zero_le _⟩ dX8_scene_57 rfl ?_
    obtain rfl := Option.some.inj h
    exact v_irw hC hr rfl rfl dX8_scene_60
  · have h := ite_f c h
    refine v_iconst hC (v := (nI 0)) dX8_scene_40 (by decide) rfl ?_
    obtain rfl := Option.some.inj h
    exact v_irw hC hr rfl rfl dX8_scene_41
set_option maxHeartbeats 4000000 in
set_option maxRecDepth 100000 in
theorem mX8_scene (l : Launch) (g : va_G) (cy : Nat → ClassId) (h0 ztx znw ztr zdi zkp zik : Nat) (rf : Int32) (sz : Int32) (ac : Int32) (sp : Int32) (ou : Int32) (tx : Nat → Int32) (nw : Nat → Int32) (tr : Nat → Int32) (di : Nat → Int32) (kp : Nat → Int32) (ik : Nat → Int32) (x1 : Int32) (x2 : Int32) (x3 : Int32) (x4 : Int32) (x5 : Int32) {res : Int32 × Int32 × Int32 × (Nat → Int32) × (Nat → Int32)} (h : pX8_scene rf ac nw di x1 x2 x3 x4 x5 = some res) : Met l yX8_scene wsX8_scene rmX8_scene (PW [.ref h0, .int x1, .int x2, .int x3, .int x4, .int x5] g cy [(h0, .inr (6, [.int rf, .ref ztx, .int sz, .ref znw, .ref ztr, .ref zdi, .int ac, .ref zkp, .ref zik, .int sp, .int ou])), (ztx, .inl (cy 0, 120, .inl tx)), (znw, .inl (cy 0, 164, .inl nw)), (ztr, .inl (cy 0, 164, .inl tr)), (zdi, .inl (cy 0, 2296, .inl di)), (zkp, .inl (cy 0, 328, .inl kp)), (zik, .inl (cy 1, 2, .inl ik))]) (QWi g (wA [(h0, .inr (6, [.int rf, .ref ztx, .int sz, .ref znw, .ref ztr, .ref zdi, .int ac, .ref zkp, .ref zik, .int sp, .int ou])), (ztx, .inl (cy 0, 120, .inl tx)), (znw, .inl (cy 0, 164, .inl nw)), (ztr, .inl (cy 0, 164, .inl tr)), (zdi, .inl (cy 0, 2296, .inl di)), (zkp, .inl (cy 0, 328, .inl kp)), (zik, .inl (cy 1, 2, .inl ik))]) res.1 [(h0, .inr (6, [.int res.2.1, .ref ztx, .int sz, .ref znw, .ref ztr, .ref zdi, .int res.2.2.1, .ref zkp, .ref zik, .int sp, .int ou])), (ztx, .inl (cy 0, 120, .inl tx)), (znw, .inl (cy 0, 164, .inl res.2.2.2.1)), (ztr, .inl (cy 0, 164, .inl tr)), (zdi, .inl (cy 0, 2296, .inl res.2.2.2.2)), (zkp, .inl (cy 0, 328, .inl kp)), (zik, .inl (cy 1, 2, .inl ik))]) 0 0 (wA [(h0, .inr (6, [.int rf, .ref ztx, .int sz, .ref znw, .ref ztr, .ref zdi, .int ac, .ref zkp, .ref zik, .int sp, .int ou])), (ztx, .inl (cy 0, 120, .inl tx)), (znw, .inl (cy 0, 164, .inl nw)), (ztr, .inl (cy 0, 164, .inl tr)), (zdi, .inl (cy 0, 2296, .inl di)), (zkp, .inl (cy 0, 328, .inl kp)), (zik, .inl (cy 1, 2, .inl ik))]) := by
  refine m_ofV (cc := cX8_scene) (nL := 6) (ret := (some .int)) (B := (wA [(h0, .inr (6, [.int rf, .ref ztx, .int sz, .ref znw, .ref ztr, .ref zdi, .int ac, .ref zkp, .ref zik, .int sp, .int ou])), (ztx, .inl (cy 0, 120, .inl tx)), (znw, .inl (cy 0, 164, .inl nw)), (ztr, .inl (cy 0, 164, .inl tr)), (zdi, .inl (cy 0, 2296, .inl di)), (zkp, .inl (cy 0, 328, .inl kp)), (zik, .inl (cy 1, 2, .inl ik))])) RX8 rfl (by decide) rfl [(0, .ref h0), (1, .int x1), (2, .int x2), (3, .int x3), (4, .int x4), (5, .int x5)] rfl (Nat.le_of_ble_eq_true rfl) (wA.self) ?_
  intro p e s m args below meth c hC hr
  generalize (wA [(h0, .inr (6, [.int rf, .ref ztx, .int sz, .ref znw, .ref ztr, .ref zdi, .int ac, .ref zkp, .ref zik, .int sp, .int ou])), (ztx, .inl (cy 0, 120, .inl tx)), (znw, .inl (cy 0, 164, .inl nw)), (ztr, .inl (cy 0, 164, .inl tr)), (zdi, .inl (cy 0, 2296, .inl di)), (zkp, .inl (cy 0, 328, .inl kp)), (zik, .inl (cy 1, 2, .inl ik))]) = A
  unfold pX8_scene at h
  refine v_aload_n hC dX8_scene_0 rfl 0 rfl rfl ?_
  refine v_iload_n hC dX8_scene_1 rfl 1 rfl rfl ?_
  refine v_iload_n hC dX8_scene_2 rfl 2 rfl rfl ?_
  refine v_iload_n hC dX8_scene_3 rfl 3 rfl rfl ?_
  refine v_iload hC dX8_scene_4 4 rfl rfl ?_
  refine v_iload hC dX8_scene_6 5 rfl rfl ?_
  obtain ⟨v1, hv1, h⟩ := bind_g h
  refine v_callSri hC (n := 5) (st := [.ref h0]) (mX8_isNewScene l g cy x1 x2 x3 x4 x5 hv1) gX8_scene_X8_isNewScene rfl rfl rfl (by decide +kernel) ⟨Nat.le_of_ble_eq_true rfl, Nat.le_of_ble_eq_true rfl⟩ [] rfl rfl rfl rfl (Nat.le_of_ble_eq_true rfl) rfl ⟨Nat.zero_le _, Nat.zero_le _⟩ dX8_scene_8 rfl ?_
  refine v_if_ne hC (tgt := 18) dX8_scene_11 (by decide) rfl (fun c => ?_) (fun c => ?_)
  · have h := ite_f c h
    refine v_aload_n hC dX8_scene_18 rfl 0 rfl rfl ?_
    refine v_get hC iX8_scene_X8 0 rfl rfl 3 (by decide) kX8_scene_13 rfl rfl dX8_scene_19 rfl ?_
    refine v_iconst hC (v := (nI 1)) dX8_scene_22 (by decide) rfl ?_
    obtain ⟨hn, h⟩ := ite_g h
    refine v_iald hC 2 rfl hn dX8_scene_23 rfl ?_
    refine v_bipush hC (v := (nI 10)) dX8_scene_24 (by decide) rfl ?_
    refine v_icmp_ge hC (tgt := 33) dX8_scene_26 (by decide) rfl (fun c => ?_) (fun c => ?_)
    · have h := ite_t c h
      refine v_iconst hC (v := (nI 2)) dX8_scene_33 (by decide) rfl ?_
      exact bX8_scene_34 hC hr _ _ _ _ _ _ _ _ _ _ _ _ _ _ _ _ _ h
    · have h := ite_f c h
      refine v_iconst hC (v := (nI 0)) dX8_scene_29 (by decide) rfl ?_
      refine v_goto hC (tgt := 34) dX8_scene_30 (by decide) ?_
      exact bX8_scene_34 hC hr _ _ _ _ _ _ _ _ _ _ _ _ _ _ _ _ _ h
  · have h := ite_t c h
    refine v_iconst hC (v := (nI 1)) dX8_scene_14 (by decide) rfl ?_
    refine v_goto hC (tgt := 34) dX8_scene_15 (by decide) ?_
    exact bX8_scene_34 hC hr _ _ _ _ _ _ _ _ _ _ _ _ _ _ _ _ _ h
theorem kX8_shoot_13 : Cond.fieldLink RX8 13 "CrowdFacesModel" "now" "[I" ∈ wsX8_shoot := by decide +kernel
theorem iX8_shoot_X8 : ∀ w ∈ wsX80, w ∈ wsX8_shoot := by decide +kernel
def pX8_shoot_32 (rf : Int32) (ac : Int32) (nw : Nat → Int32) (di : Nat → Int32) (y1 : Int32) (s0 : Int32) : Option (Int32 × Int32 × Int32 × (Nat → Int32) × (Nat → Int32)) := (pX8_refused rf s0).bind fun v1 => if v1.1 = 0 then (pX8_remember ac nw di).bind fun v2 => (pX8_shootOn nw y1).bind fun v3 => some (v3.1, v1.2, v2.1, v3.2, v2.2) else some ((nI 0), v1.2, ac, nw, di)
def pX8_shoot (rf : Int32) (ac : Int32) (nw : Nat → Int32) (di : Nat → Int32) (x1 : Int32) : Option (Int32 × Int32 × Int32 × (Nat → Int32) × (Nat → Int32)) := (pX8_isScene nw x1).bind fun v1 => if v1 = 0 then pX8_shoot_32 rf ac nw di x1 (nI 1) else (pX8_canShoot nw x1).bind fun v2 => if v2 = 0 then pX8_shoot_32 rf ac nw di x1 (nI 2) else pX8_shoot_32 rf ac nw di x1 (nI 0)
abbrev rmX8_shoot : Room := { frames := 7, cells := 0, slots := 0, locals := 161 }
set_option maxHeartbeats 4000000 in
set_option maxRecDepth 100000 in
theorem bX8_shoot_32 {p : Program} {l : Launch} {e : Env} {s : State} {m : MethodId} {args : Array Value} {below : List Frame} {meth : Method} {c : Code} {g : va_G} {cy : Nat → ClassId} (hC : CX p s m args meth c g cy 2 cX8_shoot wsX8_shoot RX8) (hr : meth.sig.returnType = (some .int)) {h0 ztx znw ztr zdi zkp zik : Nat} {A : Nat → Prop} {res : Int32 × Int32 × Int32 × (Nat → Int32) × (Nat → Int32)} : ∀ (rf : Int32) (sz : Int32) (ac : Int32) (sp : Int32) (ou : Int32) (tx : Nat → Int32) (nw : Nat → Int32) (tr : Nat → Int32) (di : Nat → Int32) (kp : Nat → Int32) (ik : Nat → Int32) (y1 : Int32) (s0 : Int32)(h : pX8_shoot_32 rf ac nw di y1 s0 = some res), V p l e (headSpec wsX8_shoot rmX8_shoot).room s m args below meth c g 2 0 0 (MQ below (QWi g A res.1 [(h0, .inr (6, [.int res.2.1, .ref ztx, .int sz, .ref znw, .ref ztr, .ref zdi, .int res.2.2.1, .ref zkp, .ref zik, .int sp, .int ou])), (ztx, .inl (cy 0, 120, .inl tx)), (znw, .inl (cy 0, 164, .inl res.2.2.2.1)), (ztr, .inl (cy 0, 164, .inl tr)), (zdi, .inl (cy 0, 2296, .inl res.2.2.2.2)), (zkp, .inl (cy 0, 328, .inl kp)), (zik, .inl (cy 1, 2, .inl ik))]) args s 0 0 A) A A [(h0, .inr (6, [.int rf, .ref ztx, .int sz, .ref znw, .ref ztr, .ref zdi, .int ac, .ref zkp, .ref zik, .int sp, .int ou])), (ztx, .inl (cy 0, 120, .inl tx)), (znw, .inl (cy 0, 164, .inl nw)), (ztr, .inl (cy 0, 164, .inl tr)), (zdi, .inl (cy 0, 2296, .inl di)), (zkp, .inl (cy 0, 328, .inl kp)), (zik, .inl (cy 1, 2, .inl ik))] 32 [(0, .ref h0), (1, .int y1)] [.int s0, .ref h0] := by
  intro rf sz ac sp ou tx nw tr di kp ik y1 s0 h
  unfold pX8_shoot_32 at h
  obtain ⟨v1, hv1, h⟩ := bind_g h
  refine v_callVwi hC (n := 1) (st := []) [(h0, .inr (6, [.int v1.2, .ref ztx, .int sz, .ref znw, .ref ztr, .ref zdi, .int ac, .ref zkp, .ref zik, .int sp, .int ou])), (ztx, .inl (cy 0, 120, .inl tx)), (znw, .inl (cy 0, 164, .inl nw)), (ztr, .inl (cy 0, 164, .inl tr)), (zdi, .inl (cy 0, 2296, .inl di)), (zkp, .inl (cy 0, 328, .inl kp)), (zik, .inl (cy 1, 2, .inl ik))] _ (mX8_refused l g cy h0 ztx znw ztr zdi zkp zik rf sz ac sp ou tx nw tr di kp ik s0 hv1) gX8_shoot_X8_refused rfl rfl rfl (by decide +kernel) ⟨Nat.le_of_ble_eq_true rfl, Nat.le_of_ble_eq_true rfl⟩ 0 rfl rfl [0, 1, 2, 3, 4, 5, 6] [] rfl rfl rfl rfl rfl rfl rfl rfl rfl (Nat.le_of_ble_eq_true rfl) rfl ⟨Nat.zero_le _, Nat.zero_le _⟩ dX8_shoot_32 rfl ?_
  refine v_if_eq hC (tgt := 40) dX8_shoot_35 (by decide) rfl (fun c => ?_) (fun c => ?_)
  · have h := ite_t c h
    refine v_aload_n hC dX8_shoot_40 rfl 0 rfl rfl ?_
    obtain ⟨v2, hv2, h⟩ := bind_g h
    refine v_callVwv hC (n := 0) (st := []) [(h0, .inr (6, [.int v1.2, .ref ztx, .int sz, .ref znw, .ref ztr, .ref zdi, .int v2.1, .ref zkp, .ref zik, .int sp, .int ou])), (ztx, .inl (cy 0, 120, .inl tx)), (znw, .inl (cy 0, 164, .inl nw)), (ztr, .inl (cy 0, 164, .inl tr)), (zdi, .inl (cy 0, 2296, .inl v2.2)), (zkp, .inl (cy 0, 328, .inl kp)), (zik, .inl (cy 1, 2, .inl ik))] _ (mX8_remember l g cy h0 ztx znw ztr zdi zkp zik v1.2 sz ac sp ou tx nw tr di kp ik hv2) gX8_shoot_X8_remember rfl rfl rfl (by decide +kernel) ⟨Nat.le_of_ble_eq_true rfl, Nat.le_of_ble_eq_true rfl⟩ 0 rfl rfl [0, 1, 2, 3, 4, 5, 6] [] rfl rfl rfl rfl rfl rfl rfl rfl rfl (Nat.le_of_ble_eq_true rfl) rfl ⟨Nat.zero_le _, Nat.zero_le _⟩ dX8_shoot_41 rfl ?_
    refine v_aload_n hC dX8_shoot_44 rfl 0 rfl rfl ?_
    refine v_get hC iX8_shoot_X8 0 rfl rfl 3 (by decide) kX8_shoot_13 rfl rfl dX8_shoot_45 rfl ?_
    refine v_iload_n hC dX8_shoot_48 rfl 1 rfl rfl ?_
    obtain ⟨v3, hv3, h⟩ := bind_g h
    refine v_callSwi hC (n := 2) (st := []) [(h0, .inr (6, [.int v1.2, .ref ztx, .int sz, .ref znw, .ref ztr, .ref zdi, .int v2.1, .ref zkp, .ref zik, .int sp, .int ou])), (ztx, .inl (cy 0, 120, .inl tx)), (znw, .inl (cy 0, 164, .inl v3.2)), (ztr, .inl (cy 0, 164, .inl tr)), (zdi, .inl (cy 0, 2296, .inl v2.2)), (zkp, .inl (cy 0, 328, .inl kp)), (zik, .inl (cy 1, 2, .inl ik))] _ (mX8_shootOn l g cy znw nw y1 hv3) gX8_shoot_X8_shootOn rfl rfl rfl (by decide +kernel) ⟨Nat.le_of_ble_eq_true rfl, Nat.le_of_ble_eq_true rfl⟩ [2] [0, 1, 3, 4, 5, 6] rfl rfl rfl rfl rfl rfl rfl rfl rfl (Nat.le_of_ble_eq_true rfl) rfl ⟨Nat.zero_le _, Nat.zero_le _⟩ dX8_shoot_49 rfl ?_
    obtain rfl := Option.some.inj h
    exact v_irw hC hr rfl rfl dX8_shoot_52
  · have h := ite_f c h
    refine v_iconst hC (v := (nI 0)) dX8_shoot_38 (by decide) rfl ?_
    obtain rfl := Option.some.inj h
    exact v_irw hC hr rfl rfl dX8_shoot_39
set_option maxHeartbeats 4000000 in
set_option maxRecDepth 100000 in
theorem mX8_shoot (l : Launch) (g : va_G) (cy : Nat → ClassId) (h0 ztx znw ztr zdi zkp zik : Nat) (rf : Int32) (sz : Int32) (ac : Int32) (sp : Int32) (ou : Int32) (tx : Nat → Int32) (nw : Nat → Int32) (tr : Nat → Int32) (di : Nat → Int32) (kp : Nat → Int32) (ik : Nat → Int32) (x1 : Int32) {res : Int32 × Int32 × Int32 × (Nat → Int32) × (Nat → Int32)} (h : pX8_shoot rf ac nw di x1 = some res) : Met l yX8_shoot wsX8_shoot rmX8_shoot (PW [.ref h0, .int x1] g cy [(h0, .inr (6, [.int rf, .ref ztx, .int sz, .ref znw, .ref ztr, .ref zdi, .int ac, .ref zkp, .ref zik, .int sp, .int ou])), (ztx, .inl (cy 0, 120, .inl tx)), (znw, .inl (cy 0, 164, .inl nw)), (ztr, .inl (cy 0, 164, .inl tr)), (zdi, .inl (cy 0, 2296, .inl di)), (zkp, .inl (cy 0, 328, .inl kp)), (zik, .inl (cy 1, 2, .inl ik))]) (QWi g (wA [(h0, .inr (6, [.int rf, .ref ztx, .int sz, .ref znw, .ref ztr, .ref zdi, .int ac, .ref zkp, .ref zik, .int sp, .int ou])), (ztx, .inl (cy 0, 120, .inl tx)), (znw, .inl (cy 0, 164, .inl nw)), (ztr, .inl (cy 0, 164, .inl tr)), (zdi, .inl (cy 0, 2296, .inl di)), (zkp, .inl (cy 0, 328, .inl kp)), (zik, .inl (cy 1, 2, .inl ik))]) res.1 [(h0, .inr (6, [.int res.2.1, .ref ztx, .int sz, .ref znw, .ref ztr, .ref zdi, .int res.2.2.1, .ref zkp, .ref zik, .int sp, .int ou])), (ztx, .inl (cy 0, 120, .inl tx)), (znw, .inl (cy 0, 164, .inl res.2.2.2.1)), (ztr, .inl (cy 0, 164, .inl tr)), (zdi, .inl (cy 0, 2296, .inl res.2.2.2.2)), (zkp, .inl (cy 0, 328, .inl kp)), (zik, .inl (cy 1, 2, .inl ik))]) 0 0 (wA [(h0, .inr (6, [.int rf, .ref ztx, .int sz, .ref znw, .ref ztr, .ref zdi, .int ac, .ref zkp, .ref zik, .int sp, .int ou])), (ztx, .inl (cy 0, 120, .inl tx)), (znw, .inl (cy 0, 164, .inl nw)), (ztr, .inl (cy 0, 164, .inl tr)), (zdi, .inl (cy 0, 2296, .inl di)), (zkp, .inl (cy 0, 328, .inl kp)), (zik, .inl (cy 1, 2, .inl ik))]) := by
  refine m_ofV (cc := cX8_shoot) (nL := 2) (ret := (some .int)) (B := (wA [(h0, .inr (6, [.int rf, .ref ztx, .int sz, .ref znw, .ref ztr, .ref zdi, .int ac, .ref zkp, .ref zik, .int sp, .int ou])), (ztx, .inl (cy 0, 120, .inl tx)), (znw, .inl (cy 0, 164, .inl nw)), (ztr, .inl (cy 0, 164, .inl tr)), (zdi, .inl (cy 0, 2296, .inl di)), (zkp, .inl (cy 0, 328, .inl kp)), (zik, .inl (cy 1, 2, .inl ik))])) RX8 rfl (by decide) rfl [(0, .ref h0), (1, .int x1)] rfl (Nat.le_of_ble_eq_true rfl) (wA.self) ?_
  intro p e s m args below meth c hC hr
  generalize (wA [(h0, .inr (6, [.int rf, .ref ztx, .int sz, .ref znw, .ref ztr, .ref zdi, .int ac, .ref zkp, .ref zik, .int sp, .int ou])), (ztx, .inl (cy 0, 120, .inl tx)), (znw, .inl (cy 0, 164, .inl nw)), (ztr, .inl (cy 0, 164, .inl tr)), (zdi, .inl (cy 0, 2296, .inl di)), (zkp, .inl (cy 0, 328, .inl kp)), (zik, .inl (cy 1, 2, .inl ik))]) = A
  unfold pX8_shoot at h
  refine v_aload_n hC dX8_shoot_0 rfl 0 rfl rfl ?_
  refine v_aload_n hC dX8_shoot_1 rfl 0 rfl rfl ?_
  refine v_get hC iX8_shoot_X8 0 rfl rfl 3 (by decide) kX8_shoot_13 rfl rfl dX8_shoot_2 rfl ?_
  refine v_iload_n hC dX8_shoot_5 rfl 1 rfl rfl ?_
  obtain ⟨v1, hv1, h⟩ := bind_g h
  refine v_callSri hC (n := 2) (st := [.ref h0]) (mX8_isScene l g cy znw nw x1 hv1) gX8_shoot_X8_isScene rfl rfl rfl (by decide +kernel) ⟨Nat.le_of_ble_eq_true rfl, Nat.le_of_ble_eq_true rfl⟩ [2] rfl rfl rfl rfl (Nat.le_of_ble_eq_true rfl) rfl ⟨Nat.zero_le _, Nat.zero_le _⟩ dX8_shoot_6 rfl ?_
  refine v_if_ne hC (tgt := 16) dX8_shoot_9 (by decide) rfl (fun c => ?_) (fun c => ?_)
  · have h := ite_f c h
    refine v_aload_n hC dX8_shoot_16 rfl 0 rfl rfl ?_
    refine v_get hC iX8_shoot_X8 0 rfl rfl 3 (by decide) kX8_shoot_13 rfl rfl dX8_shoot_17 rfl ?_
    refine v_iload_n hC dX8_shoot_20 rfl 1 rfl rfl ?_
    obtain ⟨v2, hv2, h⟩ := bind_g h
    refine v_callSri hC (n := 2) (st := [.ref h0]) (mX8_canShoot l g cy znw nw x1 hv2) gX8_shoot_X8_canShoot rfl rfl rfl (by decide +kernel) ⟨Nat.le_of_ble_eq_true rfl, Nat.le_of_ble_eq_true rfl⟩ [2] rfl rfl rfl rfl (Nat.le_of_ble_eq_true rfl) rfl ⟨Nat.zero_le _, Nat.zero_le _⟩ dX8_shoot_21 rfl ?_
    refine v_if_eq hC (tgt := 31) dX8_shoot_24 (by decide) rfl (fun c => ?_) (fun c => ?_)
    · have h := ite_t c h
      refine v_iconst hC (v := (nI 2)) dX8_shoot_31 (by decide) rfl ?_
      exact bX8_shoot_32 hC hr _ _ _ _ _ _ _ _ _ _ _ _ _ h
    · have h := ite_f c h
      refine v_iconst hC (v := (nI 0)) dX8_shoot_27 (by decide) rfl ?_
      refine v_goto hC (tgt := 32) dX8_shoot_28 (by decide) ?_
      exact bX8_shoot_32 hC hr _ _ _ _ _ _ _ _ _ _ _ _ _ h
  · have h := ite_t c h
    refine v_iconst hC (v := (nI 1)) dX8_shoot_12 (by decide) rfl ?_
    refine v_goto hC (tgt := 32) dX8_shoot_13 (by decide) ?_
    exact bX8_shoot_32 hC hr _ _ _ _ _ _ _ _ _ _ _ _ _ h
theorem kX8_replace_13 : Cond.fieldLink RX8 13 "CrowdFacesModel" "now" "[I" ∈ wsX8_replace := by decide +kernel
theorem iX8_replace_X8 : ∀ w ∈ wsX80, w ∈ wsX8_replace := by decide +kernel
def pX8_replace_56 (rf : Int32) (ac : Int32) (nw : Nat → Int32) (di : Nat → Int32) (y1 : Int32) (y2 : Int32) (y3 : Int32) (s0 : Int32) : Option (Int32 × Int32 × Int32 × (Nat → Int32) × (Nat → Int32)) := (pX8_refused rf s0).bind fun v1 => if v1.1 = 0 then (pX8_remember ac nw di).bind fun v2 => (pX8_replaceOn nw y1 y2 y3).bind fun v3 => some (v3.1, v1.2, v2.1, v3.2, v2.2) else some ((nI 0), v1.2, ac, nw, di)
def pX8_replace_34 (rf : Int32) (ac : Int32) (nw : Nat → Int32) (di : Nat → Int32) (y1 : Int32) (y2 : Int32) (y3 : Int32) : Option (Int32 × Int32 × Int32 × (Nat → Int32) × (Nat → Int32)) := pX8_replace_56 rf ac nw di y1 y2 y3 (nI 1)
def pX8_replace (rf : Int32) (ac : Int32) (nw : Nat → Int32) (di : Nat → Int32) (x1 : Int32) (x2 : Int32) (x3 : Int32) : Option (Int32 × Int32 × Int32 × (Nat → Int32) × (Nat → Int32)) := (pX8_isScene nw x1).bind fun v1 => if v1 = 0 then pX8_replace_34 rf ac nw di x1 x2 x3 else (pX8_isExtra nw x2).bind fun v2 => if v2 = 0 then pX8_replace_34 rf ac nw di x1 x2 x3 else (pX8_isExtra nw x3).bind fun v3 => if v3 = 0 then pX8_replace_34 rf ac nw di x1 x2 x3 else (pX8_canReplace nw x1 x2 x3).bind fun v4 => if v4 = 0 then pX8_replace_56 rf ac nw di x1 x2 x3 (nI 2) else pX8_replace_56 rf ac nw di x1 x2 x3 (nI 0)
abbrev rmX8_replace : Room := { frames := 4, cells := 0, slots := 0, locals := 95 }
set_option maxHeartbeats 4000000 in
set_option maxRecDepth 100000 in
theorem bX8_replace_56 {p : Program} {l : Launch} {e : Env} {s : State} {m : MethodId} {args : Array Value} {below : List Frame} {meth : Method} {c : Code} {g : va_G} {cy : Nat → ClassId} (hC : CX p s m args meth c g cy 4 cX8_replace wsX8_replace RX8) (hr : meth.sig.returnType = (some .int)) {h0 ztx znw ztr zdi zkp zik : Nat} {A : Nat → Prop} {res : Int32 × Int32 × Int32 × (Nat → Int32) × (Nat → Int32)} : ∀ (rf : Int32) (sz : Int32) (ac : Int32) (sp : Int32) (ou : Int32) (tx : Nat → Int32) (nw : Nat → Int32) (tr : Nat → Int32) (di : Nat → Int32) (kp : Nat → Int32) (ik : Nat → Int32) (y1 : Int32) (y2 : Int32) (y3 : Int32) (s0 : Int32)(h : pX8_replace_56 rf ac nw di y1 y2 y3 s0 = some res), V p l e (headSpec wsX8_replace rmX8_replace).room s m args below meth c g 4 0 0 (MQ below (QWi g A res.1 [(h0, .inr (6, [.int res.2.1, .ref ztx, .int sz, .ref znw, .ref ztr, .ref zdi, .int res.2.2.1, .ref zkp, .ref zik, .int sp, .int ou])), (ztx, .inl (cy 0, 120, .inl tx)), (znw, .inl (cy 0, 164, .inl res.2.2.2.1)), (ztr, .inl (cy 0, 164, .inl tr)), (zdi, .inl (cy 0, 2296, .inl res.2.2.2.2)), (zkp, .inl (cy 0, 328, .inl kp)), (zik, .inl (cy 1, 2, .inl ik))]) args s 0 0 A) A A [(h0, .inr (6, [.int rf, .ref ztx, .int sz, .ref znw, .ref ztr, .ref zdi, .int ac, .ref zkp, .ref zik, .int sp, .int ou])), (ztx, .inl (cy 0, 120, .inl tx)), (znw, .inl (cy 0, 164, .inl nw)), (ztr, .inl (cy 0, 164, .inl tr)), (zdi, .inl (cy 0, 2296, .inl di)), (zkp, .inl (cy 0, 328, .inl kp)), (zik, .inl (cy 1, 2, .inl ik))] 56 [(0, .ref h0), (1, .int y1), (2, .int y2), (3, .int y3)] [.int s0, .ref h0] := by
  intro rf sz ac sp ou tx nw tr di kp ik y1 y2 y3 s0 h
  unfold pX8_replace_56 at h
  obtain ⟨v1, hv1, h⟩ := bind_g h
  refine v_callVwi hC (n := 1) (st := []) [(h0, .inr (6, [.int v1.2, .ref ztx, .int sz, .ref znw, .ref ztr, .ref zdi, .int ac, .ref zkp, .ref zik, .int sp, .int ou])), (ztx, .inl (cy 0, 120, .inl tx)), (znw, .inl (cy 0, 164, .inl nw)), (ztr, .inl (cy 0, 164, .inl tr)), (zdi, .inl (cy 0, 2296, .inl di)), (zkp, .inl (cy 0, 328, .inl kp)), (zik, .inl (cy 1, 2, .inl ik))] _ (mX8_refused l g cy h0 ztx znw ztr zdi zkp zik rf sz ac sp ou tx nw tr di kp ik s0 hv1) gX8_replace_X8_refused rfl rfl rfl (by decide +kernel) ⟨Nat.le_of_ble_eq_true rfl, Nat.le_of_ble_eq_true rfl⟩ 0 rfl rfl [0, 1, 2, 3, 4, 5, 6] [] rfl rfl rfl rfl rfl rfl rfl rfl rfl (Nat.le_of_ble_eq_true rfl) rfl ⟨Nat.zero_le _, Nat.zero_le _⟩ dX8_replace_56 rfl ?_
  refine v_if_eq hC (tgt := 64) dX8_replace_59 (by decide) rfl (fun c => ?_) (fun c => ?_)
  · have h := ite_t c h
    refine v_aload_n hC dX8_replace_64 rfl 0 rfl rfl ?_
    obtain ⟨v2, hv2, h⟩ := bind_g h
    refine v_callVwv hC (n := 0) (st := []) [(h0, .inr (6, [.int v1.2, .ref ztx, .int sz, .ref znw, .ref ztr, .ref zdi, .int v2.1, .ref zkp, .ref zik, .int sp, .int ou])), (ztx, .inl (cy 0, 120, .inl tx)), (znw, .inl (cy 0, 164, .inl nw)), (ztr, .inl (cy 0, 164, .inl tr)), (zdi, .inl (cy 0, 2296, .inl v2.2)), (zkp, .inl (cy 0, 328, .inl kp)), (zik, .inl (cy 1, 2, .inl ik))] _ (mX8_remember l g cy h0 ztx znw ztr zdi zkp zik v1.2 sz ac sp ou tx nw tr di kp ik hv2) gX8_replace_X8_remember rfl rfl rfl (by decide +kernel) ⟨Nat.le_of_ble_eq_true rfl, Nat.le_of_ble_eq_true rfl⟩ 0 rfl rfl [0, 1, 2, 3, 4, 5, 6] [] rfl rfl rfl rfl rfl rfl rfl rfl rfl (Nat.le_of_ble_eq_true rfl) rfl ⟨Nat.zero_le _, Nat.zero_le _⟩ dX8_replace_65 rfl ?_
    refine v_aload_n hC dX8_replace_68 rfl 0 rfl rfl ?_
    refine v_get hC iX8_replace_X8 0 rfl rfl 3 (by decide) kX8_replace_13 rfl rfl dX8_replace_69 rfl ?_
    refine v_iload_n hC dX8_replace_72 rfl 1 rfl rfl ?_
    refine v_iload_n hC dX8_replace_73 rfl 2 rfl rfl ?_
    refine v_iload_n hC dX8_replace_74 rfl 3 rfl rfl ?_
    obtain ⟨v3, hv3, h⟩ := bind_g h
    refine v_callSwi hC (n := 4) (st := []) [(h0, .inr (6, [.int v1.2, .ref ztx, .int sz, .ref znw, .ref ztr, .ref zdi, .int v2.1, .ref zkp, .ref zik, .int sp, .int ou])), (ztx, .inl (cy 0, 120, .inl tx)), (znw, .inl (cy 0, 164, .inl v3.2)), (ztr, .inl (cy 0, 164, .inl tr)), (zdi, .inl (cy 0, 2296, .inl v2.2)), (zkp, .inl (cy 0, 328, .inl kp)), (zik, .inl (cy 1, 2, .inl ik))] _ (mX8_replaceOn l g cy znw nw y1 y2 y3 hv3) gX8_replace_X8_replaceOn rfl rfl rfl (by decide +kernel) ⟨Nat.le_of_ble_eq_true rfl, Nat.le_of_ble_eq_true rfl⟩ [2] [0, 1, 3, 4, 5, 6] rfl rfl rfl rfl rfl rfl rfl rfl rfl (Nat.le_of_ble_eq_true rfl) rfl ⟨Nat.zero_le _, Nat.zero_le _⟩ dX8_replace_75 rfl ?_
    obtain rfl := Option.some.inj h
    exact v_irw hC hr rfl rfl dX8_replace_78
  · have h := ite_f c h
    refine v_iconst hC (v := (nI 0)) dX8_replace_62 (by decide) rfl ?_
    obtain rfl := Option.some.inj h
    exact v_irw hC hr rfl rfl dX8_replace_63
set_option maxHeartbeats 4000000 in
set_option maxRecDepth 100000 in
theorem bX8_replace_34 {p : Program} {l : Launch} {e : Env} {s : State} {m : MethodId} {args : Array Value} {below : List Frame} {meth : Method} {c : Code} {g : va_G} {cy : Nat → ClassId} (hC : CX p s m args meth c g cy 4 cX8_replace wsX8_replace RX8) (hr : meth.sig.returnType = (some .int)) {h0 ztx znw ztr zdi zkp zik : Nat} {A : Nat → Prop} {res : Int32 × Int32 × Int32 × (Nat → Int32) × (Nat → Int32)} : ∀ (rf : Int32) (sz : Int32) (ac : Int32) (sp : Int32) (ou : Int32) (tx : Nat → Int32) (nw : Nat → Int32) (tr : Nat → Int32) (di : Nat → Int32) (kp : Nat → Int32) (ik : Nat → Int32) (y1 : Int32) (y2 : Int32) (y3 : Int32)(h : pX8_replace_34 rf ac nw di y1 y2 y3 = some res), V p l e (headSpec wsX8_replace rmX8_replace).room s m args below meth c g 4 0 0 (MQ below (QWi g A res.1 [(h0, .inr (6, [.int res.2.1, .ref ztx, .int sz, .ref znw, .ref ztr, .ref zdi, .int res.2.2.1, .ref zkp, .ref zik, .int sp, .int ou])), (ztx, .inl (cy 0, 120, .inl tx)), (znw, .inl (cy 0, 164, .inl res.2.2.2.1)), (ztr, .inl (cy 0, 164, .inl tr)), (zdi, .inl (cy 0, 2296, .inl res.2.2.2.2)), (zkp, .inl (cy 0, 328, .inl kp)), (zik, .inl (cy 1, 2, .inl ik))]) args s 0 0 A) A A [(h0, .inr (6, [.int rf, .ref ztx, .int sz, .ref znw, .ref ztr, .ref zdi, .int ac, .ref zkp, .ref zik, .int sp, .int ou])), (ztx, .inl (cy 0, 120, .inl tx)), (znw, .inl (cy 0, 164, .inl nw)), (ztr, .inl (cy 0, 164, .inl tr)), (zdi, .inl (cy 0, 2296, .inl di)), (zkp, .inl (cy 0, 328, .inl kp)), (zik, .inl (cy 1, 2, .inl ik))] 34 [(0, .ref h0), (1, .int y1), (2, .int y2), (3, .int y3)] [.ref h0] := by
  intro rf sz ac sp ou tx nw tr di kp ik y1 y2 y3 h
  unfold pX8_replace_34 at h
  refine v_iconst hC (v := (nI 1)) dX8_replace_34 (by decide) rfl ?_
  refine v_goto hC (tgt := 56) dX8_replace_35 (by decide) ?_
  exact bX8_replace_56 hC hr _ _ _ _ _ _ _ _ _ _ _ _ _ _ _ h
set_option maxHeartbeats 4000000 in
set_option maxRecDepth 100000 in
theorem mX8_replace (l : Launch) (g : va_G) (cy : Nat → ClassId) (h0 ztx znw ztr zdi zkp zik : Nat) (rf : Int32) (sz : Int32) (ac : Int32) (sp : Int32) (ou : Int32) (tx : Nat → Int32) (nw : Nat → Int32) (tr : Nat → Int32) (di : Nat → Int32) (kp : Nat → Int32) (ik : Nat → Int32) (x1 : Int32) (x2 : Int32) (x3 : Int32) {res : Int32 × Int32 × Int32 × (Nat → Int32) × (Nat → Int32)} (h : pX8_replace rf ac nw di x1 x2 x3 = some res) : Met l yX8_replace wsX8_replace rmX8_replace (PW [.ref h0, .int x1, .int x2, .int x3] g cy [(h0, .inr (6, [.int rf, .ref ztx, .int sz, .ref znw, .ref ztr, .ref zdi, .int ac, .ref zkp, .ref zik, .int sp, .int ou])), (ztx, .inl (cy 0, 120, .inl tx)), (znw, .inl (cy 0, 164, .inl nw)), (ztr, .inl (cy 0, 164, .inl tr)), (zdi, .inl (cy 0, 2296, .inl di)), (zkp, .inl (cy 0, 328, .inl kp)), (zik, .inl (cy 1, 2, .inl ik))]) (QWi g (wA [(h0, .inr (6, [.int rf, .ref ztx, .int sz, .ref znw, .ref ztr, .ref zdi, .int ac, .ref zkp, .ref zik, .int sp, .int ou])), (ztx, .inl (cy 0, 120, .inl tx)), (znw, .inl (cy 0, 164, .inl nw)), (ztr, .inl (cy 0, 164, .inl tr)), (zdi, .inl (cy 0, 2296, .inl di)), (zkp, .inl (cy 0, 328, .inl kp)), (zik, .inl (cy 1, 2, .inl ik))]) res.1 [(h0, .inr (6, [.int res.2.1, .ref ztx, .int sz, .ref znw, .ref ztr, .ref zdi, .int res.2.2.1, .ref zkp, .ref zik, .int sp, .int ou])), (ztx, .inl (cy 0, 120, .inl tx)), (znw, .inl (cy 0, 164, .inl res.2.2.2.1)), (ztr, .inl (cy 0, 164, .inl tr)), (zdi, .inl (cy 0, 2296, .inl res.2.2.2.2)), (zkp, .inl (cy 0, 328, .inl kp)), (zik, .inl (cy 1, 2, .inl ik))]) 0 0 (wA [(h0, .inr (6, [.int rf, .ref ztx, .int sz, .ref znw, .ref ztr, .ref zdi, .int ac, .ref zkp, .ref zik, .int sp, .int ou])), (ztx, .inl (cy 0, 120, .inl tx)), (znw, .inl (cy 0, 164, .inl nw)), (ztr, .inl (cy 0, 164, .inl tr)), (zdi, .inl (cy 0, 2296, .inl di)), (zkp, .inl (cy 0, 328, .inl kp)), (zik, .inl (cy 1, 2, .inl ik))]) := by
  refine m_ofV (cc := cX8_replace) (nL := 4) (ret := (some .int)) (B := (wA [(h0, .inr (6, [.int rf, .ref ztx, .int sz, .ref znw, .ref ztr, .ref zdi, .int ac, .ref zkp, .ref zik, .int sp, .int ou])), (ztx, .inl (cy 0, 120, .inl tx)), (znw, .inl (cy 0, 164, .inl nw)), (ztr, .inl (cy 0, 164, .inl tr)), (zdi, .inl (cy 0, 2296, .inl di)), (zkp, .inl (cy 0, 328, .inl kp)), (zik, .inl (cy 1, 2, .inl ik))])) RX8 rfl (by decide) rfl [(0, .ref h0), (1, .int x1), (2, .int x2), (3, .int x3)] rfl (Nat.le_of_ble_eq_true rfl) (wA.self) ?_
  intro p e s m args below meth c hC hr
  generalize (wA [(h0, .inr (6, [.int rf, .ref ztx, .int sz, .ref znw, .ref ztr, .ref zdi, .int ac, .ref zkp, .ref zik, .int sp, .int ou])), (ztx, .inl (cy 0, 120, .inl tx)), (znw, .inl (cy 0, 164, .inl nw)), (ztr, .inl (cy 0, 164, .inl tr)), (zdi, .inl (cy 0, 2296, .inl di)), (zkp, .inl (cy 0, 328, .inl kp)), (zik, .inl (cy 1, 2, .inl ik))]) = A
  unfold pX8_replace at h
  refine v_aload_n hC dX8_replace_0 rfl 0 rfl rfl ?_
  refine v_aload_n hC dX8_replace_1 rfl 0 rfl rfl ?_
  refine v_get hC iX8_replace_X8 0 rfl rfl 3 (by decide) kX8_replace_13 rfl rfl dX8_replace_2 rfl ?_
  refine v_iload_n hC dX8_replace_5 rfl 1 rfl rfl ?_
  obtain ⟨v1, hv1, h⟩ := bind_g h
  refine v_callSri hC (n := 2) (st := [.ref h0]) (mX8_isScene l g cy znw nw x1 hv1) gX8_replace_X8_isScene rfl rfl rfl (by decide +kernel) ⟨Nat.le_of_ble_eq_true rfl, Nat.le_of_ble_eq_true rfl⟩ [2] rfl rfl rfl rfl (Nat.le_of_ble_eq_true rfl) rfl ⟨Nat.zero_le _, Nat.zero_le _⟩ dX8_replace_6 rfl ?_
  refine v_if_eq hC (tgt := 34) dX8_replace_9 (by decide) rfl (fun c => ?_) (fun c => ?_)
  · have h := ite_t c h
    exact bX8_replace_34 hC hr _ _ _ _ _ _ _ _ _ _ _ _ _ _ h
  · have h := ite_f c h
    refine v_aload_n hC dX8_replace_12 rfl 0 rfl rfl ?_
    refine v_get hC iX8_replace_X8 0 rfl rfl 3 (by decide) kX8_replace_13 rfl rfl dX8_replace_13 rfl ?_
    refine v_iload_n hC dX8_replace_16 rfl 2 rfl rfl ?_
    obtain ⟨v2, hv2, h⟩ := bind_g h
    refine v_callSri hC (n := 2) (st := [.ref h0]) (mX8_isExtra l g cy znw nw x2 hv2) gX8_replace_X8_isExtra rfl rfl rfl (by decide +kernel) ⟨Nat.le_of_ble_eq_true rfl, Nat.le_of_ble_eq_true rfl⟩ [2] rfl rfl rfl rfl (Nat.le_of_ble_eq_true rfl) rfl ⟨Nat.zero_le _, Nat.zero_le _⟩ dX8_replace_17 rfl ?_
    refine v_if_eq hC (tgt := 34) dX8_replace_20 (by decide) rfl (fun c => ?_) (fun c => ?_)
    · have h := ite_t c h
      exact bX8_replace_34 hC hr _ _ _ _ _ _ _ _ _ _ _ _ _ _ h
    · have h := ite_f c h
      refine v_aload_n hC dX8_replace_23 rfl 0 rfl rfl ?_
      refine v_get hC iX8_replace_X8 0 rfl rfl 3 (by decide) kX8_replace_13 rfl rfl dX8_replace_24 rfl ?_
      refine v_iload_n hC dX8_replace_27 rfl 3 rfl rfl ?_
      obtain ⟨v3, hv3, h⟩ := bind_g h
      refine v_callSri hC (n := 2) (st := [.ref h0]) (mX8_isExtra l g cy znw nw x3 hv3) gX8_replace_X8_isExtra rfl rfl rfl (by decide +kernel) ⟨Nat.le_of_ble_eq_true rfl, Nat.le_of_ble_eq_true rfl⟩ [2] rfl rfl rfl rfl (Nat.le_of_ble_eq_true rfl) rfl ⟨Nat.zero_le _, Nat.zero_le _⟩ dX8_replace_28 rfl ?_
      refine v_if_ne hC (tgt := 38) dX8_replace_31 (by decide) rfl (fun c => ?_) (fun c => ?_)
      · have h := ite_f c h
        refine v_aload_n hC dX8_replace_38 rfl 0 rfl rfl ?_
        refine v_get hC iX8_replace_X8 0 rfl rfl 3 (by decide) kX8_replace_13 rfl rfl dX8_replace_39 rfl ?_
        refine v_iload_n hC dX8_replace_42 rfl 1 rfl rfl ?_
        refine v_iload_n hC dX8_replace_43 rfl 2 rfl rfl ?_
        refine v_iload_n hC dX8_replace_44 rfl 3 rfl rfl ?_
        obtain ⟨v4, hv4, h⟩ := bind_g h
        refine v_callSri hC (n := 4) (st := [.ref h0]) (mX8_canReplace l g cy znw nw x1 x2 x3 hv4) gX8_replace_X8_canReplace rfl rfl rfl (by decide +kernel) ⟨Nat.le_of_ble_eq_true rfl, Nat.le_of_ble_eq_true rfl⟩ [2] rfl rfl rfl rfl (Nat.le_of_ble_eq_true rfl) rfl ⟨Nat.zero_le _, Nat.zero_le _⟩ dX8_replace_45 rfl ?_
        refine v_if_eq hC (tgt := 55) dX8_replace_48 (by decide) rfl (fun c => ?_) (fun c => ?_)
        · have h := ite_t c h
          refine v_iconst hC (v := (nI 2)) dX8_replace_55 (by decide) rfl ?_
          exact bX8_replace_56 hC hr _ _ _ _ _ _ _ _ _ _ _ _ _ _ _ h
        · have h := ite_f c h
          refine v_iconst hC (v := (nI 0)) dX8_replace_51 (by decide) rfl ?_
          refine v_goto hC (tgt := 56) dX8_replace_52 (by decide) ?_
          exact bX8_replace_56 hC hr _ _ _ _ _ _ _ _ _ _ _ _ _ _ _ h
      · have h := ite_t c h
        exact bX8_replace_34 hC hr _ _ _ _ _ _ _ _ _ _ _ _ _ _ h
theorem kX8_meal_13 : Cond.fieldLink RX8 13 "CrowdFacesModel" "now" "[I" ∈ wsX8_meal := by decide +kernel
theorem kX8_meal_33 : Cond.fieldLink RX8 33 "CrowdFacesModel" "refusal" "I" ∈ wsX8_meal := by decide +kernel
theorem iX8_meal_X8 : ∀ w ∈ wsX80, w ∈ wsX8_meal := by decide +kernel
def pX8_meal (rf : Int32) (ac : Int32) (nw : Nat → Int32) (di : Nat → Int32) : Option (Int32 × Int32 × Int32 × (Nat → Int32) × (Nat → Int32)) := (pX8_remember ac nw di).bind fun v1 => (pX8_mealOn nw).bind fun v2 => some (v2.1, (nI 0), v1.1, v2.2, v1.2)
abbrev rmX8_meal : Room := { frames := 2, cells := 0, slots := 0, locals := 45 }
set_option maxHeartbeats 4000000 in
set_option maxRecDepth 100000 in
theorem mX8_meal (l : Launch) (g : va_G) (cy : Nat → ClassId) (h0 ztx znw ztr zdi zkp zik : Nat) (rf : Int32) (sz : Int32) (ac : Int32) (sp : Int32) (ou : Int32) (tx : Nat → Int32) (nw : Nat → Int32) (tr : Nat → Int32) (di : Nat → Int32) (kp : Nat → Int32) (ik : Nat → Int32)  {res : Int32 × Int32 × Int32 × (Nat → Int32) × (Nat → Int32)} (h : pX8_meal rf ac nw di = some res) : Met l yX8_meal wsX8_meal rmX8_meal (PW [.ref h0] g cy [(h0, .inr (6, [.int rf, .ref ztx, .int sz, .ref znw, .ref ztr, .ref zdi, .int ac, .ref zkp, .ref zik, .int sp, .int ou])), (ztx, .inl (cy 0, 120, .inl tx)), (znw, .inl (cy 0, 164, .inl nw)), (ztr, .inl (cy 0, 164, .inl tr)), (zdi, .inl (cy 0, 2296, .inl di)), (zkp, .inl (cy 0, 328, .inl kp)), (zik, .inl (cy 1, 2, .inl ik))]) (QWi g (wA [(h0, .inr (6, [.int rf, .ref ztx, .int sz, .ref znw, .ref ztr, .ref zdi, .int ac, .ref zkp, .ref zik, .int sp, .int ou])), (ztx, .inl (cy 0, 120, .inl tx)), (znw, .inl (cy 0, 164, .inl nw)), (ztr, .inl (cy 0, 164, .inl tr)), (zdi, .inl (cy 0, 2296, .inl di)), (zkp, .inl (cy 0, 328, .inl kp)), (zik, .inl (cy 1, 2, .inl ik))]) res.1 [(h0, .inr (6, [.int res.2.1, .ref ztx, .int sz, .ref znw, .ref ztr, .ref zdi, .int res.2.2.1, .ref zkp, .ref zik, .int sp, .int ou])), (ztx, .inl (cy 0, 120, .inl tx)), (znw, .inl (cy 0, 164, .inl res.2.2.2.1)), (ztr, .inl (cy 0, 164, .inl tr)), (zdi, .inl (cy 0, 2296, .inl res.2.2.2.2)), (zkp, .inl (cy 0, 328, .inl kp)), (zik, .inl (cy 1, 2, .inl ik))]) 0 0 (wA [(h0, .inr (6, [.int rf, .ref ztx, .int sz, .ref znw, .ref ztr, .ref zdi, .int ac, .ref zkp, .ref zik, .int sp, .int ou])), (ztx, .inl (cy 0, 120, .inl tx)), (znw, .inl (cy 0, 164, .inl nw)), (ztr, .inl (cy 0, 164, .inl tr)), (zdi, .inl (cy 0, 2296, .inl di)), (zkp, .inl (cy 0, 328, .inl kp)), (zik, .inl (cy 1, 2, .inl ik))]) := by
  refine m_ofV (cc := cX8_meal) (nL := 1) (ret := (some .int)) (B := (wA [(h0, .inr (6, [.int rf, .ref ztx, .int sz, .ref znw, .ref ztr, .ref zdi, .int ac, .ref zkp, .ref zik, .int sp, .int ou])), (ztx, .inl (cy 0, 120, .inl tx)), (znw, .inl (cy 0, 164, .inl nw)), (ztr, .inl (cy 0, 164, .inl tr)), (zdi, .inl (cy 0, 2296, .inl di)), (zkp, .inl (cy 0, 328, .inl kp)), (zik, .inl (cy 1, 2, .inl ik))])) RX8 rfl (by decide) rfl [(0, .ref h0)] rfl (Nat.le_of_ble_eq_true rfl) (wA.self) ?_
  intro p e s m args below meth c hC hr
  generalize (wA [(h0, .inr (6, [.int rf, .ref ztx, .int sz, .ref znw, .ref ztr, .ref zdi, .int ac, .ref zkp, .ref zik, .int sp, .int ou])), (ztx, .inl (cy 0, 120, .inl tx)), (znw, .inl (cy 0, 164, .inl nw)), (ztr, .inl (cy 0, 164, .inl tr)), (zdi, .inl (cy 0, 2296, .inl di)), (zkp, .inl (cy 0, 328, .inl kp)), (zik, .inl (cy 1, 2, .inl ik))]) = A
  unfold pX8_meal at h
  refine v_aload_n hC dX8_meal_0 rfl 0 rfl rfl ?_
  refine v_iconst hC (v := (nI 0)) dX8_meal_1 (by decide) rfl ?_
  refine v_put hC iX8_meal_X8 tyX8 tyX8_ok nmX8 0 rfl rfl 0 (by decide) kX8_meal_33 rfl rfl (ty := .int) (by decide +kernel) rfl rfl (Nat.le_of_ble_eq_true rfl) dX8_meal_2 [(h0, .inr (6, [.int (nI 0), .ref ztx, .int sz, .ref znw, .ref ztr, .ref zdi, .int ac, .ref zkp, .ref zik, .int sp, .int ou])), (ztx, .inl (cy 0, 120, .inl tx)), (znw, .inl (cy 0, 164, .inl nw)), (ztr, .inl (cy 0, 164, .inl tr)), (zdi, .inl (cy 0, 2296, .inl di)), (zkp, .inl (cy 0, 328, .inl kp)), (zik, .inl (cy 1, 2, .inl ik))] rfl rfl ?_
  refine v_aload_n hC dX8_meal_5 rfl 0 rfl rfl ?_
  obtain ⟨v1, hv1, h⟩ := bind_g h
  refine v_callVwv hC (n := 0) (st := []) [(h0, .inr (6, [.int (nI 0), .ref ztx, .int sz, .ref znw, .ref ztr, .ref zdi, .int v1.1, .ref zkp, .ref zik, .int sp, .int ou])), (ztx, .inl (cy 0, 120, .inl tx)), (znw, .inl (cy 0, 164, .inl nw)), (ztr, .inl (cy 0, 164, .inl tr)), (zdi, .inl (cy 0, 2296, .inl v1.2)), (zkp, .inl (cy 0, 328, .inl kp)), (zik, .inl (cy 1, 2, .inl ik))] _ (mX8_remember l g cy h0 ztx znw ztr zdi zkp zik (nI 0) sz ac sp ou tx nw tr di kp ik hv1) gX8_meal_X8_remember rfl rfl rfl (by decide +kernel) ⟨Nat.le_of_ble_eq_true rfl, Nat.le_of_ble_eq_true rfl⟩ 0 rfl rfl [0, 1, 2, 3, 4, 5, 6] [] rfl rfl rfl rfl rfl rfl rfl rfl rfl (Nat.le_of_ble_eq_true rfl) rfl ⟨Nat.zero_le _, Nat.zero_le _⟩ dX8_meal_6 rfl ?_
  refine v_aload_n hC dX8_meal_9 rfl 0 rfl rfl ?_
  refine v_get hC iX8_meal_X8 0 rfl rfl 3 (by decide) kX8_meal_13 rfl rfl dX8_meal_10 rfl ?_
  obtain ⟨v2, hv2, h⟩ := bind_g h
  refine v_callSwi hC (n := 1) (st := []) [(h0, .inr (6, [.int (nI 0), .ref ztx, .int sz, .ref znw, .ref ztr, .ref zdi, .int v1.1, .ref zkp, .ref zik, .int sp, .int ou])), (ztx, .inl (cy 0, 120, .inl tx)), (znw, .inl (cy 0, 164, .inl v2.2)), (ztr, .inl (cy 0, 164, .inl tr)), (zdi, .inl (cy 0, 2296, .inl v1.2)), (zkp, .inl (cy 0, 328, .inl kp)), (zik, .inl (cy 1, 2, .inl ik))] _ (mX8_mealOn l g cy znw nw hv2) gX8_meal_X8_mealOn rfl rfl rfl (by decide +kernel) ⟨Nat.le_of_ble_eq_true rfl, Nat.le_of_ble_eq_true rfl⟩ [2] [0, 1, 3, 4, 5, 6] rfl rfl rfl rfl rfl rfl rfl rfl rfl (Nat.le_of_ble_eq_true rfl) rfl ⟨Nat.zero_le _, Nat.zero_le _⟩ dX8_meal_13 rfl ?_
  obtain rfl := Option.some.inj h
  exact v_irw hC hr rfl rfl dX8_meal_16
theorem kX8_nextDay_13 : Cond.fieldLink RX8 13 "CrowdFacesModel" "now" "[I" ∈ wsX8_nextDay := by decide +kernel
theorem kX8_nextDay_33 : Cond.fieldLink RX8 33 "CrowdFacesModel" "refusal" "I" ∈ wsX8_nextDay := by decide +kernel
theorem iX8_nextDay_X8 : ∀ w ∈ wsX80, w ∈ wsX8_nextDay := by decide +kernel
def pX8_nextDay (rf : Int32) (ac : Int32) (nw : Nat → Int32) (di : Nat → Int32) : Option (Int32 × Int32 × Int32 × (Nat → Int32) × (Nat → Int32)) := (pX8_remember ac nw di).bind fun v1 => (pX8_nextOn nw).bind fun v2 => some (v2.1, (nI 0), v1.1, v2.2, v1.2)
abbrev rmX8_nextDay : Room := { frames := 3, cells := 0, slots := 0, locals := 66 }
set_option maxHeartbeats 4000000 in
set_option maxRecDepth 100000 in
theorem mX8_nextDay (l : Launch) (g : va_G) (cy : Nat → ClassId) (h0 ztx znw ztr zdi zkp zik : Nat) (rf : Int32) (sz : Int32) (ac : Int32) (sp : Int32) (ou : Int32) (tx : Nat → Int32) (nw : Nat → Int32) (tr : Nat → Int32) (di : Nat → Int32) (kp : Nat → Int32) (ik : Nat → Int32)  {res : Int32 × Int32 × Int32 × (Nat → Int32) × (Nat → Int32)} (h : pX8_nextDay rf ac nw di = some res) : Met l yX8_nextDay wsX8_nextDay rmX8_nextDay (PW [.ref h0] g cy [(h0, .inr (6, [.int rf, .ref ztx, .int sz, .ref znw, .ref ztr, .ref zdi, .int ac, .ref zkp, .ref zik, .int sp, .int ou])), (ztx, .inl (cy 0, 120, .inl tx)), (znw, .inl (cy 0, 164, .inl nw)), (ztr, .inl (cy 0, 164, .inl tr)), (zdi, .inl (cy 0, 2296, .inl di)), (zkp, .inl (cy 0, 328, .inl kp)), (zik, .inl (cy 1, 2, .inl ik))]) (QWi g (wA [(h0, .inr (6, [.int rf, .ref ztx, .int sz, .ref znw, .ref ztr, .ref zdi, .int ac, .ref zkp, .ref zik, .int sp, .int ou])), (ztx, .inl (cy 0, 120, .inl tx)), (znw, .inl (cy 0, 164, .inl nw)), (ztr, .inl (cy 0, 164, .inl tr)), (zdi, .inl (cy 0, 2296, .inl di)), (zkp, .inl (cy 0, 328, .inl kp)), (zik, .inl (cy 1, 2, .inl ik))]) res.1 [(h0, .inr (6, [.int res.2.1, .ref ztx, .int sz, .ref znw, .ref ztr, .ref zdi, .int res.2.2.1, .ref zkp, .ref zik, .int sp, .int ou])), (ztx, .inl (cy 0, 120, .inl tx)), (znw, .inl (cy 0, 164, .inl res.2.2.2.1)), (ztr, .inl (cy 0, 164, .inl tr)), (zdi, .inl (cy 0, 2296, .inl res.2.2.2.2)), (zkp, .inl (cy 0, 328, .inl kp)), (zik, .inl (cy 1, 2, .inl ik))]) 0 0 (wA [(h0, .inr (6, [.int rf, .ref ztx, .int sz, .ref znw, .ref ztr, .ref zdi, .int ac, .ref zkp, .ref zik, .int sp, .int ou])), (ztx, .inl (cy 0, 120, .inl tx)), (znw, .inl (cy 0, 164, .inl nw)), (ztr, .inl (cy 0, 164, .inl tr)), (zdi, .inl (cy 0, 2296, .inl di)), (zkp, .inl (cy 0, 328, .inl kp)), (zik, .inl (cy 1, 2, .inl ik))]) := by
  refine m_ofV (cc := cX8_nextDay) (nL := 1) (ret := (some .int)) (B := (wA [(h0, .inr (6, [.int rf, .ref ztx, .int sz, .ref znw, .ref ztr, .ref zdi, .int ac, .ref zkp, .ref zik, .int sp, .int ou])), (ztx, .inl (cy 0, 120, .inl tx)), (znw, .inl (cy 0, 164, .inl nw)), (ztr, .inl (cy 0, 164, .inl tr)), (zdi, .inl (cy 0, 2296, .inl di)), (zkp, .inl (cy 0, 328, .inl kp)), (zik, .inl (cy 1, 2, .inl ik))])) RX8 rfl (by decide) rfl [(0, .ref h0)] rfl (Nat.le_of_ble_eq_true rfl) (wA.self) ?_
  intro p e s m args below meth c hC hr
  generalize (wA [(h0, .inr (6, [.int rf, .ref ztx, .int sz, .ref znw, .ref ztr, .ref zdi, .int ac, .ref zkp, .ref zik, .int sp, .int ou])), (ztx, .inl (cy 0, 120, .inl tx)), (znw, .inl (cy 0, 164, .inl nw)), (ztr, .inl (cy 0, 164, .inl tr)), (zdi, .inl (cy 0, 2296, .inl di)), (zkp, .inl (cy 0, 328, .inl kp)), (zik, .inl (cy 1, 2, .inl ik))]) = A
  unfold pX8_nextDay at h
  refine v_aload_n hC dX8_nextDay_0 rfl 0 rfl rfl ?_
  refine v_iconst hC (v := (nI 0)) dX8_nextDay_1 (by decide) rfl ?_
  refine v_put hC iX8_nextDay_X8 tyX8 tyX8_ok nmX8 0 rfl rfl 0 (by decide) kX8_nextDay_33 rfl rfl (ty := .int) (by decide +kernel) rfl rfl (Nat.le_of_ble_eq_true rfl) dX8_nextDay_2 [(h0, .inr (6, [.int (nI 0), .ref ztx, .int sz, .ref znw, .ref ztr, .ref zdi, .int ac, .ref zkp, .ref zik, .int sp, .int ou])), (ztx, .inl (cy 0, 120, .inl tx)), (znw, .inl (cy 0, 164, .inl nw)), (ztr, .inl (cy 0, 164, .inl tr)), (zdi, .inl (cy 0, 2296, .inl di)), (zkp, .inl (cy 0, 328, .inl kp)), (zik, .inl (cy 1, 2, .inl ik))] rfl rfl ?_
  refine v_aload_n hC dX8_nextDay_5 rfl 0 rfl rfl ?_
  obtain ⟨v1, hv1, h⟩ := bind_g h
  refine v_callVwv hC (n := 0) (st := []) [(h0, .inr (6, [.int (nI 0), .ref ztx, .int sz, .ref znw, .ref ztr, .ref zdi, .int v1.1, .ref zkp, .ref zik, .int sp, .int ou])), (ztx, .inl (cy 0, 120, .inl tx)), (znw, .inl (cy 0, 164, .inl nw)), (ztr, .inl (cy 0, 164, .inl tr)), (zdi, .inl (cy 0, 2296, .inl v1.2)), (zkp, .inl (cy 0, 328, .inl kp)), (zik, .inl (cy 1, 2, .inl ik))] _ (mX8_remember l g cy h0 ztx znw ztr zdi zkp zik (nI 0) sz ac sp ou tx nw tr di kp ik hv1) gX8_nextDay_X8_remember rfl rfl rfl (by decide +kernel) ⟨Nat.le_of_ble_eq_true rfl, Nat.le_of_ble_eq_true rfl⟩ 0 rfl rfl [0, 1, 2, 3, 4, 5, 6] [] rfl rfl rfl rfl rfl rfl rfl rfl rfl (Nat.le_of_ble_eq_true rfl) rfl ⟨Nat.zero_le _, Nat.zero_le _⟩ dX8_nextDay_6 rfl ?_
  refine v_aload_n hC dX8_nextDay_9 rfl 0 rfl rfl ?_
  refine v_get hC iX8_nextDay_X8 0 rfl rfl 3 (by decide) kX8_nextDay_13 rfl rfl dX8_nextDay_10 rfl ?_
  obtain ⟨v2, hv2, h⟩ := bind_g h
  refine v_callSwi hC (n := 1) (st := []) [(h0, .inr (6, [.int (nI 0), .ref ztx, .int sz, .ref znw, .ref ztr, .ref zdi, .int v1.1, .ref zkp, .ref zik, .int sp, .int ou])), (ztx, .inl (cy 0, 120, .inl tx)), (znw, .inl (cy 0, 164, .inl v2.2)), (ztr, .inl (cy 0, 164, .inl tr)), (zdi, .inl (cy 0, 2296, .inl v1.2)), (zkp, .inl (cy 0, 328, .inl kp)), (zik, .inl (cy 1, 2, .inl ik))] _ (mX8_nextOn l g cy znw nw hv2) gX8_nextDay_X8_nextOn rfl rfl rfl (by decide +kernel) ⟨Nat.le_of_ble_eq_true rfl, Nat.le_of_ble_eq_true rfl⟩ [2] [0, 1, 3, 4, 5, 6] rfl rfl rfl rfl rfl rfl rfl rfl rfl (Nat.le_of_ble_eq_true rfl) rfl ⟨Nat.zero_le _, Nat.zero_le _⟩ dX8_nextDay_13 rfl ?_
  obtain rfl := Option.some.inj h
  exact v_irw hC hr rfl rfl dX8_nextDay_16
theorem kX8_set_13 : Cond.fieldLink RX8 13 "CrowdFacesModel" "now" "[I" ∈ wsX8_set := by decide +kernel
theorem iX8_set_X8 : ∀ w ∈ wsX80, w ∈ wsX8_set := by decide +kernel
def pX8_set_14 (rf : Int32) (ac : Int32) (nw : Nat → Int32) (di : Nat → Int32) (y1 : Int32) (y2 : Int32) (s0 : Int32) : Option (Int32 × Int32 × Int32 × (Nat → Int32) × (Nat → Int32)) := (pX8_refused rf s0).bind fun v1 => if v1.1 = 0 then (pX8_remember ac nw di).bind fun v2 => if nb ((nI 7) + y1) 164 = true then if nb ((nI 7) + y1) 164 = true then some ((nw ((nI 7) + y1).toNatClampNeg), v1.2, v2.1, (upd nw ((nI 7) + y1).toNatClampNeg y2), v2.2) else none else none else some ((nI 0), v1.2, ac, nw, di)
def pX8_set (rf : Int32) (ac : Int32) (nw : Nat → Int32) (di : Nat → Int32) (x1 : Int32) (x2 : Int32) : Option (Int32 × Int32 × Int32 × (Nat → Int32) × (Nat → Int32)) := (pX8_isSetting x1 x2).bind fun v1 => if v1 = 0 then pX8_set_14 rf ac nw di x1 x2 (nI 1) else pX8_set_14 rf ac nw di x1 x2 (nI 0)
abbrev rmX8_set : Room := { frames := 2, cells := 0, slots := 0, locals := 46 }
set_option maxHeartbeats 4000000 in
set_option maxRecDepth 100000 in
theorem bX8_set_14 {p : Program} {l : Launch} {e : Env} {s : State} {m : MethodId} {args : Array Value} {below : List Frame} {meth : Method} {c : Code} {g : va_G} {cy : Nat → ClassId} (hC : CX p s m args meth c g cy 4 cX8_set wsX8_set RX8) (hr : meth.sig.returnType = (some .int)) {h0 ztx znw ztr zdi zkp zik : Nat} {A : Nat → Prop} {res : Int32 × Int32 × Int32 × (Nat → Int32) × (Nat → Int32)} : ∀ (rf : Int32) (sz : Int32) (ac : Int32) (sp : Int32) (ou : Int32) (tx : Nat → Int32) (nw : Nat → Int32) (tr : Nat → Int32) (di : Nat → Int32) (kp : Nat → Int32) (ik : Nat → Int32) (y1 : Int32) (y2 : Int32) (s0 : Int32)(h : pX8_set_14 rf ac nw di y1 y2 s0 = some res), V p l e (headSpec wsX8_set rmX8_set).room s m args below meth c g 4 0 0 (MQ below (QWi g A res.1 [(h0, .inr (6, [.int res.2.1, .ref ztx, .int sz, .ref znw, .ref ztr, .ref zdi, .int res.2.2.1, .ref zkp, .ref zik, .int sp, .int ou])), (ztx, .inl (cy 0, 120, .inl tx)), (znw, .inl (cy 0, 164, .inl res.2.2.2.1)), (ztr, .inl (cy 0, 164, .inl tr)), (zdi, .inl (cy 0, 2296, .inl res.2.2.2.2)), (zkp, .inl (cy 0, 328, .inl kp)), (zik, .inl (cy 1, 2, .inl ik))]) args s 0 0 A) A A [(h0, .inr (6, [.int rf, .ref ztx, .int sz, .ref znw, .ref ztr, .ref zdi, .int ac, .ref zkp, .ref zik, .int sp, .int ou])), (ztx, .inl (cy 0, 120, .inl tx)), (znw, .inl (cy 0, 164, .inl nw)), (ztr, .inl (cy 0, 164, .inl tr)), (zdi, .inl (cy 0, 2296, .inl di)), (zkp, .inl (cy 0, 328, .inl kp)), (zik, .inl (cy 1, 2, .inl ik))] 14 [(0, .ref h0), (1, .int y1), (2, .int y2)] [.int s0, .ref h0] := by
  intro rf sz ac sp ou tx nw tr di kp ik y1 y2 s0 h
  unfold pX8_set_14 at h
  obtain ⟨v1, hv1, h⟩ := bind_g h
  refine v_callVwi hC (n := 1) (st := []) [(h0, .inr (6, [.int v1.2, .ref ztx, .int sz, .ref znw, .ref ztr, .ref zdi, .int ac, .ref zkp, .ref zik, .int sp, .int ou])), (ztx, .inl (cy 0, 120, .inl tx)), (znw, .inl (cy 0, 164, .inl nw)), (ztr, .inl (cy 0, 164, .inl tr)), (zdi, .inl (cy 0, 2296, .inl di)), (zkp, .inl (cy 0, 328, .inl kp)), (zik, .inl (cy 1, 2, .inl ik))] _ (mX8_refused l g cy h0 ztx znw ztr zdi zkp zik rf sz ac sp ou tx nw tr di kp ik s0 hv1) gX8_set_X8_refused rfl rfl rfl (by decide +kernel) ⟨Nat.le_of_ble_eq_true rfl, Nat.le_of_ble_eq_true rfl⟩ 0 rfl rfl [0, 1, 2, 3, 4, 5, 6] [] rfl rfl rfl rfl rfl rfl rfl rfl rfl (Nat.le_of_ble_eq_true rfl) rfl ⟨Nat.zero_le _, Nat.zero_le _⟩ dX8_set_14 rfl ?_
  refine v_if_eq hC (tgt := 22) dX8_set_17 (by decide) rfl (fun c => ?_) (fun c => ?_)
  · have h := ite_t c h
    refine v_aload_n hC dX8_set_22 rfl 0 rfl rfl ?_
    obtain ⟨v2, hv2, h⟩ := bind_g h
    refine v_callVwv hC (n := 0) (st := []) [(h0, .inr (6, [.int v1.2, .ref ztx, .int sz, .ref znw, .ref ztr, .ref zdi, .int v2.1, .ref zkp, .ref zik, .int sp, .int ou])), (ztx, .inl (cy 0, 120, .inl tx)), (znw, .inl (cy 0, 164, .inl nw)), (ztr, .inl (cy 0, 164, .inl tr)), (zdi, .inl (cy 0, 2296, .inl v2.2)), (zkp, .inl (cy 0, 328, .inl kp)), (zik, .inl (cy 1, 2, .inl ik))] _ (mX8_remember l g cy h0 ztx znw ztr zdi zkp zik v1.2 sz ac sp ou tx nw tr di kp ik hv2) gX8_set_X8_remember rfl rfl rfl (by decide +kernel) ⟨Nat.le_of_ble_eq_true rfl, Nat.le_of_ble_eq_true rfl⟩ 0 rfl rfl [0, 1, 2, 3, 4, 5, 6] [] rfl rfl rfl rfl rfl rfl rfl rfl rfl (Nat.le_of_ble_eq_true rfl) rfl ⟨Nat.zero_le _, Nat.zero_le _⟩ dX8_set_23 rfl ?_
    refine v_aload_n hC dX8_set_26 rfl 0 rfl rfl ?_
    refine v_get hC iX8_set_X8 0 rfl rfl 3 (by decide) kX8_set_13 rfl rfl dX8_set_27 rfl ?_
    refine v_bipush hC (v := (nI 7)) dX8_set_30 (by decide) rfl ?_
    refine v_iload_n hC dX8_set_32 rfl 1 rfl rfl ?_
    refine v_iadd hC dX8_set_33 rfl ?_
    obtain ⟨hn, h⟩ := ite_g h
    refine v_iald hC 2 rfl hn dX8_set_34 rfl ?_
    refine v_istore_n hC dX8_set_35 rfl (by decide) [(3, .int (nw ((nI 7) + y1).toNatClampNeg)), (0, .ref h0), (1, .int y1), (2, .int y2)] rfl rfl ?_
    refine v_aload_n hC dX8_set_36 rfl 1 rfl rfl ?_
    refine v_get hC iX8_set_X8 0 rfl rfl 3 (by decide) kX8_set_13 rfl rfl dX8_set_37 rfl ?_
    refine v_bipush hC (v := (nI 7)) dX8_set_40 (by decide) rfl ?_
    refine v_iload_n hC dX8_set_42 rfl 2 rfl rfl ?_
    refine v_iadd hC dX8_set_43 rfl ?_
    refine v_iload_n hC dX8_set_44 rfl 3 rfl rfl ?_
    obtain ⟨hn, h⟩ := ite_g h
    refine v_iast hC 2 rfl hn dX8_set_45 [(h0, .inr (6, [.int v1.2, .ref ztx, .int sz, .ref znw, .ref ztr, .ref zdi, .int v2.1, .ref zkp, .ref zik, .int sp, .int ou])), (ztx, .inl (cy 0, 120, .inl tx)), (znw, .inl (cy 0, 164, .inl (upd nw ((nI 7) + y1).toNatClampNeg y2))), (ztr, .inl (cy 0, 164, .inl tr)), (zdi, .inl (cy 0, 2296, .inl v2.2)), (zkp, .inl (cy 0, 328, .inl kp)), (zik, .inl (cy 1, 2, .inl ik))] rfl rfl ?_
    refine v_iload_n hC dX8_set_46 rfl 0 rfl rfl ?_
    obtain rfl := Option.some.inj h
    exact v_irw hC hr rfl rfl dX8_set_47
  · have h := ite_f c h
    refine v_iconst hC (v := (nI 0)) dX8_set_20 (by decide) rfl ?_
    obtain rfl := Option.some.inj h
    exact v_irw hC hr rfl rfl dX8_set_21
set_option maxHeartbeats 4000000 in
set_option maxRecDepth 100000 in
theorem mX8_set (l : Launch) (g : va_G) (cy : Nat → ClassId) (h0 ztx znw ztr zdi zkp zik : Nat) (rf : Int32) (sz : Int32) (ac : Int32) (sp : Int32) (ou : Int32) (tx : Nat → Int32) (nw : Nat → Int32) (tr : Nat → Int32) (di : Nat → Int32) (kp : Nat → Int32) (ik : Nat → Int32) (x1 : Int32) (x2 : Int32) {res : Int32 × Int32 × Int32 × (Nat → Int32) × (Nat → Int32)} (h : pX8_set rf ac nw di x1 x2 = some res) : Met l yX8_set wsX8_set rmX8_set (PW [.ref h0, .int x1, .int x2] g cy [(h0, .inr (6, [.int rf, .ref ztx, .int sz, .ref znw, .ref ztr, .ref zdi, .int ac, .ref zkp, .ref zik, .int sp, .int ou])), (ztx, .inl (cy 0, 120, .inl tx)), (znw, .inl (cy 0, 164, .inl nw)), (ztr, .inl (cy 0, 164, .inl tr)), (zdi, .inl (cy 0, 2296, .inl di)), (zkp, .inl (cy 0, 328, .inl kp)), (zik, .inl (cy 1, 2, .inl ik))]) (QWi g (wA [(h0, .inr (6, [.int rf, .ref ztx, .int sz, .ref znw, .ref ztr, .ref zdi, .int ac, .ref zkp, .ref zik, .int sp, .int ou])), (ztx, .inl (cy 0, 120, .inl tx)), (znw, .inl (cy 0, 164, .inl nw)), (ztr, .inl (cy 0, 164, .inl tr)), (zdi, .inl (cy 0, 2296, .inl di)), (zkp, .inl (cy 0, 328, .inl kp)), (zik, .inl (cy 1, 2, .inl ik))]) res.1 [(h0, .inr (6, [.int res.2.1, .ref ztx, .int sz, .ref znw, .ref ztr, .ref zdi, .int res.2.2.1, .ref zkp, .ref zik, .int sp, .int ou])), (ztx, .inl (cy 0, 120, .inl tx)), (znw, .inl (cy 0, 164, .inl res.2.2.2.1)), (ztr, .inl (cy 0, 164, .inl tr)), (zdi, .inl (cy 0, 2296, .inl res.2.2.2.2)), (zkp, .inl (cy 0, 328, .inl kp)), (zik, .inl (cy 1, 2, .inl ik))]) 0 0 (wA [(h0, .inr (6, [.int rf, .ref ztx, .int sz, .ref znw, .ref ztr, .ref zdi, .int ac, .ref zkp, .ref zik, .int sp, .int ou])), (ztx, .inl (cy 0, 120, .inl tx)), (znw, .inl (cy 0, 164, .inl nw)), (ztr, .inl (cy 0, 164, .inl tr)), (zdi, .inl (cy 0, 2296, .inl di)), (zkp, .inl (cy 0, 328, .inl kp)), (zik, .inl (cy 1, 2, .inl ik))]) := by
  refine m_ofV (cc := cX8_set) (nL := 4) (ret := (some .int)) (B := (wA [(h0, .inr (6, [.int rf, .ref ztx, .int sz, .ref znw, .ref ztr, .ref zdi, .int ac, .ref zkp, .ref zik, .int sp, .int ou])), (ztx, .inl (cy 0, 120, .inl tx)), (znw, .inl (cy 0, 164, .inl nw)), (ztr, .inl (cy 0, 164, .inl tr)), (zdi, .inl (cy 0, 2296, .inl di)), (zkp, .inl (cy 0, 328, .inl kp)), (zik, .inl (cy 1, 2, .inl ik))])) RX8 rfl (by decide) rfl [(0, .ref h0), (1, .int x1), (2, .int x2)] rfl (Nat.le_of_ble_eq_true rfl) (wA.self) ?_
  intro p e s m args below meth c hC hr
  generalize (wA [(h0, .inr (6, [.int rf, .ref ztx, .int sz, .ref znw, .ref ztr, .ref zdi, .int ac, .ref zkp, .ref zik, .int sp, .int ou])), (ztx, .inl (cy 0, 120, .inl tx)), (znw, .inl (cy 0, 164, .inl nw)), (ztr, .inl (cy 0, 164, .inl tr)), (zdi, .inl (cy 0, 2296, .inl di)), (zkp, .inl (cy 0, 328, .inl kp)), (zik, .inl (cy 1, 2, .inl ik))]) = A
  unfold pX8_set at h
  refine v_aload_n hC dX8_set_0 rfl 0 rfl rfl ?_
  refine v_iload_n hC dX8_set_1 rfl 1 rfl rfl ?_
  refine v_iload_n hC dX8_set_2 rfl 2 rfl rfl ?_
  obtain ⟨v1, hv1, h⟩ := bind_g h
  refine v_callSri hC (n := 2) (st := [.ref h0]) (mX8_isSetting l g cy x1 x2 hv1) gX8_set_X8_isSetting rfl rfl rfl (by decide +kernel) ⟨Nat.le_of_ble_eq_true rfl, Nat.le_of_ble_eq_true rfl⟩ [] rfl rfl rfl rfl (Nat.le_of_ble_eq_true rfl) rfl ⟨Nat.zero_le _, Nat.zero_le _⟩ dX8_set_3 rfl ?_
  refine v_if_eq hC (tgt := 13) dX8_set_6 (by decide) rfl (fun c => ?_) (fun c => ?_)
  · have h := ite_t c h
    refine v_iconst hC (v := (nI 1)) dX8_set_13 (by decide) rfl ?_
    exact bX8_set_14 hC hr _ _ _ _ _ _ _ _ _ _ _ _ _ _ h
  · have h := ite_f c h
    refine v_iconst hC (v := (nI 0)) dX8_set_9 (by decide) rfl ?_
    refine v_goto hC (tgt := 14) dX8_set_10 (by decide) ?_
    exact bX8_set_14 hC hr _ _ _ _ _ _ _ _ _ _ _ _ _ _ h
theorem kX8_undo_13 : Cond.fieldLink RX8 13 "CrowdFacesModel" "now" "[I" ∈ wsX8_undo := by decide +kernel
theorem kX8_undo_173 : Cond.fieldLink RX8 173 "CrowdFacesModel" "acts" "I" ∈ wsX8_undo := by decide +kernel
theorem kX8_undo_19 : Cond.fieldLink RX8 19 "CrowdFacesModel" "diary" "[I" ∈ wsX8_undo := by decide +kernel
theorem iX8_undo_X8 : ∀ w ∈ wsX80, w ∈ wsX8_undo := by decide +kernel
def pX8_undo_13 (rf : Int32) (ac : Int32) (nw : Nat → Int32) (di : Nat → Int32) (s0 : Int32) : Option (Int32 × Int32 × Int32 × (Nat → Int32)) := (pX8_refused rf s0).bind fun v1 => if v1.1 = 0 then (pX8_copyState 2296 di 164 nw ((nI 164) * (ac - (nI 1))) (nI 0)).bind fun v2 => some ((ac - (nI 1)), v1.2, (ac - (nI 1)), v2) else some ((nI 0), v1.2, ac, nw)
def pX8_undo (rf : Int32) (ac : Int32) (nw : Nat → Int32) (di : Nat → Int32) : Option (Int32 × Int32 × Int32 × (Nat → Int32)) := if ac = 0 then pX8_undo_13 rf ac nw di (nI 1) else pX8_undo_13 rf ac nw di (nI 0)
abbrev rmX8_undo : Room := { frames := 1, cells := 0, slots := 0, locals := 24 }
set_option maxHeartbeats 4000000 in
set_option maxRecDepth 100000 in
theorem bX8_undo_13 {p : Program} {l : Launch} {e : Env} {s : State} {m : MethodId} {args : Array Value} {below : List Frame} {meth : Method} {c : Code} {g : va_G} {cy : Nat → ClassId} (hC : CX p s m args meth c g cy 1 cX8_undo wsX8_undo RX8) (hr : meth.sig.returnType = (some .int)) {h0 ztx znw ztr zdi zkp zik : Nat} {A : Nat → Prop} {res : Int32 × Int32 × Int32 × (Nat → Int32)} : ∀ (rf : Int32) (sz : Int32) (ac : Int32) (sp : Int32) (ou : Int32) (tx : Nat → Int32) (nw : Nat → Int32) (tr : Nat → Int32) (di : Nat → Int32) (kp : Nat → Int32) (ik : Nat → Int32) (s0 : Int32)(h : pX8_undo_13 rf ac nw di s0 = some res), V p l e (headSpec wsX8_undo rmX8_undo).room s m args below meth c g 1 0 0 (MQ below (QWi g A res.1 [(h0, .inr (6, [.int res.2.1, .ref ztx, .int sz, .ref znw, .ref ztr, .ref zdi, .int res.2.2.1, .ref zkp, .ref zik, .int sp, .int ou])), (ztx, .inl (cy 0, 120, .inl tx)), (znw, .inl (cy 0, 164, .inl res.2.2.2)), (ztr, .inl (cy 0, 164, .inl tr)), (zdi, .inl (cy 0, 2296, .inl di)), (zkp, .inl (cy 0, 328, .inl kp)), (zik, .inl (cy 1, 2, .inl ik))]) args s 0 0 A) A A [(h0, .inr (6, [.int rf, .ref ztx, .int sz, .ref znw, .ref ztr, .ref zdi, .int ac, .ref zkp, .ref zik, .int sp, .int ou])), (ztx, .inl (cy 0, 120, .inl tx)), (znw, .inl (cy 0, 164, .inl nw)), (ztr, .inl (cy 0, 164, .inl tr)), (zdi, .inl (cy 0, 2296, .inl di)), (zkp, .inl (cy 0, 328, .inl kp)), (zik, .inl (cy 1, 2, .inl ik))] 13 [(0, .ref h0)] [.int s0, .ref h0] := by
  intro rf sz ac sp ou tx nw tr di kp ik s0 h
  unfold pX8_undo_13 at h
  obtain ⟨v1, hv1, h⟩ := bind_g h
  refine v_callVwi hC (n := 1) (st := []) [(h0, .inr (6, [.int v1.2, .ref ztx, .int sz, .ref znw, .ref ztr, .ref zdi, .int ac, .ref zkp, .ref zik, .int sp, .int ou])), (ztx, .inl (cy 0, 120, .inl tx)), (znw, .inl (cy 0, 164, .inl nw)), (ztr, .inl (cy 0, 164, .inl tr)), (zdi, .inl (cy 0, 2296, .inl di)), (zkp, .inl (cy 0, 328, .inl kp)), (zik, .inl (cy 1, 2, .inl ik))] _ (mX8_refused l g cy h0 ztx znw ztr zdi zkp zik rf sz ac sp ou tx nw tr di kp ik s0 hv1) gX8_undo_X8_refused rfl rfl rfl (by decide +kernel) ⟨Nat.le_of_ble_eq_true rfl, Nat.le_of_ble_eq_true rfl⟩ 0 rfl rfl [0, 1, 2, 3, 4, 5, 6] [] rfl rfl rfl rfl rfl rfl rfl rfl rfl (Nat.le_of_ble_eq_true rfl) rfl ⟨Nat.zero_le _, Nat.zero_le _⟩ dX8_undo_13 rfl ?_
  refine v_if_eq hC (tgt := 21) dX8_undo_16 (by decide) rfl (fun c => ?_) (fun c => ?_)
  · have h := ite_t c h
    refine v_aload_n hC dX8_undo_21 rfl 0 rfl rfl ?_
    refine v_dup hC dX8_undo_22 rfl rfl ?_
    refine v_get hC iX8_undo_X8 0 rfl rfl 6 (by decide) kX8_undo_173 rfl rfl dX8_undo_23 rfl ?_
    refine v_iconst hC (v := (nI 1)) dX8_undo_26 (by decide) rfl ?_
    refine v_isub hC dX8_undo_27 rfl ?_
    refine v_put hC iX8_undo_X8 tyX8 tyX8_ok nmX8 0 rfl rfl 6 (by decide) kX8_undo_173 rfl rfl (ty := .int) (by decide +kernel) rfl rfl (Nat.le_of_ble_eq_true rfl) dX8_undo_28 [(h0, .inr (6, [.int v1.2, .ref ztx, .int sz, .ref znw, .ref ztr, .ref zdi, .int (ac - (nI 1)), .ref zkp, .ref zik, .int sp, .int ou])), (ztx, .inl (cy 0, 120, .inl tx)), (znw, .inl (cy 0, 164, .inl nw)), (ztr, .inl (cy 0, 164, .inl tr)), (zdi, .inl (cy 0, 2296, .inl di)), (zkp, .inl (cy 0, 328, .inl kp)), (zik, .inl (cy 1, 2, .inl ik))] rfl rfl ?_
    refine v_aload_n hC dX8_undo_31 rfl 0 rfl rfl ?_
    refine v_get hC iX8_undo_X8 0 rfl rfl 5 (by decide) kX8_undo_19 rfl rfl dX8_undo_32 rfl ?_
    refine v_sipush hC (v := (nI 164)) dX8_undo_35 (by decide) rfl ?_
    refine v_aload_n hC dX8_undo_38 rfl 0 rfl rfl ?_
    refine v_get hC iX8_undo_X8 0 rfl rfl 6 (by decide) kX8_undo_173 rfl rfl dX8_undo_39 rfl ?_
    refine v_imul hC dX8_undo_42 rfl ?_
    refine v_aload_n hC dX8_undo_43 rfl 0 rfl rfl ?_
    refine v_get hC iX8_undo_X8 0 rfl rfl 3 (by decide) kX8_undo_13 rfl rfl dX8_undo_44 rfl ?_
    refine v_iconst hC (v := (nI 0)) dX8_undo_47 (by decide) rfl ?_
    obtain ⟨v2, hv2, h⟩ := bind_g h
    refine v_callSwv hC (n := 4) (st := []) [(h0, .inr (6, [.int v1.2, .ref ztx, .int sz, .ref znw, .ref ztr, .ref zdi, .int (ac - (nI 1)), .ref zkp, .ref zik, .int sp, .int ou])), (ztx, .inl (cy 0, 120, .inl tx)), (znw, .inl (cy 0, 164, .inl v2)), (ztr, .inl (cy 0, 164, .inl tr)), (zdi, .inl (cy 0, 2296, .inl di)), (zkp, .inl (cy 0, 328, .inl kp)), (zik, .inl (cy 1, 2, .inl ik))] _ (mX8_copyState l g cy zdi znw 2296 di 164 nw ((nI 164) * (ac - (nI 1))) (nI 0) hv2) gX8_undo_X8_copyState rfl rfl rfl (by decide +kernel) ⟨Nat.le_of_ble_eq_true rfl, Nat.le_of_ble_eq_true rfl⟩ [4, 2] [0, 1, 3, 5, 6] rfl rfl rfl rfl rfl rfl rfl rfl rfl (Nat.le_of_ble_eq_true rfl) rfl ⟨Nat.zero_le _, Nat.zero_le _⟩ dX8_undo_48 rfl ?_
    refine v_aload_n hC dX8_undo_51 rfl 0 rfl rfl ?_
    refine v_get hC iX8_undo_X8 0 rfl rfl 6 (by decide) kX8_undo_173 rfl rfl dX8_undo_52 rfl ?_
    obtain rfl := Option.some.inj h
    exact v_irw hC hr rfl rfl dX8_undo_55
  · have h := ite_f c h
    refine v_iconst hC (v := (nI 0)) dX8_undo_19 (by decide) rfl ?_
    obtain rfl := Option.some.inj h
    exact v_irw hC hr rfl rfl dX8_undo_20
set_option maxHeartbeats 4000000 in
set_option maxRecDepth 100000 in
theorem mX8_undo (l : Launch) (g : va_G) (cy : Nat → ClassId) (h0 ztx znw ztr zdi zkp zik : Nat) (rf : Int32) (sz : Int32) (ac : Int32) (sp : Int32) (ou : Int32) (tx : Nat → Int32) (nw : Nat → Int32) (tr : Nat → Int32) (di : Nat → Int32) (kp : Nat → Int32) (ik : Nat → Int32)  {res : Int32 × Int32 × Int32 × (Nat → Int32)} (h : pX8_undo rf ac nw di = some res) : Met l yX8_undo wsX8_undo rmX8_undo (PW [.ref h0] g cy [(h0, .inr (6, [.int rf, .ref ztx, .int sz, .ref znw, .ref ztr, .ref zdi, .int ac, .ref zkp, .ref zik, .int sp, .int ou])), (ztx, .inl (cy 0, 120, .inl tx)), (znw, .inl (cy 0, 164, .inl nw)), (ztr, .inl (cy 0, 164, .inl tr)), (zdi, .inl (cy 0, 2296, .inl di)), (zkp, .inl (cy 0, 328, .inl kp)), (zik, .inl (cy 1, 2, .inl ik))]) (QWi g (wA [(h0, .inr (6, [.int rf, .ref ztx, .int sz, .ref znw, .ref ztr, .ref zdi, .int ac, .ref zkp, .ref zik, .int sp, .int ou])), (ztx, .inl (cy 0, 120, .inl tx)), (znw, .inl (cy 0, 164, .inl nw)), (ztr, .inl (cy 0, 164, .inl tr)), (zdi, .inl (cy 0, 2296, .inl di)), (zkp, .inl (cy 0, 328, .inl kp)), (zik, .inl (cy 1, 2, .inl ik))]) res.1 [(h0, .inr (6, [.int res.2.1, .ref ztx, .int sz, .ref znw, .ref ztr, .ref zdi, .int res.2.2.1, .ref zkp, .ref zik, .int sp, .int ou])), (ztx, .inl (cy 0, 120, .inl tx)), (znw, .inl (cy 0, 164, .inl res.2.2.2)), (ztr, .inl (cy 0, 164, .inl tr)), (zdi, .inl (cy 0, 2296, .inl di)), (zkp, .inl (cy 0, 328, .inl kp)), (zik, .inl (cy 1, 2, .inl ik))]) 0 0 (wA [(h0, .inr (6, [.int rf, .ref ztx, .int sz, .ref znw, .ref ztr, .ref zdi, .int ac, .ref zkp, .ref zik, .int sp, .int ou])), (ztx, .inl (cy 0, 120, .inl tx)), (znw, .inl (cy 0, 164, .inl nw)), (ztr, .inl (cy 0, 164, .inl tr)), (zdi, .inl (cy 0, 2296, .inl di)), (zkp, .inl (cy 0, 328, .inl kp)), (zik, .inl (cy 1, 2, .inl ik))]) := by
  refine m_ofV (cc := cX8_undo) (nL := 1) (ret := (some .int)) (B := (wA [(h0, .inr (6, [.int rf, .ref ztx, .int sz, .ref znw, .ref ztr, .ref zdi, .int ac, .ref zkp, .ref zik, .int sp, .int ou])), (ztx, .inl (cy 0, 120, .inl tx)), (znw, .inl (cy 0, 164, .inl nw)), (ztr, .inl (cy 0, 164, .inl tr)), (zdi, .inl (cy 0, 2296, .inl di)), (zkp, .inl (cy 0, 328, .inl kp)), (zik, .inl (cy 1, 2, .inl ik))])) RX8 rfl (by decide) rfl [(0, .ref h0)] rfl (Nat.le_of_ble_eq_true rfl) (wA.self) ?_
  intro p e s m args below meth c hC hr
  generalize (wA [(h0, .inr (6, [.int rf, .ref ztx, .int sz, .ref znw, .ref ztr, .ref zdi, .int ac, .ref zkp, .ref zik, .int sp, .int ou])), (ztx, .inl (cy 0, 120, .inl tx)), (znw, .inl (cy 0, 164, .inl nw)), (ztr, .inl (cy 0, 164, .inl tr)), (zdi, .inl (cy 0, 2296, .inl di)), (zkp, .inl (cy 0, 328, .inl kp)), (zik, .inl (cy 1, 2, .inl ik))]) = A
  unfold pX8_undo at h
  refine v_aload_n hC dX8_undo_0 rfl 0 rfl rfl ?_
  refine v_aload_n hC dX8_undo_1 rfl 0 rfl rfl ?_
  refine v_get hC iX8_undo_X8 0 rfl rfl 6 (by decide) kX8_undo_173 rfl rfl dX8_undo_2 rfl ?_
  refine v_if_ne hC (tgt := 12) dX8_undo_5 (by decide) rfl (fun c => ?_) (fun c => ?_)
  · have h := ite_f c h
    refine v_iconst hC (v := (nI 0)) dX8_undo_12 (by decide) rfl ?_
    exact bX8_undo_13 hC hr _ _ _ _ _ _ _ _ _ _ _ _ h
  · have h := ite_t c h
    refine v_iconst hC (v := (nI 1)) dX8_undo_8 (by decide) rfl ?_
    refine v_goto hC (tgt := 13) dX8_undo_9 (by decide) ?_
    exact bX8_undo_13 hC hr _ _ _ _ _ _ _ _ _ _ _ _ h
theorem kX8_would_106 : Cond.constantLong RX8 106 3 ∈ wsX8_would := by decide +kernel
theorem kX8_would_13 : Cond.fieldLink RX8 13 "CrowdFacesModel" "now" "[I" ∈ wsX8_would := by decide +kernel
theorem kX8_would_16 : Cond.fieldLink RX8 16 "CrowdFacesModel" "trial" "[I" ∈ wsX8_would := by decide +kernel
theorem iX8_would_X8 : ∀ w ∈ wsX80, w ∈ wsX8_would := by decide +kernel
def pX8_would_141 (rf : Int32) (nw : Nat → Int32) (tr : Nat → Int32) (s0 : Int32) : Option (Int32 × Int32 × (Nat → Int32)) := some (s0, rf, tr)
def pX8_would_33 (rf : Int32) (nw : Nat → Int32) (tr : Nat → Int32) (y1 : Int32) (y2 : Int32) (s0 : Int32) : Option (Int32 × Int32 × (Nat → Int32)) := (pX8_refused rf s0).bind fun v1 => if v1.1 = 0 then (pX8_canShoot nw y1).bind fun v2 => if v2 = 0 then some ((-1), v1.2, tr) else (pX8_copyState 164 nw 164 tr (nI 0) (nI 0)).bind fun v3 => (pX8_shootOn v3 y1).bind fun v4 => if y2 = 0 then pX8_would_141 v1.2 nw v4.2 v4.1 else if y2 = (nI 1) then if nb (nI 3) 164 = true then if nb (nI 3) 164 = true then pX8_would_141 v1.2 nw v4.2 ((v4.2 (nI 3).toNatClampNeg) - (nw (nI 3).toNatClampNeg)) else none else none else if y2 = (nI 2) then if nb (nI 4) 164 = true then if nb (nI 4) 164 = true then pX8_would_141 v1.2 nw v4.2 ((v4.2 (nI 4).toNatClampNeg) - (nw (nI 4).toNatClampNeg)) else none else none else if nb (nI 6) 164 = true then if nb (nI 6) 164 = true then pX8_would_141 v1.2 nw v4.2 ((v4.2 (nI 6).toNatClampNeg) - (nw (nI 6).toNatClampNeg)) else none else none else some ((nI 0), v1.2, tr)
def pX8_would (rf : Int32) (nw : Nat → Int32) (tr : Nat → Int32) (x1 : Int32) (x2 : Int32) : Option (Int32 × Int32 × (Nat → Int32)) := (pX8_isScene nw x1).bind fun v1 => if v1 = 0 then pX8_would_33 rf nw tr x1 x2 (nI 1) else (pX8_in x2.toInt64 0 3).bind fun v2 => if v2 = 0 then pX8_would_33 rf nw tr x1 x2 (nI 2) else pX8_would_33 rf nw tr x1 x2 (nI 0)
abbrev rmX8_would : Room := { frames := 7, cells := 0, slots := 0, locals := 161 }
set_option maxHeartbeats 4000000 in
set_option maxRecDepth 100000 in
theorem bX8_would_141 {p : Program} {l : Launch} {e : Env} {s : State} {m : MethodId} {args : Array Value} {below : List Frame} {meth : Method} {c : Code} {g : va_G} {cy : Nat → ClassId} (hC : CX p s m args meth c g cy 4 cX8_would wsX8_would RX8) (hr : meth.sig.returnType = (some .int)) {h0 ztx znw ztr zdi zkp zik : Nat} {A : Nat → Prop} {res : Int32 × Int32 × (Nat → Int32)} : ∀ (rf : Int32) (sz : Int32) (ac : Int32) (sp : Int32) (ou : Int32) (tx : Nat → Int32) (nw : Nat → Int32) (tr : Nat → Int32) (di : Nat → Int32) (kp : Nat → Int32) (ik : Nat → Int32) (s0 : Int32)(h : pX8_would_141 rf nw tr s0 = some res), V p l e (headSpec wsX8_would rmX8_would).room s m args below meth c g 4 0 0 (MQ below (QWi g A res.1 [(h0, .inr (6, [.int res.2.1, .ref ztx, .int sz, .ref znw, .ref ztr, .ref zdi, .int ac, .ref zkp, .ref zik, .int sp, .int ou])), (ztx, .inl (cy 0, 120, .inl tx)), (znw, .inl (cy 0, 164, .inl nw)), (ztr, .inl (cy 0, 164, .inl res.2.2)), (zdi, .inl (cy 0, 2296, .inl di)), (zkp, .inl (cy 0, 328, .inl kp)), (zik, .inl (cy 1, 2, .inl ik))]) args s 0 0 A) A A [(h0, .inr (6, [.int rf, .ref ztx, .int sz, .ref znw, .ref ztr, .ref zdi, .int ac, .ref zkp, .ref zik, .int sp, .int ou])), (ztx, .inl (cy 0, 120, .inl tx)), (znw, .inl (cy 0, 164, .inl nw)), (ztr, .inl (cy 0, 164, .inl tr)), (zdi, .inl (cy 0, 2296, .inl di)), (zkp, .inl (cy 0, 328, .inl kp)), (zik, .inl (cy 1, 2, .inl ik))] 141 [] [.int s0] := by
  intro rf sz ac sp ou tx nw tr di kp ik s0 h
  unfold pX8_would_141 at h
  obtain rfl := Option.some.inj h
  exact v_irw hC hr rfl rfl dX8_would_141
set_option maxHeartbeats 4000000 in
set_option maxRecDepth 100000 in
theorem bX8_would_33 {p : Program} {l : Launch} {e : Env} {s : State} {m : MethodId} {args : Array Value} {below : List Frame} {meth : Method} {c : Code} {g : va_G} {cy : Nat → ClassId} (hC : CX p s m args meth c g cy 4 cX8_would wsX8_would RX8) (hr : meth.sig.returnType = (some .int)) {h0 ztx znw ztr zdi zkp zik : Nat} {A : Nat → Prop} {res : Int32 × Int32 × (Nat → Int32)} : ∀ (rf : Int32) (sz : Int32) (ac : Int32) (sp : Int32) (ou : Int32) (tx : Nat → Int32) (nw : Nat → Int32) (tr : Nat → Int32) (di : Nat → Int32) (kp : Nat → Int32) (ik : Nat → Int32) (y1 : Int32) (y2 : Int32) (s0 : Int32)(h : pX8_would_33 rf nw tr y1 y2 s0 = some res), V p l e (headSpec wsX8_would rmX8_would).room s m args below meth c g 4 0 0 (MQ below (QWi g A res.1 [(h0, .inr (6, [.int res.2.1, .ref ztx, .int sz, .ref znw, .ref ztr, .ref zdi, .int ac, .ref zkp, .ref zik, .int sp, .int ou])), (ztx, .inl (cy 0, 120, .inl tx)), (znw, .inl (cy 0, 164, .inl nw)), (ztr, .inl (cy 0, 164, .inl res.2.2)), (zdi, .inl (cy 0, 2296, .inl di)), (zkp, .inl (cy 0, 328, .inl kp)), (zik, .inl (cy 1, 2, .inl ik))]) args s 0 0 A) A A [(h0, .inr (6, [.int rf, .ref ztx, .int sz, .ref znw, .ref ztr, .ref zdi, .int ac, .ref zkp, .ref zik, .int sp, .int ou])), (ztx, .inl (cy 0, 120, .inl tx)), (znw, .inl (cy 0, 164, .inl nw)), (ztr, .inl (cy 0, 164, .inl tr)), (zdi, .inl (cy 0, 2296, .inl di)), (zkp, .inl (cy 0, 328, .inl kp)), (zik, .inl (cy 1, 2, .inl ik))] 33 [(0, .ref h0), (1, .int y1), (2, .int y2)] [.int s0, .ref h0] := by
  intro rf sz ac sp ou tx nw tr di kp ik y1 y2 s0 h
  unfold pX8_would_33 at h
  obtain ⟨v1, hv1, h⟩ := bind_g h
  refine v_callVwi hC (n := 1) (st := []) [(h0, .inr (6, [.int v1.2, .ref ztx, .int sz, .ref znw, .ref ztr, .ref zdi, .int ac, .ref zkp, .ref zik, .int sp, .int ou])), (ztx, .inl (cy 0, 120, .inl tx)), (znw, .inl (cy 0, 164, .inl nw)), (ztr, .inl (cy 0, 164, .inl tr)), (zdi, .inl (cy 0, 2296, .inl di)), (zkp, .inl (cy 0, 328, .inl kp)), (zik, .inl (cy 1, 2, .inl ik))] _ (mX8_refused l g cy h0 ztx znw ztr zdi zkp zik rf sz ac sp ou tx nw tr di kp ik s0 hv1) gX8_would_X8_refused rfl rfl rfl (by decide +kernel) ⟨Nat.le_of_ble_eq_true rfl, Nat.le_of_ble_eq_true rfl⟩ 0 rfl rfl [0, 1, 2, 3, 4, 5, 6] [] rfl rfl rfl rfl rfl rfl rfl rfl rfl (Nat.le_of_ble_eq_true rfl) rfl ⟨Nat.zero_le _, Nat.zero_le _⟩ dX8_would_33 rfl ?_
  refine v_if_eq hC (tgt := 41) dX8_would_36 (by decide) rfl (fun c => ?_) (fun c => ?_)
  · have h := ite_t c h
    refine v_aload_n hC dX8_would_41 rfl 0 rfl rfl ?_
    refine v_get hC iX8_would_X8 0 rfl rfl 3 (by decide) kX8_would_13 rfl rfl dX8_would_42 rfl ?_
    refine v_iload_n hC dX8_would_45 rfl 1 rfl rfl ?_
    obtain ⟨v2, hv2, h⟩ := bind_g h
    refine v_callSri hC (n := 2) (st := []) (mX8_canShoot l g cy znw nw y1 hv2) gX8_would_X8_canShoot rfl rfl rfl (by decide +kernel) ⟨Nat.le_of_ble_eq_true rfl, Nat.le_of_ble_eq_true rfl⟩ [2] rfl rfl rfl rfl (Nat.le_of_ble_eq_true rfl) rfl ⟨Nat.zero_le _, Nat.zero_le _⟩ dX8_would_46 rfl ?_
    refine v_if_ne hC (tgt := 54) dX8_would_49 (by decide) rfl (fun c => ?_) (fun c => ?_)
    · have h := ite_f c h
      refine v_aload_n hC dX8_would_54 rfl 0 rfl rfl ?_
      refine v_get hC iX8_would_X8 0 rfl rfl 3 (by decide) kX8_would_13 rfl rfl dX8_would_55 rfl ?_
      refine v_iconst hC (v := (nI 0)) dX8_would_58 (by decide) rfl ?_
      refine v_aload_n hC dX8_would_59 rfl 0 rfl rfl ?_
      refine v_get hC iX8_would_X8 0 rfl rfl 4 (by decide) kX8_would_16 rfl rfl dX8_would_60 rfl ?_
      refine v_iconst hC (v := (nI 0)) dX8_would_63 (by decide) rfl ?_
      obtain ⟨v3, hv3, h⟩ := bind_g h
      refine v_callSwv hC (n := 4) (st := []) [(h0, .inr (6, [.int v1.2, .ref ztx, .int sz, .ref znw, .ref ztr, .ref zdi, .int ac, .ref zkp, .ref zik, .int sp, .int ou])), (ztx, .inl (cy 0, 120, .inl tx)), (znw, .inl (cy 0, 164, .inl nw)), (ztr, .inl (cy 0, 164, .inl v3)), (zdi, .inl (cy 0, 2296, .inl di)), (zkp, .inl (cy 0, 328, .inl kp)), (zik, .inl (cy 1, 2, .inl ik))] _ (mX8_copyState l g cy znw ztr 164 nw 164 tr (nI 0) (nI 0) hv3) gX8_would_X8_copyState rfl rfl rfl (by decide +kernel) ⟨Nat.le_of_ble_eq_true rfl, Nat.le_of_ble_eq_true rfl⟩ [2, 3] [0, 1, 4, 5, 6] rfl rfl rfl rfl rfl rfl rfl rfl rfl (Nat.le_of_ble_eq_true rfl) rfl ⟨Nat.zero_le _, Nat.zero_le _⟩ dX8_would_64 rfl ?_
      refine v_aload_n hC dX8_would_67 rfl 0 rfl rfl ?_
      refine v_get hC iX8_would_X8 0 rfl rfl 4 (by decide) kX8_would_16 rfl rfl dX8_would_68 rfl ?_
      refine v_iload_n hC dX8_would_71 rfl 1 rfl rfl ?_
      obtain ⟨v4, hv4, h⟩ := bind_g h
      refine v_callSwi hC (n := 2) (st := []) [(h0, .inr (6, [.int v1.2, .ref ztx, .int sz, .ref znw, .ref ztr, .ref zdi, .int ac, .ref zkp, .ref zik, .int sp, .int ou])), (ztx, .inl (cy 0, 120, .inl tx)), (znw, .inl (cy 0, 164, .inl nw)), (ztr, .inl (cy 0, 164, .inl v4.2)), (zdi, .inl (cy 0, 2296, .inl di)), (zkp, .inl (cy 0, 328, .inl kp)), (zik, .inl (cy 1, 2, .inl ik))] _ (mX8_shootOn l g cy ztr v3 y1 hv4) gX8_would_X8_shootOn rfl rfl rfl (by decide +kernel) ⟨Nat.le_of_ble_eq_true rfl, Nat.le_of_ble_eq_true rfl⟩ [3] [0, 1, 2, 4, 5, 6] rfl rfl rfl rfl rfl rfl rfl rfl rfl (Nat.le_of_ble_eq_true rfl) rfl ⟨Nat.zero_le _, Nat.zero_le _⟩ dX8_would_72 rfl ?_
      refine v_istore_n hC dX8_would_75 rfl (by decide) [(3, .int v4.1), (0, .ref h0), (1, .int y1), (2, .int y2)] rfl rfl ?_
      refine v_iload_n hC dX8_would_76 rfl 3 rfl rfl ?_
      refine v_if_ne hC (tgt := 84) dX8_would_77 (by decide) rfl (fun c => ?_) (fun c => ?_)
      · have h := ite_f c h
        refine v_iload_n hC dX8_would_84 rfl 3 rfl rfl ?_
        refine v_iconst hC (v := (nI 1)) dX8_would_85 (by decide) rfl ?_
        refine v_icmp_ne hC (tgt := 105) dX8_would_86 (by decide) rfl (fun c => ?_) (fun c => ?_)
        · have h := ite_f c h
          refine v_iload_n hC dX8_would_105 rfl 3 rfl rfl ?_
          refine v_iconst hC (v := (nI 2)) dX8_would_106 (by decide) rfl ?_
          refine v_icmp_ne hC (tgt := 126) dX8_would_107 (by decide) rfl (fun c => ?_) (fun c => ?_)
          · have h := ite_f c h
            refine v_aload_n hC dX8_would_126 rfl 1 rfl rfl ?_
            refine v_get hC iX8_would_X8 0 rfl rfl 4 (by decide) kX8_would_16 rfl rfl dX8_would_127 rfl ?_
            refine v_bipush hC (v := (nI 6)) dX8_would_130 (by decide) rfl ?_
            obtain ⟨hn, h⟩ := ite_g h
            refine v_iald hC 3 rfl hn dX8_would_132 rfl ?_
            refine v_aload_n hC dX8_would_133 rfl 1 rfl rfl ?_
            refine v_get hC iX8_would_X8 0 rfl rfl 3 (by decide) kX8_would_13 rfl rfl dX8_would_134 rfl ?_
            refine v_bipush hC (v := (nI 6)) dX8_would_137 (by decide) rfl ?_
            obtain ⟨hn, h⟩ := ite_g h
            refine v_iald hC 2 rfl hn dX8_would_139 rfl ?_
            refine v_isub hC dX8_would_140 rfl ?_
            exact v_sub [] (lv' := []) rfl (bX8_would_141 hC hr _ _ _ _ _ _ _ _ _ _ _ _ h)
          · have h := ite_t c h
            refine v_aload_n hC dX8_would_110 rfl 1 rfl rfl ?_
            refine v_get hC iX8_would_X8 0 rfl rfl 4 (by decide) kX8_would_16 rfl rfl dX8_would_111 rfl ?_
            refine v_iconst hC (v := (nI 4)) dX8_would_114 (by decide) rfl ?_
            obtain ⟨hn, h⟩ := ite_g h
            refine v_iald hC 3 rfl hn dX8_would_115 rfl ?_
            refine v_aload_n hC dX8_would_116 rfl 1 rfl rfl ?_
            refine v_get hC iX8_would_X8 0 rfl rfl 3 (by decide) kX8_would_13 rfl rfl dX8_would_117 rfl ?_
            refine v_iconst hC (v := (nI 4)) dX8_would_120 (by decide) rfl ?_
            obtain ⟨hn, h⟩ := ite_g h
            refine v_iald hC 2 rfl hn dX8_would_121 rfl ?_
            refine v_isub hC dX8_would_122 rfl ?_
            refine v_goto hC (tgt := 141) dX8_would_123 (by decide) ?_
            exact v_sub [] (lv' := []) rfl (bX8_would_141 hC hr _ _ _ _ _ _ _ _ _ _ _ _ h)
        · have h := ite_t c h
          refine v_aload_n hC dX8_would_89 rfl 1 rfl rfl ?_
          refine v_get hC iX8_would_X8 0 rfl rfl 4 (by decide) kX8_would_16 rfl rfl dX8_would_90 rfl ?_
          refine v_iconst hC (v := (nI 3)) dX8_would_93 (by decide) rfl ?_
          obtain ⟨hn, h⟩ := ite_g h
          refine v_iald hC 3 rfl hn dX8_would_94 rfl ?_
          refine v_aload_n hC dX8_would_95 rfl 1 rfl rfl ?_
          refine v_get hC iX8_would_X8 0 rfl rfl 3 (by decide) kX8_would_13 rfl rfl dX8_would_96 rfl ?_
          refine v_iconst hC (v := (nI 3)) dX8_would_99 (by decide) rfl ?_
          obtain ⟨hn, h⟩ := ite_g h
          refine v_iald hC 2 rfl hn dX8_would_100 rfl ?_
          refine v_isub hC dX8_would_101 rfl ?_
          refine v_goto hC (tgt := 141) dX8_would_102 (by decide) ?_
          exact v_sub [] (lv' := []) rfl (bX8_would_141 hC hr _ _ _ _ _ _ _ _ _ _ _ _ h)
      · have h := ite_t c h
        refine v_iload_n hC dX8_would_80 rfl 0 rfl rfl ?_
        refine v_goto hC (tgt := 141) dX8_would_81 (by decide) ?_
        exact v_sub [] (lv' := []) rfl (bX8_would_141 hC hr _ _ _ _ _ _ _ _ _ _ _ _ h)
    · have h := ite_t c h
      refine v_iconst hC (v := (-1)) dX8_would_52 (by decide) rfl ?_
      obtain rfl := Option.some.inj h
      exact v_irw hC hr rfl rfl dX8_would_53
  · have h := ite_f c h
    refine v_iconst hC (v := (nI 0)) dX8_would_39 (by decide) rfl ?_
    obtain rfl := Option.some.inj h
    exact v_irw hC hr rfl rfl dX8_would_40
set_option maxHeartbeats 4000000 in
set_option maxRecDepth 100000 in
theorem mX8_would (l : Launch) (g : va_G) (cy : Nat → ClassId) (h0 ztx znw ztr zdi zkp zik : Nat) (rf : Int32) (sz : Int32) (ac : Int32) (sp : Int32) (ou : Int32) (tx : Nat → Int32) (nw : Nat → Int32) (tr : Nat → Int32) (di : Nat → Int32) (kp : Nat → Int32) (ik : Nat → Int32) (x1 : Int32) (x2 : Int32) {res : Int32 × Int32 × (Nat → Int32)} (h : pX8_would rf nw tr x1 x2 = some res) : Met l yX8_would wsX8_would rmX8_would (PW [.ref h0, .int x1, .int x2] g cy [(h0, .inr (6, [.int rf, .ref ztx, .int sz, .ref znw, .ref ztr, .ref zdi, .int ac, .ref zkp, .ref zik, .int sp, .int ou])), (ztx, .inl (cy 0, 120, .inl tx)), (znw, .inl (cy 0, 164, .inl nw)), (ztr, .inl (cy 0, 164, .inl tr)), (zdi, .inl (cy 0, 2296, .inl di)), (zkp, .inl (cy 0, 328, .inl kp)), (zik, .inl (cy 1, 2, .inl ik))]) (QWi g (wA [(h0, .inr (6, [.int rf, .ref ztx, .int sz, .ref znw, .ref ztr, .ref zdi, .int ac, .ref zkp, .ref zik, .int sp, .int ou])), (ztx, .inl (cy 0, 120, .inl tx)), (znw, .inl (cy 0, 164, .inl nw)), (ztr, .inl (cy 0, 164, .inl tr)), (zdi, .inl (cy 0, 2296, .inl di)), (zkp, .inl (cy 0, 328, .inl kp)), (zik, .inl (cy 1, 2, .inl ik))]) res.1 [(h0, .inr (6, [.int res.2.1, .ref ztx, .int sz, .ref znw, .ref ztr, .ref zdi, .int ac, .ref zkp, .ref zik, .int sp, .int ou])), (ztx, .inl (cy 0, 120, .inl tx)), (znw, .inl (cy 0, 164, .inl nw)), (ztr, .inl (cy 0, 164, .inl res.2.2)), (zdi, .inl (cy 0, 2296, .inl di)), (zkp, .inl (cy 0, 328, .inl kp)), (zik, .inl (cy 1, 2, .inl ik))]) 0 0 (wA [(h0, .inr (6, [.int rf, .ref ztx, .int sz, .ref znw, .ref ztr, .ref zdi, .int ac, .ref zkp, .ref zik, .int sp, .int ou])), (ztx, .inl (cy 0, 120, .inl tx)), (znw, .inl (cy 0, 164, .inl nw)), (ztr, .inl (cy 0, 164, .inl tr)), (zdi, .inl (cy 0, 2296, .inl di)), (zkp, .inl (cy 0, 328, .inl kp)), (zik, .inl (cy 1, 2, .inl ik))]) := by
  refine m_ofV (cc := cX8_would) (nL := 4) (ret := (some .int)) (B := (wA [(h0, .inr (6, [.int rf, .ref ztx, .int sz, .ref znw, .ref ztr, .ref zdi, .int ac, .ref zkp, .ref zik, .int sp, .int ou])), (ztx, .inl (cy 0, 120, .inl tx)), (znw, .inl (cy 0, 164, .inl nw)), (ztr, .inl (cy 0, 164, .inl tr)), (zdi, .inl (cy 0, 2296, .inl di)), (zkp, .inl (cy 0, 328, .inl kp)), (zik, .inl (cy 1, 2, .inl ik))])) RX8 rfl (by decide) rfl [(0, .ref h0), (1, .int x1), (2, .int x2)] rfl (Nat.le_of_ble_eq_true rfl) (wA.self) ?_
  intro p e s m args below meth c hC hr
  generalize (wA [(h0, .inr (6, [.int rf, .ref ztx, .int sz, .ref znw, .ref ztr, .ref zdi, .int ac, .ref zkp, .ref zik, .int sp, .int ou])), (ztx, .inl (cy 0, 120, .inl tx)), (znw, .inl (cy 0, 164, .inl nw)), (ztr, .inl (cy 0, 164, .inl tr)), (zdi, .inl (cy 0, 2296, .inl di)), (zkp, .inl (cy 0, 328, .inl kp)), (zik, .inl (cy 1, 2, .inl ik))]) = A
  unfold pX8_would at h
  refine v_aload_n hC dX8_would_0 rfl 0 rfl rfl ?_
  refine v_aload_n hC dX8_would_1 rfl 0 rfl rfl ?_
  refine v_get hC iX8_would_X8 0 rfl rfl 3 (by decide) kX8_would_13 rfl rfl dX8_would_2 rfl ?_
  refine v_iload_n hC dX8_would_5 rfl 1 rfl rfl ?_
  obtain ⟨v1, hv1, h⟩ := bind_g h
  refine v_callSri hC (n := 2) (st := [.ref h0]) (mX8_isScene l g cy znw nw x1 hv1) gX8_would_X8_isScene rfl rfl rfl (by decide +kernel) ⟨Nat.le_of_ble_eq_true rfl, Nat.le_of_ble_eq_true rfl⟩ [2] rfl rfl rfl rfl (Nat.le_of_ble_eq_true rfl) rfl ⟨Nat.zero_le _, Nat.zero_le _⟩ dX8_would_6 rfl ?_
  refine v_if_ne hC (tgt := 16) dX8_would_9 (by decide) rfl (fun c => ?_) (fun c => ?_)
  · have h := ite_f c h
    refine v_iload_n hC dX8_would_16 rfl 2 rfl rfl ?_
    refine v_i2l hC dX8_would_17 rfl ?_
    refine v_lconst hC (v := 0) dX8_would_18 rfl rfl ?_
    refine v_ldc2 hC (v := 3) dX8_would_19 kX8_would_106 rfl ?_
    obtain ⟨v2, hv2, h⟩ := bind_g h
    refine v_callSri hC (n := 3) (st := [.ref h0]) (mX8_in l g cy x2.toInt64 0 3 hv2) gX8_would_X8_in rfl rfl rfl (by decide +kernel) ⟨Nat.le_of_ble_eq_true rfl, Nat.le_of_ble_eq_true rfl⟩ [] rfl rfl rfl rfl (Nat.le_of_ble_eq_true rfl) rfl ⟨Nat.zero_le _, Nat.zero_le _⟩ dX8_would_22 rfl ?_
    refine v_if_eq hC (tgt := 32) dX8_would_25 (by decide) rfl (fun c => ?_) (fun c => ?_)
    · have h := ite_t c h
      refine v_iconst hC (v := (nI 2)) dX8_would_32 (by decide) rfl ?_
      exact bX8_would_33 hC hr _ _ _ _ _ _ _ _ _ _ _ _ _ _ h
    · have h := ite_f c h
      refine v_iconst hC (v := (nI 0)) dX8_would_28 (by decide) rfl ?_
      refine v_goto hC (tgt := 33) dX8_would_29 (by decide) ?_
      exact bX8_would_33 hC hr _ _ _ _ _ _ _ _ _ _ _ _ _ _ h
  · have h := ite_t c h
    refine v_iconst hC (v := (nI 1)) dX8_would_12 (by decide) rfl ?_
    refine v_goto hC (tgt := 33) dX8_would_13 (by decide) ?_
    exact bX8_would_33 hC hr _ _ _ _ _ _ _ _ _ _ _ _ _ _ h
theorem kX8_why_13 : Cond.fieldLink RX8 13 "CrowdFacesModel" "now" "[I" ∈ wsX8_why := by decide +kernel
theorem iX8_why_X8 : ∀ w ∈ wsX80, w ∈ wsX8_why := by decide +kernel
def pX8_why_153 (rf : Int32) (nw : Nat → Int32) (s0 : Int32) : Option (Int32 × Int32) := some (s0, rf)
def pX8_why_28 (rf : Int32) (nw : Nat → Int32) (y1 : Int32) (y2 : Int32) (s0 : Int32) : Option (Int32 × Int32) := (pX8_refused rf s0).bind fun v1 => if v1.1 = 0 then (pX8_fits nw y1 y2).bind fun v2 => if v2 = 0 then some ((nI 1), v1.2) else (pX8_hasTime nw y1 y2).bind fun v3 => if v3 = 0 then some ((nI 2), v1.2) else (pX8_seen nw y1 (nI 0)).bind fun v4 => (pX8_of nw y2 (nI 1)).bind fun v5 => (pX8_has v4 v5).bind fun v6 => if v6 = 0 then (pX8_canShoot nw y1).bind fun v7 => if v7 = 0 then some ((nI 4), v1.2) else (pX8_choose nw y1).bind fun v8 => (pX8_has v8 y2).bind fun v9 => if v9 = 0 then (pX8_facesOf nw v8).bind fun v10 => (pX8_of nw y2 (nI 1)).bind fun v11 => (pX8_has v10 v11).bind fun v12 => if v12 = 0 then pX8_why_153 v1.2 nw (nI 6) else pX8_why_153 v1.2 nw (nI 5) else pX8_why_153 v1.2 nw (nI 0) else some ((nI 3), v1.2) else some ((nI 0), v1.2)
def pX8_why_27 (rf : Int32) (nw : Nat → Int32) (y1 : Int32) (y2 : Int32) : Option (Int32 × Int32) := pX8_why_28 rf nw y1 y2 (nI 1)
def pX8_why (rf : Int32) (nw : Nat → Int32) (x1 : Int32) (x2 : Int32) : Option (Int32 × Int32) := (pX8_isScene nw x1).bind fun v1 => if v1 = 0 then pX8_why_27 rf nw x1 x2 else (pX8_isExtra nw x2).bind fun v2 => if v2 = 0 then pX8_why_27 rf nw x1 x2 else pX8_why_28 rf nw x1 x2 (nI 0)
abbrev rmX8_why : Room := { frames := 7, cells := 0, slots := 0, locals := 161 }
set_option maxHeartbeats 4000000 in
set_option maxRecDepth 100000 in
theorem bX8_why_153 {p : Program} {l : Launch} {e : Env} {s : State} {m : MethodId} {args : Array Value} {below : List Frame} {meth : Method} {c : Code} {g : va_G} {cy : Nat → ClassId} (hC : CX p s m args meth c g cy 4 cX8_why wsX8_why RX8) (hr : meth.sig.returnType = (some .int)) {h0 ztx znw ztr zdi zkp zik : Nat} {A : Nat → Prop} {res : Int32 × Int32} : ∀ (rf : Int32) (sz : Int32) (ac : Int32) (sp : Int32) (ou : Int32) (tx : Nat → Int32) (nw : Nat → Int32) (tr : Nat → Int32) (di : Nat → Int32) (kp : Nat → Int32) (ik : Nat → Int32) (s0 : Int32)(h : pX8_why_153 rf nw s0 = some res), V p l e (headSpec wsX8_why rmX8_why).room s m args below meth c g 4 0 0 (MQ below (QWi g A res.1 [(h0, .inr (6, [.int res.2, .ref ztx, .int sz, .ref znw, .ref ztr, .ref zdi, .int ac, .ref zkp, .ref zik, .int sp, .int ou])), (ztx, .inl (cy 0, 120, .inl tx)), (znw, .inl (cy 0, 164, .inl nw)), (ztr, .inl (cy 0, 164, .inl tr)), (zdi, .inl (cy 0, 2296, .inl di)), (zkp, .inl (cy 0, 328, .inl kp)), (zik, .inl (cy 1, 2, .inl ik))]) args s 0 0 A) A A [(h0, .inr (6, [.int rf, .ref ztx, .int sz, .ref znw, .ref ztr, .ref zdi, .int ac, .ref zkp, .ref zik, .int sp, .int ou])), (ztx, .inl (cy 0, 120, .inl tx)), (znw, .inl (cy 0, 164, .inl nw)), (ztr, .inl (cy 0, 164, .inl tr)), (zdi, .inl (cy 0, 2296, .inl di)), (zkp, .inl (cy 0, 328, .inl kp)), (zik, .inl (cy 1, 2, .inl ik))] 153 [] [.int s0] := by
  intro rf sz ac sp ou tx nw tr di kp ik s0 h
  unfold pX8_why_153 at h
  obtain rfl := Option.some.inj h
  exact v_irw hC hr rfl rfl dX8_why_153
set_option maxHeartbeats 4000000 in
set_option maxRecDepth 100000 in
theorem bX8_why_28 {p : Program} {l : Launch} {e : Env} {s : State} {m : MethodId} {args : Array Value} {below : List Frame} {meth : Method} {c : Code} {g : va_G} {cy : Nat → ClassId} (hC : CX p s m args meth c g cy 4 cX8_why wsX8_why RX8) (hr : meth.sig.returnType = (some .int)) {h0 ztx znw ztr zdi zkp zik : Nat} {A : Nat → Prop} {res : Int32 × Int32} : ∀ (rf : Int32) (sz : Int32) (ac : Int32) (sp : Int32) (ou : Int32) (tx : Nat → Int32) (nw : Nat → Int32) (tr : Nat → Int32) (di : Nat → Int32) (kp : Nat → Int32) (ik : Nat → Int32) (y1 : Int32) (y2 : Int32) (s0 : Int32)(h : pX8_why_28 rf nw y1 y2 s0 = some res), V p l e (headSpec wsX8_why rmX8_why).room s m args below meth c g 4 0 0 (MQ below (QWi g A res.1 [(h0, .inr (6, [.int res.2, .ref ztx, .int sz, .ref znw, .ref ztr, .ref zdi, .int ac, .ref zkp, .ref zik, .int sp, .int ou])), (ztx, .inl (cy 0, 120, .inl tx)), (znw, .inl (cy 0, 164, .inl nw)), (ztr, .inl (cy 0, 164, .inl tr)), (zdi, .inl (cy 0, 2296, .inl di)), (zkp, .inl (cy 0, 328, .inl kp)), (zik, .inl (cy 1, 2, .inl ik))]) args s 0 0 A) A A [(h0, .inr (6, [.int rf, .ref ztx, .int sz, .ref znw, .ref ztr, .ref zdi, .int ac, .ref zkp, .ref zik, .int sp, .int ou])), (ztx, .inl (cy 0, 120, .inl tx)), (znw, .inl (cy 0, 164, .inl nw)), (ztr, .inl (cy 0, 164, .inl tr)), (zdi, .inl (cy 0, 2296, .inl di)), (zkp, .inl (cy 0, 328, .inl kp)), (zik, .inl (cy 1, 2, .inl ik))] 28 [(0, .ref h0), (1, .int y1), (2, .int y2)] [.int s0, .ref h0] := by
  intro rf sz ac sp ou tx nw tr di kp ik y1 y2 s0 h
  unfold pX8_why_28 at h
  obtain ⟨v1, hv1, h⟩ := bind_g h
  refine v_callVwi hC (n := 1) (st := []) [(h0, .inr (6, [.int v1.2, .ref ztx, .int sz, .ref znw, .ref ztr, .ref zdi, .int ac, .ref zkp, .ref zik, .int sp, .int ou])), (ztx, .inl (cy 0, 120, .inl tx)), (znw, .inl (cy 0, 164, .inl nw)), (ztr, .inl (cy 0, 164, .inl tr)), (zdi, .inl (cy 0, 2296, .inl di)), (zkp, .inl (cy 0, 328, .inl kp)), (zik, .inl (cy 1, 2, .inl ik))] _ (mX8_refused l g cy h0 ztx znw ztr zdi zkp zik rf sz ac sp ou tx nw tr di kp ik s0 hv1) gX8_why_X8_refused rfl rfl rfl (by decide +kernel) ⟨Nat.le_of_ble_eq_true rfl, Nat.le_of_ble_eq_true rfl⟩ 0 rfl rfl [0, 1, 2, 3, 4, 5, 6] [] rfl rfl rfl rfl rfl rfl rfl rfl rfl (Nat.le_of_ble_eq_true rfl) rfl ⟨Nat.zero_le _, Nat.zero_le _⟩ dX8_why_28 rfl ?_
  refine v_if_eq hC (tgt := 36) dX8_why_31 (by decide) rfl (fun c => ?_) (fun c => ?_)
  · have h := ite_t c h
    refine v_aload_n hC dX8_why_36 rfl 0 rfl rfl ?_
    refine v_get hC iX8_why_X8 0 rfl rfl 3 (by decide) kX8_why_13 rfl rfl dX8_why_37 rfl ?_
    refine v_iload_n hC dX8_why_40 rfl 1 rfl rfl ?_
    refine v_iload_n hC dX8_why_41 rfl 2 rfl rfl ?_
    obtain ⟨v2, hv2, h⟩ := bind_g h
    refine v_callSri hC (n := 3) (st := []) (mX8_fits l g cy znw nw y1 y2 hv2) gX8_why_X8_fits rfl rfl rfl (by decide +kernel) ⟨Nat.le_of_ble_eq_true rfl, Nat.le_of_ble_eq_true rfl⟩ [2] rfl rfl rfl rfl (Nat.le_of_ble_eq_true rfl) rfl ⟨Nat.zero_le _, Nat.zero_le _⟩ dX8_why_42 rfl ?_
    refine v_if_ne hC (tgt := 50) dX8_why_45 (by decide) rfl (fun c => ?_) (fun c => ?_)
    · have h := ite_f c h
      refine v_aload_n hC dX8_why_50 rfl 0 rfl rfl ?_
      refine v_get hC iX8_why_X8 0 rfl rfl 3 (by decide) kX8_why_13 rfl rfl dX8_why_51 rfl ?_
      refine v_iload_n hC dX8_why_54 rfl 1 rfl rfl ?_
      refine v_iload_n hC dX8_why_55 rfl 2 rfl rfl ?_
      obtain ⟨v3, hv3, h⟩ := bind_g h
      refine v_callSri hC (n := 3) (st := []) (mX8_hasTime l g cy znw nw y1 y2 hv3) gX8_why_X8_hasTime rfl rfl rfl (by decide +kernel) ⟨Nat.le_of_ble_eq_true rfl, Nat.le_of_ble_eq_true rfl⟩ [2] rfl rfl rfl rfl (Nat.le_of_ble_eq_true rfl) rfl ⟨Nat.zero_le _, Nat.zero_le _⟩ dX8_why_56 rfl ?_
      refine v_if_ne hC (tgt := 64) dX8_why_59 (by decide) rfl (fun c => ?_) (fun c => ?_)
      · have h := ite_f c h
        refine v_aload_n hC dX8_why_64 rfl 0 rfl rfl ?_
        refine v_get hC iX8_why_X8 0 rfl rfl 3 (by decide) kX8_why_13 rfl rfl dX8_why_65 rfl ?_
        refine v_iload_n hC dX8_why_68 rfl 1 rfl rfl ?_
        refine v_iconst hC (v := (nI 0)) dX8_why_69 (by decide) rfl ?_
        obtain ⟨v4, hv4, h⟩ := bind_g h
        refine v_callSri hC (n := 3) (st := []) (mX8_seen l g cy znw nw y1 (nI 0) hv4) gX8_why_X8_seen rfl rfl rfl (by decide +kernel) ⟨Nat.le_of_ble_eq_true rfl, Nat.le_of_ble_eq_true rfl⟩ [2] rfl rfl rfl rfl (Nat.le_of_ble_eq_true rfl) rfl ⟨Nat.zero_le _, Nat.zero_le _⟩ dX8_why_70 rfl ?_
        refine v_aload_n hC dX8_why_73 rfl 0 rfl rfl ?_
        refine v_get hC iX8_why_X8 0 rfl rfl 3 (by decide) kX8_why_13 rfl rfl dX8_why_74 rfl ?_
        refine v_iload_n hC dX8_why_77 rfl 2 rfl rfl ?_
        refine v_iconst hC (v := (nI 1)) dX8_why_78 (by decide) rfl ?_
        obtain ⟨v5, hv5, h⟩ := bind_g h
        refine v_callSri hC (n := 3) (st := [.int v4]) (mX8_of l g cy znw nw y2 (nI 1) hv5) gX8_why_X8_of rfl rfl rfl (by decide +kernel) ⟨Nat.le_of_ble_eq_true rfl, Nat.le_of_ble_eq_true rfl⟩ [2] rfl rfl rfl rfl (Nat.le_of_ble_eq_true rfl) rfl ⟨Nat.zero_le _, Nat.zero_le _⟩ dX8_why_79 rfl ?_
        obtain ⟨v6, hv6, h⟩ := bind_g h
        refine v_callSri hC (n := 2) (st := []) (mX8_has l g cy v4 v5 hv6) gX8_why_X8_has rfl rfl rfl (by decide +kernel) ⟨Nat.le_of_ble_eq_true rfl, Nat.le_of_ble_eq_true rfl⟩ [] rfl rfl rfl rfl (Nat.le_of_ble_eq_true rfl) rfl ⟨Nat.zero_le _, Nat.zero_le _⟩ dX8_why_82 rfl ?_
        refine v_if_eq hC (tgt := 90) dX8_why_85 (by decide) rfl (fun c => ?_) (fun c => ?_)
        · have h := ite_t c h
          refine v_aload_n hC dX8_why_90 rfl 0 rfl rfl ?_
          refine v_get hC iX8_why_X8 0 rfl rfl 3 (by decide) kX8_why_13 rfl rfl dX8_why_91 rfl ?_
          refine v_iload_n hC dX8_why_94 rfl 1 rfl rfl ?_
          obtain ⟨v7, hv7, h⟩ := bind_g h
          refine v_callSri hC (n := 2) (st := []) (mX8_canShoot l g cy znw nw y1 hv7) gX8_why_X8_canShoot rfl rfl rfl (by decide +kernel) ⟨Nat.le_of_ble_eq_true rfl, Nat.le_of_ble_eq_true rfl⟩ [2] rfl rfl rfl rfl (Nat.le_of_ble_eq_true rfl) rfl ⟨Nat.zero_le _, Nat.zero_le _⟩ dX8_why_95 rfl ?_
          refine v_if_ne hC (tgt := 103) dX8_why_98 (by decide) rfl (fun c => ?_) (fun c => ?_)
          · have h := ite_f c h
            refine v_aload_n hC dX8_why_103 rfl 0 rfl rfl ?_
            refine v_get hC iX8_why_X8 0 rfl rfl 3 (by decide) kX8_why_13 rfl rfl dX8_why_104 rfl ?_
            refine v_iload_n hC dX8_why_107 rfl 1 rfl rfl ?_
            obtain ⟨v8, hv8, h⟩ := bind_g h
            refine v_callSri hC (n := 2) (st := []) (mX8_choose l g cy znw nw y1 hv8) gX8_why_X8_choose rfl rfl rfl (by decide +kernel) ⟨Nat.le_of_ble_eq_true rfl, Nat.le_of_ble_eq_true rfl⟩ [2] rfl rfl rfl rfl (Nat.le_of_ble_eq_true rfl) rfl ⟨Nat.zero_le _, Nat.zero_le _⟩ dX8_why_108 rfl ?_
            refine v_istore_n hC dX8_why_111 rfl (by decide) [(3, .int v8), (0, .ref h0), (1, .int y1), (2, .int y2)] rfl rfl ?_
            refine v_iload_n hC dX8_why_112 rfl 0 rfl rfl ?_
            refine v_iload_n hC dX8_why_113 rfl 3 rfl rfl ?_
            obtain ⟨v9, hv9, h⟩ := bind_g h
            refine v_callSri hC (n := 2) (st := []) (mX8_has l g cy v8 y2 hv9) gX8_why_X8_has rfl rfl rfl (by decide +kernel) ⟨Nat.le_of_ble_eq_true rfl, Nat.le_of_ble_eq_true rfl⟩ [] rfl rfl rfl rfl (Nat.le_of_ble_eq_true rfl) rfl ⟨Nat.zero_le _, Nat.zero_le _⟩ dX8_why_114 rfl ?_
            refine v_if_eq hC (tgt := 124) dX8_why_117 (by decide) rfl (fun c => ?_) (fun c => ?_)
            · have h := ite_t c h
              refine v_aload_n hC dX8_why_124 rfl 1 rfl rfl ?_
              refine v_get hC iX8_why_X8 0 rfl rfl 3 (by decide) kX8_why_13 rfl rfl dX8_why_125 rfl ?_
              refine v_iload_n hC dX8_why_128 rfl 0 rfl rfl ?_
              obtain ⟨v10, hv10, h⟩ := bind_g h
              refine v_callSri hC (n := 2) (st := []) (mX8_facesOf l g cy znw nw v8 hv10) gX8_why_X8_facesOf rfl rfl rfl (by decide +kernel) ⟨Nat.le_of_ble_eq_true rfl, Nat.le_of_ble_eq_true rfl⟩ [2] rfl rfl rfl rfl (Nat.le_of_ble_eq_true rfl) rfl ⟨Nat.zero_le _, Nat.zero_le _⟩ dX8_why_129 rfl ?_
              refine v_aload_n hC dX8_why_132 rfl 1 rfl rfl ?_
              refine v_get hC iX8_why_X8 0 rfl rfl 3 (by decide) kX8_why_13 rfl rfl dX8_why_133 rfl ?_
              refine v_iload_n hC dX8_why_136 rfl 3 rfl rfl ?_
              refine v_iconst hC (v := (nI 1)) dX8_why_137 (by decide) rfl ?_
              obtain ⟨v11, hv11, h⟩ := bind_g h
              refine v_callSri hC (n := 3) (st := [.int v10]) (mX8_of l g cy znw nw y2 (nI 1) hv11) gX8_why_X8_of rfl rfl rfl (by decide +kernel) ⟨Nat.le_of_ble_eq_true rfl, Nat.le_of_ble_eq_true rfl⟩ [2] rfl rfl rfl rfl (Nat.le_of_ble_eq_true rfl) rfl ⟨Nat.zero_le _, Nat.zero_le _⟩ dX8_why_138 rfl ?_
              obtain ⟨v12, hv12, h⟩ := bind_g h
              refine v_callSri hC (n := 2) (st := []) (mX8_has l g cy v10 v11 hv12) gX8_why_X8_has rfl rfl rfl (by decide +kernel) ⟨Nat.le_of_ble_eq_true rfl, Nat.le_of_ble_eq_true rfl⟩ [] rfl rfl rfl rfl (Nat.le_of_ble_eq_true rfl) rfl ⟨Nat.zero_le _, Nat.zero_le _⟩ dX8_why_141 rfl ?_
              refine v_if_eq hC (tgt := 151) dX8_why_144 (by decide) rfl (fun c => ?_) (fun c => ?_)
              · have h := ite_t c h
                refine v_bipush hC (v := (nI 6)) dX8_why_151 (by decide) rfl ?_
                exact v_sub [] (lv' := []) rfl (bX8_why_153 hC hr _ _ _ _ _ _ _ _ _ _ _ _ h)
              · have h := ite_f c h
                refine v_iconst hC (v := (nI 5)) dX8_why_147 (by decide) rfl ?_
                refine v_goto hC (tgt := 153) dX8_why_148 (by decide) ?_
                exact v_sub [] (lv' := []) rfl (bX8_why_153 hC hr _ _ _ _ _ _ _ _ _ _ _ _ h)
            · have h := ite_f c h
              refine v_iconst hC (v := (nI 0)) dX8_why_120 (by decide) rfl ?_
              refine v_goto hC (tgt := 153) dX8_why_121 (by decide) ?_
              exact v_sub [] (lv' := []) rfl (bX8_why_153 hC hr _ _ _ _ _ _ _ _ _ _ _ _ h)
          · have h := ite_t c h
            refine v_iconst hC (v := (nI 4)) dX8_why_101 (by decide) rfl ?_
            obtain rfl := Option.some.inj h
            exact v_irw hC hr rfl rfl dX8_why_102
        · have h := ite_f c h
          refine v_iconst hC (v := (nI 3)) dX8_why_88 (by decide) rfl ?_
          obtain rfl := Option.some.inj h
          exact v_irw hC hr rfl rfl dX8_why_89
      · have h := ite_t c h
        refine v_iconst hC (v := (nI 2)) dX8_why_62 (by decide) rfl ?_
        obtain rfl := Option.some.inj h
        exact v_irw hC hr rfl rfl dX8_why_63
    · have h := ite_t c h
      refine v_iconst hC (v := (nI 1)) dX8_why_48 (by decide) rfl ?_
      obtain rfl := Option.some.inj h
      exact v_irw hC hr rfl rfl dX8_why_49
  · have h := ite_f c h
    refine v_iconst hC (v := (nI 0)) dX8_why_34 (by decide) rfl ?_
    obtain rfl := Option.some.inj h
    exact v_irw hC hr rfl rfl dX8_why_35
set_option maxHeartbeats 4000000 in
set_option maxRecDepth 100000 in
theorem bX8_why_27 {p : Program} {l : Launch} {e : Env} {s : State} {m : MethodId} {args : Array Value} {below : List Frame} {meth : Method} {c : Code} {g : va_G} {cy : Nat → ClassId} (hC : CX p s m args meth c g cy 4 cX8_why wsX8_why RX8) (hr : meth.sig.returnType = (some .int)) {h0 ztx znw ztr zdi zkp zik : Nat} {A : Nat → Prop} {res : Int32 × Int32} : ∀ (rf : Int32) (sz : Int32) (ac : Int32) (sp : Int32) (ou : Int32) (tx : Nat → Int32) (nw : Nat → Int32) (tr : Nat → Int32) (di : Nat → Int32) (kp : Nat → Int32) (ik : Nat → Int32) (y1 : Int32) (y2 : Int32)(h : pX8_why_27 rf nw y1 y2 = some res), V p l e (headSpec wsX8_why rmX8_why).room s m args below meth c g 4 0 0 (MQ below (QWi g A res.1 [(h0, .inr (6, [.int res.2, .ref ztx, .int sz, .ref znw, .ref ztr, .ref zdi, .int ac, .ref zkp, .ref zik, .int sp, .int ou])), (ztx, .inl (cy 0, 120, .inl tx)), (znw, .inl (cy 0, 164, .inl nw)), (ztr, .inl (cy 0, 164, .inl tr)), (zdi, .inl (cy 0, 2296, .inl di)), (zkp, .inl (cy 0, 328, .inl kp)), (zik, .inl (cy 1, 2, .inl ik))]) args s 0 0 A) A A [(h0, .inr (6, [.int rf, .ref ztx, .int sz, .ref znw, .ref ztr, .ref zdi, .int ac, .ref zkp, .ref zik, .int sp, .int ou])), (ztx, .inl (cy 0, 120, .inl tx)), (znw, .inl (cy 0, 164, .inl nw)), (ztr, .inl (cy 0, 164, .inl tr)), (zdi, .inl (cy 0, 2296, .inl di)), (zkp, .inl (cy 0, 328, .inl kp)), (zik, .inl (cy 1, 2, .inl ik))] 27 [(0, .ref h0), (1, .int y1), (2, .int y2)] [.ref h0] := by
  intro rf sz ac sp ou tx nw tr di kp ik y1 y2 h
  unfold pX8_why_27 at h
  refine v_iconst hC (v := (nI 1)) dX8_why_27 (by decide) rfl ?_
  exact bX8_why_28 hC hr _ _ _ _ _ _ _ _ _ _ _ _ _ _ h
set_option maxHeartbeats 4000000 in
set_option maxRecDepth 100000 in
theorem mX8_why (l : Launch) (g : va_G) (cy : Nat → ClassId) (h0 ztx znw ztr zdi zkp zik : Nat) (rf : Int32) (sz : Int32) (ac : Int32) (sp : Int32) (ou : Int32) (tx : Nat → Int32) (nw : Nat → Int32) (tr : Nat → Int32) (di : Nat → Int32) (kp : Nat → Int32) (ik : Nat → Int32) (x1 : Int32) (x2 : Int32) {res : Int32 × Int32} (h : pX8_why rf nw x1 x2 = some res) : Met l yX8_why wsX8_why rmX8_why (PW [.ref h0, .int x1, .int x2] g cy [(h0, .inr (6, [.int rf, .ref ztx, .int sz, .ref znw, .ref ztr, .ref zdi, .int ac, .ref zkp, .ref zik, .int sp, .int ou])), (ztx, .inl (cy 0, 120, .inl tx)), (znw, .inl (cy 0, 164, .inl nw)), (ztr, .inl (cy 0, 164, .inl tr)), (zdi, .inl (cy 0, 2296, .inl di)), (zkp, .inl (cy 0, 328, .inl kp)), (zik, .inl (cy 1, 2, .inl ik))]) (QWi g (wA [(h0, .inr (6, [.int rf, .ref ztx, .int sz, .ref znw, .ref ztr, .ref zdi, .int ac, .ref zkp, .ref zik, .int sp, .int ou])), (ztx, .inl (cy 0, 120, .inl tx)), (znw, .inl (cy 0, 164, .inl nw)), (ztr, .inl (cy 0, 164, .inl tr)), (zdi, .inl (cy 0, 2296, .inl di)), (zkp, .inl (cy 0, 328, .inl kp)), (zik, .inl (cy 1, 2, .inl ik))]) res.1 [(h0, .inr (6, [.int res.2, .ref ztx, .int sz, .ref znw, .ref ztr, .ref zdi, .int ac, .ref zkp, .ref zik, .int sp, .int ou])), (ztx, .inl (cy 0, 120, .inl tx)), (znw, .inl (cy 0, 164, .inl nw)), (ztr, .inl (cy 0, 164, .inl tr)), (zdi, .inl (cy 0, 2296, .inl di)), (zkp, .inl (cy 0, 328, .inl kp)), (zik, .inl (cy 1, 2, .inl ik))]) 0 0 (wA [(h0, .inr (6, [.int rf, .ref ztx, .int sz, .ref znw, .ref ztr, .ref zdi, .int ac, .ref zkp, .ref zik, .int sp, .int ou])), (ztx, .inl (cy 0, 120, .inl tx)), (znw, .inl (cy 0, 164, .inl nw)), (ztr, .inl (cy 0, 164, .inl tr)), (zdi, .inl (cy 0, 2296, .inl di)), (zkp, .inl (cy 0, 328, .inl kp)), (zik, .inl (cy 1, 2, .inl ik))]) := by
  refine m_ofV (cc := cX8_why) (nL := 4) (ret := (some .int)) (B := (wA [(h0, .inr (6, [.int rf, .ref ztx, .int sz, .ref znw, .ref ztr, .ref zdi, .int ac, .ref zkp, .ref zik, .int sp, .int ou])), (ztx, .inl (cy 0, 120, .inl tx)), (znw, .inl (cy 0, 164, .inl nw)), (ztr, .inl (cy 0, 164, .inl tr)), (zdi, .inl (cy 0, 2296, .inl di)), (zkp, .inl (cy 0, 328, .inl kp)), (zik, .inl (cy 1, 2, .inl ik))])) RX8 rfl (by decide) rfl [(0, .ref h0), (1, .int x1), (2, .int x2)] rfl (Nat.le_of_ble_eq_true rfl) (wA.self) ?_
  intro p e s m args below meth c hC hr
  generalize (wA [(h0, .inr (6, [.int rf, .ref ztx, .int sz, .ref znw, .ref ztr, .ref zdi, .int ac, .ref zkp, .ref zik, .int sp, .int ou])), (ztx, .inl (cy 0, 120, .inl tx)), (znw, .inl (cy 0, 164, .inl nw)), (ztr, .inl (cy 0, 164, .inl tr)), (zdi, .inl (cy 0, 2296, .inl di)), (zkp, .inl (cy 0, 328, .inl kp)), (zik, .inl (cy 1, 2, .inl ik))]) = A
  unfold pX8_why at h
  refine v_aload_n hC dX8_why_0 rfl 0 rfl rfl ?_
  refine v_aload_n hC dX8_why_1 rfl 0 rfl rfl ?_
  refine v_get hC iX8_why_X8 0 rfl rfl 3 (by decide) kX8_why_13 rfl rfl dX8_why_2 rfl ?_
  refine v_iload_n hC dX8_why_5 rfl 1 rfl rfl ?_
  obtain ⟨v1, hv1, h⟩ := bind_g h
  refine v_callSri hC (n := 2) (st := [.ref h0]) (mX8_isScene l g cy znw nw x1 hv1) gX8_why_X8_isScene rfl rfl rfl (by decide +kernel) ⟨Nat.le_of_ble_eq_true rfl, Nat.le_of_ble_eq_true rfl⟩ [2] rfl rfl rfl rfl (Nat.le_of_ble_eq_true rfl) rfl ⟨Nat.zero_le _, Nat.zero_le _⟩ dX8_why_6 rfl ?_
  refine v_if_eq hC (tgt := 27) dX8_why_9 (by decide) rfl (fun c => ?_) (fun c => ?_)
  · have h := ite_t c h
    exact bX8_why_27 hC hr _ _ _ _ _ _ _ _ _ _ _ _ _ h
  · have h := ite_f c h
    refine v_aload_n hC dX8_why_12 rfl 0 rfl rfl ?_
    refine v_get hC iX8_why_X8 0 rfl rfl 3 (by decide) kX8_why_13 rfl rfl dX8_why_13 rfl ?_
    refine v_iload_n hC dX8_why_16 rfl 2 rfl rfl ?_
    obtain ⟨v2, hv2, h⟩ := bind_g h
    refine v_callSri hC (n := 2) (st := [.ref h0]) (mX8_isExtra l g cy znw nw x2 hv2) gX8_why_X8_isExtra rfl rfl rfl (by decide +kernel) ⟨Nat.le_of_ble_eq_true rfl, Nat.le_of_ble_eq_true rfl⟩ [2] rfl rfl rfl rfl (Nat.le_of_ble_eq_true rfl) rfl ⟨Nat.zero_le _, Nat.zero_le _⟩ dX8_why_17 rfl ?_
    refine v_if_eq hC (tgt := 27) dX8_why_20 (by decide) rfl (fun c => ?_) (fun c => ?_)
    · have h := ite_t c h
      exact bX8_why_27 hC hr _ _ _ _ _ _ _ _ _ _ _ _ _ h
    · have h := ite_f c h
      refine v_iconst hC (v := (nI 0)) dX8_why_23 (by decide) rfl ?_
      refine v_goto hC (tgt := 28) dX8_why_24 (by decide) ?_
      exact bX8_why_28 hC hr _ _ _ _ _ _ _ _ _ _ _ _ _ _ h
def pX8_price (r : Nat → Int32) (x1 : Int32) : Option (Int32 × (Nat → Int32)) := (pX8_canShoot r x1).bind fun v1 => if v1 = 0 then some ((-1), r) else (pX8_spent r).bind fun v2 => (pX8_shootOn r x1).bind fun v3 => (pX8_spent v3.2).bind fun v4 => some ((v4 - v2), v3.2)
abbrev rmX8_price : Room := { frames := 7, cells := 0, slots := 0, locals := 161 }
set_option maxHeartbeats 4000000 in
set_option maxRecDepth 100000 in
theorem mX8_price (l : Launch) (g : va_G) (cy : Nat → ClassId) (h0 : Nat) (r : Nat → Int32) (x1 : Int32) {res : Int32 × (Nat → Int32)} (h : pX8_price r x1 = some res) : Met l yX8_price wsX8_price rmX8_price (PW [.ref h0, .int x1] g cy [(h0, .inl (cy 0, 164, .inl r))]) (QWi g (wA [(h0, .inl (cy 0, 164, .inl r))]) res.1 [(h0, .inl (cy 0, 164, .inl res.2))]) 0 0 (wA [(h0, .inl (cy 0, 164, .inl r))]) := by
  refine m_ofV (cc := cX8_price) (nL := 3) (ret := (some .int)) (B := (wA [(h0, .inl (cy 0, 164, .inl r))])) RX8 rfl (by decide) rfl [(0, .ref h0), (1, .int x1)] rfl (Nat.le_of_ble_eq_true rfl) (wA.self) ?_
  intro p e s m args below meth c hC hr
  generalize (wA [(h0, .inl (cy 0, 164, .inl r))]) = A
  unfold pX8_price at h
  refine v_aload_n hC dX8_price_0 rfl 0 rfl rfl ?_
  refine v_iload_n hC dX8_price_1 rfl 1 rfl rfl ?_
  obtain ⟨v1, hv1, h⟩ := bind_g h
  refine v_callSri hC (n := 2) (st := []) (mX8_canShoot l g cy h0 r x1 hv1) gX8_price_X8_canShoot rfl rfl rfl (by decide +kernel) ⟨Nat.le_of_ble_eq_true rfl, Nat.le_of_ble_eq_true rfl⟩ [0] rfl rfl rfl rfl (Nat.le_of_ble_eq_true rfl) rfl ⟨Nat.zero_le _, Nat.zero_le _⟩ dX8_price_2 rfl ?_
  refine v_if_ne hC (tgt := 10) dX8_price_5 (by decide) rfl (fun c => ?_) (fun c => ?_)
  · have h := ite_f c h
    refine v_aload_n hC dX8_price_10 rfl 0 rfl rfl ?_
    obtain ⟨v2, hv2, h⟩ := bind_g h
    refine v_callSri hC (n := 1) (st := []) (mX8_spent l g cy h0 r hv2) gX8_price_X8_spent rfl rfl rfl (by decide +kernel) ⟨Nat.le_of_ble_eq_true rfl, Nat.le_of_ble_eq_true rfl⟩ [0] rfl rfl rfl rfl (Nat.le_of_ble_eq_true rfl) rfl ⟨Nat.zero_le _, Nat.zero_le _⟩ dX8_price_11 rfl ?_
    refine v_istore_n hC dX8_price_14 rfl (by decide) [(2, .int v2), (0, .ref h0), (1, .int x1)] rfl rfl ?_
    refine v_aload_n hC dX8_price_15 rfl 1 rfl rfl ?_
    refine v_iload_n hC dX8_price_16 rfl 2 rfl rfl ?_
    obtain ⟨v3, hv3, h⟩ := bind_g h
    refine v_callSwi hC (n := 2) (st := []) [(h0, .inl (cy 0, 164, .inl v3.2))] _ (mX8_shootOn l g cy h0 r x1 hv3) gX8_price_X8_shootOn rfl rfl rfl (by decide +kernel) ⟨Nat.le_of_ble_eq_true rfl, Nat.le_of_ble_eq_true rfl⟩ [0] [] rfl rfl rfl rfl rfl rfl rfl rfl rfl (Nat.le_of_ble_eq_true rfl) rfl ⟨Nat.zero_le _, Nat.zero_le _⟩ dX8_price_17 rfl ?_
    refine v_pop hC dX8_price_20 rfl rfl ?_
    refine v_aload_n hC dX8_price_21 rfl 1 rfl rfl ?_
    obtain ⟨v4, hv4, h⟩ := bind_g h
    refine v_callSri hC (n := 1) (st := []) (mX8_spent l g cy h0 v3.2 hv4) gX8_price_X8_spent rfl rfl rfl (by decide +kernel) ⟨Nat.le_of_ble_eq_true rfl, Nat.le_of_ble_eq_true rfl⟩ [0] rfl rfl rfl rfl (Nat.le_of_ble_eq_true rfl) rfl ⟨Nat.zero_le _, Nat.zero_le _⟩ dX8_price_22 rfl ?_
    refine v_iload_n hC dX8_price_25 rfl 0 rfl rfl ?_
    refine v_isub hC dX8_price_26 rfl ?_
    obtain rfl := Option.some.inj h
    exact v_irw hC hr rfl rfl dX8_price_27
  · have h := ite_t c h
    refine v_iconst hC (v := (-1)) dX8_price_8 (by decide) rfl ?_
    obtain rfl := Option.some.inj h
    exact v_irw hC hr rfl rfl dX8_price_9
theorem kX8_cheapest_13 : Cond.fieldLink RX8 13 "CrowdFacesModel" "now" "[I" ∈ wsX8_cheapest := by decide +kernel
theorem kX8_cheapest_16 : Cond.fieldLink RX8 16 "CrowdFacesModel" "trial" "[I" ∈ wsX8_cheapest := by decide +kernel
theorem kX8_cheapest_33 : Cond.fieldLink RX8 33 "CrowdFacesModel" "refusal" "I" ∈ wsX8_cheapest := by decide +kernel
theorem iX8_cheapest_X8 : ∀ w ∈ wsX80, w ∈ wsX8_cheapest := by decide +kernel
def pX8_cheapest_90 (kk : Int32 → (Nat → Int32) → (Nat → Int32) → Int32 → Int32 → Int32 → Option (Int32 × Int32 × (Nat → Int32))) (rf : Int32) (nw : Nat → Int32) (tr : Nat → Int32) (y1 : Int32) (y3 : Int32) (s0 : Int32) : Option (Int32 × Int32 × (Nat → Int32)) := kk rf nw tr y1 s0 (y3 + (nI 1))
def pX8_cheapest_78 (kk : Int32 → (Nat → Int32) → (Nat → Int32) → Int32 → Int32 → Int32 → Option (Int32 × Int32 × (Nat → Int32))) (rf : Int32) (nw : Nat → Int32) (tr : Nat → Int32) (y2 : Int32) (y3 : Int32) (y4 : Int32) (y5 : Int32) (s0 : Int32) : Option (Int32 × Int32 × (Nat → Int32)) := if y5 = 0 then pX8_cheapest_90 kk rf nw tr s0 y3 y2 else pX8_cheapest_90 kk rf nw tr s0 y3 y4
def pX8_cheapest_66 (kk : Int32 → (Nat → Int32) → (Nat → Int32) → Int32 → Int32 → Int32 → Option (Int32 × Int32 × (Nat → Int32))) (rf : Int32) (nw : Nat → Int32) (tr : Nat → Int32) (y1 : Int32) (y2 : Int32) (y3 : Int32) (y4 : Int32) (s0 : Int32) : Option (Int32 × Int32 × (Nat → Int32)) := if s0 = 0 then pX8_cheapest_78 kk rf nw tr y2 y3 y4 s0 y1 else pX8_cheapest_78 kk rf nw tr y2 y3 y4 s0 y3
def pX8_cheapest_61 (kk : Int32 → (Nat → Int32) → (Nat → Int32) → Int32 → Int32 → Int32 → Option (Int32 × Int32 × (Nat → Int32))) (rf : Int32) (nw : Nat → Int32) (tr : Nat → Int32) (y1 : Int32) (y2 : Int32) (y3 : Int32) (y4 : Int32) : Option (Int32 × Int32 × (Nat → Int32)) := pX8_cheapest_66 kk rf nw tr y1 y2 y3 y4 (nI 1)
def pX8_cheapest_65 (kk : Int32 → (Nat → Int32) → (Nat → Int32) → Int32 → Int32 → Int32 → Option (Int32 × Int32 × (Nat → Int32))) (rf : Int32) (nw : Nat → Int32) (tr : Nat → Int32) (y1 : Int32) (y2 : Int32) (y3 : Int32) (y4 : Int32) : Option (Int32 × Int32 × (Nat → Int32)) := pX8_cheapest_66 kk rf nw tr y1 y2 y3 y4 (nI 0)
def pX8_cheapest_11 : Nat → Int32 → (Nat → Int32) → (Nat → Int32) → Int32 → Int32 → Int32 → Option (Int32 × Int32 × (Nat → Int32))
  | 0, _, _, _, _, _, _ => none
  | k + 1, rf, nw, tr, y1, y2, y3 => if nb (nI 1) 164 = true then if (nw (nI 1).toNatClampNeg) ≤ y3 then some (y1, rf, tr) else (pX8_copyState 164 nw 164 tr (nI 0) (nI 0)).bind fun v1 => (pX8_price v1 y3).bind fun v2 => if v2.1 = (-1) then pX8_cheapest_65 (fun u0 u1 u2 u3 u4 u5 => pX8_cheapest_11 k u0 u1 u2 u3 u4 u5) rf nw v2.2 y1 y2 y3 v2.1 else if y1 = (-1) then pX8_cheapest_61 (fun u0 u1 u2 u3 u4 u5 => pX8_cheapest_11 k u0 u1 u2 u3 u4 u5) rf nw v2.2 y1 y2 y3 v2.1 else if y2 ≤ v2.1 then pX8_cheapest_65 (fun u0 u1 u2 u3 u4 u5 => pX8_cheapest_11 k u0 u1 u2 u3 u4 u5) rf nw v2.2 y1 y2 y3 v2.1 else pX8_cheapest_61 (fun u0 u1 u2 u3 u4 u5 => pX8_cheapest_11 k u0 u1 u2 u3 u4 u5) rf nw v2.2 y1 y2 y3 v2.1 else none
theorem pX8_cheapest_11_s {k : Nat} (rf : Int32) (nw : Nat → Int32) (tr : Nat → Int32) (y1 : Int32) (y2 : Int32) (y3 : Int32) : pX8_cheapest_11 (k + 1) rf nw tr y1 y2 y3 = if nb (nI 1) 164 = true then if (nw (nI 1).toNatClampNeg) ≤ y3 then some (y1, rf, tr) else (pX8_copyState 164 nw 164 tr (nI 0) (nI 0)).bind fun v1 => (pX8_price v1 y3).bind fun v2 => if v2.1 = (-1) then pX8_cheapest_65 (fun u0 u1 u2 u3 u4 u5 => pX8_cheapest_11 k u0 u1 u2 u3 u4 u5) rf nw v2.2 y1 y2 y3 v2.1 else if y1 = (-1) then pX8_cheapest_61 (fun u0 u1 u2 u3 u4 u5 => pX8_cheapest_11 k u0 u1 u2 u3 u4 u5) rf nw v2.2 y1 y2 y3 v2.1 else if y2 ≤ v2.1 then pX8_cheapest_65 (fun u0 u1 u2 u3 u4 u5 => pX8_cheapest_11 k u0 u1 u2 u3 u4 u5) rf nw v2.2 y1 y2 y3 v2.1 else pX8_cheapest_61 (fun u0 u1 u2 u3 u4 u5 => pX8_cheapest_11 k u0 u1 u2 u3 u4 u5) rf nw v2.2 y1 y2 y3 v2.1 else none := rfl
def pX8_cheapest (rf : Int32) (nw : Nat → Int32) (tr : Nat → Int32) : Option (Int32 × Int32 × (Nat → Int32)) := pX8_cheapest_11 FU (nI 0) nw tr (-1) (nI 0) (nI 0)
abbrev rmX8_cheapest : Room := { frames := 8, cells := 0, slots := 0, locals := 183 }
set_option maxHeartbeats 4000000 in
set_option maxRecDepth 100000 in
theorem bX8_cheapest_90 {p : Program} {l : Launch} {e : Env} {s : State} {m : MethodId} {args : Array Value} {below : List Frame} {meth : Method} {c : Code} {g : va_G} {cy : Nat → ClassId} (hC : CX p s m args meth c g cy 6 cX8_cheapest wsX8_cheapest RX8) (hr : meth.sig.returnType = (some .int)) {h0 ztx znw ztr zdi zkp zik : Nat} {A : Nat → Prop} {res : Int32 × Int32 × (Nat → Int32)} : ∀ (rf : Int32) (sz : Int32) (ac : Int32) (sp : Int32) (ou : Int32) (tx : Nat → Int32) (nw : Nat → Int32) (tr : Nat → Int32) (di : Nat → Int32) (kp : Nat → Int32) (ik : Nat → Int32) (y1 : Int32) (y3 : Int32) (s0 : Int32) {kk : Int32 → (Nat → Int32) → (Nat → Int32) → Int32 → Int32 → Int32 → Option (Int32 × Int32 × (Nat → Int32))} (hk : ∀ (rf : Int32) (sz : Int32) (ac : Int32) (sp : Int32) (ou : Int32) (tx : Nat → Int32) (nw : Nat → Int32) (tr : Nat → Int32) (di : Nat → Int32) (kp : Nat → Int32) (ik : Nat → Int32) (y1 : Int32) (y2 : Int32) (y3 : Int32), kk rf nw tr y1 y2 y3 = some res → V p l e (headSpec wsX8_cheapest rmX8_cheapest).room s m args below meth c g 6 0 0 (MQ below (QWi g A res.1 [(h0, .inr (6, [.int res.2.1, .ref ztx, .int sz, .ref znw, .ref ztr, .ref zdi, .int ac, .ref zkp, .ref zik, .int sp, .int ou])), (ztx, .inl (cy 0, 120, .inl tx)), (znw, .inl (cy 0, 164, .inl nw)), (ztr, .inl (cy 0, 164, .inl res.2.2)), (zdi, .inl (cy 0, 2296, .inl di)), (zkp, .inl (cy 0, 328, .inl kp)), (zik, .inl (cy 1, 2, .inl ik))]) args s 0 0 A) A A [(h0, .inr (6, [.int rf, .ref ztx, .int sz, .ref znw, .ref ztr, .ref zdi, .int ac, .ref zkp, .ref zik, .int sp, .int ou])), (ztx, .inl (cy 0, 120, .inl tx)), (znw, .inl (cy 0, 164, .inl nw)), (ztr, .inl (cy 0, 164, .inl tr)), (zdi, .inl (cy 0, 2296, .inl di)), (zkp, .inl (cy 0, 328, .inl kp)), (zik, .inl (cy 1, 2, .inl ik))] 11 [(0, .ref h0), (1, .int y1), (2, .int y2), (3, .int y3)] []) (h : pX8_cheapest_90 kk rf nw tr y1 y3 s0 = some res), V p l e (headSpec wsX8_cheapest rmX8_cheapest).room s m args below meth c g 6 0 0 (MQ below (QWi g A res.1 [(h0, .inr (6, [.int res.2.1, .ref ztx, .int sz, .ref znw, .ref ztr, .ref zdi, .int ac, .ref zkp, .ref zik, .int sp, .int ou])), (ztx, .inl (cy 0, 120, .inl tx)), (znw, .inl (cy 0, 164, .inl nw)), (ztr, .inl (cy 0, 164, .inl res.2.2)), (zdi, .inl (cy 0, 2296, .inl di)), (zkp, .inl (cy 0, 328, .inl kp)), (zik, .inl (cy 1, 2, .inl ik))]) args s 0 0 A) A A [(h0, .inr (6, [.int rf, .ref ztx, .int sz, .ref znw, .ref ztr, .ref zdi, .int ac, .ref zkp, .ref zik, .int sp, .int ou])), (ztx, .inl (cy 0, 120, .inl tx)), (znw, .inl (cy 0, 164, .inl nw)), (ztr, .inl (cy 0, 164, .inl tr)), (zdi, .inl (cy 0, 2296, .inl di)), (zkp, .inl (cy 0, 328, .inl kp)), (zik, .inl (cy 1, 2, .inl ik))] 90 [(0, .ref h0), (1, .int y1), (3, .int y3)] [.int s0] := by
  intro rf sz ac sp ou tx nw tr di kp ik y1 y3 s0 kk hk h
  unfold pX8_cheapest_90 at h
  refine v_istore_n hC dX8_cheapest_90 rfl (by decide) [(2, .int s0), (0, .ref h0), (1, .int y1), (3, .int y3)] rfl rfl ?_
  refine v_iinc hC dX8_cheapest_91 3 rfl (v := (y3 + (nI 1))) rfl (by decide) [(3, .int (y3 + (nI 1))), (2, .int s0), (0, .ref h0), (1, .int y1)] rfl rfl ?_
  refine v_goto hC (tgt := 11) dX8_cheapest_94 (by decide) ?_
  exact v_sub [2, 3, 1, 0] (lv' := [(0, .ref h0), (1, .int y1), (2, .int s0), (3, .int (y3 + (nI 1)))]) rfl (hk _ _ _ _ _ _ _ _ _ _ _ _ _ _ h)
set_option maxHeartbeats 4000000 in
set_option maxRecDepth 100000 in
theorem bX8_cheapest_78 {p : Program} {l : Launch} {e : Env} {s : State} {m : MethodId} {args : Array Value} {below : List Frame} {meth : Method} {c : Code} {g : va_G} {cy : Nat → ClassId} (hC : CX p s m args meth c g cy 6 cX8_cheapest wsX8_cheapest RX8) (hr : meth.sig.returnType = (some .int)) {h0 ztx znw ztr zdi zkp zik : Nat} {A : Nat → Prop} {res : Int32 × Int32 × (Nat → Int32)} : ∀ (rf : Int32) (sz : Int32) (ac : Int32) (sp : Int32) (ou : Int32) (tx : Nat → Int32) (nw : Nat → Int32) (tr : Nat → Int32) (di : Nat → Int32) (kp : Nat → Int32) (ik : Nat → Int32) (y2 : Int32) (y3 : Int32) (y4 : Int32) (y5 : Int32) (s0 : Int32) {kk : Int32 → (Nat → Int32) → (Nat → Int32) → Int32 → Int32 → Int32 → Option (Int32 × Int32 × (Nat → Int32))} (hk : ∀ (rf : Int32) (sz : Int32) (ac : Int32) (sp : Int32) (ou : Int32) (tx : Nat → Int32) (nw : Nat → Int32) (tr : Nat → Int32) (di : Nat → Int32) (kp : Nat → Int32) (ik : Nat → Int32) (y1 : Int32) (y2 : Int32) (y3 : Int32), kk rf nw tr y1 y2 y3 = some res → V p l e (headSpec wsX8_cheapest rmX8_cheapest).room s m args below meth c g 6 0 0 (MQ below (QWi g A res.1 [(h0, .inr (6, [.int res.2.1, .ref ztx, .int sz, .ref znw, .ref ztr, .ref zdi, .int ac, .ref zkp, .ref zik, .int sp, .int ou])), (ztx, .inl (cy 0, 120, .inl tx)), (znw, .inl (cy 0, 164, .inl nw)), (ztr, .inl (cy 0, 164, .inl res.2.2)), (zdi, .inl (cy 0, 2296, .inl di)), (zkp, .inl (cy 0, 328, .inl kp)), (zik, .inl (cy 1, 2, .inl ik))]) args s 0 0 A) A A [(h0, .inr (6, [.int rf, .ref ztx, .int sz, .ref znw, .ref ztr, .ref zdi, .int ac, .ref zkp, .ref zik, .int sp, .int ou])), (ztx, .inl (cy 0, 120, .inl tx)), (znw, .inl (cy 0, 164, .inl nw)), (ztr, .inl (cy 0, 164, .inl tr)), (zdi, .inl (cy 0, 2296, .inl di)), (zkp, .inl (cy 0, 328, .inl kp)), (zik, .inl (cy 1, 2, .inl ik))] 11 [(0, .ref h0), (1, .int y1), (2, .int y2), (3, .int y3)] []) (h : pX8_cheapest_78 kk rf nw tr y2 y3 y4 y5 s0 = some res), V p l e (headSpec wsX8_cheapest rmX8_cheapest).room s m args below meth c g 6 0 0 (MQ below (QWi g A res.1 [(h0, .inr (6, [.int res.2.1, .ref ztx, .int sz, .ref znw, .ref ztr, .ref zdi, .int ac, .ref zkp, .ref zik, .int sp, .int ou])), (ztx, .inl (cy 0, 120, .inl tx)), (znw, .inl (cy 0, 164, .inl nw)), (ztr, .inl (cy 0, 164, .inl res.2.2)), (zdi, .inl (cy 0, 2296, .inl di)), (zkp, .inl (cy 0, 328, .inl kp)), (zik, .inl (cy 1, 2, .inl ik))]) args s 0 0 A) A A [(h0, .inr (6, [.int rf, .ref ztx, .int sz, .ref znw, .ref ztr, .ref zdi, .int ac, .ref zkp, .ref zik, .int sp, .int ou])), (ztx, .inl (cy 0, 120, .inl tx)), (znw, .inl (cy 0, 164, .inl nw)), (ztr, .inl (cy 0, 164, .inl tr)), (zdi, .inl (cy 0, 2296, .inl di)), (zkp, .inl (cy 0, 328, .inl kp)), (zik, .inl (cy 1, 2, .inl ik))] 78 [(0, .ref h0), (2, .int y2), (3, .int y3), (4, .int y4), (5, .int y5)] [.int s0] := by
  intro rf sz ac sp ou tx nw tr di kp ik y2 y3 y4 y5 s0 kk hk h
  unfold pX8_cheapest_78 at h
  refine v_istore_n hC dX8_cheapest_78 rfl (by decide) [(1, .int s0), (0, .ref h0), (2, .int y2), (3, .int y3), (4, .int y4), (5, .int y5)] rfl rfl ?_
  refine v_iload hC dX8_cheapest_79 5 rfl rfl ?_
  refine v_if_eq hC (tgt := 89) dX8_cheapest_81 (by decide) rfl (fun c => ?_) (fun c => ?_)
  · have h := ite_t c h
    refine v_iload_n hC dX8_cheapest_89 rfl 2 rfl rfl ?_
    exact v_sub [1, 0, 3] (lv' := [(0, .ref h0), (1, .int s0), (3, .int y3)]) rfl (bX8_cheapest_90 hC hr _ _ _ _ _ _ _ _ _ _ _ _ _ _ hk h)
  · have h := ite_f c h
    refine v_iload hC dX8_cheapest_84 4 rfl rfl ?_
    refine v_goto hC (tgt := 90) dX8_cheapest_86 (by decide) ?_
    exact v_sub [1, 0, 3] (lv' := [(0, .ref h0), (1, .int s0), (3, .int y3)]) rfl (bX8_cheapest_90 hC hr _ _ _ _ _ _ _ _ _ _ _ _ _ _ hk h)
set_option maxHeartbeats 4000000 in
set_option maxRecDepth 100000 in
theorem bX8_cheapest_66 {p : Program} {l : Launch} {e : Env} {s : State} {m : MethodId} {args : Array Value} {below : List Frame} {meth : Method} {c : Code} {g : va_G} {cy : Nat → ClassId} (hC : CX p s m args meth c g cy 6 cX8_cheapest wsX8_cheapest RX8) (hr : meth.sig.returnType = (some .int)) {h0 ztx znw ztr zdi zkp zik : Nat} {A : Nat → Prop} {res : Int32 × Int32 × (Nat → Int32)} : ∀ (rf : Int32) (sz : Int32) (ac : Int32) (sp : Int32) (ou : Int32) (tx : Nat → Int32) (nw : Nat → Int32) (tr : Nat → Int32) (di : Nat → Int32) (kp : Nat → Int32) (ik : Nat → Int32) (y1 : Int32) (y2 : Int32) (y3 : Int32) (y4 : Int32) (s0 : Int32) {kk : Int32 → (Nat → Int32) → (Nat → Int32) → Int32 → Int32 → Int32 → Option (Int32 × Int32 × (Nat → Int32))} (hk : ∀ (rf : Int32) (sz : Int32) (ac : Int32) (sp : Int32) (ou : Int32) (tx : Nat → Int32) (nw : Nat → Int32) (tr : Nat → Int32) (di : Nat → Int32) (kp : Nat → Int32) (ik : Nat → Int32) (y1 : Int32) (y2 : Int32) (y3 : Int32), kk rf nw tr y1 y2 y3 = some res → V p l e (headSpec wsX8_cheapest rmX8_cheapest).room s m args below meth c g 6 0 0 (MQ below (QWi g A res.1 [(h0, .inr (6, [.int res.2.1, .ref ztx, .int sz, .ref znw, .ref ztr, .ref zdi, .int ac, .ref zkp, .ref zik, .int sp, .int ou])), (ztx, .inl (cy 0, 120, .inl tx)), (znw, .inl (cy 0, 164, .inl nw)), (ztr, .inl (cy 0, 164, .inl res.2.2)), (zdi, .inl (cy 0, 2296, .inl di)), (zkp, .inl (cy 0, 328, .inl kp)), (zik, .inl (cy 1, 2, .inl ik))]) args s 0 0 A) A A [(h0, .inr (6, [.int rf, .ref ztx, .int sz, .ref znw, .ref ztr, .ref zdi, .int ac, .ref zkp, .ref zik, .int sp, .int ou])), (ztx, .inl (cy 0, 120, .inl tx)), (znw, .inl (cy 0, 164, .inl nw)), (ztr, .inl (cy 0, 164, .inl tr)), (zdi, .inl (cy 0, 2296, .inl di)), (zkp, .inl (cy 0, 328, .inl kp)), (zik, .inl (cy 1, 2, .inl ik))] 11 [(0, .ref h0), (1, .int y1), (2, .int y2), (3, .int y3)] []) (h : pX8_cheapest_66 kk rf nw tr y1 y2 y3 y4 s0 = some res), V p l e (headSpec wsX8_cheapest rmX8_cheapest).room s m args below meth c g 6 0 0 (MQ below (QWi g A res.1 [(h0, .inr (6, [.int res.2.1, .ref ztx, .int sz, .ref znw, .ref ztr, .ref zdi, .int ac, .ref zkp, .ref zik, .int sp, .int ou])), (ztx, .inl (cy 0, 120, .inl tx)), (znw, .inl (cy 0, 164, .inl nw)), (ztr, .inl (cy 0, 164, .inl res.2.2)), (zdi, .inl (cy 0, 2296, .inl di)), (zkp, .inl (cy 0, 328, .inl kp)), (zik, .inl (cy 1, 2, .inl ik))]) args s 0 0 A) A A [(h0, .inr (6, [.int rf, .ref ztx, .int sz, .ref znw, .ref ztr, .ref zdi, .int ac, .ref zkp, .ref zik, .int sp, .int ou])), (ztx, .inl (cy 0, 120, .inl tx)), (znw, .inl (cy 0, 164, .inl nw)), (ztr, .inl (cy 0, 164, .inl tr)), (zdi, .inl (cy 0, 2296, .inl di)), (zkp, .inl (cy 0, 328, .inl kp)), (zik, .inl (cy 1, 2, .inl ik))] 66 [(0, .ref h0), (1, .int y1), (2, .int y2), (3, .int y3), (4, .int y4)] [.int s0] := by
  intro rf sz ac sp ou tx nw tr di kp ik y1 y2 y3 y4 s0 kk hk h
  unfold pX8_cheapest_66 at h
  refine v_istore hC dX8_cheapest_66 (by decide) [(5, .int s0), (0, .ref h0), (1, .int y1), (2, .int y2), (3, .int y3), (4, .int y4)] rfl rfl ?_
  refine v_iload hC dX8_cheapest_68 0 rfl rfl ?_
  refine v_if_eq hC (tgt := 77) dX8_cheapest_70 (by decide) rfl (fun c => ?_) (fun c => ?_)
  · have h := ite_t c h
    refine v_iload_n hC dX8_cheapest_77 rfl 2 rfl rfl ?_
    exact v_sub [1, 3, 4, 5, 0] (lv' := [(0, .ref h0), (2, .int y2), (3, .int y3), (4, .int y4), (5, .int s0)]) rfl (bX8_cheapest_78 hC hr _ _ _ _ _ _ _ _ _ _ _ _ _ _ _ _ hk h)
  · have h := ite_f c h
    refine v_iload_n hC dX8_cheapest_73 rfl 4 rfl rfl ?_
    refine v_goto hC (tgt := 78) dX8_cheapest_74 (by decide) ?_
    exact v_sub [1, 3, 4, 5, 0] (lv' := [(0, .ref h0), (2, .int y2), (3, .int y3), (4, .int y4), (5, .int s0)]) rfl (bX8_cheapest_78 hC hr _ _ _ _ _ _ _ _ _ _ _ _ _ _ _ _ hk h)
set_option maxHeartbeats 4000000 in
set_option maxRecDepth 100000 in
theorem bX8_cheapest_61 {p : Program} {l : Launch} {e : Env} {s : State} {m : MethodId} {args : Array Value} {below : List Frame} {meth : Method} {c : Code} {g : va_G} {cy : Nat → ClassId} (hC : CX p s m args meth c g cy 6 cX8_cheapest wsX8_cheapest RX8) (hr : meth.sig.returnType = (some .int)) {h0 ztx znw ztr zdi zkp zik : Nat} {A : Nat → Prop} {res : Int32 × Int32 × (Nat → Int32)} : ∀ (rf : Int32) (sz : Int32) (ac : Int32) (sp : Int32) (ou : Int32) (tx : Nat → Int32) (nw : Nat → Int32) (tr : Nat → Int32) (di : Nat → Int32) (kp : Nat → Int32) (ik : Nat → Int32) (y1 : Int32) (y2 : Int32) (y3 : Int32) (y4 : Int32) {kk : Int32 → (Nat → Int32) → (Nat → Int32) → Int32 → Int32 → Int32 → Option (Int32 × Int32 × (Nat → Int32))} (hk : ∀ (rf : Int32) (sz : Int32) (ac : Int32) (sp : Int32) (ou : Int32) (tx : Nat → Int32) (nw : Nat → Int32) (tr : Nat → Int32) (di : Nat → Int32) (kp : Nat → Int32) (ik : Nat → Int32) (y1 : Int32) (y2 : Int32) (y3 : Int32), kk rf nw tr y1 y2 y3 = some res → V p l e (headSpec wsX8_cheapest rmX8_cheapest).room s m args below meth c g 6 0 0 (MQ below (QWi g A res.1 [(h0, .inr (6, [.int res.2.1, .ref ztx, .int sz, .ref znw, .ref ztr, .ref zdi, .int ac, .ref zkp, .ref zik, .int sp, .int ou])), (ztx, .inl (cy 0, 120, .inl tx)), (znw, .inl (cy 0, 164, .inl nw)), (ztr, .inl (cy 0, 164, .inl res.2.2)), (zdi, .inl (cy 0, 2296, .inl di)), (zkp, .inl (cy 0, 328, .inl kp)), (zik, .inl (cy 1, 2, .inl ik))]) args s 0 0 A) A A [(h0, .inr (6, [.int rf, .ref ztx, .int sz, .ref znw, .ref ztr, .ref zdi, .int ac, .ref zkp, .ref zik, .int sp, .int ou])), (ztx, .inl (cy 0, 120, .inl tx)), (znw, .inl (cy 0, 164, .inl nw)), (ztr, .inl (cy 0, 164, .inl tr)), (zdi, .inl (cy 0, 2296, .inl di)), (zkp, .inl (cy 0, 328, .inl kp)), (zik, .inl (cy 1, 2, .inl ik))] 11 [(0, .ref h0), (1, .int y1), (2, .int y2), (3, .int y3)] []) (h : pX8_cheapest_61 kk rf nw tr y1 y2 y3 y4 = some res), V p l e (headSpec wsX8_cheapest rmX8_cheapest).room s m args below meth c g 6 0 0 (MQ below (QWi g A res.1 [(h0, .inr (6, [.int res.2.1, .ref ztx, .int sz, .ref znw, .ref ztr, .ref zdi, .int ac, .ref zkp, .ref zik, .int sp, .int ou])), (ztx, .inl (cy 0, 120, .inl tx)), (znw, .inl (cy 0, 164, .inl nw)), (ztr, .inl (cy 0, 164, .inl res.2.2)), (zdi, .inl (cy 0, 2296, .inl di)), (zkp, .inl (cy 0, 328, .inl kp)), (zik, .inl (cy 1, 2, .inl ik))]) args s 0 0 A) A A [(h0, .inr (6, [.int rf, .ref ztx, .int sz, .ref znw, .ref ztr, .ref zdi, .int ac, .ref zkp, .ref zik, .int sp, .int ou])), (ztx, .inl (cy 0, 120, .inl tx)), (znw, .inl (cy 0, 164, .inl nw)), (ztr, .inl (cy 0, 164, .inl tr)), (zdi, .inl (cy 0, 2296, .inl di)), (zkp, .inl (cy 0, 328, .inl kp)), (zik, .inl (cy 1, 2, .inl ik))] 61 [(0, .ref h0), (1, .int y1), (2, .int y2), (3, .int y3), (4, .int y4)] [] := by
  intro rf sz ac sp ou tx nw tr di kp ik y1 y2 y3 y4 kk hk h
  unfold pX8_cheapest_61 at h
  refine v_iconst hC (v := (nI 1)) dX8_cheapest_61 (by decide) rfl ?_
  refine v_goto hC (tgt := 66) dX8_cheapest_62 (by decide) ?_
  exact bX8_cheapest_66 hC hr _ _ _ _ _ _ _ _ _ _ _ _ _ _ _ _ hk h
set_option maxHeartbeats 4000000 in
set_option maxRecDepth 100000 in
theorem bX8_cheapest_65 {p : Program} {l : Launch} {e : Env} {s : State} {m : MethodId} {args : Array Value} {below : List Frame} {meth : Method} {c : Code} {g : va_G} {cy : Nat → ClassId} (hC : CX p s m args meth c g cy 6 cX8_cheapest wsX8_cheapest RX8) (hr : meth.sig.returnType = (some .int)) {h0 ztx znw ztr zdi zkp zik : Nat} {A : Nat → Prop} {res : Int32 × Int32 × (Nat → Int32)} : ∀ (rf : Int32) (sz : Int32) (ac : Int32) (sp : Int32) (ou : Int32) (tx : Nat → Int32) (nw : Nat → Int32) (tr : Nat → Int32) (di : Nat → Int32) (kp : Nat → Int32) (ik : Nat → Int32) (y1 : Int32) (y2 : Int32) (y3 : Int32) (y4 : Int32) {kk : Int32 → (Nat → Int32) → (Nat → Int32) → Int32 → Int32 → Int32 → Option (Int32 × Int32 × (Nat → Int32))} (hk : ∀ (rf : Int32) (sz : Int32) (ac : Int32) (sp : Int32) (ou : Int32) (tx : Nat → Int32) (nw : Nat → Int32) (tr : Nat → Int32) (di : Nat → Int32) (kp : Nat → Int32) (ik : Nat → Int32) (y1 : Int32) (y2 : Int32) (y3 : Int32), kk rf nw tr y1 y2 y3 = some res → V p l e (headSpec wsX8_cheapest rmX8_cheapest).room s m args below meth c g 6 0 0 (MQ below (QWi g A res.1 [(h0, .inr (6, [.int res.2.1, .ref ztx, .int sz, .ref znw, .ref ztr, .ref zdi, .int ac, .ref zkp, .ref zik, .int sp, .int ou])), (ztx, .inl (cy 0, 120, .inl tx)), (znw, .inl (cy 0, 164, .inl nw)), (ztr, .inl (cy 0, 164, .inl res.2.2)), (zdi, .inl (cy 0, 2296, .inl di)), (zkp, .inl (cy 0, 328, .inl kp)), (zik, .inl (cy 1, 2, .inl ik))]) args s 0 0 A) A A [(h0, .inr (6, [.int rf, .ref ztx, .int sz, .ref znw, .ref ztr, .ref zdi, .int ac, .ref zkp, .ref zik, .int sp, .int ou])), (ztx, .inl (cy 0, 120, .inl tx)), (znw, .inl (cy 0, 164, .inl nw)), (ztr, .inl (cy 0, 164, .inl tr)), (zdi, .inl (cy 0, 2296, .inl di)), (zkp, .inl (cy 0, 328, .inl kp)), (zik, .inl (cy 1, 2, .inl ik))] 11 [(0, .ref h0), (1, .int y1), (2, .int y2), (3, .int y3)] []) (h : pX8_cheapest_65 kk rf nw tr y1 y2 y3 y4 = some res), V p l e (headSpec wsX8_cheapest rmX8_cheapest).room s m args below meth c g 6 0 0 (MQ below (QWi g A res.1 [(h0, .inr (6, [.int res.2.1, .ref ztx, .int sz, .ref znw, .ref ztr, .ref zdi, .int ac, .ref zkp, .ref zik, .int sp, .int ou])), (ztx, .inl (cy 0, 120, .inl tx)), (znw, .inl (cy 0, 164, .inl nw)), (ztr, .inl (cy 0, 164, .inl res.2.2)), (zdi, .inl (cy 0, 2296, .inl di)), (zkp, .inl (cy 0, 328, .inl kp)), (zik, .inl (cy 1, 2, .inl ik))]) args s 0 0 A) A A [(h0, .inr (6, [.int rf, .ref ztx, .int sz, .ref znw, .ref ztr, .ref zdi, .int ac, .ref zkp, .ref zik, .int sp, .int ou])), (ztx, .inl (cy 0, 120, .inl tx)), (znw, .inl (cy 0, 164, .inl nw)), (ztr, .inl (cy 0, 164, .inl tr)), (zdi, .inl (cy 0, 2296, .inl di)), (zkp, .inl (cy 0, 328, .inl kp)), (zik, .inl (cy 1, 2, .inl ik))] 65 [(0, .ref h0), (1, .int y1), (2, .int y2), (3, .int y3), (4, .int y4)] [] := by
  intro rf sz ac sp ou tx nw tr di kp ik y1 y2 y3 y4 kk hk h
  unfold pX8_cheapest_65 at h
  refine v_iconst hC (v := (nI 0)) dX8_cheapest_65 (by decide) rfl ?_
  exact bX8_cheapest_66 hC hr _ _ _ _ _ _ _ _ _ _ _ _ _ _ _ _ hk h
set_option maxHeartbeats 4000000 in
set_option maxRecDepth 100000 in
theorem bX8_cheapest_11 {p : Program} {l : Launch} {e : Env} {s : State} {m : MethodId} {args : Array Value} {below : List Frame} {meth : Method} {c : Code} {g : va_G} {cy : Nat → ClassId} (hC : CX p s m args meth c g cy 6 cX8_cheapest wsX8_cheapest RX8) (hr : meth.sig.returnType = (some .int)) {h0 ztx znw ztr zdi zkp zik : Nat} {A : Nat → Prop} {res : Int32 × Int32 × (Nat → Int32)} : ∀ (k : Nat) (rf : Int32) (sz : Int32) (ac : Int32) (sp : Int32) (ou : Int32) (tx : Nat → Int32) (nw : Nat → Int32) (tr : Nat → Int32) (di : Nat → Int32) (kp : Nat → Int32) (ik : Nat → Int32) (y1 : Int32) (y2 : Int32) (y3 : Int32) (h : pX8_cheapest_11 k rf nw tr y1 y2 y3 = some res), V p l e (headSpec wsX8_cheapest rmX8_cheapest).room s m args below meth c g 6 0 0 (MQ below (QWi g A res.1 [(h0, .inr (6, [.int res.2.1, .ref ztx, .int sz, .ref znw, .ref ztr, .ref zdi, .int ac, .ref zkp, .ref zik, .int sp, .int ou])), (ztx, .inl (cy 0, 120, .inl tx)), (znw, .inl (cy 0, 164, .inl nw)), (ztr, .inl (cy 0, 164, .inl res.2.2)), (zdi, .inl (cy 0, 2296, .inl di)), (zkp, .inl (cy 0, 328, .inl kp)), (zik, .inl (cy 1, 2, .inl ik))]) args s 0 0 A) A A [(h0, .inr (6, [.int rf, .ref ztx, .int sz, .ref znw, .ref ztr, .ref zdi, .int ac, .ref zkp, .ref zik, .int sp, .int ou])), (ztx, .inl (cy 0, 120, .inl tx)), (znw, .inl (cy 0, 164, .inl nw)), (ztr, .inl (cy 0, 164, .inl tr)), (zdi, .inl (cy 0, 2296, .inl di)), (zkp, .inl (cy 0, 328, .inl kp)), (zik, .inl (cy 1, 2, .inl ik))] 11 [(0, .ref h0), (1, .int y1), (2, .int y2), (3, .int y3)] [] := by
  intro k
  induction k with
  | zero =>
    intro rf sz ac sp ou tx nw tr di kp ik y1 y2 y3 h
    have h : (none : Option _) = some res := h
    cases h
  | succ k ih =>
    intro rf sz ac sp ou tx nw tr di kp ik y1 y2 y3 h
    rw [pX8_cheapest_11_s] at h
    refine v_iload_n hC dX8_cheapest_11 rfl 3 rfl rfl ?_
    refine v_aload_n hC dX8_cheapest_12 rfl 0 rfl rfl ?_
    refine v_get hC iX8_cheapest_X8 0 rfl rfl 3 (by decide) kX8_cheapest_13 rfl rfl dX8_cheapest_13 rfl ?_
    refine v_iconst hC (v := (nI 1)) dX8_cheapest_16 (by decide) rfl ?_
    obtain ⟨hn, h⟩ := ite_g h
    refine v_iald hC 2 rfl hn dX8_cheapest_17 rfl ?_
    refine v_icmp_ge hC (tgt := 97) dX8_cheapest_18 (by decide) rfl (fun c => ?_) (fun c => ?_)
    · have h := ite_t c h
      refine v_iload_n hC dX8_cheapest_97 rfl 1 rfl rfl ?_
      obtain rfl := Option.some.inj h
      exact v_irw hC hr rfl rfl dX8_cheapest_98
    · have h := ite_f c h
      refine v_aload_n hC dX8_cheapest_21 rfl 0 rfl rfl ?_
      refine v_get hC iX8_cheapest_X8 0 rfl rfl 3 (by decide) kX8_cheapest_13 rfl rfl dX8_cheapest_22 rfl ?_
      refine v_iconst hC (v := (nI 0)) dX8_cheapest_25 (by decide) rfl ?_
      refine v_aload_n hC dX8_cheapest_26 rfl 0 rfl rfl ?_
      refine v_get hC iX8_cheapest_X8 0 rfl rfl 4 (by decide) kX8_cheapest_16 rfl rfl dX8_cheapest_27 rfl ?_
      refine v_iconst hC (v := (nI 0)) dX8_cheapest_30 (by decide) rfl ?_
      obtain ⟨v1, hv1, h⟩ := bind_g h
      refine v_callSwv hC (n := 4) (st := []) [(h0, .inr (6, [.int rf, .ref ztx, .int sz, .ref znw, .ref ztr, .ref zdi, .int ac, .ref zkp, .ref zik, .int sp, .int ou])), (ztx, .inl (cy 0, 120, .inl tx)), (znw, .inl (cy 0, 164, .inl nw)), (ztr, .inl (cy 0, 164, .inl v1)), (zdi, .inl (cy 0, 2296, .inl di)), (zkp, .inl (cy 0, 328, .inl kp)), (zik, .inl (cy 1, 2, .inl ik))] _ (mX8_copyState l g cy znw ztr 164 nw 164 tr (nI 0) (nI 0) hv1) gX8_cheapest_X8_copyState rfl rfl rfl (by decide +kernel) ⟨Nat.le_of_ble_eq_true rfl, Nat.le_of_ble_eq_true rfl⟩ [2, 3] [0, 1, 4, 5, 6] rfl rfl rfl rfl rfl rfl rfl rfl rfl (Nat.le_of_ble_eq_true rfl) rfl ⟨Nat.zero_le _, Nat.zero_le _⟩ dX8_cheapest_31 rfl ?_
      refine v_aload_n hC dX8_cheapest_34 rfl 0 rfl rfl ?_
      refine v_get hC iX8_cheapest_X8 0 rfl rfl 4 (by decide) kX8_cheapest_16 rfl rfl dX8_cheapest_35 rfl ?_
      refine v_iload_n hC dX8_cheapest_38 rfl 3 rfl rfl ?_
      obtain ⟨v2, hv2, h⟩ := bind_g h
      refine v_callSwi hC (n := 2) (st := []) [(h0, .inr (6, [.int rf, .ref ztx, .int sz, .ref znw, .ref ztr, .ref zdi, .int ac, .ref zkp, .ref zik, .int sp, .int ou])), (ztx, .inl (cy 0, 120, .inl tx)), (znw, .inl (cy 0, 164, .inl nw)), (ztr, .inl (cy 0, 164, .inl v2.2)), (zdi, .inl (cy 0, 2296, .inl di)), (zkp, .inl (cy 0, 328, .inl kp)), (zik, .inl (cy 1, 2, .inl ik))] _ (mX8_price l g cy ztr v1 y3 hv2) gX8_cheapest_X8_price rfl rfl rfl (by decide +kernel) ⟨Nat.le_of_ble_eq_true rfl, Nat.le_of_ble_eq_true rfl⟩ [3] [0, 1, 2, 4, 5, 6] rfl rfl rfl rfl rfl rfl rfl rfl rfl (Nat.le_of_ble_eq_true rfl) rfl ⟨Nat.zero_le _, Nat.zero_le _⟩ dX8_cheapest_39 rfl ?_
      refine v_istore hC dX8_cheapest_42 (by decide) [(4, .int v2.1), (0, .ref h0), (1, .int y1), (2, .int y2), (3, .int y3)] rfl rfl ?_
      refine v_iload hC dX8_cheapest_44 0 rfl rfl ?_
      refine v_iconst hC (v := (-1)) dX8_cheapest_46 (by decide) rfl ?_
      refine v_icmp_eq hC (tgt := 65) dX8_cheapest_47 (by decide) rfl (fun c => ?_) (fun c => ?_)
      · have h := ite_t c h
        exact v_sub [1, 2, 3, 4, 0] (lv' := [(0, .ref h0), (1, .int y1), (2, .int y2), (3, .int y3), (4, .int v2.1)]) rfl (bX8_cheapest_65 hC hr _ _ _ _ _ _ _ _ _ _ _ _ _ _ _ ih h)
      · have h := ite_f c h
        refine v_iload_n hC dX8_cheapest_50 rfl 2 rfl rfl ?_
        refine v_iconst hC (v := (-1)) dX8_cheapest_51 (by decide) rfl ?_
        refine v_icmp_eq hC (tgt := 61) dX8_cheapest_52 (by decide) rfl (fun c => ?_) (fun c => ?_)
        · have h := ite_t c h
          exact v_sub [1, 2, 3, 4, 0] (lv' := [(0, .ref h0), (1, .int y1), (2, .int y2), (3, .int y3), (4, .int v2.1)]) rfl (bX8_cheapest_61 hC hr _ _ _ _ _ _ _ _ _ _ _ _ _ _ _ ih h)
        · have h := ite_f c h
          refine v_iload hC dX8_cheapest_55 0 rfl rfl ?_
          refine v_iload_n hC dX8_cheapest_57 rfl 3 rfl rfl ?_
          refine v_icmp_ge hC (tgt := 65) dX8_cheapest_58 (by decide) rfl (fun c => ?_) (fun c => ?_)
          · have h := ite_t c h
            exact v_sub [1, 2, 3, 4, 0] (lv' := [(0, .ref h0), (1, .int y1), (2, .int y2), (3, .int y3), (4, .int v2.1)]) rfl (bX8_cheapest_65 hC hr _ _ _ _ _ _ _ _ _ _ _ _ _ _ _ ih h)
          · have h := ite_f c h
            exact v_sub [1, 2, 3, 4, 0] (lv' := [(0, .ref h0), (1, .int y1), (2, .int y2), (3, .int y3), (4, .int v2.1)]) rfl (bX8_cheapest_61 hC hr _ _ _ _ _ _ _ _ _ _ _ _ _ _ _ ih h)
set_option maxHeartbeats 4000000 in
set_option maxRecDepth 100000 in
theorem mX8_cheapest (l : Launch) (g : va_G) (cy : Nat → ClassId) (h0 ztx znw ztr zdi zkp zik : Nat) (rf : Int32) (sz : Int32) (ac : Int32) (sp : Int32) (ou : Int32) (tx : Nat → Int32) (nw : Nat → Int32) (tr : Nat → Int32) (di : Nat → Int32) (kp : Nat → Int32) (ik : Nat → Int32)  {res : Int32 × Int32 × (Nat → Int32)} (h : pX8_cheapest rf nw tr = some res) : Met l yX8_cheapest wsX8_cheapest rmX8_cheapest (PW [.ref h0] g cy [(h0, .inr (6, [.int rf, .ref ztx, .int sz, .ref znw, .ref ztr, .ref zdi, .int ac, .ref zkp, .ref zik, .int sp, .int ou])), (ztx, .inl (cy 0, 120, .inl tx)), (znw, .inl (cy 0, 164, .inl nw)), (ztr, .inl (cy 0, 164, .inl tr)), (zdi, .inl (cy 0, 2296, .inl di)), (zkp, .inl (cy 0, 328, .inl kp)), (zik, .inl (cy 1, 2, .inl ik))]) (QWi g (wA [(h0, .inr (6, [.int rf, .ref ztx, .int sz, .ref znw, .ref ztr, .ref zdi, .int ac, .ref zkp, .ref zik, .int sp, .int ou])), (ztx, .inl (cy 0, 120, .inl tx)), (znw, .inl (cy 0, 164, .inl nw)), (ztr, .inl (cy 0, 164, .inl tr)), (zdi, .inl (cy 0, 2296, .inl di)), (zkp, .inl (cy 0, 328, .inl kp)), (zik, .inl (cy 1, 2, .inl ik))]) res.1 [(h0, .inr (6, [.int res.2.1, .ref ztx, .int sz, .ref znw, .ref ztr, .ref zdi, .int ac, .ref zkp, .ref zik, .int sp, .int ou])), (ztx, .inl (cy 0, 120, .inl tx)), (znw, .inl (cy 0, 164, .inl nw)), (ztr, .inl (cy 0, 164, .inl res.2.2)), (zdi, .inl (cy 0, 2296, .inl di)), (zkp, .inl (cy 0, 328, .inl kp)), (zik, .inl (cy 1, 2, .inl ik))]) 0 0 (wA [(h0, .inr (6, [.int rf, .ref ztx, .int sz, .ref znw, .ref ztr, .ref zdi, .int ac, .ref zkp, .ref zik, .int sp, .int ou])), (ztx, .inl (cy 0, 120, .inl tx)), (znw, .inl (cy 0, 164, .inl nw)), (ztr, .inl (cy 0, 164, .inl tr)), (zdi, .inl (cy 0, 2296, .inl di)), (zkp, .inl (cy 0, 328, .inl kp)), (zik, .inl (cy 1, 2, .inl ik))]) := by
  refine m_ofV (cc := cX8_cheapest) (nL := 6) (ret := (some .int)) (B := (wA [(h0, .inr (6, [.int rf, .ref ztx, .int sz, .ref znw, .ref ztr, .ref zdi, .int ac, .ref zkp, .ref zik, .int sp, .int ou])), (ztx, .inl (cy 0, 120, .inl tx)), (znw, .inl (cy 0, 164, .inl nw)), (ztr, .inl (cy 0, 164, .inl tr)), (zdi, .inl (cy 0, 2296, .inl di)), (zkp, .inl (cy 0, 328, .inl kp)), (zik, .inl (cy 1, 2, .inl ik))])) RX8 rfl (by decide) rfl [(0, .ref h0)] rfl (Nat.le_of_ble_eq_true rfl) (wA.self) ?_
  intro p e s m args below meth c hC hr
  generalize (wA [(h0, .inr (6, [.int rf, .ref ztx, .int sz, .ref znw, .ref ztr, .ref zdi, .int ac, .ref zkp, .ref zik, .int sp, .int ou])), (ztx, .inl (cy 0, 120, .inl tx)), (znw, .inl (cy 0, 164, .inl nw)), (ztr, .inl (cy 0, 164, .inl tr)), (zdi, .inl (cy 0, 2296, .inl di)), (zkp, .inl (cy 0, 328, .inl kp)), (zik, .inl (cy 1, 2, .inl ik))]) = A
  unfold pX8_cheapest at h
  refine v_aload_n hC dX8_cheapest_0 rfl 0 rfl rfl ?_
  refine v_iconst hC (v := (nI 0)) dX8_cheapest_1 (by decide) rfl ?_
  refine v_put hC iX8_cheapest_X8 tyX8 tyX8_ok nmX8 0 rfl rfl 0 (by decide) kX8_cheapest_33 rfl rfl (ty := .int) (by decide +kernel) rfl rfl (Nat.le_of_ble_eq_true rfl) dX8_cheapest_2 [(h0, .inr (6, [.int (nI 0), .ref ztx, .int sz, .ref znw, .ref ztr, .ref zdi, .int ac, .ref zkp, .ref zik, .int sp, .int ou])), (ztx, .inl (cy 0, 120, .inl tx)), (znw, .inl (cy 0, 164, .inl nw)), (ztr, .inl (cy 0, 164, .inl tr)), (zdi, .inl (cy 0, 2296, .inl di)), (zkp, .inl (cy 0, 328, .inl kp)), (zik, .inl (cy 1, 2, .inl ik))] rfl rfl ?_
  refine v_iconst hC (v := (-1)) dX8_cheapest_5 (by decide) rfl ?_
  refine v_istore_n hC dX8_cheapest_6 rfl (by decide) [(1, .int (-1)), (0, .ref h0)] rfl rfl ?_
  refine v_iconst hC (v := (nI 0)) dX8_cheapest_7 (by decide) rfl ?_
  refine v_istore_n hC dX8_cheapest_8 rfl (by decide) [(2, .int (nI 0)), (1, .int (-1)), (0, .ref h0)] rfl rfl ?_
  refine v_iconst hC (v := (nI 0)) dX8_cheapest_9 (by decide) rfl ?_
  refine v_istore_n hC dX8_cheapest_10 rfl (by decide) [(3, .int (nI 0)), (2, .int (nI 0)), (1, .int (-1)), (0, .ref h0)] rfl rfl ?_
  exact v_sub [3, 2, 1, 0] (lv' := [(0, .ref h0), (1, .int (-1)), (2, .int (nI 0)), (3, .int (nI 0))]) rfl (bX8_cheapest_11 hC hr FU _ _ _ _ _ _ _ _ _ _ _ _ _ _ h)
theorem kX8_lacks_13 : Cond.fieldLink RX8 13 "CrowdFacesModel" "now" "[I" ∈ wsX8_lacks := by decide +kernel
theorem iX8_lacks_X8 : ∀ w ∈ wsX80, w ∈ wsX8_lacks := by decide +kernel
def pX8_lacks_17 (rf : Int32) (nw : Nat → Int32) (y1 : Int32) (s0 : Int32) : Option (Int32 × Int32) := (pX8_refused rf s0).bind fun v1 => if v1.1 = 0 then (pX8_lacking nw y1).bind fun v2 => some (v2, v1.2) else some ((nI 0), v1.2)
def pX8_lacks (rf : Int32) (nw : Nat → Int32) (x1 : Int32) : Option (Int32 × Int32) := (pX8_isScene nw x1).bind fun v1 => if v1 = 0 then pX8_lacks_17 rf nw x1 (nI 1) else pX8_lacks_17 rf nw x1 (nI 0)
abbrev rmX8_lacks : Room := { frames := 6, cells := 0, slots := 0, locals := 140 }
set_option maxHeartbeats 4000000 in
set_option maxRecDepth 100000 in
theorem bX8_lacks_17 {p : Program} {l : Launch} {e : Env} {s : State} {m : MethodId} {args : Array Value} {below : List Frame} {meth : Method} {c : Code} {g : va_G} {cy : Nat → ClassId} (hC : CX p s m args meth c g cy 2 cX8_lacks wsX8_lacks RX8) (hr : meth.sig.returnType = (some .int)) {h0 ztx znw ztr zdi zkp zik : Nat} {A : Nat → Prop} {res : Int32 × Int32} : ∀ (rf : Int32) (sz : Int32) (ac : Int32) (sp : Int32) (ou : Int32) (tx : Nat → Int32) (nw : Nat → Int32) (tr : Nat → Int32) (di : Nat → Int32) (kp : Nat → Int32) (ik : Nat → Int32) (y1 : Int32) (s0 : Int32)(h : pX8_lacks_17 rf nw y1 s0 = some res), V p l e (headSpec wsX8_lacks rmX8_lacks).room s m args below meth c g 2 0 0 (MQ below (QWi g A res.1 [(h0, .inr (6, [.int res.2, .ref ztx, .int sz, .ref znw, .ref ztr, .ref zdi, .int ac, .ref zkp, .ref zik, .int sp, .int ou])), (ztx, .inl (cy 0, 120, .inl tx)), (znw, .inl (cy 0, 164, .inl nw)), (ztr, .inl (cy 0, 164, .inl tr)), (zdi, .inl (cy 0, 2296, .inl di)), (zkp, .inl (cy 0, 328, .inl kp)), (zik, .inl (cy 1, 2, .inl ik))]) args s 0 0 A) A A [(h0, .inr (6, [.int rf, .ref ztx, .int sz, .ref znw, .ref ztr, .ref zdi, .int ac, .ref zkp, .ref zik, .int sp, .int ou])), (ztx, .inl (cy 0, 120, .inl tx)), (znw, .inl (cy 0, 164, .inl nw)), (ztr, .inl (cy 0, 164, .inl tr)), (zdi, .inl (cy 0, 2296, .inl di)), (zkp, .inl (cy 0, 328, .inl kp)), (zik, .inl (cy 1, 2, .inl ik))] 17 [(0, .ref h0), (1, .int y1)] [.int s0, .ref h0] := by
  intro rf sz ac sp ou tx nw tr di kp ik y1 s0 h
  unfold pX8_lacks_17 at h
  obtain ⟨v1, hv1, h⟩ := bind_g h
  refine v_callVwi hC (n := 1) (st := []) [(h0, .inr (6, [.int v1.2, .ref ztx, .int sz, .ref znw, .ref ztr, .ref zdi, .int ac, .ref zkp, .ref zik, .int sp, .int ou])), (ztx, .inl (cy 0, 120, .inl tx)), (znw, .inl (cy 0, 164, .inl nw)), (ztr, .inl (cy 0, 164, .inl tr)), (zdi, .inl (cy 0, 2296, .inl di)), (zkp, .inl (cy 0, 328, .inl kp)), (zik, .inl (cy 1, 2, .inl ik))] _ (mX8_refused l g cy h0 ztx znw ztr zdi zkp zik rf sz ac sp ou tx nw tr di kp ik s0 hv1) gX8_lacks_X8_refused rfl rfl rfl (by decide +kernel) ⟨Nat.le_of_ble_eq_true rfl, Nat.le_of_ble_eq_true rfl⟩ 0 rfl rfl [0, 1, 2, 3, 4, 5, 6] [] rfl rfl rfl rfl rfl rfl rfl rfl rfl (Nat.le_of_ble_eq_true rfl) rfl ⟨Nat.zero_le _, Nat.zero_le _⟩ dX8_lacks_17 rfl ?_
  refine v_if_eq hC (tgt := 25) dX8_lacks_20 (by decide) rfl (fun c => ?_) (fun c => ?_)
  · have h := ite_t c h
    refine v_aload_n hC dX8_lacks_25 rfl 0 rfl rfl ?_
    refine v_get hC iX8_lacks_X8 0 rfl rfl 3 (by decide) kX8_lacks_13 rfl rfl dX8_lacks_26 rfl ?_
    refine v_iload_n hC dX8_lacks_29 rfl 1 rfl rfl ?_
    obtain ⟨v2, hv2, h⟩ := bind_g h
    refine v_callSri hC (n := 2) (st := []) (mX8_lacking l g cy znw nw y1 hv2) gX8_lacks_X8_lacking rfl rfl rfl (by decide +kernel) ⟨Nat.le_of_ble_eq_true rfl, Nat.le_of_ble_eq_true rfl⟩ [2] rfl rfl rfl rfl (Nat.le_of_ble_eq_true rfl) rfl ⟨Nat.zero_le _, Nat.zero_le _⟩ dX8_lacks_30 rfl ?_
    obtain rfl := Option.some.inj h
    exact v_irw hC hr rfl rfl dX8_lacks_33
  · have h := ite_f c h
    refine v_iconst hC (v := (nI 0)) dX8_lacks_23 (by decide) rfl ?_
    obtain rfl := Option.some.inj h
    exact v_irw hC hr rfl rfl dX8_lacks_24
set_option maxHeartbeats 4000000 in
set_option maxRecDepth 100000 in
theorem mX8_lacks (l : Launch) (g : va_G) (cy : Nat → ClassId) (h0 ztx znw ztr zdi zkp zik : Nat) (rf : Int32) (sz : Int32) (ac : Int32) (sp : Int32) (ou : Int32) (tx : Nat → Int32) (nw : Nat → Int32) (tr : Nat → Int32) (di : Nat → Int32) (kp : Nat → Int32) (ik : Nat → Int32) (x1 : Int32) {res : Int32 × Int32} (h : pX8_lacks rf nw x1 = some res) : Met l yX8_lacks wsX8_lacks rmX8_lacks (PW [.ref h0, .int x1] g cy [(h0, .inr (6, [.int rf, .ref ztx, .int sz, .ref znw, .ref ztr, .ref zdi, .int ac, .ref zkp, .ref zik, .int sp, .int ou])), (ztx, .inl (cy 0, 120, .inl tx)), (znw, .inl (cy 0, 164, .inl nw)), (ztr, .inl (cy 0, 164, .inl tr)), (zdi, .inl (cy 0, 2296, .inl di)), (zkp, .inl (cy 0, 328, .inl kp)), (zik, .inl (cy 1, 2, .inl ik))]) (QWi g (wA [(h0, .inr (6, [.int rf, .ref ztx, .int sz, .ref znw, .ref ztr, .ref zdi, .int ac, .ref zkp, .ref zik, .int sp, .int ou])), (ztx, .inl (cy 0, 120, .inl tx)), (znw, .inl (cy 0, 164, .inl nw)), (ztr, .inl (cy 0, 164, .inl tr)), (zdi, .inl (cy 0, 2296, .inl di)), (zkp, .inl (cy 0, 328, .inl kp)), (zik, .inl (cy 1, 2, .inl ik))]) res.1 [(h0, .inr (6, [.int res.2, .ref ztx, .int sz, .ref znw, .ref ztr, .ref zdi, .int ac, .ref zkp, .ref zik, .int sp, .int ou])), (ztx, .inl (cy 0, 120, .inl tx)), (znw, .inl (cy 0, 164, .inl nw)), (ztr, .inl (cy 0, 164, .inl tr)), (zdi, .inl (cy 0, 2296, .inl di)), (zkp, .inl (cy 0, 328, .inl kp)), (zik, .inl (cy 1, 2, .inl ik))]) 0 0 (wA [(h0, .inr (6, [.int rf, .ref ztx, .int sz, .ref znw, .ref ztr, .ref zdi, .int ac, .ref zkp, .ref zik, .int sp, .int ou])), (ztx, .inl (cy 0, 120, .inl tx)), (znw, .inl (cy 0, 164, .inl nw)), (ztr, .inl (cy 0, 164, .inl tr)), (zdi, .inl (cy 0, 2296, .inl di)), (zkp, .inl (cy 0, 328, .inl kp)), (zik, .inl (cy 1, 2, .inl ik))]) := by
  refine m_ofV (cc := cX8_lacks) (nL := 2) (ret := (some .int)) (B := (wA [(h0, .inr (6, [.int rf, .ref ztx, .int sz, .ref znw, .ref ztr, .ref zdi, .int ac, .ref zkp, .ref zik, .int sp, .int ou])), (ztx, .inl (cy 0, 120, .inl tx)), (znw, .inl (cy 0, 164, .inl nw)), (ztr, .inl (cy 0, 164, .inl tr)), (zdi, .inl (cy 0, 2296, .inl di)), (zkp, .inl (cy 0, 328, .inl kp)), (zik, .inl (cy 1, 2, .inl ik))])) RX8 rfl (by decide) rfl [(0, .ref h0), (1, .int x1)] rfl (Nat.le_of_ble_eq_true rfl) (wA.self) ?_
  intro p e s m args below meth c hC hr
  generalize (wA [(h0, .inr (6, [.int rf, .ref ztx, .int sz, .ref znw, .ref ztr, .ref zdi, .int ac, .ref zkp, .ref zik, .int sp, .int ou])), (ztx, .inl (cy 0, 120, .inl tx)), (znw, .inl (cy 0, 164, .inl nw)), (ztr, .inl (cy 0, 164, .inl tr)), (zdi, .inl (cy 0, 2296, .inl di)), (zkp, .inl (cy 0, 328, .inl kp)), (zik, .inl (cy 1, 2, .inl ik))]) = A
  unfold pX8_lacks at h
  refine v_aload_n hC dX8_lacks_0 rfl 0 rfl rfl ?_
  refine v_aload_n hC dX8_lacks_1 rfl 0 rfl rfl ?_
  refine v_get hC iX8_lacks_X8 0 rfl rfl 3 (by decide) kX8_lacks_13 rfl rfl dX8_lacks_2 rfl ?_
  refine v_iload_n hC dX8_lacks_5 rfl 1 rfl rfl ?_
  obtain ⟨v1, hv1, h⟩ := bind_g h
  refine v_callSri hC (n := 2) (st := [.ref h0]) (mX8_isScene l g cy znw nw x1 hv1) gX8_lacks_X8_isScene rfl rfl rfl (by decide +kernel) ⟨Nat.le_of_ble_eq_true rfl, Nat.le_of_ble_eq_true rfl⟩ [2] rfl rfl rfl rfl (Nat.le_of_ble_eq_true rfl) rfl ⟨Nat.zero_le _, Nat.zero_le _⟩ dX8_lacks_6 rfl ?_
  refine v_if_eq hC (tgt := 16) dX8_lacks_9 (by decide) rfl (fun c => ?_) (fun c => ?_)
  · have h := ite_t c h
    refine v_iconst hC (v := (nI 1)) dX8_lacks_16 (by decide) rfl ?_
    exact bX8_lacks_17 hC hr _ _ _ _ _ _ _ _ _ _ _ _ _ h
  · have h := ite_f c h
    refine v_iconst hC (v := (nI 0)) dX8_lacks_12 (by decide) rfl ?_
    refine v_goto hC (tgt := 17) dX8_lacks_13 (by decide) ?_
    exact bX8_lacks_17 hC hr _ _ _ _ _ _ _ _ _ _ _ _ _ h
theorem kX8_both_13 : Cond.fieldLink RX8 13 "CrowdFacesModel" "now" "[I" ∈ wsX8_both := by decide +kernel
theorem kX8_both_16 : Cond.fieldLink RX8 16 "CrowdFacesModel" "trial" "[I" ∈ wsX8_both := by decide +kernel
theorem iX8_both_X8 : ∀ w ∈ wsX80, w ∈ wsX8_both := by decide +kernel
def pX8_both_55 (nw : Nat → Int32) (tr : Nat → Int32) (s0 : Int32) : Option (Int32 × (Nat → Int32)) := some (s0, tr)
def pX8_both_39 (nw : Nat → Int32) (tr : Nat → Int32) (y3 : Int32) (s0 : Int32) : Option (Int32 × (Nat → Int32)) := if s0 = (-1) then pX8_both_55 nw tr (-1) else pX8_both_55 nw tr (y3 + s0)
def pX8_both (nw : Nat → Int32) (tr : Nat → Int32) (x1 : Int32) (x2 : Int32) : Option (Int32 × (Nat → Int32)) := (pX8_copyState 164 nw 164 tr (nI 0) (nI 0)).bind fun v1 => (pX8_price v1 x1).bind fun v2 => if v2.1 = (-1) then pX8_both_39 nw v2.2 v2.1 (-1) else (pX8_price v2.2 x2).bind fun v3 => pX8_both_39 nw v3.2 v2.1 v3.1
abbrev rmX8_both : Room := { frames := 8, cells := 0, slots := 0, locals := 183 }
set_option maxHeartbeats 4000000 in
set_option maxRecDepth 100000 in
theorem bX8_both_55 {p : Program} {l : Launch} {e : Env} {s : State} {m : MethodId} {args : Array Value} {below : List Frame} {meth : Method} {c : Code} {g : va_G} {cy : Nat → ClassId} (hC : CX p s m args meth c g cy 5 cX8_both wsX8_both RX8) (hr : meth.sig.returnType = (some .int)) {h0 ztx znw ztr zdi zkp zik : Nat} {A : Nat → Prop} {res : Int32 × (Nat → Int32)} : ∀ (rf : Int32) (sz : Int32) (ac : Int32) (sp : Int32) (ou : Int32) (tx : Nat → Int32) (nw : Nat → Int32) (tr : Nat → Int32) (di : Nat → Int32) (kp : Nat → Int32) (ik : Nat → Int32) (s0 : Int32)(h : pX8_both_55 nw tr s0 = some res), V p l e (headSpec wsX8_both rmX8_both).room s m args below meth c g 5 0 0 (MQ below (QWi g A res.1 [(h0, .inr (6, [.int rf, .ref ztx, .int sz, .ref znw, .ref ztr, .ref zdi, .int ac, .ref zkp, .ref zik, .int sp, .int ou])), (ztx, .inl (cy 0, 120, .inl tx)), (znw, .inl (cy 0, 164, .inl nw)), (ztr, .inl (cy 0, 164, .inl res.2)), (zdi, .inl (cy 0, 2296, .inl di)), (zkp, .inl (cy 0, 328, .inl kp)), (zik, .inl (cy 1, 2, .inl ik))]) args s 0 0 A) A A [(h0, .inr (6, [.int rf, .ref ztx, .int sz, .ref znw, .ref ztr, .ref zdi, .int ac, .ref zkp, .ref zik, .int sp, .int ou])), (ztx, .inl (cy 0, 120, .inl tx)), (znw, .inl (cy 0, 164, .inl nw)), (ztr, .inl (cy 0, 164, .inl tr)), (zdi, .inl (cy 0, 2296, .inl di)), (zkp, .inl (cy 0, 328, .inl kp)), (zik, .inl (cy 1, 2, .inl ik))] 55 [] [.int s0] := by
  intro rf sz ac sp ou tx nw tr di kp ik s0 h
  unfold pX8_both_55 at h
  obtain rfl := Option.some.inj h
  exact v_irw hC hr rfl rfl dX8_both_55
set_option maxHeartbeats 4000000 in
set_option maxRecDepth 100000 in
theorem bX8_both_39 {p : Program} {l : Launch} {e : Env} {s : State} {m : MethodId} {args : Array Value} {below : List Frame} {meth : Method} {c : Code} {g : va_G} {cy : Nat → ClassId} (hC : CX p s m args meth c g cy 5 cX8_both wsX8_both RX8) (hr : meth.sig.returnType = (some .int)) {h0 ztx znw ztr zdi zkp zik : Nat} {A : Nat → Prop} {res : Int32 × (Nat → Int32)} : ∀ (rf : Int32) (sz : Int32) (ac : Int32) (sp : Int32) (ou : Int32) (tx : Nat → Int32) (nw : Nat → Int32) (tr : Nat → Int32) (di : Nat → Int32) (kp : Nat → Int32) (ik : Nat → Int32) (y3 : Int32) (s0 : Int32)(h : pX8_both_39 nw tr y3 s0 = some res), V p l e (headSpec wsX8_both rmX8_both).room s m args below meth c g 5 0 0 (MQ below (QWi g A res.1 [(h0, .inr (6, [.int rf, .ref ztx, .int sz, .ref znw, .ref ztr, .ref zdi, .int ac, .ref zkp, .ref zik, .int sp, .int ou])), (ztx, .inl (cy 0, 120, .inl tx)), (znw, .inl (cy 0, 164, .inl nw)), (ztr, .inl (cy 0, 164, .inl res.2)), (zdi, .inl (cy 0, 2296, .inl di)), (zkp, .inl (cy 0, 328, .inl kp)), (zik, .inl (cy 1, 2, .inl ik))]) args s 0 0 A) A A [(h0, .inr (6, [.int rf, .ref ztx, .int sz, .ref znw, .ref ztr, .ref zdi, .int ac, .ref zkp, .ref zik, .int sp, .int ou])), (ztx, .inl (cy 0, 120, .inl tx)), (znw, .inl (cy 0, 164, .inl nw)), (ztr, .inl (cy 0, 164, .inl tr)), (zdi, .inl (cy 0, 2296, .inl di)), (zkp, .inl (cy 0, 328, .inl kp)), (zik, .inl (cy 1, 2, .inl ik))] 39 [(3, .int y3)] [.int s0] := by
  intro rf sz ac sp ou tx nw tr di kp ik y3 s0 h
  unfold pX8_both_39 at h
  refine v_istore hC dX8_both_39 (by decide) [(4, .int s0), (3, .int y3)] rfl rfl ?_
  refine v_iload hC dX8_both_41 0 rfl rfl ?_
  refine v_iconst hC (v := (-1)) dX8_both_43 (by decide) rfl ?_
  refine v_icmp_ne hC (tgt := 51) dX8_both_44 (by decide) rfl (fun c => ?_) (fun c => ?_)
  · have h := ite_f c h
    refine v_iload_n hC dX8_both_51 rfl 1 rfl rfl ?_
    refine v_iload hC dX8_both_52 0 rfl rfl ?_
    refine v_iadd hC dX8_both_54 rfl ?_
    exact v_sub [] (lv' := []) rfl (bX8_both_55 hC hr _ _ _ _ _ _ _ _ _ _ _ _ h)
  · have h := ite_t c h
    refine v_iconst hC (v := (-1)) dX8_both_47 (by decide) rfl ?_
    refine v_goto hC (tgt := 55) dX8_both_48 (by decide) ?_
    exact v_sub [] (lv' := []) rfl (bX8_both_55 hC hr _ _ _ _ _ _ _ _ _ _ _ _ h)
set_option maxHeartbeats 4000000 in
set_option maxRecDepth 100000 in
theorem mX8_both (l : Launch) (g : va_G) (cy : Nat → ClassId) (h0 ztx znw ztr zdi zkp zik : Nat) (rf : Int32) (sz : Int32) (ac : Int32) (sp : Int32) (ou : Int32) (tx : Nat → Int32) (nw : Nat → Int32) (tr : Nat → Int32) (di : Nat → Int32) (kp : Nat → Int32) (ik : Nat → Int32) (x1 : Int32) (x2 : Int32) {res : Int32 × (Nat → Int32)} (h : pX8_both nw tr x1 x2 = some res) : Met l yX8_both wsX8_both rmX8_both (PW [.ref h0, .int x1, .int x2] g cy [(h0, .inr (6, [.int rf, .ref ztx, .int sz, .ref znw, .ref ztr, .ref zdi, .int ac, .ref zkp, .ref zik, .int sp, .int ou])), (ztx, .inl (cy 0, 120, .inl tx)), (znw, .inl (cy 0, 164, .inl nw)), (ztr, .inl (cy 0, 164, .inl tr)), (zdi, .inl (cy 0, 2296, .inl di)), (zkp, .inl (cy 0, 328, .inl kp)), (zik, .inl (cy 1, 2, .inl ik))]) (QWi g (wA [(h0, .inr (6, [.int rf, .ref ztx, .int sz, .ref znw, .ref ztr, .ref zdi, .int ac, .ref zkp, .ref zik, .int sp, .int ou])), (ztx, .inl (cy 0, 120, .inl tx)), (znw, .inl (cy 0, 164, .inl nw)), (ztr, .inl (cy 0, 164, .inl tr)), (zdi, .inl (cy 0, 2296, .inl di)), (zkp, .inl (cy 0, 328, .inl kp)), (zik, .inl (cy 1, 2, .inl ik))]) res.1 [(h0, .inr (6, [.int rf, .ref ztx, .int sz, .ref znw, .ref ztr, .ref zdi, .int ac, .ref zkp, .ref zik, .int sp, .int ou])), (ztx, .inl (cy 0, 120, .inl tx)), (znw, .inl (cy 0, 164, .inl nw)), (ztr, .inl (cy 0, 164, .inl res.2)), (zdi, .inl (cy 0, 2296, .inl di)), (zkp, .inl (cy 0, 328, .inl kp)), (zik, .inl (cy 1, 2, .inl ik))]) 0 0 (wA [(h0, .inr (6, [.int rf, .ref ztx, .int sz, .ref znw, .ref ztr, .ref zdi, .int ac, .ref zkp, .ref zik, .int sp, .int ou])), (ztx, .inl (cy 0, 120, .inl tx)), (znw, .inl (cy 0, 164, .inl nw)), (ztr, .inl (cy 0, 164, .inl tr)), (zdi, .inl (cy 0, 2296, .inl di)), (zkp, .inl (cy 0, 328, .inl kp)), (zik, .inl (cy 1, 2, .inl ik))]) := by
  refine m_ofV (cc := cX8_both) (nL := 5) (ret := (some .int)) (B := (wA [(h0, .inr (6, [.int rf, .ref ztx, .int sz, .ref znw, .ref ztr, .ref zdi, .int ac, .ref zkp, .ref zik, .int sp, .int ou])), (ztx, .inl (cy 0, 120, .inl tx)), (znw, .inl (cy 0, 164, .inl nw)), (ztr, .inl (cy 0, 164, .inl tr)), (zdi, .inl (cy 0, 2296, .inl di)), (zkp, .inl (cy 0, 328, .inl kp)), (zik, .inl (cy 1, 2, .inl ik))])) RX8 rfl (by decide) rfl [(0, .ref h0), (1, .int x1), (2, .int x2)] rfl (Nat.le_of_ble_eq_true rfl) (wA.self) ?_
  intro p e s m args below meth c hC hr
  generalize (wA [(h0, .inr (6, [.int rf, .ref ztx, .int sz, .ref znw, .ref ztr, .ref zdi, .int ac, .ref zkp, .ref zik, .int sp, .int ou])), (ztx, .inl (cy 0, 120, .inl tx)), (znw, .inl (cy 0, 164, .inl nw)), (ztr, .inl (cy 0, 164, .inl tr)), (zdi, .inl (cy 0, 2296, .inl di)), (zkp, .inl (cy 0, 328, .inl kp)), (zik, .inl (cy 1, 2, .inl ik))]) = A
  unfold pX8_both at h
  refine v_aload_n hC dX8_both_0 rfl 0 rfl rfl ?_
  refine v_get hC iX8_both_X8 0 rfl rfl 3 (by decide) kX8_both_13 rfl rfl dX8_both_1 rfl ?_
  refine v_iconst hC (v := (nI 0)) dX8_both_4 (by decide) rfl ?_
  refine v_aload_n hC dX8_both_5 rfl 0 rfl rfl ?_
  refine v_get hC iX8_both_X8 0 rfl rfl 4 (by decide) kX8_both_16 rfl rfl dX8_both_6 rfl ?_
  refine v_iconst hC (v := (nI 0)) dX8_both_9 (by decide) rfl ?_
  obtain ⟨v1, hv1, h⟩ := bind_g h
  refine v_callSwv hC (n := 4) (st := []) [(h0, .inr (6, [.int rf, .ref ztx, .int sz, .ref znw, .ref ztr, .ref zdi, .int ac, .ref zkp, .ref zik, .int sp, .int ou])), (ztx, .inl (cy 0, 120, .inl tx)), (znw, .inl (cy 0, 164, .inl nw)), (ztr, .inl (cy 0, 164, .inl v1)), (zdi, .inl (cy 0, 2296, .inl di)), (zkp, .inl (cy 0, 328, .inl kp)), (zik, .inl (cy 1, 2, .inl ik))] _ (mX8_copyState l g cy znw ztr 164 nw 164 tr (nI 0) (nI 0) hv1) gX8_both_X8_copyState rfl rfl rfl (by decide +kernel) ⟨Nat.le_of_ble_eq_true rfl, Nat.le_of_ble_eq_true rfl⟩ [2, 3] [0, 1, 4, 5, 6] rfl rfl rfl rfl rfl rfl rfl rfl rfl (Nat.le_of_ble_eq_true rfl) rfl ⟨Nat.zero_le _, Nat.zero_le _⟩ dX8_both_10 rfl ?_
  refine v_aload_n hC dX8_both_13 rfl 0 rfl rfl ?_
  refine v_get hC iX8_both_X8 0 rfl rfl 4 (by decide) kX8_both_16 rfl rfl dX8_both_14 rfl ?_
  refine v_iload_n hC dX8_both_17 rfl 1 rfl rfl ?_
  obtain ⟨v2, hv2, h⟩ := bind_g h
  refine v_callSwi hC (n := 2) (st := []) [(h0, .inr (6, [.int rf, .ref ztx, .int sz, .ref znw, .ref ztr, .ref zdi, .int ac, .ref zkp, .ref zik, .int sp, .int ou])), (ztx, .inl (cy 0, 120, .inl tx)), (znw, .inl (cy 0, 164, .inl nw)), (ztr, .inl (cy 0, 164, .inl v2.2)), (zdi, .inl (cy 0, 2296, .inl di)), (zkp, .inl (cy 0, 328, .inl kp)), (zik, .inl (cy 1, 2, .inl ik))] _ (mX8_price l g cy ztr v1 x1 hv2) gX8_both_X8_price rfl rfl rfl (by decide +kernel) ⟨Nat.le_of_ble_eq_true rfl, Nat.le_of_ble_eq_true rfl⟩ [3] [0, 1, 2, 4, 5, 6] rfl rfl rfl rfl rfl rfl rfl rfl rfl (Nat.le_of_ble_eq_true rfl) rfl ⟨Nat.zero_le _, Nat.zero_le _⟩ dX8_both_18 rfl ?_
  refine v_istore_n hC dX8_both_21 rfl (by decide) [(3, .int v2.1), (0, .ref h0), (1, .int x1), (2, .int x2)] rfl rfl ?_
  refine v_iload_n hC dX8_both_22 rfl 0 rfl rfl ?_
  refine v_iconst hC (v := (-1)) dX8_both_23 (by decide) rfl ?_
  refine v_icmp_ne hC (tgt := 31) dX8_both_24 (by decide) rfl (fun c => ?_) (fun c => ?_)
  · have h := ite_f c h
    refine v_aload_n hC dX8_both_31 rfl 1 rfl rfl ?_
    refine v_get hC iX8_both_X8 0 rfl rfl 4 (by decide) kX8_both_16 rfl rfl dX8_both_32 rfl ?_
    refine v_iload_n hC dX8_both_35 rfl 3 rfl rfl ?_
    obtain ⟨v3, hv3, h⟩ := bind_g h
    refine v_callSwi hC (n := 2) (st := []) [(h0, .inr (6, [.int rf, .ref ztx, .int sz, .ref znw, .ref ztr, .ref zdi, .int ac, .ref zkp, .ref zik, .int sp, .int ou])), (ztx, .inl (cy 0, 120, .inl tx)), (znw, .inl (cy 0, 164, .inl nw)), (ztr, .inl (cy 0, 164, .inl v3.2)), (zdi, .inl (cy 0, 2296, .inl di)), (zkp, .inl (cy 0, 328, .inl kp)), (zik, .inl (cy 1, 2, .inl ik))] _ (mX8_price l g cy ztr v2.2 x2 hv3) gX8_both_X8_price rfl rfl rfl (by decide +kernel) ⟨Nat.le_of_ble_eq_true rfl, Nat.le_of_ble_eq_true rfl⟩ [3] [0, 1, 2, 4, 5, 6] rfl rfl rfl rfl rfl rfl rfl rfl rfl (Nat.le_of_ble_eq_true rfl) rfl ⟨Nat.zero_le _, Nat.zero_le _⟩ dX8_both_36 rfl ?_
    exact v_sub [0] (lv' := [(3, .int v2.1)]) rfl (bX8_both_39 hC hr _ _ _ _ _ _ _ _ _ _ _ _ _ h)
  · have h := ite_t c h
    refine v_iconst hC (v := (-1)) dX8_both_27 (by decide) rfl ?_
    refine v_goto hC (tgt := 39) dX8_both_28 (by decide) ?_
    exact v_sub [0] (lv' := [(3, .int v2.1)]) rfl (bX8_both_39 hC hr _ _ _ _ _ _ _ _ _ _ _ _ _ h)
theorem kX8_order_13 : Cond.fieldLink RX8 13 "CrowdFacesModel" "now" "[I" ∈ wsX8_order := by decide +kernel
theorem iX8_order_X8 : ∀ w ∈ wsX80, w ∈ wsX8_order := by decide +kernel
def pX8_order_96 (rf : Int32) (nw : Nat → Int32) (tr : Nat → Int32) (s0 : Int32) : Option (Int32 × Int32 × (Nat → Int32)) := some (s0, rf, tr)
def pX8_order_71 (rf : Int32) (nw : Nat → Int32) (tr : Nat → Int32) : Option (Int32 × Int32 × (Nat → Int32)) := pX8_order_96 rf nw tr (-1)
def pX8_order_37 (rf : Int32) (nw : Nat → Int32) (tr : Nat → Int32) (y1 : Int32) (y2 : Int32) (s0 : Int32) : Option (Int32 × Int32 × (Nat → Int32)) := (pX8_refused rf s0).bind fun v1 => if v1.1 = 0 then (pX8_both nw tr y1 y2).bind fun v2 => (pX8_both nw v2.2 y2 y1).bind fun v3 => if v2.1 = (-1) then pX8_order_71 v1.2 nw v3.2 else if v3.1 = (-1) then pX8_order_71 v1.2 nw v3.2 else if v3.1 ≤ v2.1 then if v2.1 ≤ v3.1 then pX8_order_96 v1.2 nw v3.2 (nI 2) else pX8_order_96 v1.2 nw v3.2 (nI 1) else pX8_order_96 v1.2 nw v3.2 (nI 0) else some ((nI 0), v1.2, tr)
def pX8_order_23 (rf : Int32) (nw : Nat → Int32) (tr : Nat → Int32) (y1 : Int32) (y2 : Int32) : Option (Int32 × Int32 × (Nat → Int32)) := pX8_order_37 rf nw tr y1 y2 (nI 1)
def pX8_order (rf : Int32) (nw : Nat → Int32) (tr : Nat → Int32) (x1 : Int32) (x2 : Int32) : Option (Int32 × Int32 × (Nat → Int32)) := (pX8_isScene nw x1).bind fun v1 => if v1 = 0 then pX8_order_23 rf nw tr x1 x2 else (pX8_isScene nw x2).bind fun v2 => if v2 = 0 then pX8_order_23 rf nw tr x1 x2 else if x1 = x2 then pX8_order_37 rf nw tr x1 x2 (nI 2) else pX8_order_37 rf nw tr x1 x2 (nI 0)
abbrev rmX8_order : Room := { frames := 9, cells := 0, slots := 0, locals := 207 }
set_option maxHeartbeats 4000000 in
set_option maxRecDepth 100000 in
theorem bX8_order_96 {p : Program} {l : Launch} {e : Env} {s : State} {m : MethodId} {args : Array Value} {below : List Frame} {meth : Method} {c : Code} {g : va_G} {cy : Nat → ClassId} (hC : CX p s m args meth c g cy 5 cX8_order wsX8_order RX8) (hr : meth.sig.returnType = (some .int)) {h0 ztx znw ztr zdi zkp zik : Nat} {A : Nat → Prop} {res : Int32 × Int32 × (Nat → Int32)} : ∀ (rf : Int32) (sz : Int32) (ac : Int32) (sp : Int32) (ou : Int32) (tx : Nat → Int32) (nw : Nat → Int32) (tr : Nat → Int32) (di : Nat → Int32) (kp : Nat → Int32) (ik : Nat → Int32) (s0 : Int32)(h : pX8_order_96 rf nw tr s0 = some res), V p l e (headSpec wsX8_order rmX8_order).room s m args below meth c g 5 0 0 (MQ below (QWi g A res.1 [(h0, .inr (6, [.int res.2.1, .ref ztx, .int sz, .ref znw, .ref ztr, .ref zdi, .int ac, .ref zkp, .ref zik, .int sp, .int ou])), (ztx, .inl (cy 0, 120, .inl tx)), (znw, .inl (cy 0, 164, .inl nw)), (ztr, .inl (cy 0, 164, .inl res.2.2)), (zdi, .inl (cy 0, 2296, .inl di)), (zkp, .inl (cy 0, 328, .inl kp)), (zik, .inl (cy 1, 2, .inl ik))]) args s 0 0 A) A A [(h0, .inr (6, [.int rf, .ref ztx, .int sz, .ref znw, .ref ztr, .ref zdi, .int ac, .ref zkp, .ref zik, .int sp, .int ou])), (ztx, .inl (cy 0, 120, .inl tx)), (znw, .inl (cy 0, 164, .inl nw)), (ztr, .inl (cy 0, 164, .inl tr)), (zdi, .inl (cy 0, 2296, .inl di)), (zkp, .inl (cy 0, 328, .inl kp)), (zik, .inl (cy 1, 2, .inl ik))] 96 [] [.int s0] := by
  intro rf sz ac sp ou tx nw tr di kp ik s0 h
  unfold pX8_order_96 at h
  obtain rfl := Option.some.inj h
  exact v_irw hC hr rfl rfl dX8_order_96
set_option maxHeartbeats 4000000 in
set_option maxRecDepth 100000 in
theorem bX8_order_71 {p : Program} {l : Launch} {e : Env} {s : State} {m : MethodId} {args : Array Value} {below : List Frame} {meth : Method} {c : Code} {g : va_G} {cy : Nat → ClassId} (hC : CX p s m args meth c g cy 5 cX8_order wsX8_order RX8) (hr : meth.sig.returnType = (some .int)) {h0 ztx znw ztr zdi zkp zik : Nat} {A : Nat → Prop} {res : Int32 × Int32 × (Nat → Int32)} : ∀ (rf : Int32) (sz : Int32) (ac : Int32) (sp : Int32) (ou : Int32) (tx : Nat → Int32) (nw : Nat → Int32) (tr : Nat → Int32) (di : Nat → Int32) (kp : Nat → Int32) (ik : Nat → Int32) (h : pX8_order_71 rf nw tr = some res), V p l e (headSpec wsX8_order rmX8_order).room s m args below meth c g 5 0 0 (MQ below (QWi g A res.1 [(h0, .inr (6, [.int res.2.1, .ref ztx, .int sz, .ref znw, .ref ztr, .ref zdi, .int ac, .ref zkp, .ref zik, .int sp, .int ou])), (ztx, .inl (cy 0, 120, .inl tx)), (znw, .inl (cy 0, 164, .inl nw)), (ztr, .inl (cy 0, 164, .inl res.2.2)), (zdi, .inl (cy 0, 2296, .inl di)), (zkp, .inl (cy 0, 328, .inl kp)), (zik, .inl (cy 1, 2, .inl ik))]) args s 0 0 A) A A [(h0, .inr (6, [.int rf, .ref ztx, .int sz, .ref znw, .ref ztr, .ref zdi, .int ac, .ref zkp, .ref zik, .int sp, .int ou])), (ztx, .inl (cy 0, 120, .inl tx)), (znw, .inl (cy 0, 164, .inl nw)), (ztr, .inl (cy 0, 164, .inl tr)), (zdi, .inl (cy 0, 2296, .inl di)), (zkp, .inl (cy 0, 328, .inl kp)), (zik, .inl (cy 1, 2, .inl ik))] 71 [] [] := by
  intro rf sz ac sp ou tx nw tr di kp ik  h
  unfold pX8_order_71 at h
  refine v_iconst hC (v := (-1)) dX8_order_71 (by decide) rfl ?_
  refine v_goto hC (tgt := 96) dX8_order_72 (by decide) ?_
  exact bX8_order_96 hC hr _ _ _ _ _ _ _ _ _ _ _ _ h
set_option maxHeartbeats 4000000 in
set_option maxRecDepth 100000 in
theorem bX8_order_37 {p : Program} {l : Launch} {e : Env} {s : State} {m : MethodId} {args : Array Value} {below : List Frame} {meth : Method} {c : Code} {g : va_G} {cy : Nat → ClassId} (hC : CX p s m args meth c g cy 5 cX8_order wsX8_order RX8) (hr : meth.sig.returnType = (some .int)) {h0 ztx znw ztr zdi zkp zik : Nat} {A : Nat → Prop} {res : Int32 × Int32 × (Nat → Int32)} : ∀ (rf : Int32) (sz : Int32) (ac : Int32) (sp : Int32) (ou : Int32) (tx : Nat → Int32) (nw : Nat → Int32) (tr : Nat → Int32) (di : Nat → Int32) (kp : Nat → Int32) (ik : Nat → Int32) (y1 : Int32) (y2 : Int32) (s0 : Int32)(h : pX8_order_37 rf nw tr y1 y2 s0 = some res), V p l e (headSpec wsX8_order rmX8_order).room s m args below meth c g 5 0 0 (MQ below (QWi g A res.1 [(h0, .inr (6, [.int res.2.1, .ref ztx, .int sz, .ref znw, .ref ztr, .ref zdi, .int ac, .ref zkp, .ref zik, .int sp, .int ou])), (ztx, .inl (cy 0, 120, .inl tx)), (znw, .inl (cy 0, 164, .inl nw)), (ztr, .inl (cy 0, 164, .inl res.2.2)), (zdi, .inl (cy 0, 2296, .inl di)), (zkp, .inl (cy 0, 328, .inl kp)), (zik, .inl (cy 1, 2, .inl ik))]) args s 0 0 A) A A [(h0, .inr (6, [.int rf, .ref ztx, .int sz, .ref znw, .ref ztr, .ref zdi, .int ac, .ref zkp, .ref zik, .int sp, .int ou])), (ztx, .inl (cy 0, 120, .inl tx)), (znw, .inl (cy 0, 164, .inl nw)), (ztr, .inl (cy 0, 164, .inl tr)), (zdi, .inl (cy 0, 2296, .inl di)), (zkp, .inl (cy 0, 328, .inl kp)), (zik, .inl (cy 1, 2, .inl ik))] 37 [(0, .ref h0), (1, .int y1), (2, .int y2)] [.int s0, .ref h0] := by
  intro rf sz ac sp ou tx nw tr di kp ik y1 y2 s0 h
  unfold pX8_order_37 at h
  obtain ⟨v1, hv1, h⟩ := bind_g h
  refine v_callVwi hC (n := 1) (st := []) [(h0, .inr (6, [.int v1.2, .ref ztx, .int sz, .ref znw, .ref ztr, .ref zdi, .int ac, .ref zkp, .ref zik, .int sp, .int ou])), (ztx, .inl (cy 0, 120, .inl tx)), (znw, .inl (cy 0, 164, .inl nw)), (ztr, .inl (cy 0, 164, .inl tr)), (zdi, .inl (cy 0, 2296, .inl di)), (zkp, .inl (cy 0, 328, .inl kp)), (zik, .inl (cy 1, 2, .inl ik))] _ (mX8_refused l g cy h0 ztx znw ztr zdi zkp zik rf sz ac sp ou tx nw tr di kp ik s0 hv1) gX8_order_X8_refused rfl rfl rfl (by decide +kernel) ⟨Nat.le_of_ble_eq_true rfl, Nat.le_of_ble_eq_true rfl⟩ 0 rfl rfl [0, 1, 2, 3, 4, 5, 6] [] rfl rfl rfl rfl rfl rfl rfl rfl rfl (Nat.le_of_ble_eq_true rfl) rfl ⟨Nat.zero_le _, Nat.zero_le _⟩ dX8_order_37 rfl ?_
  refine v_if_eq hC (tgt := 45) dX8_order_40 (by decide) rfl (fun c => ?_) (fun c => ?_)
  · have h := ite_t c h
    refine v_aload_n hC dX8_order_45 rfl 0 rfl rfl ?_
    refine v_iload_n hC dX8_order_46 rfl 1 rfl rfl ?_
    refine v_iload_n hC dX8_order_47 rfl 2 rfl rfl ?_
    obtain ⟨v2, hv2, h⟩ := bind_g h
    refine v_callVwi hC (n := 2) (st := []) [(h0, .inr (6, [.int v1.2, .ref ztx, .int sz, .ref znw, .ref ztr, .ref zdi, .int ac, .ref zkp, .ref zik, .int sp, .int ou])), (ztx, .inl (cy 0, 120, .inl tx)), (znw, .inl (cy 0, 164, .inl nw)), (ztr, .inl (cy 0, 164, .inl v2.2)), (zdi, .inl (cy 0, 2296, .inl di)), (zkp, .inl (cy 0, 328, .inl kp)), (zik, .inl (cy 1, 2, .inl ik))] _ (mX8_both l g cy h0 ztx znw ztr zdi zkp zik v1.2 sz ac sp ou tx nw tr di kp ik y1 y2 hv2) gX8_order_X8_both rfl rfl rfl (by decide +kernel) ⟨Nat.le_of_ble_eq_true rfl, Nat.le_of_ble_eq_true rfl⟩ 0 rfl rfl [0, 1, 2, 3, 4, 5, 6] [] rfl rfl rfl rfl rfl rfl rfl rfl rfl (Nat.le_of_ble_eq_true rfl) rfl ⟨Nat.zero_le _, Nat.zero_le _⟩ dX8_order_48 rfl ?_
    refine v_istore_n hC dX8_order_51 rfl (by decide) [(3, .int v2.1), (0, .ref h0), (1, .int y1), (2, .int y2)] rfl rfl ?_
    refine v_aload_n hC dX8_order_52 rfl 1 rfl rfl ?_
    refine v_iload_n hC dX8_order_53 rfl 3 rfl rfl ?_
    refine v_iload_n hC dX8_order_54 rfl 2 rfl rfl ?_
    obtain ⟨v3, hv3, h⟩ := bind_g h
    refine v_callVwi hC (n := 2) (st := []) [(h0, .inr (6, [.int v1.2, .ref ztx, .int sz, .ref znw, .ref ztr, .ref zdi, .int ac, .ref zkp, .ref zik, .int sp, .int ou])), (ztx, .inl (cy 0, 120, .inl tx)), (znw, .inl (cy 0, 164, .inl nw)), (ztr, .inl (cy 0, 164, .inl v3.2)), (zdi, .inl (cy 0, 2296, .inl di)), (zkp, .inl (cy 0, 328, .inl kp)), (zik, .inl (cy 1, 2, .inl ik))] _ (mX8_both l g cy h0 ztx znw ztr zdi zkp zik v1.2 sz ac sp ou tx nw v2.2 di kp ik y2 y1 hv3) gX8_order_X8_both rfl rfl rfl (by decide +kernel) ⟨Nat.le_of_ble_eq_true rfl, Nat.le_of_ble_eq_true rfl⟩ 0 rfl rfl [0, 1, 2, 3, 4, 5, 6] [] rfl rfl rfl rfl rfl rfl rfl rfl rfl (Nat.le_of_ble_eq_true rfl) rfl ⟨Nat.zero_le _, Nat.zero_le _⟩ dX8_order_55 rfl ?_
    refine v_istore hC dX8_order_58 (by decide) [(4, .int v3.1), (3, .int v2.1), (0, .ref h0), (1, .int y1), (2, .int y2)] rfl rfl ?_
    refine v_iload_n hC dX8_order_60 rfl 1 rfl rfl ?_
    refine v_iconst hC (v := (-1)) dX8_order_61 (by decide) rfl ?_
    refine v_icmp_eq hC (tgt := 71) dX8_order_62 (by decide) rfl (fun c => ?_) (fun c => ?_)
    · have h := ite_t c h
      exact v_sub [] (lv' := []) rfl (bX8_order_71 hC hr _ _ _ _ _ _ _ _ _ _ _ h)
    · have h := ite_f c h
      refine v_iload hC dX8_order_65 0 rfl rfl ?_
      refine v_iconst hC (v := (-1)) dX8_order_67 (by decide) rfl ?_
      refine v_icmp_ne hC (tgt := 75) dX8_order_68 (by decide) rfl (fun c => ?_) (fun c => ?_)
      · have h := ite_f c h
        refine v_iload_n hC dX8_order_75 rfl 1 rfl rfl ?_
        refine v_iload hC dX8_order_76 0 rfl rfl ?_
        refine v_icmp_ge hC (tgt := 85) dX8_order_78 (by decide) rfl (fun c => ?_) (fun c => ?_)
        · have h := ite_t c h
          refine v_iload_n hC dX8_order_85 rfl 1 rfl rfl ?_
          refine v_iload hC dX8_order_86 0 rfl rfl ?_
          refine v_icmp_le hC (tgt := 95) dX8_order_88 (by decide) rfl (fun c => ?_) (fun c => ?_)
          · have h := ite_t c h
            refine v_iconst hC (v := (nI 2)) dX8_order_95 (by decide) rfl ?_
            exact v_sub [] (lv' := []) rfl (bX8_order_96 hC hr _ _ _ _ _ _ _ _ _ _ _ _ h)
          · have h := ite_f c h
            refine v_iconst hC (v := (nI 1)) dX8_order_91 (by decide) rfl ?_
            refine v_goto hC (tgt := 96) dX8_order_92 (by decide) ?_
            exact v_sub [] (lv' := []) rfl (bX8_order_96 hC hr _ _ _ _ _ _ _ _ _ _ _ _ h)
        · have h := ite_f c h
          refine v_iconst hC (v := (nI 0)) dX8_order_81 (by decide) rfl ?_
          refine v_goto hC (tgt := 96) dX8_order_82 (by decide) ?_
          exact v_sub [] (lv' := []) rfl (bX8_order_96 hC hr _ _ _ _ _ _ _ _ _ _ _ _ h)
      · have h := ite_t c h
        exact v_sub [] (lv' := []) rfl (bX8_order_71 hC hr _ _ _ _ _ _ _ _ _ _ _ h)
  · have h := ite_f c h
    refine v_iconst hC (v := (nI 0)) dX8_order_43 (by decide) rfl ?_
    obtain rfl := Option.some.inj h
    exact v_irw hC hr rfl rfl dX8_order_44
set_option maxHeartbeats 4000000 in
set_option maxRecDepth 100000 in
theorem bX8_order_23 {p : Program} {l : Launch} {e : Env} {s : State} {m : MethodId} {args : Array Value} {below : List Frame} {meth : Method} {c : Code} {g : va_G} {cy : Nat → ClassId} (hC : CX p s m args meth c g cy 5 cX8_order wsX8_order RX8) (hr : meth.sig.returnType = (some .int)) {h0 ztx znw ztr zdi zkp zik : Nat} {A : Nat → Prop} {res : Int32 × Int32 × (Nat → Int32)} : ∀ (rf : Int32) (sz : Int32) (ac : Int32) (sp : Int32) (ou : Int32) (tx : Nat → Int32) (nw : Nat → Int32) (tr : Nat → Int32) (di : Nat → Int32) (kp : Nat → Int32) (ik : Nat → Int32) (y1 : Int32) (y2 : Int32)(h : pX8_order_23 rf nw tr y1 y2 = some res), V p l e (headSpec wsX8_order rmX8_order).room s m args below meth c g 5 0 0 (MQ below (QWi g A res.1 [(h0, .inr (6, [.int res.2.1, .ref ztx, .int sz, .ref znw, .ref ztr, .ref zdi, .int ac, .ref zkp, .ref zik, .int sp, .int ou])), (ztx, .inl (cy 0, 120, .inl tx)), (znw, .inl (cy 0, 164, .inl nw)), (ztr, .inl (cy 0, 164, .inl res.2.2)), (zdi, .inl (cy 0, 2296, .inl di)), (zkp, .inl (cy 0, 328, .inl kp)), (zik, .inl (cy 1, 2, .inl ik))]) args s 0 0 A) A A [(h0, .inr (6, [.int rf, .ref ztx, .int sz, .ref znw, .ref ztr, .ref zdi, .int ac, .ref zkp, .ref zik, .int sp, .int ou])), (ztx, .inl (cy 0, 120, .inl tx)), (znw, .inl (cy 0, 164, .inl nw)), (ztr, .inl (cy 0, 164, .inl tr)), (zdi, .inl (cy 0, 2296, .inl di)), (zkp, .inl (cy 0, 328, .inl kp)), (zik, .inl (cy 1, 2, .inl ik))] 23 [(0, .ref h0), (1, .int y1), (2, .int y2)] [.ref h0] := by
  intro rf sz ac sp ou tx nw tr di kp ik y1 y2 h
  unfold pX8_order_23 at h
  refine v_iconst hC (v := (nI 1)) dX8_order_23 (by decide) rfl ?_
  refine v_goto hC (tgt := 37) dX8_order_24 (by decide) ?_
  exact bX8_order_37 hC hr _ _ _ _ _ _ _ _ _ _ _ _ _ _ h
set_option maxHeartbeats 4000000 in
set_option maxRecDepth 100000 in
theorem mX8_order (l : Launch) (g : va_G) (cy : Nat → ClassId) (h0 ztx znw ztr zdi zkp zik : Nat) (rf : Int32) (sz : Int32) (ac : Int32) (sp : Int32) (ou : Int32) (tx : Nat → Int32) (nw : Nat → Int32) (tr : Nat → Int32) (di : Nat → Int32) (kp : Nat → Int32) (ik : Nat → Int32) (x1 : Int32) (x2 : Int32) {res : Int32 × Int32 × (Nat → Int32)} (h : pX8_order rf nw tr x1 x2 = some res) : Met l yX8_order wsX8_order rmX8_order (PW [.ref h0, .int x1, .int x2] g cy [(h0, .inr (6, [.int rf, .ref ztx, .int sz, .ref znw, .ref ztr, .ref zdi, .int ac, .ref zkp, .ref zik, .int sp, .int ou])), (ztx, .inl (cy 0, 120, .inl tx)), (znw, .inl (cy 0, 164, .inl nw)), (ztr, .inl (cy 0, 164, .inl tr)), (zdi, .inl (cy 0, 2296, .inl di)), (zkp, .inl (cy 0, 328, .inl kp)), (zik, .inl (cy 1, 2, .inl ik))]) (QWi g (wA [(h0, .inr (6, [.int rf, .ref ztx, .int sz, .ref znw, .ref ztr, .ref zdi, .int ac, .ref zkp, .ref zik, .int sp, .int ou])), (ztx, .inl (cy 0, 120, .inl tx)), (znw, .inl (cy 0, 164, .inl nw)), (ztr, .inl (cy 0, 164, .inl tr)), (zdi, .inl (cy 0, 2296, .inl di)), (zkp, .inl (cy 0, 328, .inl kp)), (zik, .inl (cy 1, 2, .inl ik))]) res.1 [(h0, .inr (6, [.int res.2.1, .ref ztx, .int sz, .ref znw, .ref ztr, .ref zdi, .int ac, .ref zkp, .ref zik, .int sp, .int ou])), (ztx, .inl (cy 0, 120, .inl tx)), (znw, .inl (cy 0, 164, .inl nw)), (ztr, .inl (cy 0, 164, .inl res.2.2)), (zdi, .inl (cy 0, 2296, .inl di)), (zkp, .inl (cy 0, 328, .inl kp)), (zik, .inl (cy 1, 2, .inl ik))]) 0 0 (wA [(h0, .inr (6, [.int rf, .ref ztx, .int sz, .ref znw, .ref ztr, .ref zdi, .int ac, .ref zkp, .ref zik, .int sp, .int ou])), (ztx, .inl (cy 0, 120, .inl tx)), (znw, .inl (cy 0, 164, .inl nw)), (ztr, .inl (cy 0, 164, .inl tr)), (zdi, .inl (cy 0, 2296, .inl di)), (zkp, .inl (cy 0, 328, .inl kp)), (zik, .inl (cy 1, 2, .inl ik))]) := by
  refine m_ofV (cc := cX8_order) (nL := 5) (ret := (some .int)) (B := (wA [(h0, .inr (6, [.int rf, .ref ztx, .int sz, .ref znw, .ref ztr, .ref zdi, .int ac, .ref zkp, .ref zik, .int sp, .int ou])), (ztx, .inl (cy 0, 120, .inl tx)), (znw, .inl (cy 0, 164, .inl nw)), (ztr, .inl (cy 0, 164, .inl tr)), (zdi, .inl (cy 0, 2296, .inl di)), (zkp, .inl (cy 0, 328, .inl kp)), (zik, .inl (cy 1, 2, .inl ik))])) RX8 rfl (by decide) rfl [(0, .ref h0), (1, .int x1), (2, .int x2)] rfl (Nat.le_of_ble_eq_true rfl) (wA.self) ?_
  intro p e s m args below meth c hC hr
  generalize (wA [(h0, .inr (6, [.int rf, .ref ztx, .int sz, .ref znw, .ref ztr, .ref zdi, .int ac, .ref zkp, .ref zik, .int sp, .int ou])), (ztx, .inl (cy 0, 120, .inl tx)), (znw, .inl (cy 0, 164, .inl nw)), (ztr, .inl (cy 0, 164, .inl tr)), (zdi, .inl (cy 0, 2296, .inl di)), (zkp, .inl (cy 0, 328, .inl kp)), (zik, .inl (cy 1, 2, .inl ik))]) = A
  unfold pX8_order at h
  refine v_aload_n hC dX8_order_0 rfl 0 rfl rfl ?_
  refine v_aload_n hC dX8_order_1 rfl 0 rfl rfl ?_
  refine v_get hC iX8_order_X8 0 rfl rfl 3 (by decide) kX8_order_13 rfl rfl dX8_order_2 rfl ?_
  refine v_iload_n hC dX8_order_5 rfl 1 rfl rfl ?_
  obtain ⟨v1, hv1, h⟩ := bind_g h
  refine v_callSri hC (n := 2) (st := [.ref h0]) (mX8_isScene l g cy znw nw x1 hv1) gX8_order_X8_isScene rfl rfl rfl (by decide +kernel) ⟨Nat.le_of_ble_eq_true rfl, Nat.le_of_ble_eq_true rfl⟩ [2] rfl rfl rfl rfl (Nat.le_of_ble_eq_true rfl) rfl ⟨Nat.zero_le _, Nat.zero_le _⟩ dX8_order_6 rfl ?_
  refine v_if_eq hC (tgt := 23) dX8_order_9 (by decide) rfl (fun c => ?_) (fun c => ?_)
  · have h := ite_t c h
    exact bX8_order_23 hC hr _ _ _ _ _ _ _ _ _ _ _ _ _ h
  · have h := ite_f c h
    refine v_aload_n hC dX8_order_12 rfl 0 rfl rfl ?_
    refine v_get hC iX8_order_X8 0 rfl rfl 3 (by decide) kX8_order_13 rfl rfl dX8_order_13 rfl ?_
    refine v_iload_n hC dX8_order_16 rfl 2 rfl rfl ?_
    obtain ⟨v2, hv2, h⟩ := bind_g h
    refine v_callSri hC (n := 2) (st := [.ref h0]) (mX8_isScene l g cy znw nw x2 hv2) gX8_order_X8_isScene rfl rfl rfl (by decide +kernel) ⟨Nat.le_of_ble_eq_true rfl, Nat.le_of_ble_eq_true rfl⟩ [2] rfl rfl rfl rfl (Nat.le_of_ble_eq_true rfl) rfl ⟨Nat.zero_le _, Nat.zero_le _⟩ dX8_order_17 rfl ?_
    refine v_if_ne hC (tgt := 27) dX8_order_20 (by decide) rfl (fun c => ?_) (fun c => ?_)
    · have h := ite_f c h
      refine v_iload_n hC dX8_order_27 rfl 1 rfl rfl ?_
      refine v_iload_n hC dX8_order_28 rfl 2 rfl rfl ?_
      refine v_icmp_ne hC (tgt := 36) dX8_order_29 (by decide) rfl (fun c => ?_) (fun c => ?_)
      · have h := ite_f c h
        refine v_iconst hC (v := (nI 0)) dX8_order_36 (by decide) rfl ?_
        exact bX8_order_37 hC hr _ _ _ _ _ _ _ _ _ _ _ _ _ _ h
      · have h := ite_t c h
        refine v_iconst hC (v := (nI 2)) dX8_order_32 (by decide) rfl ?_
        refine v_goto hC (tgt := 37) dX8_order_33 (by decide) ?_
        exact bX8_order_37 hC hr _ _ _ _ _ _ _ _ _ _ _ _ _ _ h
    · have h := ite_t c h
      exact bX8_order_23 hC hr _ _ _ _ _ _ _ _ _ _ _ _ _ h
def pX8_instead_2 : Nat → (Nat → Int32) → Int32 → Int32 → Int32 → Option (Int32)
  | 0, _, _, _, _ => none
  | k + 1, r, y1, y2, y3 => if nb (nI 0) 164 = true then if (r (nI 0).toNatClampNeg) ≤ y3 then some (-1) else (pX8_canReplace r y1 y2 y3).bind fun v1 => if v1 = 0 then pX8_instead_2 k r y1 y2 (y3 + (nI 1)) else some y3 else none
theorem pX8_instead_2_s {k : Nat} (r : Nat → Int32) (y1 : Int32) (y2 : Int32) (y3 : Int32) : pX8_instead_2 (k + 1) r y1 y2 y3 = if nb (nI 0) 164 = true then if (r (nI 0).toNatClampNeg) ≤ y3 then some (-1) else (pX8_canReplace r y1 y2 y3).bind fun v1 => if v1 = 0 then pX8_instead_2 k r y1 y2 (y3 + (nI 1)) else some y3 else none := rfl
def pX8_instead (r : Nat → Int32) (x1 : Int32) (x2 : Int32) : Option (Int32) := pX8_instead_2 FU r x1 x2 (nI 0)
abbrev rmX8_instead : Room := { frames := 4, cells := 0, slots := 0, locals := 95 }
set_option maxHeartbeats 4000000 in
set_option maxRecDepth 100000 in
theorem bX8_instead_2 {p : Program} {l : Launch} {e : Env} {s : State} {m : MethodId} {args : Array Value} {below : List Frame} {meth : Method} {c : Code} {g : va_G} {cy : Nat → ClassId} (hC : CX p s m args meth c g cy 4 cX8_instead wsX8_instead RX8) (hr : meth.sig.returnType = (some .int)) {h0 : Nat} {res : Int32} : ∀ (k : Nat) (r : Nat → Int32) (y1 : Int32) (y2 : Int32) (y3 : Int32) (h : pX8_instead_2 k r y1 y2 y3 = some res), V p l e (headSpec wsX8_instead rmX8_instead).room s m args below meth c g 4 0 0 (MQ below (QRi res) args s 0 0 nF) nF (fun _ => True) [(h0, .inl (cy 0, 164, .inl r))] 2 [(0, .ref h0), (1, .int y1), (2, .int y2), (3, .int y3)] [] := by
  intro k
  induction k with
  | zero =>
    intro r y1 y2 y3 h
    have h : (none : Option _) = some res := h
    cases h
  | succ k ih =>
    intro r y1 y2 y3 h
    rw [pX8_instead_2_s] at h
    refine v_iload_n hC dX8_instead_2 rfl 3 rfl rfl ?_
    refine v_aload_n hC dX8_instead_3 rfl 0 rfl rfl ?_
    refine v_iconst hC (v := (nI 0)) dX8_instead_4 (by decide) rfl ?_
    obtain ⟨hn, h⟩ := ite_g h
    refine v_iald hC 0 rfl hn dX8_instead_5 rfl ?_
    refine v_icmp_ge hC (tgt := 27) dX8_instead_6 (by decide) rfl (fun c => ?_) (fun c => ?_)
    · have h := ite_t c h
      refine v_iconst hC (v := (-1)) dX8_instead_27 (by decide) rfl ?_
      obtain rfl := Option.some.inj h
      exact v_irt hC hr rfl rfl dX8_instead_28
    · have h := ite_f c h
      refine v_aload_n hC dX8_instead_9 rfl 0 rfl rfl ?_
      refine v_iload_n hC dX8_instead_10 rfl 1 rfl rfl ?_
      refine v_iload_n hC dX8_instead_11 rfl 2 rfl rfl ?_
      refine v_iload_n hC dX8_instead_12 rfl 3 rfl rfl ?_
      obtain ⟨v1, hv1, h⟩ := bind_g h
      refine v_callSri hC (n := 4) (st := []) (mX8_canReplace l g cy h0 r y1 y2 y3 hv1) gX8_instead_X8_canReplace rfl rfl rfl (by decide +kernel) ⟨Nat.le_of_ble_eq_true rfl, Nat.le_of_ble_eq_true rfl⟩ [0] rfl rfl rfl rfl (Nat.le_of_ble_eq_true rfl) rfl ⟨Nat.zero_le _, Nat.zero_le _⟩ dX8_instead_13 rfl ?_
      refine v_if_eq hC (tgt := 21) dX8_instead_16 (by decide) rfl (fun c => ?_) (fun c => ?_)
      · have h := ite_t c h
        refine v_iinc hC dX8_instead_21 3 rfl (v := (y3 + (nI 1))) rfl (by decide) [(3, .int (y3 + (nI 1))), (0, .ref h0), (1, .int y1), (2, .int y2)] rfl rfl ?_
        refine v_goto hC (tgt := 2) dX8_instead_24 (by decide) ?_
        exact v_sub [1, 2, 3, 0] (lv' := [(0, .ref h0), (1, .int y1), (2, .int y2), (3, .int (y3 + (nI 1)))]) rfl (ih _ _ _ _ h)
      · have h := ite_f c h
        refine v_iload_n hC dX8_instead_19 rfl 3 rfl rfl ?_
        obtain rfl := Option.some.inj h
        exact v_irt hC hr rfl rfl dX8_instead_20
set_option maxHeartbeats 4000000 in
set_option maxRecDepth 100000 in
theorem mX8_instead (l : Launch) (g : va_G) (cy : Nat → ClassId) (h0 : Nat) (r : Nat → Int32) (x1 : Int32) (x2 : Int32) {res : Int32} (h : pX8_instead r x1 x2 = some res) : Met l yX8_instead wsX8_instead rmX8_instead (PW [.ref h0, .int x1, .int x2] g cy [(h0, .inl (cy 0, 164, .inl r))]) (QRi res) 0 0 nF := by
  refine m_ofV (cc := cX8_instead) (nL := 4) (ret := (some .int)) (B := fun _ => True) RX8 rfl (by decide) rfl [(0, .ref h0), (1, .int x1), (2, .int x2)] rfl (Nat.le_of_ble_eq_true rfl) (fun h => h) ?_
  intro p e s m args below meth c hC hr
  unfold pX8_instead at h
  refine v_iconst hC (v := (nI 0)) dX8_instead_0 (by decide) rfl ?_
  refine v_istore_n hC dX8_instead_1 rfl (by decide) [(3, .int (nI 0)), (0, .ref h0), (1, .int x1), (2, .int x2)] rfl rfl ?_
  exact v_sub [1, 2, 3, 0] (lv' := [(0, .ref h0), (1, .int x1), (2, .int x2), (3, .int (nI 0))]) rfl (bX8_instead_2 hC hr FU _ _ _ _ h)
theorem kX8_command_16 : Cond.fieldLink RX8 16 "CrowdFacesModel" "trial" "[I" ∈ wsX8_command := by decide +kernel
theorem iX8_command_X8 : ∀ w ∈ wsX80, w ∈ wsX8_command := by decide +kernel
def pX8_command_116 (tr : Nat → Int32) (s0 : Int32) : Option (Int32 × (Nat → Int32)) := (bz s0).bind fun b1 => some (b1, tr)
def pX8_command_115 (tr : Nat → Int32) : Option (Int32 × (Nat → Int32)) := pX8_command_116 tr (nI 0)
def pX8_command_136 (tr : Nat → Int32) (s0 : Int32) : Option (Int32 × (Nat → Int32)) := (bz s0).bind fun b1 => some (b1, tr)
def pX8_command_135 (tr : Nat → Int32) : Option (Int32 × (Nat → Int32)) := pX8_command_136 tr (nI 0)
def pX8_command_156 (tr : Nat → Int32) (s0 : Int32) : Option (Int32 × (Nat → Int32)) := (bz s0).bind fun b1 => some (b1, tr)
def pX8_command_155 (tr : Nat → Int32) : Option (Int32 × (Nat → Int32)) := pX8_command_156 tr (nI 0)
def pX8_command_185 (tr : Nat → Int32) : Option (Int32 × (Nat → Int32)) := some ((nI 0), tr)
def pX8_command_225 (tr : Nat → Int32) (s0 : Int32) : Option (Int32 × (Nat → Int32)) := (bz s0).bind fun b1 => some (b1, tr)
def pX8_command_224 (tr : Nat → Int32) : Option (Int32 × (Nat → Int32)) := pX8_command_225 tr (nI 0)
def pX8_command_301 (tr : Nat → Int32) (s0 : Int32) : Option (Int32 × (Nat → Int32)) := (bz s0).bind fun b1 => some (b1, tr)
def pX8_command_300 (tr : Nat → Int32) : Option (Int32 × (Nat → Int32)) := pX8_command_301 tr (nI 0)
def pX8_command_359 (tr : Nat → Int32) (s0 : Int32) : Option (Int32 × (Nat → Int32)) := (bz s0).bind fun b1 => some (b1, tr)
def pX8_command_358 (tr : Nat → Int32) : Option (Int32 × (Nat → Int32)) := pX8_command_359 tr (nI 0)
def pX8_command_351 (tr : Nat → Int32) (s0 : Int32) (s1 : Int32) : Option (Int32 × (Nat → Int32)) := if s1 = s0 then pX8_command_359 tr (nI 1) else pX8_command_358 tr
def pX8_command_340 (tr : Nat → Int32) (y7 : Int32) (s0 : Int32) : Option (Int32 × (Nat → Int32)) := if y7 = (nI 1) then pX8_command_351 tr (nI 1) s0 else pX8_command_351 tr (nI 0) s0
def pX8_command_381 (tr : Nat → Int32) (s0 : Int32) : Option (Int32 × (Nat → Int32)) := (bz s0).bind fun b1 => some (b1, tr)
def pX8_command_380 (tr : Nat → Int32) : Option (Int32 × (Nat → Int32)) := pX8_command_381 tr (nI 0)
def pX8_command_404 (tr : Nat → Int32) (s0 : Int32) : Option (Int32 × (Nat → Int32)) := (bz s0).bind fun b1 => some (b1, tr)
def pX8_command_403 (tr : Nat → Int32) : Option (Int32 × (Nat → Int32)) := pX8_command_404 tr (nI 0)
def pX8_command (tr : Nat → Int32) (x1 : Int32) (x2 : Int32) : Option (Int32 × (Nat → Int32)) := if x1 = (nI 1) then if (x2 - x2 / (nI 1000) * (nI 1000)) = 0 then (pX8_canShoot tr (x2 / (nI 1000))).bind fun v1 => if v1 = 0 then pX8_command_115 tr else (pX8_shootOn tr (x2 / (nI 1000))).bind fun v2 => if v2.1 ≤ 0 then pX8_command_115 v2.2 else pX8_command_116 v2.2 (nI 1) else pX8_command_115 tr else if x1 = (nI 2) then if x2 = 0 then (pX8_mealOn tr).bind fun v3 => if v3.1 < 0 then pX8_command_135 v3.2 else pX8_command_136 v3.2 (nI 1) else pX8_command_135 tr else if x1 = (nI 3) then if x2 = 0 then (pX8_nextOn tr).bind fun v4 => if v4.1 ≤ 0 then pX8_command_155 v4.2 else pX8_command_156 v4.2 (nI 1) else pX8_command_155 tr else if x1 = (nI 4) then if 0 < (x2 - x2 / (nI 10) * (nI 10)) then pX8_command_185 tr else (pX8_isScene tr (x2 / (nI 1000))).bind fun v5 => if v5 = 0 then pX8_command_185 tr else (pX8_isExtra tr ((x2 / (nI 10)) - (x2 / (nI 10)) / (nI 100) * (nI 100))).bind fun v6 => if v6 = 0 then pX8_command_185 tr else (pX8_instead tr (x2 / (nI 1000)) ((x2 / (nI 10)) - (x2 / (nI 10)) / (nI 100) * (nI 100))).bind fun v7 => if v7 = (-1) then pX8_command_224 tr else (pX8_replaceOn tr (x2 / (nI 1000)) ((x2 / (nI 10)) - (x2 / (nI 10)) / (nI 100) * (nI 100)) v7).bind fun v8 => if v8.1 ≤ 0 then pX8_command_224 v8.2 else pX8_command_225 v8.2 (nI 1) else if x1 = (nI 5) then (pX8_isSetting (x2 / (nI 1000)) (x2 - x2 / (nI 1000) * (nI 1000))).bind fun v9 => if v9 = 0 then some ((nI 0), tr) else if nb ((nI 7) + (x2 / (nI 1000))) 164 = true then some ((nI 1), (upd tr ((nI 7) + (x2 / (nI 1000))).toNatClampNeg (x2 - x2 / (nI 1000) * (nI 1000)))) else none else if x1 = (nI 6) then if (x2 - x2 / (nI 10) * (nI 10)) = 0 then (pX8_isScene tr (x2 / (nI 1000))).bind fun v10 => if v10 = 0 then pX8_command_300 tr else (pX8_isExtra tr ((x2 / (nI 10)) - (x2 / (nI 10)) / (nI 100) * (nI 100))).bind fun v11 => if v11 = 0 then pX8_command_300 tr else (pX8_told tr (x2 / (nI 1000)) (nI 6)).bind fun v12 => (pX8_has v12 ((x2 / (nI 10)) - (x2 / (nI 10)) / (nI 100) * (nI 100))).bind fun v13 => if v13 = 0 then pX8_command_300 tr else pX8_command_301 tr (nI 1) else pX8_command_300 tr else if x1 = (nI 7) then if (nI 2) ≤ (x2 - x2 / (nI 100) * (nI 100)) then pX8_command_358 tr else (pX8_isExtra tr (x2 / (nI 100))).bind fun v14 => if v14 = 0 then pX8_command_358 tr else (pX8_of tr (x2 / (nI 100)) (nI 2)).bind fun v15 => if v15 ≤ 0 then pX8_command_340 tr (x2 - x2 / (nI 10) * (nI 10)) (nI 0) else pX8_command_340 tr (x2 - x2 / (nI 10) * (nI 10)) (nI 1) else if x1 = (nI 8) then if (nI 100) ≤ x2 then pX8_command_380 tr else if nb (nI 5) 164 = true then if x2 < (tr (nI 5).toNatClampNeg) then pX8_command_380 tr else pX8_command_381 tr (nI 1) else none else if x1 = (nI 9) then if (nI 100) ≤ x2 then pX8_command_403 tr else if nb (nI 6) 164 = true then if x2 < (tr (nI 6).toNatClampNeg) then pX8_command_403 tr else pX8_command_404 tr (nI 1) else none else some ((nI 0), tr)
abbrev rmX8_command : Room := { frames := 7, cells := 0, slots := 0, locals := 161 }
set_option maxHeartbeats 4000000 in
set_option maxRecDepth 100000 in
theorem bX8_command_116 {p : Program} {l : Launch} {e : Env} {s : State} {m : MethodId} {args : Array Value} {below : List Frame} {meth : Method} {c : Code} {g : va_G} {cy : Nat → ClassId} (hC : CX p s m args meth c g cy 9 cX8_command wsX8_command RX8) (hr : meth.sig.returnType = (some .boolean)) {h0 ztx znw ztr zdi zkp zik : Nat} {A : Nat → Prop} {res : Int32 × (Nat → Int32)} : ∀ (rf : Int32) (sz : Int32) (ac : Int32) (sp : Int32) (ou : Int32) (tx : Nat → Int32) (nw : Nat → Int32) (tr : Nat → Int32) (di : Nat → Int32) (kp : Nat → Int32) (ik : Nat → Int32) (s0 : Int32)(h : pX8_command_116 tr s0 = some res), V p l e (headSpec wsX8_command rmX8_command).room s m args below meth c g 9 0 0 (MQ below (QWi g A res.1 [(h0, .inr (6, [.int rf, .ref ztx, .int sz, .ref znw, .ref ztr, .ref zdi, .int ac, .ref zkp, .ref zik, .int sp, .int ou])), (ztx, .inl (cy 0, 120, .inl tx)), (znw, .inl (cy 0, 164, .inl nw)), (ztr, .inl (cy 0, 164, .inl res.2)), (zdi, .inl (cy 0, 2296, .inl di)), (zkp, .inl (cy 0, 328, .inl kp)), (zik, .inl (cy 1, 2, .inl ik))]) args s 0 0 A) A A [(h0, .inr (6, [.int rf, .ref ztx, .int sz, .ref znw, .ref ztr, .ref zdi, .int ac, .ref zkp, .ref zik, .int sp, .int ou])), (ztx, .inl (cy 0, 120, .inl tx)), (znw, .inl (cy 0, 164, .inl nw)), (ztr, .inl (cy 0, 164, .inl tr)), (zdi, .inl (cy 0, 2296, .inl di)), (zkp, .inl (cy 0, 328, .inl kp)), (zik, .inl (cy 1, 2, .inl ik))] 116 [] [.int s0] := by
  intro rf sz ac sp ou tx nw tr di kp ik s0 h
  unfold pX8_command_116 at h
  obtain ⟨b1, hb9, h⟩ := bind_g h
  obtain ⟨e9, hn⟩ := bz_g hb9
  obtain rfl := Option.some.inj h
  exact v_irw hC hr hn e9 dX8_command_116
set_option maxHeartbeats 4000000 in
set_option maxRecDepth 100000 in
theorem bX8_command_115 {p : Program} {l : Launch} {e : Env} {s : State} {m : MethodId} {args : Array Value} {below : List Frame} {meth : Method} {c : Code} {g : va_G} {cy : Nat → ClassId} (hC : CX p s m args meth c g cy 9 cX8_command wsX8_command RX8) (hr : meth.sig.returnType = (some .boolean)) {h0 ztx znw ztr zdi zkp zik : Nat} {A : Nat → Prop} {res : Int32 × (Nat → Int32)} : ∀ (rf : Int32) (sz : Int32) (ac : Int32) (sp : Int32) (ou : Int32) (tx : Nat → Int32) (nw : Nat → Int32) (tr : Nat → Int32) (di : Nat → Int32) (kp : Nat → Int32) (ik : Nat → Int32) (h : pX8_command_115 tr = some res), V p l e (headSpec wsX8_command rmX8_command).room s m args below meth c g 9 0 0 (MQ below (QWi g A res.1 [(h0, .inr (6, [.int rf, .ref ztx, .int sz, .ref znw, .ref ztr, .ref zdi, .int ac, .ref zkp, .ref zik, .int sp, .int ou])), (ztx, .inl (cy 0, 120, .inl tx)), (znw, .inl (cy 0, 164, .inl nw)), (ztr, .inl (cy 0, 164, .inl res.2)), (zdi, .inl (cy 0, 2296, .inl di)), (zkp, .inl (cy 0, 328, .inl kp)), (zik, .inl (cy 1, 2, .inl ik))]) args s 0 0 A) A A [(h0, .inr (6, [.int rf, .ref ztx, .int sz, .ref znw, .ref ztr, .ref zdi, .int ac, .ref zkp, .ref zik, .int sp, .int ou])), (ztx, .inl (cy 0, 120, .inl tx)), (znw, .inl (cy 0, 164, .inl nw)), (ztr, .inl (cy 0, 164, .inl tr)), (zdi, .inl (cy 0, 2296, .inl di)), (zkp, .inl (cy 0, 328, .inl kp)), (zik, .inl (cy 1, 2, .inl ik))] 115 [] [] := by
  intro rf sz ac sp ou tx nw tr di kp ik  h
  unfold pX8_command_115 at h
  refine v_iconst hC (v := (nI 0)) dX8_command_115 (by decide) rfl ?_
  exact bX8_command_116 hC hr _ _ _ _ _ _ _ _ _ _ _ _ h
set_option maxHeartbeats 4000000 in
set_option maxRecDepth 100000 in
theorem bX8_command_136 {p : Program} {l : Launch} {e : Env} {s : State} {m : MethodId} {args : Array Value} {below : List Frame} {meth : Method} {c : Code} {g : va_G} {cy : Nat → ClassId} (hC : CX p s m args meth c g cy 9 cX8_command wsX8_command RX8) (hr : meth.sig.returnType = (some .boolean)) {h0 ztx znw ztr zdi zkp zik : Nat} {A : Nat → Prop} {res : Int32 × (Nat → Int32)} : ∀ (rf : Int32) (sz : Int32) (ac : Int32) (sp : Int32) (ou : Int32) (tx : Nat → Int32) (nw : Nat → Int32) (tr : Nat → Int32) (di : Nat → Int32) (kp : Nat → Int32) (ik : Nat → Int32) (s0 : Int32)(h : pX8_command_136 tr s0 = some res), V p l e (headSpec wsX8_command rmX8_command).room s m args below meth c g 9 0 0 (MQ below (QWi g A res.1 [(h0, .inr (6, [.int rf, .ref ztx, .int sz, .ref znw, .ref ztr, .ref zdi, .int ac, .ref zkp, .ref zik, .int sp, .int ou])), (ztx, .inl (cy 0, 120, .inl tx)), (znw, .inl (cy 0, 164, .inl nw)), (ztr, .inl (cy 0, 164, .inl res.2)), (zdi, .inl (cy 0, 2296, .inl di)), (zkp, .inl (cy 0, 328, .inl kp)), (zik, .inl (cy 1, 2, .inl ik))]) args s 0 0 A) A A [(h0, .inr (6, [.int rf, .ref ztx, .int sz, .ref znw, .ref ztr, .ref zdi, .int ac, .ref zkp, .ref zik, .int sp, .int ou])), (ztx, .inl (cy 0, 120, .inl tx)), (znw, .inl (cy 0, 164, .inl nw)), (ztr, .inl (cy 0, 164, .inl tr)), (zdi, .inl (cy 0, 2296, .inl di)), (zkp, .inl (cy 0, 328, .inl kp)), (zik, .inl (cy 1, 2, .inl ik))] 136 [] [.int s0] := by
  intro rf sz ac sp ou tx nw tr di kp ik s0 h
  unfold pX8_command_136 at h
  obtain ⟨b1, hb9, h⟩ := bind_g h
  obtain ⟨e9, hn⟩ := bz_g hb9
  obtain rfl := Option.some.inj h
  exact v_irw hC hr hn e9 dX8_command_136
set_option maxHeartbeats 4000000 in
set_option maxRecDepth 100000 in
theorem bX8_command_135 {p : Program} {l : Launch} {e : Env} {s : State} {m : MethodId} {args : Array Value} {below : List Frame} {meth : Method} {c : Code} {g : va_G} {cy : Nat → ClassId} (hC : CX p s m args meth c g cy 9 cX8_command wsX8_command RX8) (hr : meth.sig.returnType = (some .boolean)) {h0 ztx znw ztr zdi zkp zik : Nat} {A : Nat → Prop} {res : Int32 × (Nat → Int32)} : ∀ (rf : Int32) (sz : Int32) (ac : Int32) (sp : Int32) (ou : Int32) (tx : Nat → Int32) (nw : Nat → Int32) (tr : Nat → Int32) (di : Nat → Int32) (kp : Nat → Int32) (ik : Nat → Int32) (h : pX8_command_135 tr = some res), V p l e (headSpec wsX8_command rmX8_command).room s m args below meth c g 9 0 0 (MQ below (QWi g A res.1 [(h0, .inr (6, [.int rf, .ref ztx, .int sz, .ref znw, .ref ztr, .ref zdi, .int ac, .ref zkp, .ref zik, .int sp, .int ou])), (ztx, .inl (cy 0, 120, .inl tx)), (znw, .inl (cy 0, 164, .inl nw)), (ztr, .inl (cy 0, 164, .inl res.2)), (zdi, .inl (cy 0, 2296, .inl di)), (zkp, .inl (cy 0, 328, .inl kp)), (zik, .inl (cy 1, 2, .inl ik))]) args s 0 0 A) A A [(h0, .inr (6, [.int rf, .ref ztx, .int sz, .ref znw, .ref ztr, .ref zdi, .int ac, .ref zkp, .ref zik, .int sp, .int ou])), (ztx, .inl (cy 0, 120, .inl tx)), (znw, .inl (cy 0, 164, .inl nw)), (ztr, .inl (cy 0, 164, .inl tr)), (zdi, .inl (cy 0, 2296, .inl di)), (zkp, .inl (cy 0, 328, .inl kp)), (zik, .inl (cy 1, 2, .inl ik))] 135 [] [] := by
  intro rf sz ac sp ou tx nw tr di kp ik  h
  unfold pX8_command_135 at h
  refine v_iconst hC (v := (nI 0)) dX8_command_135 (by decide) rfl ?_
  exact bX8_command_136 hC hr _ _ _ _ _ _ _ _ _ _ _ _ h
set_option maxHeartbeats 4000000 in
set_option maxRecDepth 100000 in
theorem bX8_command_156 {p : Program} {l : Launch} {e : Env} {s : State} {m : MethodId} {args : Array Value} {below : List Frame} {meth : Method} {c : Code} {g : va_G} {cy : Nat → ClassId} (hC : CX p s m args meth c g cy 9 cX8_command wsX8_command RX8) (hr : meth.sig.returnType = (some .boolean)) {h0 ztx znw ztr zdi zkp zik : Nat} {A : Nat → Prop} {res : Int32 × (Nat → Int32)} : ∀ (rf : Int32) (sz : Int32) (ac : Int32) (sp : Int32) (ou : Int32) (tx : Nat → Int32) (nw : Nat → Int32) (tr : Nat → Int32) (di : Nat → Int32) (kp : Nat → Int32) (ik : Nat → Int32) (s0 : Int32)(h : pX8_command_156 tr s0 = some res), V p l e (headSpec wsX8_command rmX8_command).room s m args below meth c g 9 0 0 (MQ below (QWi g A res.1 [(h0, .inr (6, [.int rf, .ref ztx, .int sz, .ref znw, .ref ztr, .ref zdi, .int ac, .ref zkp, .ref zik, .int sp, .int ou])), (ztx, .inl (cy 0, 120, .inl tx)), (znw, .inl (cy 0, 164, .inl nw)), (ztr, .inl (cy 0, 164, .inl res.2)), (zdi, .inl (cy 0, 2296, .inl di)), (zkp, .inl (cy 0, 328, .inl kp)), (zik, .inl (cy 1, 2, .inl ik))]) args s 0 0 A) A A [(h0, .inr (6, [.int rf, .ref ztx, .int sz, .ref znw, .ref ztr, .ref zdi, .int ac, .ref zkp, .ref zik, .int sp, .int ou])), (ztx, .inl (cy 0, 120, .inl tx)), (znw, .inl (cy 0, 164, .inl nw)), (ztr, .inl (cy 0, 164, .inl tr)), (zdi, .inl (cy 0, 2296, .inl di)), (zkp, .inl (cy 0, 328, .inl kp)), (zik, .inl (cy 1, 2, .inl ik))] 156 [] [.int s0] := by
  intro rf sz ac sp ou tx nw tr di kp ik s0 h
  unfold pX8_command_156 at h
  obtain ⟨b1, hb9, h⟩ := bind_g h
  obtain ⟨e9, hn⟩ := bz_g hb9
  obtain rfl := Option.some.inj h
  exact v_irw hC hr hn e9 dX8_command_156
set_option maxHeartbeats 4000000 in
set_option maxRecDepth 100000 in
theorem bX8_command_155 {p : Program} {l : Launch} {e : Env} {s : State} {m : MethodId} {args : Array Value} {below : List Frame} {meth : Method} {c : Code} {g : va_G} {cy : Nat → ClassId} (hC : CX p s m args meth c g cy 9 cX8_command wsX8_command RX8) (hr : meth.sig.returnType = (some .boolean)) {h0 ztx znw ztr zdi zkp zik : Nat} {A : Nat → Prop} {res : Int32 × (Nat → Int32)} : ∀ (rf : Int32) (sz : Int32) (ac : Int32) (sp : Int32) (ou : Int32) (tx : Nat → Int32) (nw : Nat → Int32) (tr : Nat → Int32) (di : Nat → Int32) (kp : Nat → Int32) (ik : Nat → Int32) (h : pX8_command_155 tr = some res), V p l e (headSpec wsX8_command rmX8_command).room s m args below meth c g 9 0 0 (MQ below (QWi g A res.1 [(h0, .inr (6, [.int rf, .ref ztx, .int sz, .ref znw, .ref ztr, .ref zdi, .int ac, .ref zkp, .ref zik, .int sp, .int ou])), (ztx, .inl (cy 0, 120, .inl tx)), (znw, .inl (cy 0, 164, .inl nw)), (ztr, .inl (cy 0, 164, .inl res.2)), (zdi, .inl (cy 0, 2296, .inl di)), (zkp, .inl (cy 0, 328, .inl kp)), (zik, .inl (cy 1, 2, .inl ik))]) args s 0 0 A) A A [(h0, .inr (6, [.int rf, .ref ztx, .int sz, .ref znw, .ref ztr, .ref zdi, .int ac, .ref zkp, .ref zik, .int sp, .int ou])), (ztx, .inl (cy 0, 120, .inl tx)), (znw, .inl (cy 0, 164, .inl nw)), (ztr, .inl (cy 0, 164, .inl tr)), (zdi, .inl (cy 0, 2296, .inl di)), (zkp, .inl (cy 0, 328, .inl kp)), (zik, .inl (cy 1, 2, .inl ik))] 155 [] [] := by
  intro rf sz ac sp ou tx nw tr di kp ik  h
  unfold pX8_command_155 at h
  refine v_iconst hC (v := (nI 0)) dX8_command_155 (by decide) rfl ?_
  exact bX8_command_156 hC hr _ _ _ _ _ _ _ _ _ _ _ _ h
set_option maxHeartbeats 4000000 in
set_option maxRecDepth 100000 in
theorem bX8_command_185 {p : Program} {l : Launch} {e : Env} {s : State} {m : MethodId} {args : Array Value} {below : List Frame} {meth : Method} {c : Code} {g : va_G} {cy : Nat → ClassId} (hC : CX p s m args meth c g cy 9 cX8_command wsX8_command RX8) (hr : meth.sig.returnType = (some .boolean)) {h0 ztx znw ztr zdi zkp zik : Nat} {A : Nat → Prop} {res : Int32 × (Nat → Int32)} : ∀ (rf : Int32) (sz : Int32) (ac : Int32) (sp : Int32) (ou : Int32) (tx : Nat → Int32) (nw : Nat → Int32) (tr : Nat → Int32) (di : Nat → Int32) (kp : Nat → Int32) (ik : Nat → Int32) (h : pX8_command_185 tr = some res), V p l e (headSpec wsX8_command rmX8_command).room s m args below meth c g 9 0 0 (MQ below (QWi g A res.1 [(h0, .inr (6, [.int rf, .ref ztx, .int sz, .ref znw, .ref ztr, .ref zdi, .int ac, .ref zkp, .ref zik, .int sp, .int ou])), (ztx, .inl (cy 0, 120, .inl tx)), (znw, .inl (cy 0, 164, .inl nw)), (ztr, .inl (cy 0, 164, .inl res.2)), (zdi, .inl (cy 0, 2296, .inl di)), (zkp, .inl (cy 0, 328, .inl kp)), (zik, .inl (cy 1, 2, .inl ik))]) args s 0 0 A) A A [(h0, .inr (6, [.int rf, .ref ztx, .int sz, .ref znw, .ref ztr, .ref zdi, .int ac, .ref zkp, .ref zik, .int sp, .int ou])), (ztx, .inl (cy 0, 120, .inl tx)), (znw, .inl (cy 0, 164, .inl nw)), (ztr, .inl (cy 0, 164, .inl tr)), (zdi, .inl (cy 0, 2296, .inl di)), (zkp, .inl (cy 0, 328, .inl kp)), (zik, .inl (cy 1, 2, .inl ik))] 185 [] [] := by
  intro rf sz ac sp ou tx nw tr di kp ik  h
  unfold pX8_command_185 at h
  refine v_iconst hC (v := (nI 0)) dX8_command_185 (by decide) rfl ?_
  obtain rfl := Option.some.inj h
  exact v_irw hC hr rfl rfl dX8_command_186
set_option maxHeartbeats 4000000 in
set_option maxRecDepth 100000 in
theorem bX8_command_225 {p : Program} {l : Launch} {e : Env} {s : State} {m : MethodId} {args : Array Value} {below : List Frame} {meth : Method} {c : Code} {g : va_G} {cy : Nat → ClassId} (hC : CX p s m args meth c g cy 9 cX8_command wsX8_command RX8) (hr : meth.sig.returnType = (some .boolean)) {h0 ztx znw ztr zdi zkp zik : Nat} {A : Nat → Prop} {res : Int32 × (Nat → Int32)} : ∀ (rf : Int32) (sz : Int32) (ac : Int32) (sp : Int32) (ou : Int32) (tx : Nat → Int32) (nw : Nat → Int32) (tr : Nat → Int32) (di : Nat → Int32) (kp : Nat → Int32) (ik : Nat → Int32) (s0 : Int32)(h : pX8_command_225 tr s0 = some res), V p l e (headSpec wsX8_command rmX8_command).room s m args below meth c g 9 0 0 (MQ below (QWi g A res.1 [(h0, .inr (6, [.int rf, .ref ztx, .int sz, .ref znw, .ref ztr, .ref zdi, .int ac, .ref zkp, .ref zik, .int sp, .int ou])), (ztx, .inl (cy 0, 120, .inl tx)), (znw, .inl (cy 0, 164, .inl nw)), (ztr, .inl (cy 0, 164, .inl res.2)), (zdi, .inl (cy 0, 2296, .inl di)), (zkp, .inl (cy 0, 328, .inl kp)), (zik, .inl (cy 1, 2, .inl ik))]) args s 0 0 A) A A [(h0, .inr (6, [.int rf, .ref ztx, .int sz, .ref znw, .ref ztr, .ref zdi, .int ac, .ref zkp, .ref zik, .int sp, .int ou])), (ztx, .inl (cy 0, 120, .inl tx)), (znw, .inl (cy 0, 164, .inl nw)), (ztr, .inl (cy 0, 164, .inl tr)), (zdi, .inl (cy 0, 2296, .inl di)), (zkp, .inl (cy 0, 328, .inl kp)), (zik, .inl (cy 1, 2, .inl ik))] 225 [] [.int s0] := by
  intro rf sz ac sp ou tx nw tr di kp ik s0 h
  unfold pX8_command_225 at h
  obtain ⟨b1, hb9, h⟩ := bind_g h
  obtain ⟨e9, hn⟩ := bz_g hb9
  obtain rfl := Option.some.inj h
  exact v_irw hC hr hn e9 dX8_command_225
set_option maxHeartbeats 4000000 in
set_option maxRecDepth 100000 in
theorem bX8_command_224 {p : Program} {l : Launch} {e : Env} {s : State} {m : MethodId} {args : Array Value} {below : List Frame} {meth : Method} {c : Code} {g : va_G} {cy : Nat → ClassId} (hC : CX p s m args meth c g cy 9 cX8_command wsX8_command RX8) (hr : meth.sig.returnType = (some .boolean)) {h0 ztx znw ztr zdi zkp zik : Nat} {A : Nat → Prop} {res : Int32 × (Nat → Int32)} : ∀ (rf : Int32) (sz : Int32) (ac : Int32) (sp : Int32) (ou : Int32) (tx : Nat → Int32) (nw : Nat → Int32) (tr : Nat → Int32) (di : Nat → Int32) (kp : Nat → Int32) (ik : Nat → Int32) (h : pX8_command_224 tr = some res), V p l e (headSpec wsX8_command rmX8_command).room s m args below meth c g 9 0 0 (MQ below (QWi g A res.1 [(h0, .inr (6, [.int rf, .ref ztx, .int sz, .ref znw, .ref ztr, .ref zdi, .int ac, .ref zkp, .ref zik, .int sp, .int ou])), (ztx, .inl (cy 0, 120, .inl tx)), (znw, .inl (cy 0, 164, .inl nw)), (ztr, .inl (cy 0, 164, .inl res.2)), (zdi, .inl (cy 0, 2296, .inl di)), (zkp, .inl (cy 0, 328, .inl kp)), (zik, .inl (cy 1, 2, .inl ik))]) args s 0 0 A) A A [(h0, .inr (6, [.int rf, .ref ztx, .int sz, .ref znw, .ref ztr, .ref zdi, .int ac, .ref zkp, .ref zik, .int sp, .int ou])), (ztx, .inl (cy 0, 120, .inl tx)), (znw, .inl (cy 0, 164, .inl nw)), (ztr, .inl (cy 0, 164, .inl tr)), (zdi, .inl (cy 0, 2296, .inl di)), (zkp, .inl (cy 0, 328, .inl kp)), (zik, .inl (cy 1, 2, .inl ik))] 224 [] [] := by
  intro rf sz ac sp ou tx nw tr di kp ik  h
  unfold pX8_command_224 at h
  refine v_iconst hC (v := (nI 0)) dX8_command_224 (by decide) rfl ?_
  exact bX8_command_225 hC hr _ _ _ _ _ _ _ _ _ _ _ _ h
set_option maxHeartbeats 4000000 in
set_option maxRecDepth 100000 in
theorem bX8_command_301 {p : Program} {l : Launch} {e : Env} {s : State} {m : MethodId} {args : Array Value} {below : List Frame} {meth : Method} {c : Code} {g : va_G} {cy : Nat → ClassId} (hC : CX p s m args meth c g cy 9 cX8_command wsX8_command RX8) (hr : meth.sig.returnType = (some .boolean)) {h0 ztx znw ztr zdi zkp zik : Nat} {A : Nat → Prop} {res : Int32 × (Nat → Int32)} : ∀ (rf : Int32) (sz : Int32) (ac : Int32) (sp : Int32) (ou : Int32) (tx : Nat → Int32) (nw : Nat → Int32) (tr : Nat → Int32) (di : Nat → Int32) (kp : Nat → Int32) (ik : Nat → Int32) (s0 : Int32)(h : pX8_command_301 tr s0 = some res), V p l e (headSpec wsX8_command rmX8_command).room s m args below meth c g 9 0 0 (MQ below (QWi g A res.1 [(h0, .inr (6, [.int rf, .ref ztx, .int sz, .ref znw, .ref ztr, .ref zdi, .int ac, .ref zkp, .ref zik, .int sp, .int ou])), (ztx, .inl (cy 0, 120, .inl tx)), (znw, .inl (cy 0, 164, .inl nw)), (ztr, .inl (cy 0, 164, .inl res.2)), (zdi, .inl (cy 0, 2296, .inl di)), (zkp, .inl (cy 0, 328, .inl kp)), (zik, .inl (cy 1, 2, .inl ik))]) args s 0 0 A) A A [(h0, .inr (6, [.int rf, .ref ztx, .int sz, .ref znw, .ref ztr, .ref zdi, .int ac, .ref zkp, .ref zik, .int sp, .int ou])), (ztx, .inl (cy 0, 120, .inl tx)), (znw, .inl (cy 0, 164, .inl nw)), (ztr, .inl (cy 0, 164, .inl tr)), (zdi, .inl (cy 0, 2296, .inl di)), (zkp, .inl (cy 0, 328, .inl kp)), (zik, .inl (cy 1, 2, .inl ik))] 301 [] [.int s0] := by
  intro rf sz ac sp ou tx nw tr di kp ik s0 h
  unfold pX8_command_301 at h
  obtain ⟨b1, hb9, h⟩ := bind_g h
  obtain ⟨e9, hn⟩ := bz_g hb9
  obtain rfl := Option.some.inj h
  exact v_irw hC hr hn e9 dX8_command_301
set_option maxHeartbeats 4000000 in
set_option maxRecDepth 100000 in
theorem bX8_command_300 {p : Program} {l : Launch} {e : Env} {s : State} {m : MethodId} {args : Array Value} {below : List Frame} {meth : Method} {c : Code} {g : va_G} {cy : Nat → ClassId} (hC : CX p s m args meth c g cy 9 cX8_command wsX8_command RX8) (hr : meth.sig.returnType = (some .boolean)) {h0 ztx znw ztr zdi zkp zik : Nat} {A : Nat → Prop} {res : Int32 × (Nat → Int32)} : ∀ (rf : Int32) (sz : Int32) (ac : Int32) (sp : Int32) (ou : Int32) (tx : Nat → Int32) (nw : Nat → Int32) (tr : Nat → Int32) (di : Nat → Int32) (kp : Nat → Int32) (ik : Nat → Int32) (h : pX8_command_300 tr = some res), V p l e (headSpec wsX8_command rmX8_command).room s m args below meth c g 9 0 0 (MQ below (QWi g A res.1 [(h0, .inr (6, [.int rf, .ref ztx, .int sz, .ref znw, .ref ztr, .ref zdi, .int ac, .ref zkp, .ref zik, .int sp, .int ou])), (ztx, .inl (cy 0, 120, .inl tx)), (znw, .inl (cy 0, 164, .inl nw)), (ztr, .inl (cy 0, 164, .inl res.2)), (zdi, .inl (cy 0, 2296, .inl di)), (zkp, .inl (cy 0, 328, .inl kp)), (zik, .inl (cy 1, 2, .inl ik))]) args s 0 0 A) A A [(h0, .inr (6, [.int rf, .ref ztx, .int sz, .ref znw, .ref ztr, .ref zdi, .int ac, .ref zkp, .ref zik, .int sp, .int ou])), (ztx, .inl (cy 0, 120, .inl tx)), (znw, .inl (cy 0, 164, .inl nw)), (ztr, .inl (cy 0, 164, .inl tr)), (zdi, .inl (cy 0, 2296, .inl di)), (zkp, .inl (cy 0, 328, .inl kp)), (zik, .inl (cy 1, 2, .inl ik))] 300 [] [] := by
  intro rf sz ac sp ou tx nw tr di kp ik  h
  unfold pX8_command_300 at h
  refine v_iconst hC (v := (nI 0)) dX8_command_300 (by decide) rfl ?_
  exact bX8_command_301 hC hr _ _ _ _ _ _ _ _ _ _ _ _ h
set_option maxHeartbeats 4000000 in
set_option maxRecDepth 100000 in
theorem bX8_command_359 {p : Program} {l : Launch} {e : Env} {s : State} {m : MethodId} {args : Array Value} {below : List Frame} {meth : Method} {c : Code} {g : va_G} {cy : Nat → ClassId} (hC : CX p s m args meth c g cy 9 cX8_command wsX8_command RX8) (hr : meth.sig.returnType = (some .boolean)) {h0 ztx znw ztr zdi zkp zik : Nat} {A : Nat → Prop} {res : Int32 × (Nat → Int32)} : ∀ (rf : Int32) (sz : Int32) (ac : Int32) (sp : Int32) (ou : Int32) (tx : Nat → Int32) (nw : Nat → Int32) (tr : Nat → Int32) (di : Nat → Int32) (kp : Nat → Int32) (ik : Nat → Int32) (s0 : Int32)(h : pX8_command_359 tr s0 = some res), V p l e (headSpec wsX8_command rmX8_command).room s m args below meth c g 9 0 0 (MQ below (QWi g A res.1 [(h0, .inr (6, [.int rf, .ref ztx, .int sz, .ref znw, .ref ztr, .ref zdi, .int ac, .ref zkp, .ref zik, .int sp, .int ou])), (ztx, .inl (cy 0, 120, .inl tx)), (znw, .inl (cy 0, 164, .inl nw)), (ztr, .inl (cy 0, 164, .inl res.2)), (zdi, .inl (cy 0, 2296, .inl di)), (zkp, .inl (cy 0, 328, .inl kp)), (zik, .inl (cy 1, 2, .inl ik))]) args s 0 0 A) A A [(h0, .inr (6, [.int rf, .ref ztx, .int sz, .ref znw, .ref ztr, .ref zdi, .int ac, .ref zkp, .ref zik, .int sp, .int ou])), (ztx, .inl (cy 0, 120, .inl tx)), (znw, .inl (cy 0, 164, .inl nw)), (ztr, .inl (cy 0, 164, .inl tr)), (zdi, .inl (cy 0, 2296, .inl di)), (zkp, .inl (cy 0, 328, .inl kp)), (zik, .inl (cy 1, 2, .inl ik))] 359 [] [.int s0] := by
  intro rf sz ac sp ou tx nw tr di kp ik s0 h
  unfold pX8_command_359 at h
  obtain ⟨b1, hb9, h⟩ := bind_g h
  obtain ⟨e9, hn⟩ := bz_g hb9
  obtain rfl := Option.some.inj h
  exact v_irw hC hr hn e9 dX8_command_359
set_option maxHeartbeats 4000000 in
set_option maxRecDepth 100000 in
theorem bX8_command_358 {p : Program} {l : Launch} {e : Env} {s : State} {m : MethodId} {args : Array Value} {below : List Frame} {meth : Method} {c : Code} {g : va_G} {cy : Nat → ClassId} (hC : CX p s m args meth c g cy 9 cX8_command wsX8_command RX8) (hr : meth.sig.returnType = (some .boolean)) {h0 ztx znw ztr zdi zkp zik : Nat} {A : Nat → Prop} {res : Int32 × (Nat → Int32)} : ∀ (rf : Int32) (sz : Int32) (ac : Int32) (sp : Int32) (ou : Int32) (tx : Nat → Int32) (nw : Nat → Int32) (tr : Nat → Int32) (di : Nat → Int32) (kp : Nat → Int32) (ik : Nat → Int32) (h : pX8_command_358 tr = some res), V p l e (headSpec wsX8_command rmX8_command).room s m args below meth c g 9 0 0 (MQ below (QWi g A res.1 [(h0, .inr (6, [.int rf, .ref ztx, .int sz, .ref znw, .ref ztr, .ref zdi, .int ac, .ref zkp, .ref zik, .int sp, .int ou])), (ztx, .inl (cy 0, 120, .inl tx)), (znw, .inl (cy 0, 164, .inl nw)), (ztr, .inl (cy 0, 164, .inl res.2)), (zdi, .inl (cy 0, 2296, .inl di)), (zkp, .inl (cy 0, 328, .inl kp)), (zik, .inl (cy 1, 2, .inl ik))]) args s 0 0 A) A A [(h0, .inr (6, [.int rf, .ref ztx, .int sz, .ref znw, .ref ztr, .ref zdi, .int ac, .ref zkp, .ref zik, .int sp, .int ou])), (ztx, .inl (cy 0, 120, .inl tx)), (znw, .inl (cy 0, 164, .inl nw)), (ztr, .inl (cy 0, 164, .inl tr)), (zdi, .inl (cy 0, 2296, .inl di)), (zkp, .inl (cy 0, 328, .inl kp)), (zik, .inl (cy 1, 2, .inl ik))] 358 [] [] := by
  intro rf sz ac sp ou tx nw tr di kp ik  h
  unfold pX8_command_358 at h
  refine v_iconst hC (v := (nI 0)) dX8_command_358 (by decide) rfl ?_
  exact bX8_command_359 hC hr _ _ _ _ _ _ _ _ _ _ _ _ h
set_option maxHeartbeats 4000000 in
set_option maxRecDepth 100000 in
theorem bX8_command_351 {p : Program} {l : Launch} {e : Env} {s : State} {m : MethodId} {args : Array Value} {below : List Frame} {meth : Method} {c : Code} {g : va_G} {cy : Nat → ClassId} (hC : CX p s m args meth c g cy 9 cX8_command wsX8_command RX8) (hr : meth.sig.returnType = (some .boolean)) {h0 ztx znw ztr zdi zkp zik : Nat} {A : Nat → Prop} {res : Int32 × (Nat → Int32)} : ∀ (rf : Int32) (sz : Int32) (ac : Int32) (sp : Int32) (ou : Int32) (tx : Nat → Int32) (nw : Nat → Int32) (tr : Nat → Int32) (di : Nat → Int32) (kp : Nat → Int32) (ik : Nat → Int32) (s0 : Int32) (s1 : Int32)(h : pX8_command_351 tr s0 s1 = some res), V p l e (headSpec wsX8_command rmX8_command).room s m args below meth c g 9 0 0 (MQ below (QWi g A res.1 [(h0, .inr (6, [.int rf, .ref ztx, .int sz, .ref znw, .ref ztr, .ref zdi, .int ac, .ref zkp, .ref zik, .int sp, .int ou])), (ztx, .inl (cy 0, 120, .inl tx)), (znw, .inl (cy 0, 164, .inl nw)), (ztr, .inl (cy 0, 164, .inl res.2)), (zdi, .inl (cy 0, 2296, .inl di)), (zkp, .inl (cy 0, 328, .inl kp)), (zik, .inl (cy 1, 2, .inl ik))]) args s 0 0 A) A A [(h0, .inr (6, [.int rf, .ref ztx, .int sz, .ref znw, .ref ztr, .ref zdi, .int ac, .ref zkp, .ref zik, .int sp, .int ou])), (ztx, .inl (cy 0, 120, .inl tx)), (znw, .inl (cy 0, 164, .inl nw)), (ztr, .inl (cy 0, 164, .inl tr)), (zdi, .inl (cy 0, 2296, .inl di)), (zkp, .inl (cy 0, 328, .inl kp)), (zik, .inl (cy 1, 2, .inl ik))] 351 [] [.int s0, .int s1] := by
  intro rf sz ac sp ou tx nw tr di kp ik s0 s1 h
  unfold pX8_command_351 at h
  refine v_icmp_ne hC (tgt := 358) dX8_command_351 (by decide) rfl (fun c => ?_) (fun c => ?_)
  · have h := ite_f c h
    exact bX8_command_358 hC hr _ _ _ _ _ _ _ _ _ _ _ h
  · have h := ite_t c h
    refine v_iconst hC (v := (nI 1)) dX8_command_354 (by decide) rfl ?_
    refine v_goto hC (tgt := 359) dX8_command_355 (by decide) ?_
    exact bX8_command_359 hC hr _ _ _ _ _ _ _ _ _ _ _ _ h
set_option maxHeartbeats 4000000 in
set_option maxRecDepth 100000 in
theorem bX8_command_340 {p : Program} {l : Launch} {e : Env} {s : State} {m : MethodId} {args : Array Value} {below : List Frame} {meth : Method} {c : Code} {g : va_G} {cy : Nat → ClassId} (hC : CX p s m args meth c g cy 9 cX8_command wsX8_command RX8) (hr : meth.sig.returnType = (some .boolean)) {h0 ztx znw ztr zdi zkp zik : Nat} {A : Nat → Prop} {res : Int32 × (Nat → Int32)} : ∀ (rf : Int32) (sz : Int32) (ac : Int32) (sp : Int32) (ou : Int32) (tx : Nat → Int32) (nw : Nat → Int32) (tr : Nat → Int32) (di : Nat → Int32) (kp : Nat → Int32) (ik : Nat → Int32) (y7 : Int32) (s0 : Int32)(h : pX8_command_340 tr y7 s0 = some res), V p l e (headSpec wsX8_command rmX8_command).room s m args below meth c g 9 0 0 (MQ below (QWi g A res.1 [(h0, .inr (6, [.int rf, .ref ztx, .int sz, .ref znw, .ref ztr, .ref zdi, .int ac, .ref zkp, .ref zik, .int sp, .int ou])), (ztx, .inl (cy 0, 120, .inl tx)), (znw, .inl (cy 0, 164, .inl nw)), (ztr, .inl (cy 0, 164, .inl res.2)), (zdi, .inl (cy 0, 2296, .inl di)), (zkp, .inl (cy 0, 328, .inl kp)), (zik, .inl (cy 1, 2, .inl ik))]) args s 0 0 A) A A [(h0, .inr (6, [.int rf, .ref ztx, .int sz, .ref znw, .ref ztr, .ref zdi, .int ac, .ref zkp, .ref zik, .int sp, .int ou])), (ztx, .inl (cy 0, 120, .inl tx)), (znw, .inl (cy 0, 164, .inl nw)), (ztr, .inl (cy 0, 164, .inl tr)), (zdi, .inl (cy 0, 2296, .inl di)), (zkp, .inl (cy 0, 328, .inl kp)), (zik, .inl (cy 1, 2, .inl ik))] 340 [(7, .int y7)] [.int s0] := by
  intro rf sz ac sp ou tx nw tr di kp ik y7 s0 h
  unfold pX8_command_340 at h
  refine v_iload hC dX8_command_340 0 rfl rfl ?_
  refine v_iconst hC (v := (nI 1)) dX8_command_342 (by decide) rfl ?_
  refine v_icmp_ne hC (tgt := 350) dX8_command_343 (by decide) rfl (fun c => ?_) (fun c => ?_)
  · have h := ite_f c h
    refine v_iconst hC (v := (nI 0)) dX8_command_350 (by decide) rfl ?_
    exact v_sub [] (lv' := []) rfl (bX8_command_351 hC hr _ _ _ _ _ _ _ _ _ _ _ _ _ h)
  · have h := ite_t c h
    refine v_iconst hC (v := (nI 1)) dX8_command_346 (by decide) rfl ?_
    refine v_goto hC (tgt := 351) dX8_command_347 (by decide) ?_
    exact v_sub [] (lv' := []) rfl (bX8_command_351 hC hr _ _ _ _ _ _ _ _ _ _ _ _ _ h)
set_option maxHeartbeats 4000000 in
set_option maxRecDepth 100000 in
theorem bX8_command_381 {p : Program} {l : Launch} {e : Env} {s : State} {m : MethodId} {args : Array Value} {below : List Frame} {meth : Method} {c : Code} {g : va_G} {cy : Nat → ClassId} (hC : CX p s m args meth c g cy 9 cX8_command wsX8_command RX8) (hr : meth.sig.returnType = (some .boolean)) {h0 ztx znw ztr zdi zkp zik : Nat} {A : Nat → Prop} {res : Int32 × (Nat → Int32)} : ∀ (rf : Int32) (sz : Int32) (ac : Int32) (sp : Int32) (ou : Int32) (tx : Nat → Int32) (nw : Nat → Int32) (tr : Nat → Int32) (di : Nat → Int32) (kp : Nat → Int32) (ik : Nat → Int32) (s0 : Int32)(h : pX8_command_381 tr s0 = some res), V p l e (headSpec wsX8_command rmX8_command).room s m args below meth c g 9 0 0 (MQ below (QWi g A res.1 [(h0, .inr (6, [.int rf, .ref ztx, .int sz, .ref znw, .ref ztr, .ref zdi, .int ac, .ref zkp, .ref zik, .int sp, .int ou])), (ztx, .inl (cy 0, 120, .inl tx)), (znw, .inl (cy 0, 164, .inl nw)), (ztr, .inl (cy 0, 164, .inl res.2)), (zdi, .inl (cy 0, 2296, .inl di)), (zkp, .inl (cy 0, 328, .inl kp)), (zik, .inl (cy 1, 2, .inl ik))]) args s 0 0 A) A A [(h0, .inr (6, [.int rf, .ref ztx, .int sz, .ref znw, .ref ztr, .ref zdi, .int ac, .ref zkp, .ref zik, .int sp, .int ou])), (ztx, .inl (cy 0, 120, .inl tx)), (znw, .inl (cy 0, 164, .inl nw)), (ztr, .inl (cy 0, 164, .inl tr)), (zdi, .inl (cy 0, 2296, .inl di)), (zkp, .inl (cy 0, 328, .inl kp)), (zik, .inl (cy 1, 2, .inl ik))] 381 [] [.int s0] := by
  intro rf sz ac sp ou tx nw tr di kp ik s0 h
  unfold pX8_command_381 at h
  obtain ⟨b1, hb9, h⟩ := bind_g h
  obtain ⟨e9, hn⟩ := bz_g hb9
  obtain rfl := Option.some.inj h
  exact v_irw hC hr hn e9 dX8_command_381
set_option maxHeartbeats 4000000 in
set_option maxRecDepth 100000 in
theorem bX8_command_380 {p : Program} {l : Launch} {e : Env} {s : State} {m : MethodId} {args : Array Value} {below : List Frame} {meth : Method} {c : Code} {g : va_G} {cy : Nat → ClassId} (hC : CX p s m args meth c g cy 9 cX8_command wsX8_command RX8) (hr : meth.sig.returnType = (some .boolean)) {h0 ztx znw ztr zdi zkp zik : Nat} {A : Nat → Prop} {res : Int32 × (Nat → Int32)} : ∀ (rf : Int32) (sz : Int32) (ac : Int32) (sp : Int32) (ou : Int32) (tx : Nat → Int32) (nw : Nat → Int32) (tr : Nat → Int32) (di : Nat → Int32) (kp : Nat → Int32) (ik : Nat → Int32) (h : pX8_command_380 tr = some res), V p l e (headSpec wsX8_command rmX8_command).room s m args below meth c g 9 0 0 (MQ below (QWi g A res.1 [(h0, .inr (6, [.int rf, .ref ztx, .int sz, .ref znw, .ref ztr, .ref zdi, .int ac, .ref zkp, .ref zik, .int sp, .int ou])), (ztx, .inl (cy 0, 120, .inl tx)), (znw, .inl (cy 0, 164, .inl nw)), (ztr, .inl (cy 0, 164, .inl res.2)), (zdi, .inl (cy 0, 2296, .inl di)), (zkp, .inl (cy 0, 328, .inl kp)), (zik, .inl (cy 1, 2, .inl ik))]) args s 0 0 A) A A [(h0, .inr (6, [.int rf, .ref ztx, .int sz, .ref znw, .ref ztr, .ref zdi, .int ac, .ref zkp, .ref zik, .int sp, .int ou])), (ztx, .inl (cy 0, 120, .inl tx)), (znw, .inl (cy 0, 164, .inl nw)), (ztr, .inl (cy 0, 164, .inl tr)), (zdi, .inl (cy 0, 2296, .inl di)), (zkp, .inl (cy 0, 328, .inl kp)), (zik, .inl (cy 1, 2, .inl ik))] 380 [] [] := by
  intro rf sz ac sp ou tx nw tr di kp ik  h
  unfold pX8_command_380 at h
  refine v_iconst hC (v := (nI 0)) dX8_command_380 (by decide) rfl ?_
  exact bX8_command_381 hC hr _ _ _ _ _ _ _ _ _ _ _ _ h
set_option maxHeartbeats 4000000 in
set_option maxRecDepth 100000 in
theorem bX8_command_404 {p : Program} {l : Launch} {e : Env} {s : State} {m : MethodId} {args : Array Value} {below : List Frame} {meth : Method} {c : Code} {g : va_G} {cy : Nat → ClassId} (hC : CX p s m args meth c g cy 9 cX8_command wsX8_command RX8) (hr : meth.sig.returnType = (some .boolean)) {h0 ztx znw ztr zdi zkp zik : Nat} {A : Nat → Prop} {res : Int32 × (Nat → Int32)} : ∀ (rf : Int32) (sz : Int32) (ac : Int32) (sp : Int32) (ou : Int32) (tx : Nat → Int32) (nw : Nat → Int32) (tr : Nat → Int32) (di : Nat → Int32) (kp : Nat → Int32) (ik : Nat → Int32) (s0 : Int32)(h : pX8_command_404 tr s0 = some res), V p l e (headSpec wsX8_command rmX8_command).room s m args below meth c g 9 0 0 (MQ below (QWi g A res.1 [(h0, .inr (6, [.int rf, .ref ztx, .int sz, .ref znw, .ref ztr, .ref zdi, .int ac, .ref zkp, .ref zik, .int sp, .int ou])), (ztx, .inl (cy 0, 120, .inl tx)), (znw, .inl (cy 0, 164, .inl nw)), (ztr, .inl (cy 0, 164, .inl res.2)), (zdi, .inl (cy 0, 2296, .inl di)), (zkp, .inl (cy 0, 328, .inl kp)), (zik, .inl (cy 1, 2, .inl ik))]) args s 0 0 A) A A [(h0, .inr (6, [.int rf, .ref ztx, .int sz, .ref znw, .ref ztr, .ref zdi, .int ac, .ref zkp, .ref zik, .int sp, .int ou])), (ztx, .inl (cy 0, 120, .inl tx)), (znw, .inl (cy 0, 164, .inl nw)), (ztr, .inl (cy 0, 164, .inl tr)), (zdi, .inl (cy 0, 2296, .inl di)), (zkp, .inl (cy 0, 328, .inl kp)), (zik, .inl (cy 1, 2, .inl ik))] 404 [] [.int s0] := by
  intro rf sz ac sp ou tx nw tr di kp ik s0 h
  unfold pX8_command_404 at h
  obtain ⟨b1, hb9, h⟩ := bind_g h
  obtain ⟨e9, hn⟩ := bz_g hb9
  obtain rfl := Option.some.inj h
  exact v_irw hC hr hn e9 dX8_command_404
set_option maxHeartbeats 4000000 in
set_option maxRecDepth 100000 in
theorem bX8_command_403 {p : Program} {l : Launch} {e : Env} {s : State} {m : MethodId} {args : Array Value} {below : List Frame} {meth : Method} {c : Code} {g : va_G} {cy : Nat → ClassId} (hC : CX p s m args meth c g cy 9 cX8_command wsX8_command RX8) (hr : meth.sig.returnType = (some .boolean)) {h0 ztx znw ztr zdi zkp zik : Nat} {A : Nat → Prop} {res : Int32 × (Nat → Int32)} : ∀ (rf : Int32) (sz : Int32) (ac : Int32) (sp : Int32) (ou : Int32) (tx : Nat → Int32) (nw : Nat → Int32) (tr : Nat → Int32) (di : Nat → Int32) (kp : Nat → Int32) (ik : Nat → Int32) (h : pX8_command_403 tr = some res), V p l e (headSpec wsX8_command rmX8_command).room s m args below meth c g 9 0 0 (MQ below (QWi g A res.1 [(h0, .inr (6, [.int rf, .ref ztx, .int sz, .ref znw, .ref ztr, .ref zdi, .int ac, .ref zkp, .ref zik, .int sp, .int ou])), (ztx, .inl (cy 0, 120, .inl tx)), (znw, .inl (cy 0, 164, .inl nw)), (ztr, .inl (cy 0, 164, .inl res.2)), (zdi, .inl (cy 0, 2296, .inl di)), (zkp, .inl (cy 0, 328, .inl kp)), (zik, .inl (cy 1, 2, .inl ik))]) args s 0 0 A) A A [(h0, .inr (6, [.int rf, .ref ztx, .int sz, .ref znw, .ref ztr, .ref zdi, .int ac, .ref zkp, .ref zik, .int sp, .int ou])), (ztx, .inl (cy 0, 120, .inl tx)), (znw, .inl (cy 0, 164, .inl nw)), (ztr, .inl (cy 0, 164, .inl tr)), (zdi, .inl (cy 0, 2296, .inl di)), (zkp, .inl (cy 0, 328, .inl kp)), (zik, .inl (cy 1, 2, .inl ik))] 403 [] [] := by
  intro rf sz ac sp ou tx nw tr di kp ik  h
  unfold pX8_command_403 at h
  refine v_iconst hC (v := (nI 0)) dX8_command_403 (by decide) rfl ?_
  exact bX8_command_404 hC hr _ _ _ _ _ _ _ _ _ _ _ _ h
set_option maxHeartbeats 4000000 in
set_option maxRecDepth 100000 in
theorem mX8_command (l : Launch) (g : va_G) (cy : Nat → ClassId) (h0 ztx znw ztr zdi zkp zik : Nat) (rf : Int32) (sz : Int32) (ac : Int32) (sp : Int32) (ou : Int32) (tx : Nat → Int32) (nw : Nat → Int32) (tr : Nat → Int32) (di : Nat → Int32) (kp : Nat → Int32) (ik : Nat → Int32) (x1 : Int32) (x2 : Int32) {res : Int32 × (Nat → Int32)} (h : pX8_command tr x1 x2 = some res) : Met l yX8_command wsX8_command rmX8_command (PW [.ref h0, .int x1, .int x2] g cy [(h0, .inr (6, [.int rf, .ref ztx, .int sz, .ref znw, .ref ztr, .ref zdi, .int ac, .ref zkp, .ref zik, .int sp, .int ou])), (ztx, .inl (cy 0, 120, .inl tx)), (znw, .inl (cy 0, 164, .inl nw)), (ztr, .inl (cy 0, 164, .inl tr)), (zdi, .inl (cy 0, 2296, .inl di)), (zkp, .inl (cy 0, 328, .inl kp)), (zik, .inl (cy 1, 2, .inl ik))]) (QWi g (wA [(h0, .inr (6, [.int rf, .ref ztx, .int sz, .ref znw, .ref ztr, .ref zdi, .int ac, .ref zkp, .ref zik, .int sp, .int ou])), (ztx, .inl (cy 0, 120, .inl tx)), (znw, .inl (cy 0, 164, .inl nw)), (ztr, .inl (cy 0, 164, .inl tr)), (zdi, .inl (cy 0, 2296, .inl di)), (zkp, .inl (cy 0, 328, .inl kp)), (zik, .inl (cy 1, 2, .inl ik))]) res.1 [(h0, .inr (6, [.int rf, .ref ztx, .int sz, .ref znw, .ref ztr, .ref zdi, .int ac, .ref zkp, .ref zik, .int sp, .int ou])), (ztx, .inl (cy 0, 120, .inl tx)), (znw, .inl (cy 0, 164, .inl nw)), (ztr, .inl (cy 0, 164, .inl res.2)), (zdi, .inl (cy 0, 2296, .inl di)), (zkp, .inl (cy 0, 328, .inl kp)), (zik, .inl (cy 1, 2, .inl ik))]) 0 0 (wA [(h0, .inr (6, [.int rf, .ref ztx, .int sz, .ref znw, .ref ztr, .ref zdi, .int ac, .ref zkp, .ref zik, .int sp, .int ou])), (ztx, .inl (cy 0, 120, .inl tx)), (znw, .inl (cy 0, 164, .inl nw)), (ztr, .inl (cy 0, 164, .inl tr)), (zdi, .inl (cy 0, 2296, .inl di)), (zkp, .inl (cy 0, 328, .inl kp)), (zik, .inl (cy 1, 2, .inl ik))]) := by
  refine m_ofV (cc := cX8_command) (nL := 9) (ret := (some .boolean)) (B := (wA [(h0, .inr (6, [.int rf, .ref ztx, .int sz, .ref znw, .ref ztr, .ref zdi, .int ac, .ref zkp, .ref zik, .int sp, .int ou])), (ztx, .inl (cy 0, 120, .inl tx)), (znw, .inl (cy 0, 164, .inl nw)), (ztr, .inl (cy 0, 164, .inl tr)), (zdi, .inl (cy 0, 2296, .inl di)), (zkp, .inl (cy 0, 328, .inl kp)), (zik, .inl (cy 1, 2, .inl ik))])) RX8 rfl (by decide) rfl [(0, .ref h0), (1, .int x1), (2, .int x2)] rfl (Nat.le_of_ble_eq_true rfl) (wA.self) ?_
  intro p e s m args below meth c hC hr
  generalize (wA [(h0, .inr (6, [.int rf, .ref ztx, .int sz, .ref znw, .ref ztr, .ref zdi, .int ac, .ref zkp, .ref zik, .int sp, .int ou])), (ztx, .inl (cy 0, 120, .inl tx)), (znw, .inl (cy 0, 164, .inl nw)), (ztr, .inl (cy 0, 164, .inl tr)), (zdi, .inl (cy 0, 2296, .inl di)), (zkp, .inl (cy 0, 328, .inl kp)), (zik, .inl (cy 1, 2, .inl ik))]) = A
  unfold pX8_command at h
  refine v_iload_n hC dX8_command_0 rfl 2 rfl rfl ?_
  refine v_sipush hC (v := (nI 1000)) dX8_command_1 (by decide) rfl ?_
  refine v_idiv hC dX8_command_4 (by decide) rfl ?_
  refine v_istore_n hC dX8_command_5 rfl (by decide) [(3, .int (x2 / (nI 1000))), (0, .ref h0), (1, .int x1), (2, .int x2)] rfl rfl ?_
  refine v_iload_n hC dX8_command_6 rfl 3 rfl rfl ?_
  refine v_bipush hC (v := (nI 100)) dX8_command_7 (by decide) rfl ?_
  refine v_idiv hC dX8_command_9 (by decide) rfl ?_
  refine v_istore hC dX8_command_10 (by decide) [(4, .int (x2 / (nI 100))), (3, .int (x2 / (nI 1000))), (0, .ref h0), (1, .int x1), (2, .int x2)] rfl rfl ?_
  refine v_iload_n hC dX8_command_12 rfl 4 rfl rfl ?_
  refine v_bipush hC (v := (nI 10)) dX8_command_13 (by decide) rfl ?_
  refine v_idiv hC dX8_command_15 (by decide) rfl ?_
  refine v_bipush hC (v := (nI 100)) dX8_command_16 (by decide) rfl ?_
  refine v_irem hC dX8_command_18 (by decide) rfl ?_
  refine v_istore hC dX8_command_19 (by decide) [(5, .int ((x2 / (nI 10)) - (x2 / (nI 10)) / (nI 100) * (nI 100))), (4, .int (x2 / (nI 100))), (3, .int (x2 / (nI 1000))), (0, .ref h0), (1, .int x1), (2, .int x2)] rfl rfl ?_
  refine v_iload_n hC dX8_command_21 rfl 5 rfl rfl ?_
  refine v_sipush hC (v := (nI 1000)) dX8_command_22 (by decide) rfl ?_
  refine v_irem hC dX8_command_25 (by decide) rfl ?_
  refine v_istore hC dX8_command_26 (by decide) [(6, .int (x2 - x2 / (nI 1000) * (nI 1000))), (5, .int ((x2 / (nI 10)) - (x2 / (nI 10)) / (nI 100) * (nI 100))), (4, .int (x2 / (nI 100))), (3, .int (x2 / (nI 1000))), (0, .ref h0), (1, .int x1), (2, .int x2)] rfl rfl ?_
  refine v_iload_n hC dX8_command_28 rfl 6 rfl rfl ?_
  refine v_bipush hC (v := (nI 10)) dX8_command_29 (by decide) rfl ?_
  refine v_irem hC dX8_command_31 (by decide) rfl ?_
  refine v_istore hC dX8_command_32 (by decide) [(7, .int (x2 - x2 / (nI 10) * (nI 10))), (6, .int (x2 - x2 / (nI 1000) * (nI 1000))), (5, .int ((x2 / (nI 10)) - (x2 / (nI 10)) / (nI 100) * (nI 100))), (4, .int (x2 / (nI 100))), (3, .int (x2 / (nI 1000))), (0, .ref h0), (1, .int x1), (2, .int x2)] rfl rfl ?_
  refine v_iload_n hC dX8_command_34 rfl 6 rfl rfl ?_
  by_cases c1 : x1 = (nI 1)
  · have h := ite_t c1 h
    refine v_tswI hC (v := (nI 1)) (tgt := 84) dX8_command_35 c1 (by decide) (by decide) rfl (by decide) ?_
    refine v_iload hC dX8_command_84 1 rfl rfl ?_
    refine v_if_ne hC (tgt := 115) dX8_command_86 (by decide) rfl (fun c => ?_) (fun c => ?_)
    · have h := ite_f c h
      exact v_sub [] (lv' := []) rfl (bX8_command_115 hC hr _ _ _ _ _ _ _ _ _ _ _ h)
    · have h := ite_t c h
      refine v_aload_n hC dX8_command_89 rfl 5 rfl rfl ?_
      refine v_get hC iX8_command_X8 0 rfl rfl 4 (by decide) kX8_command_16 rfl rfl dX8_command_90 rfl ?_
      refine v_iload_n hC dX8_command_93 rfl 4 rfl rfl ?_
      obtain ⟨v1, hv1, h⟩ := bind_g h
      refine v_callSri hC (n := 2) (st := []) (mX8_canShoot l g cy ztr tr (x2 / (nI 1000)) hv1) gX8_command_X8_canShoot rfl rfl rfl (by decide +kernel) ⟨Nat.le_of_ble_eq_true rfl, Nat.le_of_ble_eq_true rfl⟩ [3] rfl rfl rfl rfl (Nat.le_of_ble_eq_true rfl) rfl ⟨Nat.zero_le _, Nat.zero_le _⟩ dX8_command_94 rfl ?_
      refine v_if_eq hC (tgt := 115) dX8_command_97 (by decide) rfl (fun c => ?_) (fun c => ?_)
      · have h := ite_t c h
        exact v_sub [] (lv' := []) rfl (bX8_command_115 hC hr _ _ _ _ _ _ _ _ _ _ _ h)
      · have h := ite_f c h
        refine v_aload_n hC dX8_command_100 rfl 5 rfl rfl ?_
        refine v_get hC iX8_command_X8 0 rfl rfl 4 (by decide) kX8_command_16 rfl rfl dX8_command_101 rfl ?_
        refine v_iload_n hC dX8_command_104 rfl 4 rfl rfl ?_
        obtain ⟨v2, hv2, h⟩ := bind_g h
        refine v_callSwi hC (n := 2) (st := []) [(h0, .inr (6, [.int rf, .ref ztx, .int sz, .ref znw, .ref ztr, .ref zdi, .int ac, .ref zkp, .ref zik, .int sp, .int ou])), (ztx, .inl (cy 0, 120, .inl tx)), (znw, .inl (cy 0, 164, .inl nw)), (ztr, .inl (cy 0, 164, .inl v2.2)), (zdi, .inl (cy 0, 2296, .inl di)), (zkp, .inl (cy 0, 328, .inl kp)), (zik, .inl (cy 1, 2, .inl ik))] _ (mX8_shootOn l g cy ztr tr (x2 / (nI 1000)) hv2) gX8_command_X8_shootOn rfl rfl rfl (by decide +kernel) ⟨Nat.le_of_ble_eq_true rfl, Nat.le_of_ble_eq_true rfl⟩ [3] [0, 1, 2, 4, 5, 6] rfl rfl rfl rfl rfl rfl rfl rfl rfl (Nat.le_of_ble_eq_true rfl) rfl ⟨Nat.zero_le _, Nat.zero_le _⟩ dX8_command_105 rfl ?_
        refine v_if_le hC (tgt := 115) dX8_command_108 (by decide) rfl (fun c => ?_) (fun c => ?_)
        · have h := ite_t c h
          exact v_sub [] (lv' := []) rfl (bX8_command_115 hC hr _ _ _ _ _ _ _ _ _ _ _ h)
        · have h := ite_f c h
          refine v_iconst hC (v := (nI 1)) dX8_command_111 (by decide) rfl ?_
          refine v_goto hC (tgt := 116) dX8_command_112 (by decide) ?_
          exact v_sub [] (lv' := []) rfl (bX8_command_116 hC hr _ _ _ _ _ _ _ _ _ _ _ _ h)
  · have h := ite_f c1 h
    by_cases c2 : x1 = (nI 2)
    · have h := ite_t c2 h
      refine v_tswI hC (v := (nI 2)) (tgt := 117) dX8_command_35 c2 (by decide) (by decide) rfl (by decide) ?_
      refine v_iload_n hC dX8_command_117 rfl 7 rfl rfl ?_
      refine v_if_ne hC (tgt := 135) dX8_command_118 (by decide) rfl (fun c => ?_) (fun c => ?_)
      · have h := ite_f c h
        exact v_sub [] (lv' := []) rfl (bX8_command_135 hC hr _ _ _ _ _ _ _ _ _ _ _ h)
      · have h := ite_t c h
        refine v_aload_n hC dX8_command_121 rfl 5 rfl rfl ?_
        refine v_get hC iX8_command_X8 0 rfl rfl 4 (by decide) kX8_command_16 rfl rfl dX8_command_122 rfl ?_
        obtain ⟨v3, hv3, h⟩ := bind_g h
        refine v_callSwi hC (n := 1) (st := []) [(h0, .inr (6, [.int rf, .ref ztx, .int sz, .ref znw, .ref ztr, .ref zdi, .int ac, .ref zkp, .ref zik, .int sp, .int ou])), (ztx, .inl (cy 0, 120, .inl tx)), (znw, .inl (cy 0, 164, .inl nw)), (ztr, .inl (cy 0, 164, .inl v3.2)), (zdi, .inl (cy 0, 2296, .inl di)), (zkp, .inl (cy 0, 328, .inl kp)), (zik, .inl (cy 1, 2, .inl ik))] _ (mX8_mealOn l g cy ztr tr hv3) gX8_command_X8_mealOn rfl rfl rfl (by decide +kernel) ⟨Nat.le_of_ble_eq_true rfl, Nat.le_of_ble_eq_true rfl⟩ [3] [0, 1, 2, 4, 5, 6] rfl rfl rfl rfl rfl rfl rfl rfl rfl (Nat.le_of_ble_eq_true rfl) rfl ⟨Nat.zero_le _, Nat.zero_le _⟩ dX8_command_125 rfl ?_
        refine v_if_lt hC (tgt := 135) dX8_command_128 (by decide) rfl (fun c => ?_) (fun c => ?_)
        · have h := ite_t c h
          exact v_sub [] (lv' := []) rfl (bX8_command_135 hC hr _ _ _ _ _ _ _ _ _ _ _ h)
        · have h := ite_f c h
          refine v_iconst hC (v := (nI 1)) dX8_command_131 (by decide) rfl ?_
          refine v_goto hC (tgt := 136) dX8_command_132 (by decide) ?_
          exact v_sub [] (lv' := []) rfl (bX8_command_136 hC hr _ _ _ _ _ _ _ _ _ _ _ _ h)
    · have h := ite_f c2 h
      by_cases c3 : x1 = (nI 3)
      · have h := ite_t c3 h
        refine v_tswI hC (v := (nI 3)) (tgt := 137) dX8_command_35 c3 (by decide) (by decide) rfl (by decide) ?_
        refine v_iload_n hC dX8_command_137 rfl 7 rfl rfl ?_
        refine v_if_ne hC (tgt := 155) dX8_command_138 (by decide) rfl (fun c => ?_) (fun c => ?_)
        · have h := ite_f c h
          exact v_sub [] (lv' := []) rfl (bX8_command_155 hC hr _ _ _ _ _ _ _ _ _ _ _ h)
        · have h := ite_t c h
          refine v_aload_n hC dX8_command_141 rfl 5 rfl rfl ?_
          refine v_get hC iX8_command_X8 0 rfl rfl 4 (by decide) kX8_command_16 rfl rfl dX8_command_142 rfl ?_
          obtain ⟨v4, hv4, h⟩ := bind_g h
          refine v_callSwi hC (n := 1) (st := []) [(h0, .inr (6, [.int rf, .ref ztx, .int sz, .ref znw, .ref ztr, .ref zdi, .int ac, .ref zkp, .ref zik, .int sp, .int ou])), (ztx, .inl (cy 0, 120, .inl tx)), (znw, .inl (cy 0, 164, .inl nw)), (ztr, .inl (cy 0, 164, .inl v4.2)), (zdi, .inl (cy 0, 2296, .inl di)), (zkp, .inl (cy 0, 328, .inl kp)), (zik, .inl (cy 1, 2, .inl ik))] _ (mX8_nextOn l g cy ztr tr hv4) gX8_command_X8_nextOn rfl rfl rfl (by decide +kernel) ⟨Nat.le_of_ble_eq_true rfl, Nat.le_of_ble_eq_true rfl⟩ [3] [0, 1, 2, 4, 5, 6] rfl rfl rfl rfl rfl rfl rfl rfl rfl (Nat.le_of_ble_eq_true rfl) rfl ⟨Nat.zero_le _, Nat.zero_le _⟩ dX8_command_145 rfl ?_
          refine v_if_le hC (tgt := 155) dX8_command_148 (by decide) rfl (fun c => ?_) (fun c => ?_)
          · have h := ite_t c h
            exact v_sub [] (lv' := []) rfl (bX8_command_155 hC hr _ _ _ _ _ _ _ _ _ _ _ h)
          · have h := ite_f c h
            refine v_iconst hC (v := (nI 1)) dX8_command_151 (by decide) rfl ?_
            refine v_goto hC (tgt := 156) dX8_command_152 (by decide) ?_
            exact v_sub [] (lv' := []) rfl (bX8_command_156 hC hr _ _ _ _ _ _ _ _ _ _ _ _ h)
      · have h := ite_f c3 h
        by_cases c4 : x1 = (nI 4)
        · have h := ite_t c4 h
          refine v_tswI hC (v := (nI 4)) (tgt := 157) dX8_command_35 c4 (by decide) (by decide) rfl (by decide) ?_
          refine v_iload hC dX8_command_157 0 rfl rfl ?_
          refine v_if_gt hC (tgt := 185) dX8_command_159 (by decide) rfl (fun c => ?_) (fun c => ?_)
          · have h := ite_t c h
            exact v_sub [] (lv' := []) rfl (bX8_command_185 hC hr _ _ _ _ _ _ _ _ _ _ _ h)
          · have h := ite_f c h
            refine v_aload_n hC dX8_command_162 rfl 5 rfl rfl ?_
            refine v_get hC iX8_command_X8 0 rfl rfl 4 (by decide) kX8_command_16 rfl rfl dX8_command_163 rfl ?_
            refine v_iload_n hC dX8_command_166 rfl 4 rfl rfl ?_
            obtain ⟨v5, hv5, h⟩ := bind_g h
            refine v_callSri hC (n := 2) (st := []) (mX8_isScene l g cy ztr tr (x2 / (nI 1000)) hv5) gX8_command_X8_isScene rfl rfl rfl (by decide +kernel) ⟨Nat.le_of_ble_eq_true rfl, Nat.le_of_ble_eq_true rfl⟩ [3] rfl rfl rfl rfl (Nat.le_of_ble_eq_true rfl) rfl ⟨Nat.zero_le _, Nat.zero_le _⟩ dX8_command_167 rfl ?_
            refine v_if_eq hC (tgt := 185) dX8_command_170 (by decide) rfl (fun c => ?_) (fun c => ?_)
            · have h := ite_t c h
              exact v_sub [] (lv' := []) rfl (bX8_command_185 hC hr _ _ _ _ _ _ _ _ _ _ _ h)
            · have h := ite_f c h
              refine v_aload_n hC dX8_command_173 rfl 5 rfl rfl ?_
              refine v_get hC iX8_command_X8 0 rfl rfl 4 (by decide) kX8_command_16 rfl rfl dX8_command_174 rfl ?_
              refine v_iload hC dX8_command_177 2 rfl rfl ?_
              obtain ⟨v6, hv6, h⟩ := bind_g h
              refine v_callSri hC (n := 2) (st := []) (mX8_isExtra l g cy ztr tr ((x2 / (nI 10)) - (x2 / (nI 10)) / (nI 100) * (nI 100)) hv6) gX8_command_X8_isExtra rfl rfl rfl (by decide +kernel) ⟨Nat.le_of_ble_eq_true rfl, Nat.le_of_ble_eq_true rfl⟩ [3] rfl rfl rfl rfl (Nat.le_of_ble_eq_true rfl) rfl ⟨Nat.zero_le _, Nat.zero_le _⟩ dX8_command_179 rfl ?_
              refine v_if_ne hC (tgt := 187) dX8_command_182 (by decide) rfl (fun c => ?_) (fun c => ?_)
              · have h := ite_f c h
                refine v_aload_n hC dX8_command_187 rfl 5 rfl rfl ?_
                refine v_get hC iX8_command_X8 0 rfl rfl 4 (by decide) kX8_command_16 rfl rfl dX8_command_188 rfl ?_
                refine v_iload_n hC dX8_command_191 rfl 4 rfl rfl ?_
                refine v_iload hC dX8_command_192 2 rfl rfl ?_
                obtain ⟨v7, hv7, h⟩ := bind_g h
                refine v_callSri hC (n := 3) (st := []) (mX8_instead l g cy ztr tr (x2 / (nI 1000)) ((x2 / (nI 10)) - (x2 / (nI 10)) / (nI 100) * (nI 100)) hv7) gX8_command_X8_instead rfl rfl rfl (by decide +kernel) ⟨Nat.le_of_ble_eq_true rfl, Nat.le_of_ble_eq_true rfl⟩ [3] rfl rfl rfl rfl (Nat.le_of_ble_eq_true rfl) rfl ⟨Nat.zero_le _, Nat.zero_le _⟩ dX8_command_194 rfl ?_
                refine v_istore hC dX8_command_197 (by decide) [(8, .int v7), (7, .int (x2 - x2 / (nI 10) * (nI 10))), (6, .int (x2 - x2 / (nI 1000) * (nI 1000))), (5, .int ((x2 / (nI 10)) - (x2 / (nI 10)) / (nI 100) * (nI 100))), (4, .int (x2 / (nI 100))), (3, .int (x2 / (nI 1000))), (0, .ref h0), (1, .int x1), (2, .int x2)] rfl rfl ?_
                refine v_iload hC dX8_command_199 0 rfl rfl ?_
                refine v_iconst hC (v := (-1)) dX8_command_201 (by decide) rfl ?_
                refine v_icmp_eq hC (tgt := 224) dX8_command_202 (by decide) rfl (fun c => ?_) (fun c => ?_)
                · have h := ite_t c h
                  exact v_sub [] (lv' := []) rfl (bX8_command_224 hC hr _ _ _ _ _ _ _ _ _ _ _ h)
                · have h := ite_f c h
                  refine v_aload_n hC dX8_command_205 rfl 6 rfl rfl ?_
                  refine v_get hC iX8_command_X8 0 rfl rfl 4 (by decide) kX8_command_16 rfl rfl dX8_command_206 rfl ?_
                  refine v_iload_n hC dX8_command_209 rfl 5 rfl rfl ?_
                  refine v_iload hC dX8_command_210 3 rfl rfl ?_
                  refine v_iload hC dX8_command_212 0 rfl rfl ?_
                  obtain ⟨v8, hv8, h⟩ := bind_g h
                  refine v_callSwi hC (n := 4) (st := []) [(h0, .inr (6, [.int rf, .ref ztx, .int sz, .ref znw, .ref ztr, .ref zdi, .int ac, .ref zkp, .ref zik, .int sp, .int ou])), (ztx, .inl (cy 0, 120, .inl tx)), (znw, .inl (cy 0, 164, .inl nw)), (ztr, .inl (cy 0, 164, .inl v8.2)), (zdi, .inl (cy 0, 2296, .inl di)), (zkp, .inl (cy 0, 328, .inl kp)), (zik, .inl (cy 1, 2, .inl ik))] _ (mX8_replaceOn l g cy ztr tr (x2 / (nI 1000)) ((x2 / (nI 10)) - (x2 / (nI 10)) / (nI 100) * (nI 100)) v7 hv8) gX8_command_X8_replaceOn rfl rfl rfl (by decide +kernel) ⟨Nat.le_of_ble_eq_true rfl, Nat.le_of_ble_eq_true rfl⟩ [3] [0, 1, 2, 4, 5, 6] rfl rfl rfl rfl rfl rfl rfl rfl rfl (Nat.le_of_ble_eq_true rfl) rfl ⟨Nat.zero_le _, Nat.zero_le _⟩ dX8_command_214 rfl ?_
                  refine v_if_le hC (tgt := 224) dX8_command_217 (by decide) rfl (fun c => ?_) (fun c => ?_)
                  · have h := ite_t c h
                    exact v_sub [] (lv' := []) rfl (bX8_command_224 hC hr _ _ _ _ _ _ _ _ _ _ _ h)
                  · have h := ite_f c h
                    refine v_iconst hC (v := (nI 1)) dX8_command_220 (by decide) rfl ?_
                    refine v_goto hC (tgt := 225) dX8_command_221 (by decide) ?_
                    exact v_sub [] (lv' := []) rfl (bX8_command_225 hC hr _ _ _ _ _ _ _ _ _ _ _ _ h)
              · have h := ite_t c h
                exact v_sub [] (lv' := []) rfl (bX8_command_185 hC hr _ _ _ _ _ _ _ _ _ _ _ h)
        · have h := ite_f c4 h
          by_cases c5 : x1 = (nI 5)
          · have h := ite_t c5 h
            refine v_tswI hC (v := (nI 5)) (tgt := 226) dX8_command_35 c5 (by decide) (by decide) rfl (by decide) ?_
            refine v_iload_n hC dX8_command_226 rfl 4 rfl rfl ?_
            refine v_iload hC dX8_command_227 1 rfl rfl ?_
            obtain ⟨v9, hv9, h⟩ := bind_g h
            refine v_callSri hC (n := 2) (st := []) (mX8_isSetting l g cy (x2 / (nI 1000)) (x2 - x2 / (nI 1000) * (nI 1000)) hv9) gX8_command_X8_isSetting rfl rfl rfl (by decide +kernel) ⟨Nat.le_of_ble_eq_true rfl, Nat.le_of_ble_eq_true rfl⟩ [] rfl rfl rfl rfl (Nat.le_of_ble_eq_true rfl) rfl ⟨Nat.zero_le _, Nat.zero_le _⟩ dX8_command_229 rfl ?_
            refine v_if_ne hC (tgt := 237) dX8_command_232 (by decide) rfl (fun c => ?_) (fun c => ?_)
            · have h := ite_f c h
              refine v_aload_n hC dX8_command_237 rfl 5 rfl rfl ?_
              refine v_get hC iX8_command_X8 0 rfl rfl 4 (by decide) kX8_command_16 rfl rfl dX8_command_238 rfl ?_
              refine v_bipush hC (v := (nI 7)) dX8_command_241 (by decide) rfl ?_
              refine v_iload_n hC dX8_command_243 rfl 4 rfl rfl ?_
              refine v_iadd hC dX8_command_244 rfl ?_
              refine v_iload hC dX8_command_245 1 rfl rfl ?_
              obtain ⟨hn, h⟩ := ite_g h
              refine v_iast hC 3 rfl hn dX8_command_247 [(h0, .inr (6, [.int rf, .ref ztx, .int sz, .ref znw, .ref ztr, .ref zdi, .int ac, .ref zkp, .ref zik, .int sp, .int ou])), (ztx, .inl (cy 0, 120, .inl tx)), (znw, .inl (cy 0, 164, .inl nw)), (ztr, .inl (cy 0, 164, .inl (upd tr ((nI 7) + (x2 / (nI 1000))).toNatClampNeg (x2 - x2 / (nI 1000) * (nI 1000))))), (zdi, .inl (cy 0, 2296, .inl di)), (zkp, .inl (cy 0, 328, .inl kp)), (zik, .inl (cy 1, 2, .inl ik))] rfl rfl ?_
              refine v_iconst hC (v := (nI 1)) dX8_command_248 (by decide) rfl ?_
              obtain rfl := Option.some.inj h
              exact v_irw hC hr rfl rfl dX8_command_249
            · have h := ite_t c h
              refine v_iconst hC (v := (nI 0)) dX8_command_235 (by decide) rfl ?_
              obtain rfl := Option.some.inj h
              exact v_irw hC hr rfl rfl dX8_command_236
          · have h := ite_f c5 h
            by_cases c6 : x1 = (nI 6)
            · have h := ite_t c6 h
              refine v_tswI hC (v := (nI 6)) (tgt := 250) dX8_command_35 c6 (by decide) (by decide) rfl (by decide) ?_
              refine v_iload hC dX8_command_250 0 rfl rfl ?_
              refine v_if_ne hC (tgt := 300) dX8_command_252 (by decide) rfl (fun c => ?_) (fun c => ?_)
              · have h := ite_f c h
                exact v_sub [] (lv' := []) rfl (bX8_command_300 hC hr _ _ _ _ _ _ _ _ _ _ _ h)
              · have h := ite_t c h
                refine v_aload_n hC dX8_command_255 rfl 5 rfl rfl ?_
                refine v_get hC iX8_command_X8 0 rfl rfl 4 (by decide) kX8_command_16 rfl rfl dX8_command_256 rfl ?_
                refine v_iload_n hC dX8_command_259 rfl 4 rfl rfl ?_
                obtain ⟨v10, hv10, h⟩ := bind_g h
                refine v_callSri hC (n := 2) (st := []) (mX8_isScene l g cy ztr tr (x2 / (nI 1000)) hv10) gX8_command_X8_isScene rfl rfl rfl (by decide +kernel) ⟨Nat.le_of_ble_eq_true rfl, Nat.le_of_ble_eq_true rfl⟩ [3] rfl rfl rfl rfl (Nat.le_of_ble_eq_true rfl) rfl ⟨Nat.zero_le _, Nat.zero_le _⟩ dX8_command_260 rfl ?_
                refine v_if_eq hC (tgt := 300) dX8_command_263 (by decide) rfl (fun c => ?_) (fun c => ?_)
                · have h := ite_t c h
                  exact v_sub [] (lv' := []) rfl (bX8_command_300 hC hr _ _ _ _ _ _ _ _ _ _ _ h)
                · have h := ite_f c h
                  refine v_aload_n hC dX8_command_266 rfl 5 rfl rfl ?_
                  refine v_get hC iX8_command_X8 0 rfl rfl 4 (by decide) kX8_command_16 rfl rfl dX8_command_267 rfl ?_
                  refine v_iload hC dX8_command_270 2 rfl rfl ?_
                  obtain ⟨v11, hv11, h⟩ := bind_g h
                  refine v_callSri hC (n := 2) (st := []) (mX8_isExtra l g cy ztr tr ((x2 / (nI 10)) - (x2 / (nI 10)) / (nI 100) * (nI 100)) hv11) gX8_command_X8_isExtra rfl rfl rfl (by decide +kernel) ⟨Nat.le_of_ble_eq_true rfl, Nat.le_of_ble_eq_true rfl⟩ [3] rfl rfl rfl rfl (Nat.le_of_ble_eq_true rfl) rfl ⟨Nat.zero_le _, Nat.zero_le _⟩ dX8_command_272 rfl ?_
                  refine v_if_eq hC (tgt := 300) dX8_command_275 (by decide) rfl (fun c => ?_) (fun c => ?_)
                  · have h := ite_t c h
                    exact v_sub [] (lv' := []) rfl (bX8_command_300 hC hr _ _ _ _ _ _ _ _ _ _ _ h)
                  · have h := ite_f c h
                    refine v_aload_n hC dX8_command_278 rfl 5 rfl rfl ?_
                    refine v_get hC iX8_command_X8 0 rfl rfl 4 (by decide) kX8_command_16 rfl rfl dX8_command_279 rfl ?_
                    refine v_iload_n hC dX8_command_282 rfl 4 rfl rfl ?_
                    refine v_bipush hC (v := (nI 6)) dX8_command_283 (by decide) rfl ?_
                    obtain ⟨v12, hv12, h⟩ := bind_g h
                    refine v_callSri hC (n := 3) (st := []) (mX8_told l g cy ztr tr (x2 / (nI 1000)) (nI 6) hv12) gX8_command_X8_told rfl rfl rfl (by decide +kernel) ⟨Nat.le_of_ble_eq_true rfl, Nat.le_of_ble_eq_true rfl⟩ [3] rfl rfl rfl rfl (Nat.le_of_ble_eq_true rfl) rfl ⟨Nat.zero_le _, Nat.zero_le _⟩ dX8_command_285 rfl ?_
                    refine v_iload hC dX8_command_288 2 rfl rfl ?_
                    obtain ⟨v13, hv13, h⟩ := bind_g h
                    refine v_callSri hC (n := 2) (st := []) (mX8_has l g cy v12 ((x2 / (nI 10)) - (x2 / (nI 10)) / (nI 100) * (nI 100)) hv13) gX8_command_X8_has rfl rfl rfl (by decide +kernel) ⟨Nat.le_of_ble_eq_true rfl, Nat.le_of_ble_eq_true rfl⟩ [] rfl rfl rfl rfl (Nat.le_of_ble_eq_true rfl) rfl ⟨Nat.zero_le _, Nat.zero_le _⟩ dX8_command_290 rfl ?_
                    refine v_if_eq hC (tgt := 300) dX8_command_293 (by decide) rfl (fun c => ?_) (fun c => ?_)
                    · have h := ite_t c h
                      exact v_sub [] (lv' := []) rfl (bX8_command_300 hC hr _ _ _ _ _ _ _ _ _ _ _ h)
                    · have h := ite_f c h
                      refine v_iconst hC (v := (nI 1)) dX8_command_296 (by decide) rfl ?_
                      refine v_goto hC (tgt := 301) dX8_command_297 (by decide) ?_
                      exact v_sub [] (lv' := []) rfl (bX8_command_301 hC hr _ _ _ _ _ _ _ _ _ _ _ _ h)
            · have h := ite_f c6 h
              by_cases c7 : x1 = (nI 7)
              · have h := ite_t c7 h
                refine v_tswI hC (v := (nI 7)) (tgt := 302) dX8_command_35 c7 (by decide) (by decide) rfl (by decide) ?_
                refine v_iload_n hC dX8_command_302 rfl 7 rfl rfl ?_
                refine v_bipush hC (v := (nI 100)) dX8_command_303 (by decide) rfl ?_
                refine v_irem hC dX8_command_305 (by decide) rfl ?_
                refine v_iconst hC (v := (nI 2)) dX8_command_306 (by decide) rfl ?_
                refine v_icmp_ge hC (tgt := 358) dX8_command_307 (by decide) rfl (fun c => ?_) (fun c => ?_)
                · have h := ite_t c h
                  exact v_sub [] (lv' := []) rfl (bX8_command_358 hC hr _ _ _ _ _ _ _ _ _ _ _ h)
                · have h := ite_f c h
                  refine v_aload_n hC dX8_command_310 rfl 5 rfl rfl ?_
                  refine v_get hC iX8_command_X8 0 rfl rfl 4 (by decide) kX8_command_16 rfl rfl dX8_command_311 rfl ?_
                  refine v_iload hC dX8_command_314 3 rfl rfl ?_
                  obtain ⟨v14, hv14, h⟩ := bind_g h
                  refine v_callSri hC (n := 2) (st := []) (mX8_isExtra l g cy ztr tr (x2 / (nI 100)) hv14) gX8_command_X8_isExtra rfl rfl rfl (by decide +kernel) ⟨Nat.le_of_ble_eq_true rfl, Nat.le_of_ble_eq_true rfl⟩ [3] rfl rfl rfl rfl (Nat.le_of_ble_eq_true rfl) rfl ⟨Nat.zero_le _, Nat.zero_le _⟩ dX8_command_316 rfl ?_
                  refine v_if_eq hC (tgt := 358) dX8_command_319 (by decide) rfl (fun c => ?_) (fun c => ?_)
                  · have h := ite_t c h
                    exact v_sub [] (lv' := []) rfl (bX8_command_358 hC hr _ _ _ _ _ _ _ _ _ _ _ h)
                  · have h := ite_f c h
                    refine v_aload_n hC dX8_command_322 rfl 5 rfl rfl ?_
                    refine v_get hC iX8_command_X8 0 rfl rfl 4 (by decide) kX8_command_16 rfl rfl dX8_command_323 rfl ?_
                    refine v_iload hC dX8_command_326 3 rfl rfl ?_
                    refine v_iconst hC (v := (nI 2)) dX8_command_328 (by decide) rfl ?_
                    obtain ⟨v15, hv15, h⟩ := bind_g h
                    refine v_callSri hC (n := 3) (st := []) (mX8_of l g cy ztr tr (x2 / (nI 100)) (nI 2) hv15) gX8_command_X8_of rfl rfl rfl (by decide +kernel) ⟨Nat.le_of_ble_eq_true rfl, Nat.le_of_ble_eq_true rfl⟩ [3] rfl rfl rfl rfl (Nat.le_of_ble_eq_true rfl) rfl ⟨Nat.zero_le _, Nat.zero_le _⟩ dX8_command_329 rfl ?_
                    refine v_if_le hC (tgt := 339) dX8_command_332 (by decide) rfl (fun c => ?_) (fun c => ?_)
                    · have h := ite_t c h
                      refine v_iconst hC (v := (nI 0)) dX8_command_339 (by decide) rfl ?_
                      exact v_sub [0] (lv' := [(7, .int (x2 - x2 / (nI 10) * (nI 10)))]) rfl (bX8_command_340 hC hr _ _ _ _ _ _ _ _ _ _ _ _ _ h)
                    · have h := ite_f c h
                      refine v_iconst hC (v := (nI 1)) dX8_command_335 (by decide) rfl ?_
                      refine v_goto hC (tgt := 340) dX8_command_336 (by decide) ?_
                      exact v_sub [0] (lv' := [(7, .int (x2 - x2 / (nI 10) * (nI 10)))]) rfl (bX8_command_340 hC hr _ _ _ _ _ _ _ _ _ _ _ _ _ h)
              · have h := ite_f c7 h
                by_cases c8 : x1 = (nI 8)
                · have h := ite_t c8 h
                  refine v_tswI hC (v := (nI 8)) (tgt := 360) dX8_command_35 c8 (by decide) (by decide) rfl (by decide) ?_
                  refine v_iload_n hC dX8_command_360 rfl 7 rfl rfl ?_
                  refine v_bipush hC (v := (nI 100)) dX8_command_361 (by decide) rfl ?_
                  refine v_icmp_ge hC (tgt := 380) dX8_command_363 (by decide) rfl (fun c => ?_) (fun c => ?_)
                  · have h := ite_t c h
                    exact v_sub [] (lv' := []) rfl (bX8_command_380 hC hr _ _ _ _ _ _ _ _ _ _ _ h)
                  · have h := ite_f c h
                    refine v_aload_n hC dX8_command_366 rfl 5 rfl rfl ?_
                    refine v_get hC iX8_command_X8 0 rfl rfl 4 (by decide) kX8_command_16 rfl rfl dX8_command_367 rfl ?_
                    refine v_iconst hC (v := (nI 5)) dX8_command_370 (by decide) rfl ?_
                    obtain ⟨hn, h⟩ := ite_g h
                    refine v_iald hC 3 rfl hn dX8_command_371 rfl ?_
                    refine v_iload_n hC dX8_command_372 rfl 7 rfl rfl ?_
                    refine v_icmp_gt hC (tgt := 380) dX8_command_373 (by decide) rfl (fun c => ?_) (fun c => ?_)
                    · have h := ite_t c h
                      exact v_sub [] (lv' := []) rfl (bX8_command_380 hC hr _ _ _ _ _ _ _ _ _ _ _ h)
                    · have h := ite_f c h
                      refine v_iconst hC (v := (nI 1)) dX8_command_376 (by decide) rfl ?_
                      refine v_goto hC (tgt := 381) dX8_command_377 (by decide) ?_
                      exact v_sub [] (lv' := []) rfl (bX8_command_381 hC hr _ _ _ _ _ _ _ _ _ _ _ _ h)
                · have h := ite_f c8 h
                  by_cases c9 : x1 = (nI 9)
                  · have h := ite_t c9 h
                    refine v_tswI hC (v := (nI 9)) (tgt := 382) dX8_command_35 c9 (by decide) (by decide) rfl (by decide) ?_
                    refine v_iload_n hC dX8_command_382 rfl 7 rfl rfl ?_
                    refine v_bipush hC (v := (nI 100)) dX8_command_383 (by decide) rfl ?_
                    refine v_icmp_ge hC (tgt := 403) dX8_command_385 (by decide) rfl (fun c => ?_) (fun c => ?_)
                    · have h := ite_t c h
                      exact v_sub [] (lv' := []) rfl (bX8_command_403 hC hr _ _ _ _ _ _ _ _ _ _ _ h)
                    · have h := ite_f c h
                      refine v_aload_n hC dX8_command_388 rfl 5 rfl rfl ?_
                      refine v_get hC iX8_command_X8 0 rfl rfl 4 (by decide) kX8_command_16 rfl rfl dX8_command_389 rfl ?_
                      refine v_bipush hC (v := (nI 6)) dX8_command_392 (by decide) rfl ?_
                      obtain ⟨hn, h⟩ := ite_g h
                      refine v_iald hC 3 rfl hn dX8_command_394 rfl ?_
                      refine v_iload_n hC dX8_command_395 rfl 7 rfl rfl ?_
                      refine v_icmp_gt hC (tgt := 403) dX8_command_396 (by decide) rfl (fun c => ?_) (fun c => ?_)
                      · have h := ite_t c h
                        exact v_sub [] (lv' := []) rfl (bX8_command_403 hC hr _ _ _ _ _ _ _ _ _ _ _ h)
                      · have h := ite_f c h
                        refine v_iconst hC (v := (nI 1)) dX8_command_399 (by decide) rfl ?_
                        refine v_goto hC (tgt := 404) dX8_command_400 (by decide) ?_
                        exact v_sub [] (lv' := []) rfl (bX8_command_404 hC hr _ _ _ _ _ _ _ _ _ _ _ _ h)
                  · have h := ite_f c9 h
                    refine v_tswO hC (tgt := 405) dX8_command_35 (by have e1 := ne_I (z := 1) (by decide) c1; have e2 := ne_I (z := 2) (by decide) c2; have e3 := ne_I (z := 3) (by decide) c3; have e4 := ne_I (z := 4) (by decide) c4; have e5 := ne_I (z := 5) (by decide) c5; have e6 := ne_I (z := 6) (by decide) c6; have e7 := ne_I (z := 7) (by decide) c7; have e8 := ne_I (z := 8) (by decide) c8; have e9 := ne_I (z := 9) (by decide) c9; omega) (by decide) ?_
                    refine v_iconst hC (v := (nI 0)) dX8_command_405 (by decide) rfl ?_
                    obtain rfl := Option.some.inj h
                    exact v_irw hC hr rfl rfl dX8_command_406
theorem kX8_runScript_106 : Cond.constantLong RX8 106 3 ∈ wsX8_runScript := by decide +kernel
theorem kX8_runScript_13 : Cond.fieldLink RX8 13 "CrowdFacesModel" "now" "[I" ∈ wsX8_runScript := by decide +kernel
theorem kX8_runScript_16 : Cond.fieldLink RX8 16 "CrowdFacesModel" "trial" "[I" ∈ wsX8_runScript := by decide +kernel
theorem kX8_runScript_220 : Cond.constantLong RX8 220 100000 ∈ wsX8_runScript := by decide +kernel
theorem iX8_runScript_X8 : ∀ w ∈ wsX80, w ∈ wsX8_runScript := by decide +kernel
def pX8_runScript_86 : Nat → Int32 → (Nat → Int32) → (Nat → Int32) → Int32 → Int64 → Int64 → Int32 → Option (Int32 × Int32 × (Nat → Int32))
  | 0, _, _, _, _, _, _, _ => none
  | k + 1, rf, nw, tr, y1, y2, y4, y6 => if y1 ≤ y6 then some ((-1), rf, tr) else if ¬ (y4 / 100000) = 0 then (pX8_command tr ((((y2 / (y4 / 100000)) - (y2 / (y4 / 100000)) / 100000 * 100000).toInt32) / (nI 10000)) ((((y2 / (y4 / 100000)) - (y2 / (y4 / 100000)) / 100000 * 100000).toInt32) - (((y2 / (y4 / 100000)) - (y2 / (y4 / 100000)) / 100000 * 100000).toInt32) / (nI 10000) * (nI 10000))).bind fun v1 => if v1.1 = 0 then some (y6, rf, v1.2) else pX8_runScript_86 k rf nw v1.2 y1 y2 (y4 / 100000) (y6 + (nI 1)) else none
theorem pX8_runScript_86_s {k : Nat} (rf : Int32) (nw : Nat → Int32) (tr : Nat → Int32) (y1 : Int32) (y2 : Int64) (y4 : Int64) (y6 : Int32) : pX8_runScript_86 (k + 1) rf nw tr y1 y2 y4 y6 = if y1 ≤ y6 then some ((-1), rf, tr) else if ¬ (y4 / 100000) = 0 then (pX8_command tr ((((y2 / (y4 / 100000)) - (y2 / (y4 / 100000)) / 100000 * 100000).toInt32) / (nI 10000)) ((((y2 / (y4 / 100000)) - (y2 / (y4 / 100000)) / 100000 * 100000).toInt32) - (((y2 / (y4 / 100000)) - (y2 / (y4 / 100000)) / 100000 * 100000).toInt32) / (nI 10000) * (nI 10000))).bind fun v1 => if v1.1 = 0 then some (y6, rf, v1.2) else pX8_runScript_86 k rf nw v1.2 y1 y2 (y4 / 100000) (y6 + (nI 1)) else none := rfl
def pX8_runScript_62 (rf : Int32) (nw : Nat → Int32) (tr : Nat → Int32) (y1 : Int32) (y2 : Int64) (y4 : Int64) (s0 : Int32) : Option (Int32 × Int32 × (Nat → Int32)) := (pX8_refused rf s0).bind fun v1 => if v1.1 = 0 then (pX8_copyState 164 nw 164 tr (nI 0) (nI 0)).bind fun v2 => pX8_runScript_86 FU v1.2 nw v2 y1 y2 y4 (nI 0) else some ((nI 0), v1.2, tr)
def pX8_runScript_61 (rf : Int32) (nw : Nat → Int32) (tr : Nat → Int32) (y1 : Int32) (y2 : Int64) (y4 : Int64) : Option (Int32 × Int32 × (Nat → Int32)) := pX8_runScript_62 rf nw tr y1 y2 y4 (nI 1)
def pX8_runScript_32 (rf : Int32) (nw : Nat → Int32) (tr : Nat → Int32) (y1 : Int32) (y2 : Int64) (y4 : Int64) : Option (Int32 × Int32 × (Nat → Int32)) := (pX8_in y1.toInt64 1 3).bind fun v1 => if v1 = 0 then pX8_runScript_61 rf nw tr y1 y2 y4 else (pX8_in y2 0 (y4 - 1)).bind fun v2 => if v2 = 0 then pX8_runScript_61 rf nw tr y1 y2 y4 else pX8_runScript_62 rf nw tr y1 y2 y4 (nI 0)
def pX8_runScript_6 : Nat → Int32 → (Nat → Int32) → (Nat → Int32) → Int32 → Int64 → Int64 → Int32 → Option (Int32 × Int32 × (Nat → Int32))
  | 0, _, _, _, _, _, _, _ => none
  | k + 1, rf, nw, tr, y1, y2, y4, y6 => if y1 ≤ y6 then pX8_runScript_32 rf nw tr y1 y2 y4 else if (nI 3) ≤ y6 then pX8_runScript_32 rf nw tr y1 y2 y4 else pX8_runScript_6 k rf nw tr y1 y2 (y4 * 100000) (y6 + (nI 1))
theorem pX8_runScript_6_s {k : Nat} (rf : Int32) (nw : Nat → Int32) (tr : Nat → Int32) (y1 : Int32) (y2 : Int64) (y4 : Int64) (y6 : Int32) : pX8_runScript_6 (k + 1) rf nw tr y1 y2 y4 y6 = if y1 ≤ y6 then pX8_runScript_32 rf nw tr y1 y2 y4 else if (nI 3) ≤ y6 then pX8_runScript_32 rf nw tr y1 y2 y4 else pX8_runScript_6 k rf nw tr y1 y2 (y4 * 100000) (y6 + (nI 1)) := rfl
def pX8_runScript (rf : Int32) (nw : Nat → Int32) (tr : Nat → Int32) (x1 : Int32) (x2 : Int64) : Option (Int32 × Int32 × (Nat → Int32)) := pX8_runScript_6 FU rf nw tr x1 x2 1 (nI 0)
abbrev rmX8_runScript : Room := { frames := 8, cells := 0, slots := 0, locals := 189 }
set_option maxHeartbeats 4000000 in
set_option maxRecDepth 100000 in
theorem bX8_runScript_86 {p : Program} {l : Launch} {e : Env} {s : State} {m : MethodId} {args : Array Value} {below : List Frame} {meth : Method} {c : Code} {g : va_G} {cy : Nat → ClassId} (hC : CX p s m args meth c g cy 8 cX8_runScript wsX8_runScript RX8) (hr : meth.sig.returnType = (some .int)) {h0 ztx znw ztr zdi zkp zik : Nat} {A : Nat → Prop} {res : Int32 × Int32 × (Nat → Int32)} : ∀ (k : Nat) (rf : Int32) (sz : Int32) (ac : Int32) (sp : Int32) (ou : Int32) (tx : Nat → Int32) (nw : Nat → Int32) (tr : Nat → Int32) (di : Nat → Int32) (kp : Nat → Int32) (ik : Nat → Int32) (y1 : Int32) (y2 : Int64) (y4 : Int64) (y6 : Int32) (h : pX8_runScript_86 k rf nw tr y1 y2 y4 y6 = some res), V p l e (headSpec wsX8_runScript rmX8_runScript).room s m args below meth c g 8 0 0 (MQ below (QWi g A res.1 [(h0, .inr (6, [.int res.2.1, .ref ztx, .int sz, .ref znw, .ref ztr, .ref zdi, .int ac, .ref zkp, .ref zik, .int sp, .int ou])), (ztx, .inl (cy 0, 120, .inl tx)), (znw, .inl (cy 0, 164, .inl nw)), (ztr, .inl (cy 0, 164, .inl res.2.2)), (zdi, .inl (cy 0, 2296, .inl di)), (zkp, .inl (cy 0, 328, .inl kp)), (zik, .inl (cy 1, 2, .inl ik))]) args s 0 0 A) A A [(h0, .inr (6, [.int rf, .ref ztx, .int sz, .ref znw, .ref ztr, .ref zdi, .int ac, .ref zkp, .ref zik, .int sp, .int ou])), (ztx, .inl (cy 0, 120, .inl tx)), (znw, .inl (cy 0, 164, .inl nw)), (ztr, .inl (cy 0, 164, .inl tr)), (zdi, .inl (cy 0, 2296, .inl di)), (zkp, .inl (cy 0, 328, .inl kp)), (zik, .inl (cy 1, 2, .inl ik))] 86 [(0, .ref h0), (1, .int y1), (2, .long y2), (4, .long y4), (6, .int y6)] [] := by
  intro k
  induction k with
  | zero =>
    intro rf sz ac sp ou tx nw tr di kp ik y1 y2 y4 y6 h
    have h : (none : Option _) = some res := h
    cases h
  | succ k ih =>
    intro rf sz ac sp ou tx nw tr di kp ik y1 y2 y4 y6 h
    rw [pX8_runScript_86_s] at h
    refine v_iload hC dX8_runScript_86 4 rfl rfl ?_
    refine v_iload_n hC dX8_runScript_88 rfl 1 rfl rfl ?_
    refine v_icmp_ge hC (tgt := 139) dX8_runScript_89 (by decide) rfl (fun c => ?_) (fun c => ?_)
    · have h := ite_t c h
      refine v_iconst hC (v := (-1)) dX8_runScript_139 (by decide) rfl ?_
      obtain rfl := Option.some.inj h
      exact v_irw hC hr rfl rfl dX8_runScript_140
    · have h := ite_f c h
      refine v_lload hC dX8_runScript_92 3 rfl rfl ?_
      refine v_ldc2 hC (v := 100000) dX8_runScript_94 kX8_runScript_220 rfl ?_
      refine v_ldiv hC dX8_runScript_97 (by decide) rfl ?_
      refine v_lstore hC dX8_runScript_98 (by decide) [(4, .long (y4 / 100000)), (0, .ref h0), (1, .int y1), (2, .long y2), (6, .int y6)] rfl rfl ?_
      refine v_lload_n hC dX8_runScript_100 rfl 3 rfl rfl ?_
      refine v_lload hC dX8_runScript_101 0 rfl rfl ?_
      obtain ⟨hn, h⟩ := ite_g h
      refine v_ldiv hC dX8_runScript_103 hn rfl ?_
      refine v_ldc2 hC (v := 100000) dX8_runScript_104 kX8_runScript_220 rfl ?_
      refine v_lrem hC dX8_runScript_107 (by decide) rfl ?_
      refine v_l2i hC dX8_runScript_108 rfl ?_
      refine v_istore hC dX8_runScript_109 (by decide) [(7, .int (((y2 / (y4 / 100000)) - (y2 / (y4 / 100000)) / 100000 * 100000).toInt32)), (4, .long (y4 / 100000)), (0, .ref h0), (1, .int y1), (2, .long y2), (6, .int y6)] rfl rfl ?_
      refine v_aload_n hC dX8_runScript_111 rfl 2 rfl rfl ?_
      refine v_iload hC dX8_runScript_112 0 rfl rfl ?_
      refine v_sipush hC (v := (nI 10000)) dX8_runScript_114 (by decide) rfl ?_
      refine v_idiv hC dX8_runScript_117 (by decide) rfl ?_
      refine v_iload hC dX8_runScript_118 0 rfl rfl ?_
      refine v_sipush hC (v := (nI 10000)) dX8_runScript_120 (by decide) rfl ?_
      refine v_irem hC dX8_runScript_123 (by decide) rfl ?_
      obtain ⟨v1, hv1, h⟩ := bind_g h
      refine v_callVwi hC (n := 2) (st := []) [(h0, .inr (6, [.int rf, .ref ztx, .int sz, .ref znw, .ref ztr, .ref zdi, .int ac, .ref zkp, .ref zik, .int sp, .int ou])), (ztx, .inl (cy 0, 120, .inl tx)), (znw, .inl (cy 0, 164, .inl nw)), (ztr, .inl (cy 0, 164, .inl v1.2)), (zdi, .inl (cy 0, 2296, .inl di)), (zkp, .inl (cy 0, 328, .inl kp)), (zik, .inl (cy 1, 2, .inl ik))] _ (mX8_command l g cy h0 ztx znw ztr zdi zkp zik rf sz ac sp ou tx nw tr di kp ik ((((y2 / (y4 / 100000)) - (y2 / (y4 / 100000)) / 100000 * 100000).toInt32) / (nI 10000)) ((((y2 / (y4 / 100000)) - (y2 / (y4 / 100000)) / 100000 * 100000).toInt32) - (((y2 / (y4 / 100000)) - (y2 / (y4 / 100000)) / 100000 * 100000).toInt32) / (nI 10000) * (nI 10000)) hv1) gX8_runScript_X8_command rfl rfl rfl (by decide +kernel) ⟨Nat.le_of_ble_eq_true rfl, Nat.le_of_ble_eq_true rfl⟩ 0 rfl rfl [0, 1, 2, 3, 4, 5, 6] [] rfl rfl rfl rfl rfl rfl rfl rfl rfl (Nat.le_of_ble_eq_true rfl) rfl ⟨Nat.zero_le _, Nat.zero_le _⟩ dX8_runScript_124 rfl ?_
      refine v_if_ne hC (tgt := 133) dX8_runScript_127 (by decide) rfl (fun c => ?_) (fun c => ?_)
      · have h := ite_f c h
        refine v_iinc hC dX8_runScript_133 5 rfl (v := (y6 + (nI 1))) rfl (by decide) [(6, .int (y6 + (nI 1))), (7, .int (((y2 / (y4 / 100000)) - (y2 / (y4 / 100000)) / 100000 * 100000).toInt32)), (4, .long (y4 / 100000)), (0, .ref h0), (1, .int y1), (2, .long y2)] rfl rfl ?_
        refine v_goto hC (tgt := 86) dX8_runScript_136 (by decide) ?_
        exact v_sub [3, 4, 5, 2, 0] (lv' := [(0, .ref h0), (1, .int y1), (2, .long y2), (4, .long (y4 / 100000)), (6, .int (y6 + (nI 1)))]) rfl (ih _ _ _ _ _ _ _ _ _ _ _ _ _ _ _ h)
      · have h := ite_t c h
        refine v_iload hC dX8_runScript_130 5 rfl rfl ?_
        obtain rfl := Option.some.inj h
        exact v_irw hC hr rfl rfl dX8_runScript_132
set_option maxHeartbeats 4000000 in
set_option maxRecDepth 100000 in
theorem bX8_runScript_62 {p : Program} {l : Launch} {e : Env} {s : State} {m : MethodId} {args : Array Value} {below : List Frame} {meth : Method} {c : Code} {g : va_G} {cy : Nat → ClassId} (hC : CX p s m args meth c g cy 8 cX8_runScript wsX8_runScript RX8) (hr : meth.sig.returnType = (some .int)) {h0 ztx znw ztr zdi zkp zik : Nat} {A : Nat → Prop} {res : Int32 × Int32 × (Nat → Int32)} : ∀ (rf : Int32) (sz : Int32) (ac : Int32) (sp : Int32) (ou : Int32) (tx : Nat → Int32) (nw : Nat → Int32) (tr : Nat → Int32) (di : Nat → Int32) (kp : Nat → Int32) (ik : Nat → Int32) (y1 : Int32) (y2 : Int64) (y4 : Int64) (s0 : Int32)(h : pX8_runScript_62 rf nw tr y1 y2 y4 s0 = some res), V p l e (headSpec wsX8_runScript rmX8_runScript).room s m args below meth c g 8 0 0 (MQ below (QWi g A res.1 [(h0, .inr (6, [.int res.2.1, .ref ztx, .int sz, .ref znw, .ref ztr, .ref zdi, .int ac, .ref zkp, .ref zik, .int sp, .int ou])), (ztx, .inl (cy 0, 120, .inl tx)), (znw, .inl (cy 0, 164, .inl nw)), (ztr, .inl (cy 0, 164, .inl res.2.2)), (zdi, .inl (cy 0, 2296, .inl di)), (zkp, .inl (cy 0, 328, .inl kp)), (zik, .inl (cy 1, 2, .inl ik))]) args s 0 0 A) A A [(h0, .inr (6, [.int rf, .ref ztx, .int sz, .ref znw, .ref ztr, .ref zdi, .int ac, .ref zkp, .ref zik, .int sp, .int ou])), (ztx, .inl (cy 0, 120, .inl tx)), (znw, .inl (cy 0, 164, .inl nw)), (ztr, .inl (cy 0, 164, .inl tr)), (zdi, .inl (cy 0, 2296, .inl di)), (zkp, .inl (cy 0, 328, .inl kp)), (zik, .inl (cy 1, 2, .inl ik))] 62 [(0, .ref h0), (1, .int y1), (2, .long y2), (4, .long y4)] [.int s0, .ref h0] := by
  intro rf sz ac sp ou tx nw tr di kp ik y1 y2 y4 s0 h
  unfold pX8_runScript_62 at h
  obtain ⟨v1, hv1, h⟩ := bind_g h
  refine v_callVwi hC (n := 1) (st := []) [(h0, .inr (6, [.int v1.2, .ref ztx, .int sz, .ref znw, .ref ztr, .ref zdi, .int ac, .ref zkp, .ref zik, .int sp, .int ou])), (ztx, .inl (cy 0, 120, .inl tx)), (znw, .inl (cy 0, 164, .inl nw)), (ztr, .inl (cy 0, 164, .inl tr)), (zdi, .inl (cy 0, 2296, .inl di)), (zkp, .inl (cy 0, 328, .inl kp)), (zik, .inl (cy 1, 2, .inl ik))] _ (mX8_refused l g cy h0 ztx znw ztr zdi zkp zik rf sz ac sp ou tx nw tr di kp ik s0 hv1) gX8_runScript_X8_refused rfl rfl rfl (by decide +kernel) ⟨Nat.le_of_ble_eq_true rfl, Nat.le_of_ble_eq_true rfl⟩ 0 rfl rfl [0, 1, 2, 3, 4, 5, 6] [] rfl rfl rfl rfl rfl rfl rfl rfl rfl (Nat.le_of_ble_eq_true rfl) rfl ⟨Nat.zero_le _, Nat.zero_le _⟩ dX8_runScript_62 rfl ?_
  refine v_if_eq hC (tgt := 70) dX8_runScript_65 (by decide) rfl (fun c => ?_) (fun c => ?_)
  · have h := ite_t c h
    refine v_aload_n hC dX8_runScript_70 rfl 0 rfl rfl ?_
    refine v_get hC iX8_runScript_X8 0 rfl rfl 3 (by decide) kX8_runScript_13 rfl rfl dX8_runScript_71 rfl ?_
    refine v_iconst hC (v := (nI 0)) dX8_runScript_74 (by decide) rfl ?_
    refine v_aload_n hC dX8_runScript_75 rfl 0 rfl rfl ?_
    refine v_get hC iX8_runScript_X8 0 rfl rfl 4 (by decide) kX8_runScript_16 rfl rfl dX8_runScript_76 rfl ?_
    refine v_iconst hC (v := (nI 0)) dX8_runScript_79 (by decide) rfl ?_
    obtain ⟨v2, hv2, h⟩ := bind_g h
    refine v_callSwv hC (n := 4) (st := []) [(h0, .inr (6, [.int v1.2, .ref ztx, .int sz, .ref znw, .ref ztr, .ref zdi, .int ac, .ref zkp, .ref zik, .int sp, .int ou])), (ztx, .inl (cy 0, 120, .inl tx)), (znw, .inl (cy 0, 164, .inl nw)), (ztr, .inl (cy 0, 164, .inl v2)), (zdi, .inl (cy 0, 2296, .inl di)), (zkp, .inl (cy 0, 328, .inl kp)), (zik, .inl (cy 1, 2, .inl ik))] _ (mX8_copyState l g cy znw ztr 164 nw 164 tr (nI 0) (nI 0) hv2) gX8_runScript_X8_copyState rfl rfl rfl (by decide +kernel) ⟨Nat.le_of_ble_eq_true rfl, Nat.le_of_ble_eq_true rfl⟩ [2, 3] [0, 1, 4, 5, 6] rfl rfl rfl rfl rfl rfl rfl rfl rfl (Nat.le_of_ble_eq_true rfl) rfl ⟨Nat.zero_le _, Nat.zero_le _⟩ dX8_runScript_80 rfl ?_
    refine v_iconst hC (v := (nI 0)) dX8_runScript_83 (by decide) rfl ?_
    refine v_istore hC dX8_runScript_84 (by decide) [(6, .int (nI 0)), (0, .ref h0), (1, .int y1), (2, .long y2), (4, .long y4)] rfl rfl ?_
    exact v_sub [1, 2, 3, 4, 0] (lv' := [(0, .ref h0), (1, .int y1), (2, .long y2), (4, .long y4), (6, .int (nI 0))]) rfl (bX8_runScript_86 hC hr FU _ _ _ _ _ _ _ _ _ _ _ _ _ _ _ h)
  · have h := ite_f c h
    refine v_iconst hC (v := (nI 0)) dX8_runScript_68 (by decide) rfl ?_
    obtain rfl := Option.some.inj h
    exact v_irw hC hr rfl rfl dX8_runScript_69
set_option maxHeartbeats 4000000 in
set_option maxRecDepth 100000 in
theorem bX8_runScript_61 {p : Program} {l : Launch} {e : Env} {s : State} {m : MethodId} {args : Array Value} {below : List Frame} {meth : Method} {c : Code} {g : va_G} {cy : Nat → ClassId} (hC : CX p s m args meth c g cy 8 cX8_runScript wsX8_runScript RX8) (hr : meth.sig.returnType = (some .int)) {h0 ztx znw ztr zdi zkp zik : Nat} {A : Nat → Prop} {res : Int32 × Int32 × (Nat → Int32)} : ∀ (rf : Int32) (sz : Int32) (ac : Int32) (sp : Int32) (ou : Int32) (tx : Nat → Int32) (nw : Nat → Int32) (tr : Nat → Int32) (di : Nat → Int32) (kp : Nat → Int32) (ik : Nat → Int32) (y1 : Int32) (y2 : Int64) (y4 : Int64)(h : pX8_runScript_61 rf nw tr y1 y2 y4 = some res), V p l e (headSpec wsX8_runScript rmX8_runScript).room s m args below meth c g 8 0 0 (MQ below (QWi g A res.1 [(h0, .inr (6, [.int res.2.1, .ref ztx, .int sz, .ref znw, .ref ztr, .ref zdi, .int ac, .ref zkp, .ref zik, .int sp, .int ou])), (ztx, .inl (cy 0, 120, .inl tx)), (znw, .inl (cy 0, 164, .inl nw)), (ztr, .inl (cy 0, 164, .inl res.2.2)), (zdi, .inl (cy 0, 2296, .inl di)), (zkp, .inl (cy 0, 328, .inl kp)), (zik, .inl (cy 1, 2, .inl ik))]) args s 0 0 A) A A [(h0, .inr (6, [.int rf, .ref ztx, .int sz, .ref znw, .ref ztr, .ref zdi, .int ac, .ref zkp, .ref zik, .int sp, .int ou])), (ztx, .inl (cy 0, 120, .inl tx)), (znw, .inl (cy 0, 164, .inl nw)), (ztr, .inl (cy 0, 164, .inl tr)), (zdi, .inl (cy 0, 2296, .inl di)), (zkp, .inl (cy 0, 328, .inl kp)), (zik, .inl (cy 1, 2, .inl ik))] 61 [(0, .ref h0), (1, .int y1), (2, .long y2), (4, .long y4)] [.ref h0] := by
  intro rf sz ac sp ou tx nw tr di kp ik y1 y2 y4 h
  unfold pX8_runScript_61 at h
  refine v_iconst hC (v := (nI 1)) dX8_runScript_61 (by decide) rfl ?_
  exact bX8_runScript_62 hC hr _ _ _ _ _ _ _ _ _ _ _ _ _ _ _ h
set_option maxHeartbeats 4000000 in
set_option maxRecDepth 100000 in
theorem bX8_runScript_32 {p : Program} {l : Launch} {e : Env} {s : State} {m : MethodId} {args : Array Value} {below : List Frame} {meth : Method} {c : Code} {g : va_G} {cy : Nat → ClassId} (hC : CX p s m args meth c g cy 8 cX8_runScript wsX8_runScript RX8) (hr : meth.sig.returnType = (some .int)) {h0 ztx znw ztr zdi zkp zik : Nat} {A : Nat → Prop} {res : Int32 × Int32 × (Nat → Int32)} : ∀ (rf : Int32) (sz : Int32) (ac : Int32) (sp : Int32) (ou : Int32) (tx : Nat → Int32) (nw : Nat → Int32) (tr : Nat → Int32) (di : Nat → Int32) (kp : Nat → Int32) (ik : Nat → Int32) (y1 : Int32) (y2 : Int64) (y4 : Int64)(h : pX8_runScript_32 rf nw tr y1 y2 y4 = some res), V p l e (headSpec wsX8_runScript rmX8_runScript).room s m args below meth c g 8 0 0 (MQ below (QWi g A res.1 [(h0, .inr (6, [.int res.2.1, .ref ztx, .int sz, .ref znw, .ref ztr, .ref zdi, .int ac, .ref zkp, .ref zik, .int sp, .int ou])), (ztx, .inl (cy 0, 120, .inl tx)), (znw, .inl (cy 0, 164, .inl nw)), (ztr, .inl (cy 0, 164, .inl res.2.2)), (zdi, .inl (cy 0, 2296, .inl di)), (zkp, .inl (cy 0, 328, .inl kp)), (zik, .inl (cy 1, 2, .inl ik))]) args s 0 0 A) A A [(h0, .inr (6, [.int rf, .ref ztx, .int sz, .ref znw, .ref ztr, .ref zdi, .int ac, .ref zkp, .ref zik, .int sp, .int ou])), (ztx, .inl (cy 0, 120, .inl tx)), (znw, .inl (cy 0, 164, .inl nw)), (ztr, .inl (cy 0, 164, .inl tr)), (zdi, .inl (cy 0, 2296, .inl di)), (zkp, .inl (cy 0, 328, .inl kp)), (zik, .inl (cy 1, 2, .inl ik))] 32 [(0, .ref h0), (1, .int y1), (2, .long y2), (4, .long y4)] [] := by
  intro rf sz ac sp ou tx nw tr di kp ik y1 y2 y4 h
  unfold pX8_runScript_32 at h
  refine v_aload_n hC dX8_runScript_32 rfl 0 rfl rfl ?_
  refine v_iload_n hC dX8_runScript_33 rfl 1 rfl rfl ?_
  refine v_i2l hC dX8_runScript_34 rfl ?_
  refine v_lconst hC (v := 1) dX8_runScript_35 rfl rfl ?_
  refine v_ldc2 hC (v := 3) dX8_runScript_36 kX8_runScript_106 rfl ?_
  obtain ⟨v1, hv1, h⟩ := bind_g h
  refine v_callSri hC (n := 3) (st := [.ref h0]) (mX8_in l g cy y1.toInt64 1 3 hv1) gX8_runScript_X8_in rfl rfl rfl (by decide +kernel) ⟨Nat.le_of_ble_eq_true rfl, Nat.le_of_ble_eq_true rfl⟩ [] rfl rfl rfl rfl (Nat.le_of_ble_eq_true rfl) rfl ⟨Nat.zero_le _, Nat.zero_le _⟩ dX8_runScript_39 rfl ?_
  refine v_if_eq hC (tgt := 61) dX8_runScript_42 (by decide) rfl (fun c => ?_) (fun c => ?_)
  · have h := ite_t c h
    exact bX8_runScript_61 hC hr _ _ _ _ _ _ _ _ _ _ _ _ _ _ h
  · have h := ite_f c h
    refine v_lload_n hC dX8_runScript_45 rfl 2 rfl rfl ?_
    refine v_lconst hC (v := 0) dX8_runScript_46 rfl rfl ?_
    refine v_lload hC dX8_runScript_47 3 rfl rfl ?_
    refine v_lconst hC (v := 1) dX8_runScript_49 rfl rfl ?_
    refine v_lsub hC dX8_runScript_50 rfl ?_
    obtain ⟨v2, hv2, h⟩ := bind_g h
    refine v_callSri hC (n := 3) (st := [.ref h0]) (mX8_in l g cy y2 0 (y4 - 1) hv2) gX8_runScript_X8_in rfl rfl rfl (by decide +kernel) ⟨Nat.le_of_ble_eq_true rfl, Nat.le_of_ble_eq_true rfl⟩ [] rfl rfl rfl rfl (Nat.le_of_ble_eq_true rfl) rfl ⟨Nat.zero_le _, Nat.zero_le _⟩ dX8_runScript_51 rfl ?_
    refine v_if_eq hC (tgt := 61) dX8_runScript_54 (by decide) rfl (fun c => ?_) (fun c => ?_)
    · have h := ite_t c h
      exact bX8_runScript_61 hC hr _ _ _ _ _ _ _ _ _ _ _ _ _ _ h
    · have h := ite_f c h
      refine v_iconst hC (v := (nI 0)) dX8_runScript_57 (by decide) rfl ?_
      refine v_goto hC (tgt := 62) dX8_runScript_58 (by decide) ?_
      exact bX8_runScript_62 hC hr _ _ _ _ _ _ _ _ _ _ _ _ _ _ _ h
set_option maxHeartbeats 4000000 in
set_option maxRecDepth 100000 in
theorem bX8_runScript_6 {p : Program} {l : Launch} {e : Env} {s : State} {m : MethodId} {args : Array Value} {below : List Frame} {meth : Method} {c : Code} {g : va_G} {cy : Nat → ClassId} (hC : CX p s m args meth c g cy 8 cX8_runScript wsX8_runScript RX8) (hr : meth.sig.returnType = (some .int)) {h0 ztx znw ztr zdi zkp zik : Nat} {A : Nat → Prop} {res : Int32 × Int32 × (Nat → Int32)} : ∀ (k : Nat) (rf : Int32) (sz : Int32) (ac : Int32) (sp : Int32) (ou : Int32) (tx : Nat → Int32) (nw : Nat → Int32) (tr : Nat → Int32) (di : Nat → Int32) (kp : Nat → Int32) (ik : Nat → Int32) (y1 : Int32) (y2 : Int64) (y4 : Int64) (y6 : Int32) (h : pX8_runScript_6 k rf nw tr y1 y2 y4 y6 = some res), V p l e (headSpec wsX8_runScript rmX8_runScript).room s m args below meth c g 8 0 0 (MQ below (QWi g A res.1 [(h0, .inr (6, [.int res.2.1, .ref ztx, .int sz, .ref znw, .ref ztr, .ref zdi, .int ac, .ref zkp, .ref zik, .int sp, .int ou])), (ztx, .inl (cy 0, 120, .inl tx)), (znw, .inl (cy 0, 164, .inl nw)), (ztr, .inl (cy 0, 164, .inl res.2.2)), (zdi, .inl (cy 0, 2296, .inl di)), (zkp, .inl (cy 0, 328, .inl kp)), (zik, .inl (cy 1, 2, .inl ik))]) args s 0 0 A) A A [(h0, .inr (6, [.int rf, .ref ztx, .int sz, .ref znw, .ref ztr, .ref zdi, .int ac, .ref zkp, .ref zik, .int sp, .int ou])), (ztx, .inl (cy 0, 120, .inl tx)), (znw, .inl (cy 0, 164, .inl nw)), (ztr, .inl (cy 0, 164, .inl tr)), (zdi, .inl (cy 0, 2296, .inl di)), (zkp, .inl (cy 0, 328, .inl kp)), (zik, .inl (cy 1, 2, .inl ik))] 6 [(0, .ref h0), (1, .int y1), (2, .long y2), (4, .long y4), (6, .int y6)] [] := by
  intro k
  induction k with
  | zero =>
    intro rf sz ac sp ou tx nw tr di kp ik y1 y2 y4 y6 h
    have h : (none : Option _) = some res := h
    cases h
  | succ k ih =>
    intro rf sz ac sp ou tx nw tr di kp ik y1 y2 y4 y6 h
    rw [pX8_runScript_6_s] at h
    refine v_iload hC dX8_runScript_6 4 rfl rfl ?_
    refine v_iload_n hC dX8_runScript_8 rfl 1 rfl rfl ?_
    refine v_icmp_ge hC (tgt := 32) dX8_runScript_9 (by decide) rfl (fun c => ?_) (fun c => ?_)
    · have h := ite_t c h
      exact v_sub [0, 1, 2, 3] (lv' := [(0, .ref h0), (1, .int y1), (2, .long y2), (4, .long y4)]) rfl (bX8_runScript_32 hC hr _ _ _ _ _ _ _ _ _ _ _ _ _ _ h)
    · have h := ite_f c h
      refine v_iload hC dX8_runScript_12 4 rfl rfl ?_
      refine v_iconst hC (v := (nI 3)) dX8_runScript_14 (by decide) rfl ?_
      refine v_icmp_ge hC (tgt := 32) dX8_runScript_15 (by decide) rfl (fun c => ?_) (fun c => ?_)
      · have h := ite_t c h
        exact v_sub [0, 1, 2, 3] (lv' := [(0, .ref h0), (1, .int y1), (2, .long y2), (4, .long y4)]) rfl (bX8_runScript_32 hC hr _ _ _ _ _ _ _ _ _ _ _ _ _ _ h)
      · have h := ite_f c h
        refine v_lload hC dX8_runScript_18 3 rfl rfl ?_
        refine v_ldc2 hC (v := 100000) dX8_runScript_20 kX8_runScript_220 rfl ?_
        refine v_lmul hC dX8_runScript_23 rfl ?_
        refine v_lstore hC dX8_runScript_24 (by decide) [(4, .long (y4 * 100000)), (0, .ref h0), (1, .int y1), (2, .long y2), (6, .int y6)] rfl rfl ?_
        refine v_iinc hC dX8_runScript_26 4 rfl (v := (y6 + (nI 1))) rfl (by decide) [(6, .int (y6 + (nI 1))), (4, .long (y4 * 100000)), (0, .ref h0), (1, .int y1), (2, .long y2)] rfl rfl ?_
        refine v_goto hC (tgt := 6) dX8_runScript_29 (by decide) ?_
        exact v_sub [2, 3, 4, 1, 0] (lv' := [(0, .ref h0), (1, .int y1), (2, .long y2), (4, .long (y4 * 100000)), (6, .int (y6 + (nI 1)))]) rfl (ih _ _ _ _ _ _ _ _ _ _ _ _ _ _ _ h)
set_option maxHeartbeats 4000000 in
set_option maxRecDepth 100000 in
theorem mX8_runScript (l : Launch) (g : va_G) (cy : Nat → ClassId) (h0 ztx znw ztr zdi zkp zik : Nat) (rf : Int32) (sz : Int32) (ac : Int32) (sp : Int32) (ou : Int32) (tx : Nat → Int32) (nw : Nat → Int32) (tr : Nat → Int32) (di : Nat → Int32) (kp : Nat → Int32) (ik : Nat → Int32) (x1 : Int32) (x2 : Int64) {res : Int32 × Int32 × (Nat → Int32)} (h : pX8_runScript rf nw tr x1 x2 = some res) : Met l yX8_runScript wsX8_runScript rmX8_runScript (PW [.ref h0, .int x1, .long x2] g cy [(h0, .inr (6, [.int rf, .ref ztx, .int sz, .ref znw, .ref ztr, .ref zdi, .int ac, .ref zkp, .ref zik, .int sp, .int ou])), (ztx, .inl (cy 0, 120, .inl tx)), (znw, .inl (cy 0, 164, .inl nw)), (ztr, .inl (cy 0, 164, .inl tr)), (zdi, .inl (cy 0, 2296, .inl di)), (zkp, .inl (cy 0, 328, .inl kp)), (zik, .inl (cy 1, 2, .inl ik))]) (QWi g (wA [(h0, .inr (6, [.int rf, .ref ztx, .int sz, .ref znw, .ref ztr, .ref zdi, .int ac, .ref zkp, .ref zik, .int sp, .int ou])), (ztx, .inl (cy 0, 120, .inl tx)), (znw, .inl (cy 0, 164, .inl nw)), (ztr, .inl (cy 0, 164, .inl tr)), (zdi, .inl (cy 0, 2296, .inl di)), (zkp, .inl (cy 0, 328, .inl kp)), (zik, .inl (cy 1, 2, .inl ik))]) res.1 [(h0, .inr (6, [.int res.2.1, .ref ztx, .int sz, .ref znw, .ref ztr, .ref zdi, .int ac, .ref zkp, .ref zik, .int sp, .int ou])), (ztx, .inl (cy 0, 120, .inl tx)), (znw, .inl (cy 0, 164, .inl nw)), (ztr, .inl (cy 0, 164, .inl res.2.2)), (zdi, .inl (cy 0, 2296, .inl di)), (zkp, .inl (cy 0, 328, .inl kp)), (zik, .inl (cy 1, 2, .inl ik))]) 0 0 (wA [(h0, .inr (6, [.int rf, .ref ztx, .int sz, .ref znw, .ref ztr, .ref zdi, .int ac, .ref zkp, .ref zik, .int sp, .int ou])), (ztx, .inl (cy 0, 120, .inl tx)), (znw, .inl (cy 0, 164, .inl nw)), (ztr, .inl (cy 0, 164, .inl tr)), (zdi, .inl (cy 0, 2296, .inl di)), (zkp, .inl (cy 0, 328, .inl kp)), (zik, .inl (cy 1, 2, .inl ik))]) := by
  refine m_ofV (cc := cX8_runScript) (nL := 8) (ret := (some .int)) (B := (wA [(h0, .inr (6, [.int rf, .ref ztx, .int sz, .ref znw, .ref ztr, .ref zdi, .int ac, .ref zkp, .ref zik, .int sp, .int ou])), (ztx, .inl (cy 0, 120, .inl tx)), (znw, .inl (cy 0, 164, .inl nw)), (ztr, .inl (cy 0, 164, .inl tr)), (zdi, .inl (cy 0, 2296, .inl di)), (zkp, .inl (cy 0, 328, .inl kp)), (zik, .inl (cy 1, 2, .inl ik))])) RX8 rfl (by decide) rfl [(0, .ref h0), (1, .int x1), (2, .long x2)] rfl (Nat.le_of_ble_eq_true rfl) (wA.self) ?_
  intro p e s m args below meth c hC hr
  generalize (wA [(h0, .inr (6, [.int rf, .ref ztx, .int sz, .ref znw, .ref ztr, .ref zdi, .int ac, .ref zkp, .ref zik, .int sp, .int ou])), (ztx, .inl (cy 0, 120, .inl tx)), (znw, .inl (cy 0, 164, .inl nw)), (ztr, .inl (cy 0, 164, .inl tr)), (zdi, .inl (cy 0, 2296, .inl di)), (zkp, .inl (cy 0, 328, .inl kp)), (zik, .inl (cy 1, 2, .inl ik))]) = A
  unfold pX8_runScript at h
  refine v_lconst hC (v := 1) dX8_runScript_0 rfl rfl ?_
  refine v_lstore hC dX8_runScript_1 (by decide) [(4, .long 1), (0, .ref h0), (1, .int x1), (2, .long x2)] rfl rfl ?_
  refine v_iconst hC (v := (nI 0)) dX8_runScript_3 (by decide) rfl ?_
  refine v_istore hC dX8_runScript_4 (by decide) [(6, .int (nI 0)), (4, .long 1), (0, .ref h0), (1, .int x1), (2, .long x2)] rfl rfl ?_
  exact v_sub [2, 3, 4, 1, 0] (lv' := [(0, .ref h0), (1, .int x1), (2, .long x2), (4, .long 1), (6, .int (nI 0))]) rfl (bX8_runScript_6 hC hr FU _ _ _ _ _ _ _ _ _ _ _ _ _ _ _ h)
def pX8_turn_179 (r : Nat → Int32) : Option ((Nat → Int32)) := some r
def pX8_turn_44 (r : Nat → Int32) (y2 : Int32) : Option ((Nat → Int32)) := if nb (nI 0) 164 = true then if (nI 14) ≤ (r (nI 0).toNatClampNeg) then pX8_turn_179 r else (pX8_extraOn r (y2 - y2 / (nI 3) * (nI 3)) ((y2 / (nI 4)) - (y2 / (nI 4)) / (nI 14) * (nI 14))).bind fun v1 => pX8_turn_179 v1.2 else none
def pX8_turn (r : Nat → Int32) (x1 : Int32) : Option ((Nat → Int32)) := if (x1 - x1 / (nI 8) * (nI 8)) = (nI 0) then pX8_turn_44 r (x1 / (nI 8)) else if (x1 - x1 / (nI 8) * (nI 8)) = (nI 1) then pX8_turn_44 r (x1 / (nI 8)) else if (x1 - x1 / (nI 8) * (nI 8)) = (nI 2) then if nb (nI 1) 164 = true then if (nI 10) ≤ (r (nI 1).toNatClampNeg) then pX8_turn_179 r else (pX8_sceneOn r ((x1 / (nI 8)) - (x1 / (nI 8)) / (nI 3) * (nI 3)) ((nI 1) + (((x1 / (nI 8)) / (nI 4)) - ((x1 / (nI 8)) / (nI 4)) / (nI 4) * (nI 4))) (((x1 / (nI 8)) / (nI 16)) - ((x1 / (nI 8)) / (nI 16)) / (nI 3) * (nI 3)) (((x1 / (nI 8)) / (nI 64)) - ((x1 / (nI 8)) / (nI 64)) / (nI 2) * (nI 2)) ((nI 10) + (((x1 / (nI 8)) / (nI 128)) - ((x1 / (nI 8)) / (nI 128)) / (nI 231) * (nI 231)))).bind fun v1 => pX8_turn_179 v1.2 else none else if (x1 - x1 / (nI 8) * (nI 8)) = (nI 3) then (pX8_mealOn r).bind fun v2 => pX8_turn_179 v2.2 else if (x1 - x1 / (nI 8) * (nI 8)) = (nI 4) then if ((x1 / (nI 8)) - (x1 / (nI 8)) / (nI 4) * (nI 4)) = 0 then (pX8_nextOn r).bind fun v3 => pX8_turn_179 v3.2 else if nb (nI 7) 164 = true then pX8_turn_179 (upd r (nI 7).toNatClampNeg ((nI 240) + (((x1 / (nI 8)) / (nI 4)) - ((x1 / (nI 8)) / (nI 4)) / (nI 721) * (nI 721)))) else none else (pX8_canShoot r ((x1 / (nI 8)) - (x1 / (nI 8)) / (nI 10) * (nI 10))).bind fun v4 => if v4 = 0 then pX8_turn_179 r else (pX8_shootOn r ((x1 / (nI 8)) - (x1 / (nI 8)) / (nI 10) * (nI 10))).bind fun v5 => pX8_turn_179 v5.2
abbrev rmX8_turn : Room := { frames := 7, cells := 0, slots := 0, locals := 161 }
set_option maxHeartbeats 4000000 in
set_option maxRecDepth 100000 in
theorem bX8_turn_179 {p : Program} {l : Launch} {e : Env} {s : State} {m : MethodId} {args : Array Value} {below : List Frame} {meth : Method} {c : Code} {g : va_G} {cy : Nat → ClassId} (hC : CX p s m args meth c g cy 3 cX8_turn wsX8_turn RX8) (hr : meth.sig.returnType = none) {h0 : Nat} {A : Nat → Prop} {res : (Nat → Int32)} : ∀ (r : Nat → Int32) (h : pX8_turn_179 r = some res), V p l e (headSpec wsX8_turn rmX8_turn).room s m args below meth c g 3 0 0 (MQ below (QWv g A [(h0, .inl (cy 0, 164, .inl res))]) args s 0 0 A) A A [(h0, .inl (cy 0, 164, .inl r))] 179 [] [] := by
  intro r  h
  unfold pX8_turn_179 at h
  obtain rfl := Option.some.inj h
  exact v_vrw hC hr dX8_turn_179
set_option maxHeartbeats 4000000 in
set_option maxRecDepth 100000 in
theorem bX8_turn_44 {p : Program} {l : Launch} {e : Env} {s : State} {m : MethodId} {args : Array Value} {below : List Frame} {meth : Method} {c : Code} {g : va_G} {cy : Nat → ClassId} (hC : CX p s m args meth c g cy 3 cX8_turn wsX8_turn RX8) (hr : meth.sig.returnType = none) {h0 : Nat} {A : Nat → Prop} {res : (Nat → Int32)} : ∀ (r : Nat → Int32) (y2 : Int32)(h : pX8_turn_44 r y2 = some res), V p l e (headSpec wsX8_turn rmX8_turn).room s m args below meth c g 3 0 0 (MQ below (QWv g A [(h0, .inl (cy 0, 164, .inl res))]) args s 0 0 A) A A [(h0, .inl (cy 0, 164, .inl r))] 44 [(0, .ref h0), (2, .int y2)] [] := by
  intro r y2 h
  unfold pX8_turn_44 at h
  refine v_aload_n hC dX8_turn_44 rfl 0 rfl rfl ?_
  refine v_iconst hC (v := (nI 0)) dX8_turn_45 (by decide) rfl ?_
  obtain ⟨hn, h⟩ := ite_g h
  refine v_iald hC 0 rfl hn dX8_turn_46 rfl ?_
  refine v_bipush hC (v := (nI 14)) dX8_turn_47 (by decide) rfl ?_
  refine v_icmp_ge hC (tgt := 179) dX8_turn_49 (by decide) rfl (fun c => ?_) (fun c => ?_)
  · have h := ite_t c h
    exact v_sub [] (lv' := []) rfl (bX8_turn_179 hC hr _ h)
  · have h := ite_f c h
    refine v_aload_n hC dX8_turn_52 rfl 0 rfl rfl ?_
    refine v_iload_n hC dX8_turn_53 rfl 1 rfl rfl ?_
    refine v_iconst hC (v := (nI 3)) dX8_turn_54 (by decide) rfl ?_
    refine v_irem hC dX8_turn_55 (by decide) rfl ?_
    refine v_iload_n hC dX8_turn_56 rfl 1 rfl rfl ?_
    refine v_iconst hC (v := (nI 4)) dX8_turn_57 (by decide) rfl ?_
    refine v_idiv hC dX8_turn_58 (by decide) rfl ?_
    refine v_bipush hC (v := (nI 14)) dX8_turn_59 (by decide) rfl ?_
    refine v_irem hC dX8_turn_61 (by decide) rfl ?_
    obtain ⟨v1, hv1, h⟩ := bind_g h
    refine v_callSwi hC (n := 3) (st := []) [(h0, .inl (cy 0, 164, .inl v1.2))] _ (mX8_extraOn l g cy h0 r (y2 - y2 / (nI 3) * (nI 3)) ((y2 / (nI 4)) - (y2 / (nI 4)) / (nI 14) * (nI 14)) hv1) gX8_turn_X8_extraOn rfl rfl rfl (by decide +kernel) ⟨Nat.le_of_ble_eq_true rfl, Nat.le_of_ble_eq_true rfl⟩ [0] [] rfl rfl rfl rfl rfl rfl rfl rfl rfl (Nat.le_of_ble_eq_true rfl) rfl ⟨Nat.zero_le _, Nat.zero_le _⟩ dX8_turn_62 rfl ?_
    refine v_pop hC dX8_turn_65 rfl rfl ?_
    refine v_goto hC (tgt := 179) dX8_turn_66 (by decide) ?_
    exact v_sub [] (lv' := []) rfl (bX8_turn_179 hC hr _ h)
set_option maxHeartbeats 4000000 in
set_option maxRecDepth 100000 in
theorem mX8_turn (l : Launch) (g : va_G) (cy : Nat → ClassId) (h0 : Nat) (r : Nat → Int32) (x1 : Int32) {res : (Nat → Int32)} (h : pX8_turn r x1 = some res) : Met l yX8_turn wsX8_turn rmX8_turn (PW [.ref h0, .int x1] g cy [(h0, .inl (cy 0, 164, .inl r))]) (QWv g (wA [(h0, .inl (cy 0, 164, .inl r))]) [(h0, .inl (cy 0, 164, .inl res))]) 0 0 (wA [(h0, .inl (cy 0, 164, .inl r))]) := by
  refine m_ofV (cc := cX8_turn) (nL := 3) (ret := none) (B := (wA [(h0, .inl (cy 0, 164, .inl r))])) RX8 rfl (by decide) rfl [(0, .ref h0), (1, .int x1)] rfl (Nat.le_of_ble_eq_true rfl) (wA.self) ?_
  intro p e s m args below meth c hC hr
  generalize (wA [(h0, .inl (cy 0, 164, .inl r))]) = A
  unfold pX8_turn at h
  refine v_iload_n hC dX8_turn_0 rfl 1 rfl rfl ?_
  refine v_bipush hC (v := (nI 8)) dX8_turn_1 (by decide) rfl ?_
  refine v_idiv hC dX8_turn_3 (by decide) rfl ?_
  refine v_istore_n hC dX8_turn_4 rfl (by decide) [(2, .int (x1 / (nI 8))), (0, .ref h0), (1, .int x1)] rfl rfl ?_
  refine v_iload_n hC dX8_turn_5 rfl 2 rfl rfl ?_
  refine v_bipush hC (v := (nI 8)) dX8_turn_6 (by decide) rfl ?_
  refine v_irem hC dX8_turn_8 (by decide) rfl ?_
  by_cases c0 : (x1 - x1 / (nI 8) * (nI 8)) = (nI 0)
  · have h := ite_t c0 h
    refine v_tswI hC (v := (nI 0)) (tgt := 44) dX8_turn_9 c0 (by decide) (by decide) rfl (by decide) ?_
    exact v_sub [1, 0] (lv' := [(0, .ref h0), (2, .int (x1 / (nI 8)))]) rfl (bX8_turn_44 hC hr _ _ h)
  · have h := ite_f c0 h
    by_cases c1 : (x1 - x1 / (nI 8) * (nI 8)) = (nI 1)
    · have h := ite_t c1 h
      refine v_tswI hC (v := (nI 1)) (tgt := 44) dX8_turn_9 c1 (by decide) (by decide) rfl (by decide) ?_
      exact v_sub [1, 0] (lv' := [(0, .ref h0), (2, .int (x1 / (nI 8)))]) rfl (bX8_turn_44 hC hr _ _ h)
    · have h := ite_f c1 h
      by_cases c2 : (x1 - x1 / (nI 8) * (nI 8)) = (nI 2)
      · have h := ite_t c2 h
        refine v_tswI hC (v := (nI 2)) (tgt := 69) dX8_turn_9 c2 (by decide) (by decide) rfl (by decide) ?_
        refine v_aload_n hC dX8_turn_69 rfl 1 rfl rfl ?_
        refine v_iconst hC (v := (nI 1)) dX8_turn_70 (by decide) rfl ?_
        obtain ⟨hn, h⟩ := ite_g h
        refine v_iald hC 0 rfl hn dX8_turn_71 rfl ?_
        refine v_bipush hC (v := (nI 10)) dX8_turn_72 (by decide) rfl ?_
        refine v_icmp_ge hC (tgt := 179) dX8_turn_74 (by decide) rfl (fun c => ?_) (fun c => ?_)
        · have h := ite_t c h
          exact v_sub [] (lv' := []) rfl (bX8_turn_179 hC hr _ h)
        · have h := ite_f c h
          refine v_aload_n hC dX8_turn_77 rfl 1 rfl rfl ?_
          refine v_iload_n hC dX8_turn_78 rfl 0 rfl rfl ?_
          refine v_iconst hC (v := (nI 3)) dX8_turn_79 (by decide) rfl ?_
          refine v_irem hC dX8_turn_80 (by decide) rfl ?_
          refine v_iconst hC (v := (nI 1)) dX8_turn_81 (by decide) rfl ?_
          refine v_iload_n hC dX8_turn_82 rfl 0 rfl rfl ?_
          refine v_iconst hC (v := (nI 4)) dX8_turn_83 (by decide) rfl ?_
          refine v_idiv hC dX8_turn_84 (by decide) rfl ?_
          refine v_iconst hC (v := (nI 4)) dX8_turn_85 (by decide) rfl ?_
          refine v_irem hC dX8_turn_86 (by decide) rfl ?_
          refine v_iadd hC dX8_turn_87 rfl ?_
          refine v_iload_n hC dX8_turn_88 rfl 0 rfl rfl ?_
          refine v_bipush hC (v := (nI 16)) dX8_turn_89 (by decide) rfl ?_
          refine v_idiv hC dX8_turn_91 (by decide) rfl ?_
          refine v_iconst hC (v := (nI 3)) dX8_turn_92 (by decide) rfl ?_
          refine v_irem hC dX8_turn_93 (by decide) rfl ?_
          refine v_iload_n hC dX8_turn_94 rfl 0 rfl rfl ?_
          refine v_bipush hC (v := (nI 64)) dX8_turn_95 (by decide) rfl ?_
          refine v_idiv hC dX8_turn_97 (by decide) rfl ?_
          refine v_iconst hC (v := (nI 2)) dX8_turn_98 (by decide) rfl ?_
          refine v_irem hC dX8_turn_99 (by decide) rfl ?_
          refine v_bipush hC (v := (nI 10)) dX8_turn_100 (by decide) rfl ?_
          refine v_iload_n hC dX8_turn_102 rfl 0 rfl rfl ?_
          refine v_sipush hC (v := (nI 128)) dX8_turn_103 (by decide) rfl ?_
          refine v_idiv hC dX8_turn_106 (by decide) rfl ?_
          refine v_sipush hC (v := (nI 231)) dX8_turn_107 (by decide) rfl ?_
          refine v_irem hC dX8_turn_110 (by decide) rfl ?_
          refine v_iadd hC dX8_turn_111 rfl ?_
          obtain ⟨v1, hv1, h⟩ := bind_g h
          refine v_callSwi hC (n := 6) (st := []) [(h0, .inl (cy 0, 164, .inl v1.2))] _ (mX8_sceneOn l g cy h0 r ((x1 / (nI 8)) - (x1 / (nI 8)) / (nI 3) * (nI 3)) ((nI 1) + (((x1 / (nI 8)) / (nI 4)) - ((x1 / (nI 8)) / (nI 4)) / (nI 4) * (nI 4))) (((x1 / (nI 8)) / (nI 16)) - ((x1 / (nI 8)) / (nI 16)) / (nI 3) * (nI 3)) (((x1 / (nI 8)) / (nI 64)) - ((x1 / (nI 8)) / (nI 64)) / (nI 2) * (nI 2)) ((nI 10) + (((x1 / (nI 8)) / (nI 128)) - ((x1 / (nI 8)) / (nI 128)) / (nI 231) * (nI 231))) hv1) gX8_turn_X8_sceneOn rfl rfl rfl (by decide +kernel) ⟨Nat.le_of_ble_eq_true rfl, Nat.le_of_ble_eq_true rfl⟩ [0] [] rfl rfl rfl rfl rfl rfl rfl rfl rfl (Nat.le_of_ble_eq_true rfl) rfl ⟨Nat.zero_le _, Nat.zero_le _⟩ dX8_turn_112 rfl ?_
          refine v_pop hC dX8_turn_115 rfl rfl ?_
          refine v_goto hC (tgt := 179) dX8_turn_116 (by decide) ?_
          exact v_sub [] (lv' := []) rfl (bX8_turn_179 hC hr _ h)
      · have h := ite_f c2 h
        by_cases c3 : (x1 - x1 / (nI 8) * (nI 8)) = (nI 3)
        · have h := ite_t c3 h
          refine v_tswI hC (v := (nI 3)) (tgt := 119) dX8_turn_9 c3 (by decide) (by decide) rfl (by decide) ?_
          refine v_aload_n hC dX8_turn_119 rfl 1 rfl rfl ?_
          obtain ⟨v2, hv2, h⟩ := bind_g h
          refine v_callSwi hC (n := 1) (st := []) [(h0, .inl (cy 0, 164, .inl v2.2))] _ (mX8_mealOn l g cy h0 r hv2) gX8_turn_X8_mealOn rfl rfl rfl (by decide +kernel) ⟨Nat.le_of_ble_eq_true rfl, Nat.le_of_ble_eq_true rfl⟩ [0] [] rfl rfl rfl rfl rfl rfl rfl rfl rfl (Nat.le_of_ble_eq_true rfl) rfl ⟨Nat.zero_le _, Nat.zero_le _⟩ dX8_turn_120 rfl ?_
          refine v_pop hC dX8_turn_123 rfl rfl ?_
          refine v_goto hC (tgt := 179) dX8_turn_124 (by decide) ?_
          exact v_sub [] (lv' := []) rfl (bX8_turn_179 hC hr _ h)
        · have h := ite_f c3 h
          by_cases c4 : (x1 - x1 / (nI 8) * (nI 8)) = (nI 4)
          · have h := ite_t c4 h
            refine v_tswI hC (v := (nI 4)) (tgt := 127) dX8_turn_9 c4 (by decide) (by decide) rfl (by decide) ?_
            refine v_iload_n hC dX8_turn_127 rfl 0 rfl rfl ?_
            refine v_iconst hC (v := (nI 4)) dX8_turn_128 (by decide) rfl ?_
            refine v_irem hC dX8_turn_129 (by decide) rfl ?_
            refine v_if_ne hC (tgt := 141) dX8_turn_130 (by decide) rfl (fun c => ?_) (fun c => ?_)
            · have h := ite_f c h
              refine v_aload_n hC dX8_turn_141 rfl 1 rfl rfl ?_
              refine v_bipush hC (v := (nI 7)) dX8_turn_142 (by decide) rfl ?_
              refine v_sipush hC (v := (nI 240)) dX8_turn_144 (by decide) rfl ?_
              refine v_iload_n hC dX8_turn_147 rfl 0 rfl rfl ?_
              refine v_iconst hC (v := (nI 4)) dX8_turn_148 (by decide) rfl ?_
              refine v_idiv hC dX8_turn_149 (by decide) rfl ?_
              refine v_sipush hC (v := (nI 721)) dX8_turn_150 (by decide) rfl ?_
              refine v_irem hC dX8_turn_153 (by decide) rfl ?_
              refine v_iadd hC dX8_turn_154 rfl ?_
              obtain ⟨hn, h⟩ := ite_g h
              refine v_iast hC 0 rfl hn dX8_turn_155 [(h0, .inl (cy 0, 164, .inl (upd r (nI 7).toNatClampNeg ((nI 240) + (((x1 / (nI 8)) / (nI 4)) - ((x1 / (nI 8)) / (nI 4)) / (nI 721) * (nI 721))))))] rfl rfl ?_
              refine v_goto hC (tgt := 179) dX8_turn_156 (by decide) ?_
              exact v_sub [] (lv' := []) rfl (bX8_turn_179 hC hr _ h)
            · have h := ite_t c h
              refine v_aload_n hC dX8_turn_133 rfl 1 rfl rfl ?_
              obtain ⟨v3, hv3, h⟩ := bind_g h
              refine v_callSwi hC (n := 1) (st := []) [(h0, .inl (cy 0, 164, .inl v3.2))] _ (mX8_nextOn l g cy h0 r hv3) gX8_turn_X8_nextOn rfl rfl rfl (by decide +kernel) ⟨Nat.le_of_ble_eq_true rfl, Nat.le_of_ble_eq_true rfl⟩ [0] [] rfl rfl rfl rfl rfl rfl rfl rfl rfl (Nat.le_of_ble_eq_true rfl) rfl ⟨Nat.zero_le _, Nat.zero_le _⟩ dX8_turn_134 rfl ?_
              refine v_pop hC dX8_turn_137 rfl rfl ?_
              refine v_goto hC (tgt := 179) dX8_turn_138 (by decide) ?_
              exact v_sub [] (lv' := []) rfl (bX8_turn_179 hC hr _ h)
          · have h := ite_f c4 h
            refine v_tswO hC (tgt := 159) dX8_turn_9 (by have e0 := ne_I (z := 0) (by decide) c0; have e1 := ne_I (z := 1) (by decide) c1; have e2 := ne_I (z := 2) (by decide) c2; have e3 := ne_I (z := 3) (by decide) c3; have e4 := ne_I (z := 4) (by decide) c4; omega) (by decide) ?_
            refine v_aload_n hC dX8_turn_159 rfl 1 rfl rfl ?_
            refine v_iload_n hC dX8_turn_160 rfl 0 rfl rfl ?_
            refine v_bipush hC (v := (nI 10)) dX8_turn_161 (by decide) rfl ?_
            refine v_irem hC dX8_turn_163 (by decide) rfl ?_
            obtain ⟨v4, hv4, h⟩ := bind_g h
            refine v_callSri hC (n := 2) (st := []) (mX8_canShoot l g cy h0 r ((x1 / (nI 8)) - (x1 / (nI 8)) / (nI 10) * (nI 10)) hv4) gX8_turn_X8_canShoot rfl rfl rfl (by decide +kernel) ⟨Nat.le_of_ble_eq_true rfl, Nat.le_of_ble_eq_true rfl⟩ [0] rfl rfl rfl rfl (Nat.le_of_ble_eq_true rfl) rfl ⟨Nat.zero_le _, Nat.zero_le _⟩ dX8_turn_164 rfl ?_
            refine v_if_eq hC (tgt := 179) dX8_turn_167 (by decide) rfl (fun c => ?_) (fun c => ?_)
            · have h := ite_t c h
              exact v_sub [] (lv' := []) rfl (bX8_turn_179 hC hr _ h)
            · have h := ite_f c h
              refine v_aload_n hC dX8_turn_170 rfl 1 rfl rfl ?_
              refine v_iload_n hC dX8_turn_171 rfl 0 rfl rfl ?_
              refine v_bipush hC (v := (nI 10)) dX8_turn_172 (by decide) rfl ?_
              refine v_irem hC dX8_turn_174 (by decide) rfl ?_
              obtain ⟨v5, hv5, h⟩ := bind_g h
              refine v_callSwi hC (n := 2) (st := []) [(h0, .inl (cy 0, 164, .inl v5.2))] _ (mX8_shootOn l g cy h0 r ((x1 / (nI 8)) - (x1 / (nI 8)) / (nI 10) * (nI 10)) hv5) gX8_turn_X8_shootOn rfl rfl rfl (by decide +kernel) ⟨Nat.le_of_ble_eq_true rfl, Nat.le_of_ble_eq_true rfl⟩ [0] [] rfl rfl rfl rfl rfl rfl rfl rfl rfl (Nat.le_of_ble_eq_true rfl) rfl ⟨Nat.zero_le _, Nat.zero_le _⟩ dX8_turn_175 rfl ?_
              refine v_pop hC dX8_turn_178 rfl rfl ?_
              exact v_sub [] (lv' := []) rfl (bX8_turn_179 hC hr _ h)
theorem kX8_simulate_13 : Cond.fieldLink RX8 13 "CrowdFacesModel" "now" "[I" ∈ wsX8_simulate := by decide +kernel
theorem kX8_simulate_16 : Cond.fieldLink RX8 16 "CrowdFacesModel" "trial" "[I" ∈ wsX8_simulate := by decide +kernel
theorem kX8_simulate_225 : Cond.constantLong RX8 225 60 ∈ wsX8_simulate := by decide +kernel
theorem kX8_simulate_227 : Cond.constantLong RX8 227 6364136223846793005 ∈ wsX8_simulate := by decide +kernel
theorem kX8_simulate_229 : Cond.constantLong RX8 229 1442695040888963407 ∈ wsX8_simulate := by decide +kernel
theorem iX8_simulate_X8 : ∀ w ∈ wsX80, w ∈ wsX8_simulate := by decide +kernel
def pX8_simulate_132 (rf : Int32) (nw : Nat → Int32) (tr : Nat → Int32) (s0 : Int32) (s1 : Int32) : Option (Int32 × Int32 × (Nat → Int32)) := some ((s1 + s0), rf, tr)
def pX8_simulate_45 : Nat → Int32 → (Nat → Int32) → (Nat → Int32) → Int32 → Int64 → Int32 → Option (Int32 × Int32 × (Nat → Int32))
  | 0, _, _, _, _, _, _ => none
  | k + 1, rf, nw, tr, y3, y4, y6 => if y3 ≤ y6 then if nb (nI 5) 164 = true then if nb (nI 5) 164 = true then (pX8_shots tr).bind fun v1 => (pX8_shots nw).bind fun v2 => if ((tr (nI 5).toNatClampNeg) - (nw (nI 5).toNatClampNeg)) ≤ (nI 9999) then pX8_simulate_132 rf nw tr ((tr (nI 5).toNatClampNeg) - (nw (nI 5).toNatClampNeg)) ((nI 10000) * (v1 - v2)) else pX8_simulate_132 rf nw tr (nI 9999) ((nI 10000) * (v1 - v2)) else none else none else (pX8_turn tr (((((y4 * 6364136223846793005) + 1442695040888963407).toUInt64 >>> ((nI 33).toInt64.toUInt64 &&& Int64.toUInt64 63)).toInt64).toInt32)).bind fun v3 => pX8_simulate_45 k rf nw v3 y3 ((y4 * 6364136223846793005) + 1442695040888963407) (y6 + (nI 1))
theorem pX8_simulate_45_s {k : Nat} (rf : Int32) (nw : Nat → Int32) (tr : Nat → Int32) (y3 : Int32) (y4 : Int64) (y6 : Int32) : pX8_simulate_45 (k + 1) rf nw tr y3 y4 y6 = if y3 ≤ y6 then if nb (nI 5) 164 = true then if nb (nI 5) 164 = true then (pX8_shots tr).bind fun v1 => (pX8_shots nw).bind fun v2 => if ((tr (nI 5).toNatClampNeg) - (nw (nI 5).toNatClampNeg)) ≤ (nI 9999) then pX8_simulate_132 rf nw tr ((tr (nI 5).toNatClampNeg) - (nw (nI 5).toNatClampNeg)) ((nI 10000) * (v1 - v2)) else pX8_simulate_132 rf nw tr (nI 9999) ((nI 10000) * (v1 - v2)) else none else none else (pX8_turn tr (((((y4 * 6364136223846793005) + 1442695040888963407).toUInt64 >>> ((nI 33).toInt64.toUInt64 &&& Int64.toUInt64 63)).toInt64).toInt32)).bind fun v3 => pX8_simulate_45 k rf nw v3 y3 ((y4 * 6364136223846793005) + 1442695040888963407) (y6 + (nI 1)) := rfl
def pX8_simulate_18 (rf : Int32) (nw : Nat → Int32) (tr : Nat → Int32) (y1 : Int64) (y3 : Int32) (s0 : Int32) : Option (Int32 × Int32 × (Nat → Int32)) := (pX8_refused rf s0).bind fun v1 => if v1.1 = 0 then (pX8_copyState 164 nw 164 tr (nI 0) (nI 0)).bind fun v2 => pX8_simulate_45 FU v1.2 nw v2 y3 y1 (nI 0) else some ((nI 0), v1.2, tr)
def pX8_simulate (rf : Int32) (nw : Nat → Int32) (tr : Nat → Int32) (x1 : Int64) (x3 : Int32) : Option (Int32 × Int32 × (Nat → Int32)) := (pX8_in x3.toInt64 1 60).bind fun v1 => if v1 = 0 then pX8_simulate_18 rf nw tr x1 x3 (nI 1) else pX8_simulate_18 rf nw tr x1 x3 (nI 0)
abbrev rmX8_simulate : Room := { frames := 8, cells := 0, slots := 0, locals := 183 }
set_option maxHeartbeats 4000000 in
set_option maxRecDepth 100000 in
theorem bX8_simulate_132 {p : Program} {l : Launch} {e : Env} {s : State} {m : MethodId} {args : Array Value} {below : List Frame} {meth : Method} {c : Code} {g : va_G} {cy : Nat → ClassId} (hC : CX p s m args meth c g cy 7 cX8_simulate wsX8_simulate RX8) (hr : meth.sig.returnType = (some .int)) {h0 ztx znw ztr zdi zkp zik : Nat} {A : Nat → Prop} {res : Int32 × Int32 × (Nat → Int32)} : ∀ (rf : Int32) (sz : Int32) (ac : Int32) (sp : Int32) (ou : Int32) (tx : Nat → Int32) (nw : Nat → Int32) (tr : Nat → Int32) (di : Nat → Int32) (kp : Nat → Int32) (ik : Nat → Int32) (s0 : Int32) (s1 : Int32)(h : pX8_simulate_132 rf nw tr s0 s1 = some res), V p l e (headSpec wsX8_simulate rmX8_simulate).room s m args below meth c g 7 0 0 (MQ below (QWi g A res.1 [(h0, .inr (6, [.int res.2.1, .ref ztx, .int sz, .ref znw, .ref ztr, .ref zdi, .int ac, .ref zkp, .ref zik, .int sp, .int ou])), (ztx, .inl (cy 0, 120, .inl tx)), (znw, .inl (cy 0, 164, .inl nw)), (ztr, .inl (cy 0, 164, .inl res.2.2)), (zdi, .inl (cy 0, 2296, .inl di)), (zkp, .inl (cy 0, 328, .inl kp)), (zik, .inl (cy 1, 2, .inl ik))]) args s 0 0 A) A A [(h0, .inr (6, [.int rf, .ref ztx, .int sz, .ref znw, .ref ztr, .ref zdi, .int ac, .ref zkp, .ref zik, .int sp, .int ou])), (ztx, .inl (cy 0, 120, .inl tx)), (znw, .inl (cy 0, 164, .inl nw)), (ztr, .inl (cy 0, 164, .inl tr)), (zdi, .inl (cy 0, 2296, .inl di)), (zkp, .inl (cy 0, 328, .inl kp)), (zik, .inl (cy 1, 2, .inl ik))] 132 [] [.int s0, .int s1] := by
  intro rf sz ac sp ou tx nw tr di kp ik s0 s1 h
  unfold pX8_simulate_132 at h
  refine v_iadd hC dX8_simulate_132 rfl ?_
  obtain rfl := Option.some.inj h
  exact v_irw hC hr rfl rfl dX8_simulate_133
set_option maxHeartbeats 4000000 in
set_option maxRecDepth 100000 in
theorem bX8_simulate_45 {p : Program} {l : Launch} {e : Env} {s : State} {m : MethodId} {args : Array Value} {below : List Frame} {meth : Method} {c : Code} {g : va_G} {cy : Nat → ClassId} (hC : CX p s m args meth c g cy 7 cX8_simulate wsX8_simulate RX8) (hr : meth.sig.returnType = (some .int)) {h0 ztx znw ztr zdi zkp zik : Nat} {A : Nat → Prop} {res : Int32 × Int32 × (Nat → Int32)} : ∀ (k : Nat) (rf : Int32) (sz : Int32) (ac : Int32) (sp : Int32) (ou : Int32) (tx : Nat → Int32) (nw : Nat → Int32) (tr : Nat → Int32) (di : Nat → Int32) (kp : Nat → Int32) (ik : Nat → Int32) (y3 : Int32) (y4 : Int64) (y6 : Int32) (h : pX8_simulate_45 k rf nw tr y3 y4 y6 = some res), V p l e (headSpec wsX8_simulate rmX8_simulate).room s m args below meth c g 7 0 0 (MQ below (QWi g A res.1 [(h0, .inr (6, [.int res.2.1, .ref ztx, .int sz, .ref znw, .ref ztr, .ref zdi, .int ac, .ref zkp, .ref zik, .int sp, .int ou])), (ztx, .inl (cy 0, 120, .inl tx)), (znw, .inl (cy 0, 164, .inl nw)), (ztr, .inl (cy 0, 164, .inl res.2.2)), (zdi, .inl (cy 0, 2296, .inl di)), (zkp, .inl (cy 0, 328, .inl kp)), (zik, .inl (cy 1, 2, .inl ik))]) args s 0 0 A) A A [(h0, .inr (6, [.int rf, .ref ztx, .int sz, .ref znw, .ref ztr, .ref zdi, .int ac, .ref zkp, .ref zik, .int sp, .int ou])), (ztx, .inl (cy 0, 120, .inl tx)), (znw, .inl (cy 0, 164, .inl nw)), (ztr, .inl (cy 0, 164, .inl tr)), (zdi, .inl (cy 0, 2296, .inl di)), (zkp, .inl (cy 0, 328, .inl kp)), (zik, .inl (cy 1, 2, .inl ik))] 45 [(0, .ref h0), (3, .int y3), (4, .long y4), (6, .int y6)] [] := by
  intro k
  induction k with
  | zero =>
    intro rf sz ac sp ou tx nw tr di kp ik y3 y4 y6 h
    have h : (none : Option _) = some res := h
    cases h
  | succ k ih =>
    intro rf sz ac sp ou tx nw tr di kp ik y3 y4 y6 h
    rw [pX8_simulate_45_s] at h
    refine v_iload hC dX8_simulate_45 3 rfl rfl ?_
    refine v_iload_n hC dX8_simulate_47 rfl 1 rfl rfl ?_
    refine v_icmp_ge hC (tgt := 82) dX8_simulate_48 (by decide) rfl (fun c => ?_) (fun c => ?_)
    · have h := ite_t c h
      refine v_aload_n hC dX8_simulate_82 rfl 0 rfl rfl ?_
      refine v_get hC iX8_simulate_X8 0 rfl rfl 4 (by decide) kX8_simulate_16 rfl rfl dX8_simulate_83 rfl ?_
      refine v_iconst hC (v := (nI 5)) dX8_simulate_86 (by decide) rfl ?_
      obtain ⟨hn, h⟩ := ite_g h
      refine v_iald hC 3 rfl hn dX8_simulate_87 rfl ?_
      refine v_aload_n hC dX8_simulate_88 rfl 0 rfl rfl ?_
      refine v_get hC iX8_simulate_X8 0 rfl rfl 3 (by decide) kX8_simulate_13 rfl rfl dX8_simulate_89 rfl ?_
      refine v_iconst hC (v := (nI 5)) dX8_simulate_92 (by decide) rfl ?_
      obtain ⟨hn, h⟩ := ite_g h
      refine v_iald hC 2 rfl hn dX8_simulate_93 rfl ?_
      refine v_isub hC dX8_simulate_94 rfl ?_
      refine v_istore hC dX8_simulate_95 (by decide) [(6, .int ((tr (nI 5).toNatClampNeg) - (nw (nI 5).toNatClampNeg))), (0, .ref h0), (3, .int y3), (4, .long y4)] rfl rfl ?_
      refine v_sipush hC (v := (nI 10000)) dX8_simulate_97 (by decide) rfl ?_
      refine v_aload_n hC dX8_simulate_100 rfl 1 rfl rfl ?_
      refine v_get hC iX8_simulate_X8 0 rfl rfl 4 (by decide) kX8_simulate_16 rfl rfl dX8_simulate_101 rfl ?_
      obtain ⟨v1, hv1, h⟩ := bind_g h
      refine v_callSri hC (n := 1) (st := [.int (nI 10000)]) (mX8_shots l g cy ztr tr hv1) gX8_simulate_X8_shots rfl rfl rfl (by decide +kernel) ⟨Nat.le_of_ble_eq_true rfl, Nat.le_of_ble_eq_true rfl⟩ [3] rfl rfl rfl rfl (Nat.le_of_ble_eq_true rfl) rfl ⟨Nat.zero_le _, Nat.zero_le _⟩ dX8_simulate_104 rfl ?_
      refine v_aload_n hC dX8_simulate_107 rfl 1 rfl rfl ?_
      refine v_get hC iX8_simulate_X8 0 rfl rfl 3 (by decide) kX8_simulate_13 rfl rfl dX8_simulate_108 rfl ?_
      obtain ⟨v2, hv2, h⟩ := bind_g h
      refine v_callSri hC (n := 1) (st := [.int v1, .int (nI 10000)]) (mX8_shots l g cy znw nw hv2) gX8_simulate_X8_shots rfl rfl rfl (by decide +kernel) ⟨Nat.le_of_ble_eq_true rfl, Nat.le_of_ble_eq_true rfl⟩ [2] rfl rfl rfl rfl (Nat.le_of_ble_eq_true rfl) rfl ⟨Nat.zero_le _, Nat.zero_le _⟩ dX8_simulate_111 rfl ?_
      refine v_isub hC dX8_simulate_114 rfl ?_
      refine v_imul hC dX8_simulate_115 rfl ?_
      refine v_iload hC dX8_simulate_116 0 rfl rfl ?_
      refine v_sipush hC (v := (nI 9999)) dX8_simulate_118 (by decide) rfl ?_
      refine v_icmp_le hC (tgt := 130) dX8_simulate_121 (by decide) rfl (fun c => ?_) (fun c => ?_)
      · have h := ite_t c h
        refine v_iload hC dX8_simulate_130 0 rfl rfl ?_
        exact v_sub [] (lv' := []) rfl (bX8_simulate_132 hC hr _ _ _ _ _ _ _ _ _ _ _ _ _ h)
      · have h := ite_f c h
        refine v_sipush hC (v := (nI 9999)) dX8_simulate_124 (by decide) rfl ?_
        refine v_goto hC (tgt := 132) dX8_simulate_127 (by decide) ?_
        exact v_sub [] (lv' := []) rfl (bX8_simulate_132 hC hr _ _ _ _ _ _ _ _ _ _ _ _ _ h)
    · have h := ite_f c h
      refine v_lload hC dX8_simulate_51 2 rfl rfl ?_
      refine v_ldc2 hC (v := 6364136223846793005) dX8_simulate_53 kX8_simulate_227 rfl ?_
      refine v_lmul hC dX8_simulate_56 rfl ?_
      refine v_ldc2 hC (v := 1442695040888963407) dX8_simulate_57 kX8_simulate_229 rfl ?_
      refine v_ladd hC dX8_simulate_60 rfl ?_
      refine v_lstore hC dX8_simulate_61 (by decide) [(4, .long ((y4 * 6364136223846793005) + 1442695040888963407)), (0, .ref h0), (3, .int y3), (6, .int y6)] rfl rfl ?_
      refine v_aload_n hC dX8_simulate_63 rfl 1 rfl rfl ?_
      refine v_get hC iX8_simulate_X8 0 rfl rfl 4 (by decide) kX8_simulate_16 rfl rfl dX8_simulate_64 rfl ?_
      refine v_lload hC dX8_simulate_67 0 rfl rfl ?_
      refine v_bipush hC (v := (nI 33)) dX8_simulate_69 (by decide) rfl ?_
      refine v_lushr hC dX8_simulate_71 rfl ?_
      refine v_l2i hC dX8_simulate_72 rfl ?_
      obtain ⟨v3, hv3, h⟩ := bind_g h
      refine v_callSwv hC (n := 2) (st := []) [(h0, .inr (6, [.int rf, .ref ztx, .int sz, .ref znw, .ref ztr, .ref zdi, .int ac, .ref zkp, .ref zik, .int sp, .int ou])), (ztx, .inl (cy 0, 120, .inl tx)), (znw, .inl (cy 0, 164, .inl nw)), (ztr, .inl (cy 0, 164, .inl v3)), (zdi, .inl (cy 0, 2296, .inl di)), (zkp, .inl (cy 0, 328, .inl kp)), (zik, .inl (cy 1, 2, .inl ik))] _ (mX8_turn l g cy ztr tr (((((y4 * 6364136223846793005) + 1442695040888963407).toUInt64 >>> ((nI 33).toInt64.toUInt64 &&& Int64.toUInt64 63)).toInt64).toInt32) hv3) gX8_simulate_X8_turn rfl rfl rfl (by decide +kernel) ⟨Nat.le_of_ble_eq_true rfl, Nat.le_of_ble_eq_true rfl⟩ [3] [0, 1, 2, 4, 5, 6] rfl rfl rfl rfl rfl rfl rfl rfl rfl (Nat.le_of_ble_eq_true rfl) rfl ⟨Nat.zero_le _, Nat.zero_le _⟩ dX8_simulate_73 rfl ?_
      refine v_iinc hC dX8_simulate_76 3 rfl (v := (y6 + (nI 1))) rfl (by decide) [(6, .int (y6 + (nI 1))), (4, .long ((y4 * 6364136223846793005) + 1442695040888963407)), (0, .ref h0), (3, .int y3)] rfl rfl ?_
      refine v_goto hC (tgt := 45) dX8_simulate_79 (by decide) ?_
      exact v_sub [2, 3, 1, 0] (lv' := [(0, .ref h0), (3, .int y3), (4, .long ((y4 * 6364136223846793005) + 1442695040888963407)), (6, .int (y6 + (nI 1)))]) rfl (ih _ _ _ _ _ _ _ _ _ _ _ _ _ _ h)
set_option maxHeartbeats 4000000 in
set_option maxRecDepth 100000 in
theorem bX8_simulate_18 {p : Program} {l : Launch} {e : Env} {s : State} {m : MethodId} {args : Array Value} {below : List Frame} {meth : Method} {c : Code} {g : va_G} {cy : Nat → ClassId} (hC : CX p s m args meth c g cy 7 cX8_simulate wsX8_simulate RX8) (hr : meth.sig.returnType = (some .int)) {h0 ztx znw ztr zdi zkp zik : Nat} {A : Nat → Prop} {res : Int32 × Int32 × (Nat → Int32)} : ∀ (rf : Int32) (sz : Int32) (ac : Int32) (sp : Int32) (ou : Int32) (tx : Nat → Int32) (nw : Nat → Int32) (tr : Nat → Int32) (di : Nat → Int32) (kp : Nat → Int32) (ik : Nat → Int32) (y1 : Int64) (y3 : Int32) (s0 : Int32)(h : pX8_simulate_18 rf nw tr y1 y3 s0 = some res), V p l e (headSpec wsX8_simulate rmX8_simulate).room s m args below meth c g 7 0 0 (MQ below (QWi g A res.1 [(h0, .inr (6, [.int res.2.1, .ref ztx, .int sz, .ref znw, .ref ztr, .ref zdi, .int ac, .ref zkp, .ref zik, .int sp, .int ou])), (ztx, .inl (cy 0, 120, .inl tx)), (znw, .inl (cy 0, 164, .inl nw)), (ztr, .inl (cy 0, 164, .inl res.2.2)), (zdi, .inl (cy 0, 2296, .inl di)), (zkp, .inl (cy 0, 328, .inl kp)), (zik, .inl (cy 1, 2, .inl ik))]) args s 0 0 A) A A [(h0, .inr (6, [.int rf, .ref ztx, .int sz, .ref znw, .ref ztr, .ref zdi, .int ac, .ref zkp, .ref zik, .int sp, .int ou])), (ztx, .inl (cy 0, 120, .inl tx)), (znw, .inl (cy 0, 164, .inl nw)), (ztr, .inl (cy 0, 164, .inl tr)), (zdi, .inl (cy 0, 2296, .inl di)), (zkp, .inl (cy 0, 328, .inl kp)), (zik, .inl (cy 1, 2, .inl ik))] 18 [(0, .ref h0), (1, .long y1), (3, .int y3)] [.int s0, .ref h0] := by
  intro rf sz ac sp ou tx nw tr di kp ik y1 y3 s0 h
  unfold pX8_simulate_18 at h
  obtain ⟨v1, hv1, h⟩ := bind_g h
  refine v_callVwi hC (n := 1) (st := []) [(h0, .inr (6, [.int v1.2, .ref ztx, .int sz, .ref znw, .ref ztr, .ref zdi, .int ac, .ref zkp, .ref zik, .int sp, .int ou])), (ztx, .inl (cy 0, 120, .inl tx)), (znw, .inl (cy 0, 164, .inl nw)), (ztr, .inl (cy 0, 164, .inl tr)), (zdi, .inl (cy 0, 2296, .inl di)), (zkp, .inl (cy 0, 328, .inl kp)), (zik, .inl (cy 1, 2, .inl ik))] _ (mX8_refused l g cy h0 ztx znw ztr zdi zkp zik rf sz ac sp ou tx nw tr di kp ik s0 hv1) gX8_simulate_X8_refused rfl rfl rfl (by decide +kernel) ⟨Nat.le_of_ble_eq_true rfl, Nat.le_of_ble_eq_true rfl⟩ 0 rfl rfl [0, 1, 2, 3, 4, 5, 6] [] rfl rfl rfl rfl rfl rfl rfl rfl rfl (Nat.le_of_ble_eq_true rfl) rfl ⟨Nat.zero_le _, Nat.zero_le _⟩ dX8_simulate_18 rfl ?_
  refine v_if_eq hC (tgt := 26) dX8_simulate_21 (by decide) rfl (fun c => ?_) (fun c => ?_)
  · have h := ite_t c h
    refine v_aload_n hC dX8_simulate_26 rfl 0 rfl rfl ?_
    refine v_get hC iX8_simulate_X8 0 rfl rfl 3 (by decide) kX8_simulate_13 rfl rfl dX8_simulate_27 rfl ?_
    refine v_iconst hC (v := (nI 0)) dX8_simulate_30 (by decide) rfl ?_
    refine v_aload_n hC dX8_simulate_31 rfl 0 rfl rfl ?_
    refine v_get hC iX8_simulate_X8 0 rfl rfl 4 (by decide) kX8_simulate_16 rfl rfl dX8_simulate_32 rfl ?_
    refine v_iconst hC (v := (nI 0)) dX8_simulate_35 (by decide) rfl ?_
    obtain ⟨v2, hv2, h⟩ := bind_g h
    refine v_callSwv hC (n := 4) (st := []) [(h0, .inr (6, [.int v1.2, .ref ztx, .int sz, .ref znw, .ref ztr, .ref zdi, .int ac, .ref zkp, .ref zik, .int sp, .int ou])), (ztx, .inl (cy 0, 120, .inl tx)), (znw, .inl (cy 0, 164, .inl nw)), (ztr, .inl (cy 0, 164, .inl v2)), (zdi, .inl (cy 0, 2296, .inl di)), (zkp, .inl (cy 0, 328, .inl kp)), (zik, .inl (cy 1, 2, .inl ik))] _ (mX8_copyState l g cy znw ztr 164 nw 164 tr (nI 0) (nI 0) hv2) gX8_simulate_X8_copyState rfl rfl rfl (by decide +kernel) ⟨Nat.le_of_ble_eq_true rfl, Nat.le_of_ble_eq_true rfl⟩ [2, 3] [0, 1, 4, 5, 6] rfl rfl rfl rfl rfl rfl rfl rfl rfl (Nat.le_of_ble_eq_true rfl) rfl ⟨Nat.zero_le _, Nat.zero_le _⟩ dX8_simulate_36 rfl ?_
    refine v_lload_n hC dX8_simulate_39 rfl 1 rfl rfl ?_
    refine v_lstore hC dX8_simulate_40 (by decide) [(4, .long y1), (0, .ref h0), (1, .long y1), (3, .int y3)] rfl rfl ?_
    refine v_iconst hC (v := (nI 0)) dX8_simulate_42 (by decide) rfl ?_
    refine v_istore hC dX8_simulate_43 (by decide) [(6, .int (nI 0)), (4, .long y1), (0, .ref h0), (1, .long y1), (3, .int y3)] rfl rfl ?_
    exact v_sub [2, 4, 1, 0] (lv' := [(0, .ref h0), (3, .int y3), (4, .long y1), (6, .int (nI 0))]) rfl (bX8_simulate_45 hC hr FU _ _ _ _ _ _ _ _ _ _ _ _ _ _ h)
  · have h := ite_f c h
    refine v_iconst hC (v := (nI 0)) dX8_simulate_24 (by decide) rfl ?_
    obtain rfl := Option.some.inj h
    exact v_irw hC hr rfl rfl dX8_simulate_25
set_option maxHeartbeats 4000000 in
set_option maxRecDepth 100000 in
theorem mX8_simulate (l : Launch) (g : va_G) (cy : Nat → ClassId) (h0 ztx znw ztr zdi zkp zik : Nat) (rf : Int32) (sz : Int32) (ac : Int32) (sp : Int32) (ou : Int32) (tx : Nat → Int32) (nw : Nat → Int32) (tr : Nat → Int32) (di : Nat → Int32) (kp : Nat → Int32) (ik : Nat → Int32) (x1 : Int64) (x3 : Int32) {res : Int32 × Int32 × (Nat → Int32)} (h : pX8_simulate rf nw tr x1 x3 = some res) : Met l yX8_simulate wsX8_simulate rmX8_simulate (PW [.ref h0, .long x1, .int x3] g cy [(h0, .inr (6, [.int rf, .ref ztx, .int sz, .ref znw, .ref ztr, .ref zdi, .int ac, .ref zkp, .ref zik, .int sp, .int ou])), (ztx, .inl (cy 0, 120, .inl tx)), (znw, .inl (cy 0, 164, .inl nw)), (ztr, .inl (cy 0, 164, .inl tr)), (zdi, .inl (cy 0, 2296, .inl di)), (zkp, .inl (cy 0, 328, .inl kp)), (zik, .inl (cy 1, 2, .inl ik))]) (QWi g (wA [(h0, .inr (6, [.int rf, .ref ztx, .int sz, .ref znw, .ref ztr, .ref zdi, .int ac, .ref zkp, .ref zik, .int sp, .int ou])), (ztx, .inl (cy 0, 120, .inl tx)), (znw, .inl (cy 0, 164, .inl nw)), (ztr, .inl (cy 0, 164, .inl tr)), (zdi, .inl (cy 0, 2296, .inl di)), (zkp, .inl (cy 0, 328, .inl kp)), (zik, .inl (cy 1, 2, .inl ik))]) res.1 [(h0, .inr (6, [.int res.2.1, .ref ztx, .int sz, .ref znw, .ref ztr, .ref zdi, .int ac, .ref zkp, .ref zik, .int sp, .int ou])), (ztx, .inl (cy 0, 120, .inl tx)), (znw, .inl (cy 0, 164, .inl nw)), (ztr, .inl (cy 0, 164, .inl res.2.2)), (zdi, .inl (cy 0, 2296, .inl di)), (zkp, .inl (cy 0, 328, .inl kp)), (zik, .inl (cy 1, 2, .inl ik))]) 0 0 (wA [(h0, .inr (6, [.int rf, .ref ztx, .int sz, .ref znw, .ref ztr, .ref zdi, .int ac, .ref zkp, .ref zik, .int sp, .int ou])), (ztx, .inl (cy 0, 120, .inl tx)), (znw, .inl (cy 0, 164, .inl nw)), (ztr, .inl (cy 0, 164, .inl tr)), (zdi, .inl (cy 0, 2296, .inl di)), (zkp, .inl (cy 0, 328, .inl kp)), (zik, .inl (cy 1, 2, .inl ik))]) := by
  refine m_ofV (cc := cX8_simulate) (nL := 7) (ret := (some .int)) (B := (wA [(h0, .inr (6, [.int rf, .ref ztx, .int sz, .ref znw, .ref ztr, .ref zdi, .int ac, .ref zkp, .ref zik, .int sp, .int ou])), (ztx, .inl (cy 0, 120, .inl tx)), (znw, .inl (cy 0, 164, .inl nw)), (ztr, .inl (cy 0, 164, .inl tr)), (zdi, .inl (cy 0, 2296, .inl di)), (zkp, .inl (cy 0, 328, .inl kp)), (zik, .inl (cy 1, 2, .inl ik))])) RX8 rfl (by decide) rfl [(0, .ref h0), (1, .long x1), (3, .int x3)] rfl (Nat.le_of_ble_eq_true rfl) (wA.self) ?_
  intro p e s m args below meth c hC hr
  generalize (wA [(h0, .inr (6, [.int rf, .ref ztx, .int sz, .ref znw, .ref ztr, .ref zdi, .int ac, .ref zkp, .ref zik, .int sp, .int ou])), (ztx, .inl (cy 0, 120, .inl tx)), (znw, .inl (cy 0, 164, .inl nw)), (ztr, .inl (cy 0, 164, .inl tr)), (zdi, .inl (cy 0, 2296, .inl di)), (zkp, .inl (cy 0, 328, .inl kp)), (zik, .inl (cy 1, 2, .inl ik))]) = A
  unfold pX8_simulate at h
  refine v_aload_n hC dX8_simulate_0 rfl 0 rfl rfl ?_
  refine v_iload_n hC dX8_simulate_1 rfl 2 rfl rfl ?_
  refine v_i2l hC dX8_simulate_2 rfl ?_
  refine v_lconst hC (v := 1) dX8_simulate_3 rfl rfl ?_
  refine v_ldc2 hC (v := 60) dX8_simulate_4 kX8_simulate_225 rfl ?_
  obtain ⟨v1, hv1, h⟩ := bind_g h
  refine v_callSri hC (n := 3) (st := [.ref h0]) (mX8_in l g cy x3.toInt64 1 60 hv1) gX8_simulate_X8_in rfl rfl rfl (by decide +kernel) ⟨Nat.le_of_ble_eq_true rfl, Nat.le_of_ble_eq_true rfl⟩ [] rfl rfl rfl rfl (Nat.le_of_ble_eq_true rfl) rfl ⟨Nat.zero_le _, Nat.zero_le _⟩ dX8_simulate_7 rfl ?_
  refine v_if_eq hC (tgt := 17) dX8_simulate_10 (by decide) rfl (fun c => ?_) (fun c => ?_)
  · have h := ite_t c h
    refine v_iconst hC (v := (nI 1)) dX8_simulate_17 (by decide) rfl ?_
    exact bX8_simulate_18 hC hr _ _ _ _ _ _ _ _ _ _ _ _ _ _ h
  · have h := ite_f c h
    refine v_iconst hC (v := (nI 0)) dX8_simulate_13 (by decide) rfl ?_
    refine v_goto hC (tgt := 18) dX8_simulate_14 (by decide) ?_
    exact bX8_simulate_18 hC hr _ _ _ _ _ _ _ _ _ _ _ _ _ _ h
theorem kX8_save_13 : Cond.fieldLink RX8 13 "CrowdFacesModel" "now" "[I" ∈ wsX8_save := by decide +kernel
theorem kX8_save_22 : Cond.fieldLink RX8 22 "CrowdFacesModel" "kept" "[I" ∈ wsX8_save := by decide +kernel
theorem kX8_save_25 : Cond.fieldLink RX8 25 "CrowdFacesModel" "isKept" "[Z" ∈ wsX8_save := by decide +kernel
theorem iX8_save_X8 : ∀ w ∈ wsX80, w ∈ wsX8_save := by decide +kernel
def pX8_save_16 (rf : Int32) (nw : Nat → Int32) (kp : Nat → Int32) (ik : Nat → Int32) (y1 : Int32) (s0 : Int32) : Option (Int32 × Int32 × (Nat → Int32) × (Nat → Int32)) := (pX8_refused rf s0).bind fun v1 => if v1.1 = 0 then (pX8_copyState 164 nw 328 kp (nI 0) ((nI 164) * y1)).bind fun v2 => if nb y1 2 = true then (pX8_shots nw).bind fun v3 => some (v3, v1.2, v2, (upd ik y1.toNatClampNeg (vp_nar .boolean (nI 1)))) else none else some ((nI 0), v1.2, kp, ik)
def pX8_save (rf : Int32) (nw : Nat → Int32) (kp : Nat → Int32) (ik : Nat → Int32) (x1 : Int32) : Option (Int32 × Int32 × (Nat → Int32) × (Nat → Int32)) := (pX8_in x1.toInt64 0 1).bind fun v1 => if v1 = 0 then pX8_save_16 rf nw kp ik x1 (nI 1) else pX8_save_16 rf nw kp ik x1 (nI 0)
abbrev rmX8_save : Room := { frames := 2, cells := 0, slots := 0, locals := 44 }
set_option maxHeartbeats 4000000 in
set_option maxRecDepth 100000 in
theorem bX8_save_16 {p : Program} {l : Launch} {e : Env} {s : State} {m : MethodId} {args : Array Value} {below : List Frame} {meth : Method} {c : Code} {g : va_G} {cy : Nat → ClassId} (hC : CX p s m args meth c g cy 2 cX8_save wsX8_save RX8) (hr : meth.sig.returnType = (some .int)) {h0 ztx znw ztr zdi zkp zik : Nat} {A : Nat → Prop} {res : Int32 × Int32 × (Nat → Int32) × (Nat → Int32)} : ∀ (rf : Int32) (sz : Int32) (ac : Int32) (sp : Int32) (ou : Int32) (tx : Nat → Int32) (nw : Nat → Int32) (tr : Nat → Int32) (di : Nat → Int32) (kp : Nat → Int32) (ik : Nat → Int32) (y1 : Int32) (s0 : Int32)(h : pX8_save_16 rf nw kp ik y1 s0 = some res), V p l e (headSpec wsX8_save rmX8_save).room s m args below meth c g 2 0 0 (MQ below (QWi g A res.1 [(h0, .inr (6, [.int res.2.1, .ref ztx, .int sz, .ref znw, .ref ztr, .ref zdi, .int ac, .ref zkp, .ref zik, .int sp, .int ou])), (ztx, .inl (cy 0, 120, .inl tx)), (znw, .inl (cy 0, 164, .inl nw)), (ztr, .inl (cy 0, 164, .inl tr)), (zdi, .inl (cy 0, 2296, .inl di)), (zkp, .inl (cy 0, 328, .inl res.2.2.1)), (zik, .inl (cy 1, 2, .inl res.2.2.2))]) args s 0 0 A) A A [(h0, .inr (6, [.int rf, .ref ztx, .int sz, .ref znw, .ref ztr, .ref zdi, .int ac, .ref zkp, .ref zik, .int sp, .int ou])), (ztx, .inl (cy 0, 120, .inl tx)), (znw, .inl (cy 0, 164, .inl nw)), (ztr, .inl (cy 0, 164, .inl tr)), (zdi, .inl (cy 0, 2296, .inl di)), (zkp, .inl (cy 0, 328, .inl kp)), (zik, .inl (cy 1, 2, .inl ik))] 16 [(0, .ref h0), (1, .int y1)] [.int s0, .ref h0] := by
  intro rf sz ac sp ou tx nw tr di kp ik y1 s0 h
  unfold pX8_save_16 at h
  obtain ⟨v1, hv1, h⟩ := bind_g h
  refine v_callVwi hC (n := 1) (st := []) [(h0, .inr (6, [.int v1.2, .ref ztx, .int sz, .ref znw, .ref ztr, .ref zdi, .int ac, .ref zkp, .ref zik, .int sp, .int ou])), (ztx, .inl (cy 0, 120, .inl tx)), (znw, .inl (cy 0, 164, .inl nw)), (ztr, .inl (cy 0, 164, .inl tr)), (zdi, .inl (cy 0, 2296, .inl di)), (zkp, .inl (cy 0, 328, .inl kp)), (zik, .inl (cy 1, 2, .inl ik))] _ (mX8_refused l g cy h0 ztx znw ztr zdi zkp zik rf sz ac sp ou tx nw tr di kp ik s0 hv1) gX8_save_X8_refused rfl rfl rfl (by decide +kernel) ⟨Nat.le_of_ble_eq_true rfl, Nat.le_of_ble_eq_true rfl⟩ 0 rfl rfl [0, 1, 2, 3, 4, 5, 6] [] rfl rfl rfl rfl rfl rfl rfl rfl rfl (Nat.le_of_ble_eq_true rfl) rfl ⟨Nat.zero_le _, Nat.zero_le _⟩ dX8_save_16 rfl ?_
  refine v_if_eq hC (tgt := 24) dX8_save_19 (by decide) rfl (fun c => ?_) (fun c => ?_)
  · have h := ite_t c h
    refine v_aload_n hC dX8_save_24 rfl 0 rfl rfl ?_
    refine v_get hC iX8_save_X8 0 rfl rfl 3 (by decide) kX8_save_13 rfl rfl dX8_save_25 rfl ?_
    refine v_iconst hC (v := (nI 0)) dX8_save_28 (by decide) rfl ?_
    refine v_aload_n hC dX8_save_29 rfl 0 rfl rfl ?_
    refine v_get hC iX8_save_X8 0 rfl rfl 7 (by decide) kX8_save_22 rfl rfl dX8_save_30 rfl ?_
    refine v_sipush hC (v := (nI 164)) dX8_save_33 (by decide) rfl ?_
    refine v_iload_n hC dX8_save_36 rfl 1 rfl rfl ?_
    refine v_imul hC dX8_save_37 rfl ?_
    obtain ⟨v2, hv2, h⟩ := bind_g h
    refine v_callSwv hC (n := 4) (st := []) [(h0, .inr (6, [.int v1.2, .ref ztx, .int sz, .ref znw, .ref ztr, .ref zdi, .int ac, .ref zkp, .ref zik, .int sp, .int ou])), (ztx, .inl (cy 0, 120, .inl tx)), (znw, .inl (cy 0, 164, .inl nw)), (ztr, .inl (cy 0, 164, .inl tr)), (zdi, .inl (cy 0, 2296, .inl di)), (zkp, .inl (cy 0, 328, .inl v2)), (zik, .inl (cy 1, 2, .inl ik))] _ (mX8_copyState l g cy znw zkp 164 nw 328 kp (nI 0) ((nI 164) * y1) hv2) gX8_save_X8_copyState rfl rfl rfl (by decide +kernel) ⟨Nat.le_of_ble_eq_true rfl, Nat.le_of_ble_eq_true rfl⟩ [2, 5] [0, 1, 3, 4, 6] rfl rfl rfl rfl rfl rfl rfl rfl rfl (Nat.le_of_ble_eq_true rfl) rfl ⟨Nat.zero_le _, Nat.zero_le _⟩ dX8_save_38 rfl ?_
    refine v_aload_n hC dX8_save_41 rfl 0 rfl rfl ?_
    refine v_get hC iX8_save_X8 0 rfl rfl 8 (by decide) kX8_save_25 rfl rfl dX8_save_42 rfl ?_
    refine v_iload_n hC dX8_save_45 rfl 1 rfl rfl ?_
    refine v_iconst hC (v := (nI 1)) dX8_save_46 (by decide) rfl ?_
    obtain ⟨hn, h⟩ := ite_g h
    refine v_zast hC 6 rfl hn dX8_save_47 [(h0, .inr (6, [.int v1.2, .ref ztx, .int sz, .ref znw, .ref ztr, .ref zdi, .int ac, .ref zkp, .ref zik, .int sp, .int ou])), (ztx, .inl (cy 0, 120, .inl tx)), (znw, .inl (cy 0, 164, .inl nw)), (ztr, .inl (cy 0, 164, .inl tr)), (zdi, .inl (cy 0, 2296, .inl di)), (zkp, .inl (cy 0, 328, .inl v2)), (zik, .inl (cy 1, 2, .inl (upd ik y1.toNatClampNeg (vp_nar .boolean (nI 1)))))] rfl rfl ?_
    refine v_aload_n hC dX8_save_48 rfl 0 rfl rfl ?_
    refine v_get hC iX8_save_X8 0 rfl rfl 3 (by decide) kX8_save_13 rfl rfl dX8_save_49 rfl ?_
    obtain ⟨v3, hv3, h⟩ := bind_g h
    refine v_callSri hC (n := 1) (st := []) (mX8_shots l g cy znw nw hv3) gX8_save_X8_shots rfl rfl rfl (by decide +kernel) ⟨Nat.le_of_ble_eq_true rfl, Nat.le_of_ble_eq_true rfl⟩ [2] rfl rfl rfl rfl (Nat.le_of_ble_eq_true rfl) rfl ⟨Nat.zero_le _, Nat.zero_le _⟩ dX8_save_52 rfl ?_
    obtain rfl := Option.some.inj h
    exact v_irw hC hr rfl rfl dX8_save_55
  · have h := ite_f c h
    refine v_iconst hC (v := (nI 0)) dX8_save_22 (by decide) rfl ?_
    obtain rfl := Option.some.inj h
    exact v_irw hC hr rfl rfl dX8_save_23
set_option maxHeartbeats 4000000 in
set_option maxRecDepth 100000 in
theorem mX8_save (l : Launch) (g : va_G) (cy : Nat → ClassId) (h0 ztx znw ztr zdi zkp zik : Nat) (rf : Int32) (sz : Int32) (ac : Int32) (sp : Int32) (ou : Int32) (tx : Nat → Int32) (nw : Nat → Int32) (tr : Nat → Int32) (di : Nat → Int32) (kp : Nat → Int32) (ik : Nat → Int32) (x1 : Int32) {res : Int32 × Int32 × (Nat → Int32) × (Nat → Int32)} (h : pX8_save rf nw kp ik x1 = some res) : Met l yX8_save wsX8_save rmX8_save (PW [.ref h0, .int x1] g cy [(h0, .inr (6, [.int rf, .ref ztx, .int sz, .ref znw, .ref ztr, .ref zdi, .int ac, .ref zkp, .ref zik, .int sp, .int ou])), (ztx, .inl (cy 0, 120, .inl tx)), (znw, .inl (cy 0, 164, .inl nw)), (ztr, .inl (cy 0, 164, .inl tr)), (zdi, .inl (cy 0, 2296, .inl di)), (zkp, .inl (cy 0, 328, .inl kp)), (zik, .inl (cy 1, 2, .inl ik))]) (QWi g (wA [(h0, .inr (6, [.int rf, .ref ztx, .int sz, .ref znw, .ref ztr, .ref zdi, .int ac, .ref zkp, .ref zik, .int sp, .int ou])), (ztx, .inl (cy 0, 120, .inl tx)), (znw, .inl (cy 0, 164, .inl nw)), (ztr, .inl (cy 0, 164, .inl tr)), (zdi, .inl (cy 0, 2296, .inl di)), (zkp, .inl (cy 0, 328, .inl kp)), (zik, .inl (cy 1, 2, .inl ik))]) res.1 [(h0, .inr (6, [.int res.2.1, .ref ztx, .int sz, .ref znw, .ref ztr, .ref zdi, .int ac, .ref zkp, .ref zik, .int sp, .int ou])), (ztx, .inl (cy 0, 120, .inl tx)), (znw, .inl (cy 0, 164, .inl nw)), (ztr, .inl (cy 0, 164, .inl tr)), (zdi, .inl (cy 0, 2296, .inl di)), (zkp, .inl (cy 0, 328, .inl res.2.2.1)), (zik, .inl (cy 1, 2, .inl res.2.2.2))]) 0 0 (wA [(h0, .inr (6, [.int rf, .ref ztx, .int sz, .ref znw, .ref ztr, .ref zdi, .int ac, .ref zkp, .ref zik, .int sp, .int ou])), (ztx, .inl (cy 0, 120, .inl tx)), (znw, .inl (cy 0, 164, .inl nw)), (ztr, .inl (cy 0, 164, .inl tr)), (zdi, .inl (cy 0, 2296, .inl di)), (zkp, .inl (cy 0, 328, .inl kp)), (zik, .inl (cy 1, 2, .inl ik))]) := by
  refine m_ofV (cc := cX8_save) (nL := 2) (ret := (some .int)) (B := (wA [(h0, .inr (6, [.int rf, .ref ztx, .int sz, .ref znw, .ref ztr, .ref zdi, .int ac, .ref zkp, .ref zik, .int sp, .int ou])), (ztx, .inl (cy 0, 120, .inl tx)), (znw, .inl (cy 0, 164, .inl nw)), (ztr, .inl (cy 0, 164, .inl tr)), (zdi, .inl (cy 0, 2296, .inl di)), (zkp, .inl (cy 0, 328, .inl kp)), (zik, .inl (cy 1, 2, .inl ik))])) RX8 rfl (by decide) rfl [(0, .ref h0), (1, .int x1)] rfl (Nat.le_of_ble_eq_true rfl) (wA.self) ?_
  intro p e s m args below meth c hC hr
  generalize (wA [(h0, .inr (6, [.int rf, .ref ztx, .int sz, .ref znw, .ref ztr, .ref zdi, .int ac, .ref zkp, .ref zik, .int sp, .int ou])), (ztx, .inl (cy 0, 120, .inl tx)), (znw, .inl (cy 0, 164, .inl nw)), (ztr, .inl (cy 0, 164, .inl tr)), (zdi, .inl (cy 0, 2296, .inl di)), (zkp, .inl (cy 0, 328, .inl kp)), (zik, .inl (cy 1, 2, .inl ik))]) = A
  unfold pX8_save at h
  refine v_aload_n hC dX8_save_0 rfl 0 rfl rfl ?_
  refine v_iload_n hC dX8_save_1 rfl 1 rfl rfl ?_
  refine v_i2l hC dX8_save_2 rfl ?_
  refine v_lconst hC (v := 0) dX8_save_3 rfl rfl ?_
  refine v_lconst hC (v := 1) dX8_save_4 rfl rfl ?_
  obtain ⟨v1, hv1, h⟩ := bind_g h
  refine v_callSri hC (n := 3) (st := [.ref h0]) (mX8_in l g cy x1.toInt64 0 1 hv1) gX8_save_X8_in rfl rfl rfl (by decide +kernel) ⟨Nat.le_of_ble_eq_true rfl, Nat.le_of_ble_eq_true rfl⟩ [] rfl rfl rfl rfl (Nat.le_of_ble_eq_true rfl) rfl ⟨Nat.zero_le _, Nat.zero_le _⟩ dX8_save_5 rfl ?_
  refine v_if_eq hC (tgt := 15) dX8_save_8 (by decide) rfl (fun c => ?_) (fun c => ?_)
  · have h := ite_t c h
    refine v_iconst hC (v := (nI 1)) dX8_save_15 (by decide) rfl ?_
    exact bX8_save_16 hC hr _ _ _ _ _ _ _ _ _ _ _ _ _ h
  · have h := ite_f c h
    refine v_iconst hC (v := (nI 0)) dX8_save_11 (by decide) rfl ?_
    refine v_goto hC (tgt := 16) dX8_save_12 (by decide) ?_
    exact bX8_save_16 hC hr _ _ _ _ _ _ _ _ _ _ _ _ _ h
theorem kX8_restore_13 : Cond.fieldLink RX8 13 "CrowdFacesModel" "now" "[I" ∈ wsX8_restore := by decide +kernel
theorem kX8_restore_173 : Cond.fieldLink RX8 173 "CrowdFacesModel" "acts" "I" ∈ wsX8_restore := by decide +kernel
theorem kX8_restore_22 : Cond.fieldLink RX8 22 "CrowdFacesModel" "kept" "[I" ∈ wsX8_restore := by decide +kernel
theorem kX8_restore_25 : Cond.fieldLink RX8 25 "CrowdFacesModel" "isKept" "[Z" ∈ wsX8_restore := by decide +kernel
theorem iX8_restore_X8 : ∀ w ∈ wsX80, w ∈ wsX8_restore := by decide +kernel
def pX8_restore_29 (rf : Int32) (ac : Int32) (nw : Nat → Int32) (kp : Nat → Int32) (ik : Nat → Int32) (y1 : Int32) (s0 : Int32) : Option (Int32 × Int32 × Int32 × (Nat → Int32)) := (pX8_refused rf s0).bind fun v1 => if v1.1 = 0 then (pX8_copyState 328 kp 164 nw ((nI 164) * y1) (nI 0)).bind fun v2 => (pX8_shots v2).bind fun v3 => some (v3, v1.2, (nI 0), v2) else some ((nI 0), v1.2, ac, nw)
def pX8_restore (rf : Int32) (ac : Int32) (nw : Nat → Int32) (kp : Nat → Int32) (ik : Nat → Int32) (x1 : Int32) : Option (Int32 × Int32 × Int32 × (Nat → Int32)) := (pX8_in x1.toInt64 0 1).bind fun v1 => if v1 = 0 then pX8_restore_29 rf ac nw kp ik x1 (nI 1) else if nb x1 2 = true then if (ik x1.toNatClampNeg) = 0 then pX8_restore_29 rf ac nw kp ik x1 (nI 2) else pX8_restore_29 rf ac nw kp ik x1 (nI 0) else none
abbrev rmX8_restore : Room := { frames := 2, cells := 0, slots := 0, locals := 44 }
set_option maxHeartbeats 4000000 in
set_option maxRecDepth 100000 in
theorem bX8_restore_29 {p : Program} {l : Launch} {e : Env} {s : State} {m : MethodId} {args : Array Value} {below : List Frame} {meth : Method} {c : Code} {g : va_G} {cy : Nat → ClassId} (hC : CX p s m args meth c g cy 2 cX8_restore wsX8_restore RX8) (hr : meth.sig.returnType = (some .int)) {h0 ztx znw ztr zdi zkp zik : Nat} {A : Nat → Prop} {res : Int32 × Int32 × Int32 × (Nat → Int32)} : ∀ (rf : Int32) (sz : Int32) (ac : Int32) (sp : Int32) (ou : Int32) (tx : Nat → Int32) (nw : Nat → Int32) (tr : Nat → Int32) (di : Nat → Int32) (kp : Nat → Int32) (ik : Nat → Int32) (y1 : Int32) (s0 : Int32)(h : pX8_restore_29 rf ac nw kp ik y1 s0 = some res), V p l e (headSpec wsX8_restore rmX8_restore).room s m args below meth c g 2 0 0 (MQ below (QWi g A res.1 [(h0, .inr (6, [.int res.2.1, .ref ztx, .int sz, .ref znw, .ref ztr, .ref zdi, .int res.2.2.1, .ref zkp, .ref zik, .int sp, .int ou])), (ztx, .inl (cy 0, 120, .inl tx)), (znw, .inl (cy 0, 164, .inl res.2.2.2)), (ztr, .inl (cy 0, 164, .inl tr)), (zdi, .inl (cy 0, 2296, .inl di)), (zkp, .inl (cy 0, 328, .inl kp)), (zik, .inl (cy 1, 2, .inl ik))]) args s 0 0 A) A A [(h0, .inr (6, [.int rf, .ref ztx, .int sz, .ref znw, .ref ztr, .ref zdi, .int ac, .ref zkp, .ref zik, .int sp, .int ou])), (ztx, .inl (cy 0, 120, .inl tx)), (znw, .inl (cy 0, 164, .inl nw)), (ztr, .inl (cy 0, 164, .inl tr)), (zdi, .inl (cy 0, 2296, .inl di)), (zkp, .inl (cy 0, 328, .inl kp)), (zik, .inl (cy 1, 2, .inl ik))] 29 [(0, .ref h0), (1, .int y1)] [.int s0, .ref h0] := by
  intro rf sz ac sp ou tx nw tr di kp ik y1 s0 h
  unfold pX8_restore_29 at h
  obtain ⟨v1, hv1, h⟩ := bind_g h
  refine v_callVwi hC (n := 1) (st := []) [(h0, .inr (6, [.int v1.2, .ref ztx, .int sz, .ref znw, .ref ztr, .ref zdi, .int ac, .ref zkp, .ref zik, .int sp, .int ou])), (ztx, .inl (cy 0, 120, .inl tx)), (znw, .inl (cy 0, 164, .inl nw)), (ztr, .inl (cy 0, 164, .inl tr)), (zdi, .inl (cy 0, 2296, .inl di)), (zkp, .inl (cy 0, 328, .inl kp)), (zik, .inl (cy 1, 2, .inl ik))] _ (mX8_refused l g cy h0 ztx znw ztr zdi zkp zik rf sz ac sp ou tx nw tr di kp ik s0 hv1) gX8_restore_X8_refused rfl rfl rfl (by decide +kernel) ⟨Nat.le_of_ble_eq_true rfl, Nat.le_of_ble_eq_true rfl⟩ 0 rfl rfl [0, 1, 2, 3, 4, 5, 6] [] rfl rfl rfl rfl rfl rfl rfl rfl rfl (Nat.le_of_ble_eq_true rfl) rfl ⟨Nat.zero_le _, Nat.zero_le _⟩ dX8_restore_29 rfl ?_
  refine v_if_eq hC (tgt := 37) dX8_restore_32 (by decide) rfl (fun c => ?_) (fun c => ?_)
  · have h := ite_t c h
    refine v_aload_n hC dX8_restore_37 rfl 0 rfl rfl ?_
    refine v_get hC iX8_restore_X8 0 rfl rfl 7 (by decide) kX8_restore_22 rfl rfl dX8_restore_38 rfl ?_
    refine v_sipush hC (v := (nI 164)) dX8_restore_41 (by decide) rfl ?_
    refine v_iload_n hC dX8_restore_44 rfl 1 rfl rfl ?_
    refine v_imul hC dX8_restore_45 rfl ?_
    refine v_aload_n hC dX8_restore_46 rfl 0 rfl rfl ?_
    refine v_get hC iX8_restore_X8 0 rfl rfl 3 (by decide) kX8_restore_13 rfl rfl dX8_restore_47 rfl ?_
    refine v_iconst hC (v := (nI 0)) dX8_restore_50 (by decide) rfl ?_
    obtain ⟨v2, hv2, h⟩ := bind_g h
    refine v_callSwv hC (n := 4) (st := []) [(h0, .inr (6, [.int v1.2, .ref ztx, .int sz, .ref znw, .ref ztr, .ref zdi, .int ac, .ref zkp, .ref zik, .int sp, .int ou])), (ztx, .inl (cy 0, 120, .inl tx)), (znw, .inl (cy 0, 164, .inl v2)), (ztr, .inl (cy 0, 164, .inl tr)), (zdi, .inl (cy 0, 2296, .inl di)), (zkp, .inl (cy 0, 328, .inl kp)), (zik, .inl (cy 1, 2, .inl ik))] _ (mX8_copyState l g cy zkp znw 328 kp 164 nw ((nI 164) * y1) (nI 0) hv2) gX8_restore_X8_copyState rfl rfl rfl (by decide +kernel) ⟨Nat.le_of_ble_eq_true rfl, Nat.le_of_ble_eq_true rfl⟩ [5, 2] [0, 1, 3, 4, 6] rfl rfl rfl rfl rfl rfl rfl rfl rfl (Nat.le_of_ble_eq_true rfl) rfl ⟨Nat.zero_le _, Nat.zero_le _⟩ dX8_restore_51 rfl ?_
    refine v_aload_n hC dX8_restore_54 rfl 0 rfl rfl ?_
    refine v_iconst hC (v := (nI 0)) dX8_restore_55 (by decide) rfl ?_
    refine v_put hC iX8_restore_X8 tyX8 tyX8_ok nmX8 0 rfl rfl 6 (by decide) kX8_restore_173 rfl rfl (ty := .int) (by decide +kernel) rfl rfl (Nat.le_of_ble_eq_true rfl) dX8_restore_56 [(h0, .inr (6, [.int v1.2, .ref ztx, .int sz, .ref znw, .ref ztr, .ref zdi, .int (nI 0), .ref zkp, .ref zik, .int sp, .int ou])), (ztx, .inl (cy 0, 120, .inl tx)), (znw, .inl (cy 0, 164, .inl v2)), (ztr, .inl (cy 0, 164, .inl tr)), (zdi, .inl (cy 0, 2296, .inl di)), (zkp, .inl (cy 0, 328, .inl kp)), (zik, .inl (cy 1, 2, .inl ik))] rfl rfl ?_
    refine v_aload_n hC dX8_restore_59 rfl 0 rfl rfl ?_
    refine v_get hC iX8_restore_X8 0 rfl rfl 3 (by decide) kX8_restore_13 rfl rfl dX8_restore_60 rfl ?_
    obtain ⟨v3, hv3, h⟩ := bind_g h
    refine v_callSri hC (n := 1) (st := []) (mX8_shots l g cy znw v2 hv3) gX8_restore_X8_shots rfl rfl rfl (by decide +kernel) ⟨Nat.le_of_ble_eq_true rfl, Nat.le_of_ble_eq_true rfl⟩ [2] rfl rfl rfl rfl (Nat.le_of_ble_eq_true rfl) rfl ⟨Nat.zero_le _, Nat.zero_le _⟩ dX8_restore_63 rfl ?_
    obtain rfl := Option.some.inj h
    exact v_irw hC hr rfl rfl dX8_restore_66
  · have h := ite_f c h
    refine v_iconst hC (v := (nI 0)) dX8_restore_35 (by decide) rfl ?_
    obtain rfl := Option.some.inj h
    exact v_irw hC hr rfl rfl dX8_restore_36
set_option maxHeartbeats 4000000 in
set_option maxRecDepth 100000 in
theorem mX8_restore (l : Launch) (g : va_G) (cy : Nat → ClassId) (h0 ztx znw ztr zdi zkp zik : Nat) (rf : Int32) (sz : Int32) (ac : Int32) (sp : Int32) (ou : Int32) (tx : Nat → Int32) (nw : Nat → Int32) (tr : Nat → Int32) (di : Nat → Int32) (kp : Nat → Int32) (ik : Nat → Int32) (x1 : Int32) {res : Int32 × Int32 × Int32 × (Nat → Int32)} (h : pX8_restore rf ac nw kp ik x1 = some res) : Met l yX8_restore wsX8_restore rmX8_restore (PW [.ref h0, .int x1] g cy [(h0, .inr (6, [.int rf, .ref ztx, .int sz, .ref znw, .ref ztr, .ref zdi, .int ac, .ref zkp, .ref zik, .int sp, .int ou])), (ztx, .inl (cy 0, 120, .inl tx)), (znw, .inl (cy 0, 164, .inl nw)), (ztr, .inl (cy 0, 164, .inl tr)), (zdi, .inl (cy 0, 2296, .inl di)), (zkp, .inl (cy 0, 328, .inl kp)), (zik, .inl (cy 1, 2, .inl ik))]) (QWi g (wA [(h0, .inr (6, [.int rf, .ref ztx, .int sz, .ref znw, .ref ztr, .ref zdi, .int ac, .ref zkp, .ref zik, .int sp, .int ou])), (ztx, .inl (cy 0, 120, .inl tx)), (znw, .inl (cy 0, 164, .inl nw)), (ztr, .inl (cy 0, 164, .inl tr)), (zdi, .inl (cy 0, 2296, .inl di)), (zkp, .inl (cy 0, 328, .inl kp)), (zik, .inl (cy 1, 2, .inl ik))]) res.1 [(h0, .inr (6, [.int res.2.1, .ref ztx, .int sz, .ref znw, .ref ztr, .ref zdi, .int res.2.2.1, .ref zkp, .ref zik, .int sp, .int ou])), (ztx, .inl (cy 0, 120, .inl tx)), (znw, .inl (cy 0, 164, .inl res.2.2.2)), (ztr, .inl (cy 0, 164, .inl tr)), (zdi, .inl (cy 0, 2296, .inl di)), (zkp, .inl (cy 0, 328, .inl kp)), (zik, .inl (cy 1, 2, .inl ik))]) 0 0 (wA [(h0, .inr (6, [.int rf, .ref ztx, .int sz, .ref znw, .ref ztr, .ref zdi, .int ac, .ref zkp, .ref zik, .int sp, .int ou])), (ztx, .inl (cy 0, 120, .inl tx)), (znw, .inl (cy 0, 164, .inl nw)), (ztr, .inl (cy 0, 164, .inl tr)), (zdi, .inl (cy 0, 2296, .inl di)), (zkp, .inl (cy 0, 328, .inl kp)), (zik, .inl (cy 1, 2, .inl ik))]) := by
  refine m_ofV (cc := cX8_restore) (nL := 2) (ret := (some .int)) (B := (wA [(h0, .inr (6, [.int rf, .ref ztx, .int sz, .ref znw, .ref ztr, .ref zdi, .int ac, .ref zkp, .ref zik, .int sp, .int ou])), (ztx, .inl (cy 0, 120, .inl tx)), (znw, .inl (cy 0, 164, .inl nw)), (ztr, .inl (cy 0, 164, .inl tr)), (zdi, .inl (cy 0, 2296, .inl di)), (zkp, .inl (cy 0, 328, .inl kp)), (zik, .inl (cy 1, 2, .inl ik))])) RX8 rfl (by decide) rfl [(0, .ref h0), (1, .int x1)] rfl (Nat.le_of_ble_eq_true rfl) (wA.self) ?_
  intro p e s m args below meth c hC hr
  generalize (wA [(h0, .inr (6, [.int rf, .ref ztx, .int sz, .ref znw, .ref ztr, .ref zdi, .int ac, .ref zkp, .ref zik, .int sp, .int ou])), (ztx, .inl (cy 0, 120, .inl tx)), (znw, .inl (cy 0, 164, .inl nw)), (ztr, .inl (cy 0, 164, .inl tr)), (zdi, .inl (cy 0, 2296, .inl di)), (zkp, .inl (cy 0, 328, .inl kp)), (zik, .inl (cy 1, 2, .inl ik))]) = A
  unfold pX8_restore at h
  refine v_aload_n hC dX8_restore_0 rfl 0 rfl rfl ?_
  refine v_iload_n hC dX8_restore_1 rfl 1 rfl rfl ?_
  refine v_i2l hC dX8_restore_2 rfl ?_
  refine v_lconst hC (v := 0) dX8_restore_3 rfl rfl ?_
  refine v_lconst hC (v := 1) dX8_restore_4 rfl rfl ?_
  obtain ⟨v1, hv1, h⟩ := bind_g h
  refine v_callSri hC (n := 3) (st := [.ref h0]) (mX8_in l g cy x1.toInt64 0 1 hv1) gX8_restore_X8_in rfl rfl rfl (by decide +kernel) ⟨Nat.le_of_ble_eq_true rfl, Nat.le_of_ble_eq_true rfl⟩ [] rfl rfl rfl rfl (Nat.le_of_ble_eq_true rfl) rfl ⟨Nat.zero_le _, Nat.zero_le _⟩ dX8_restore_5 rfl ?_
  refine v_if_ne hC (tgt := 15) dX8_restore_8 (by decide) rfl (fun c => ?_) (fun c => ?_)
  · have h := ite_f c h
    refine v_aload_n hC dX8_restore_15 rfl 0 rfl rfl ?_
    refine v_get hC iX8_restore_X8 0 rfl rfl 8 (by decide) kX8_restore_25 rfl rfl dX8_restore_16 rfl ?_
    refine v_iload_n hC dX8_restore_19 rfl 1 rfl rfl ?_
    obtain ⟨hn, h⟩ := ite_g h
    refine v_zald hC 6 rfl hn dX8_restore_20 rfl ?_
    refine v_if_ne hC (tgt := 28) dX8_restore_21 (by decide) rfl (fun c => ?_) (fun c => ?_)
    · have h := ite_f c h
      refine v_iconst hC (v := (nI 0)) dX8_restore_28 (by decide) rfl ?_
      exact bX8_restore_29 hC hr _ _ _ _ _ _ _ _ _ _ _ _ _ h
    · have h := ite_t c h
      refine v_iconst hC (v := (nI 2)) dX8_restore_24 (by decide) rfl ?_
      refine v_goto hC (tgt := 29) dX8_restore_25 (by decide) ?_
      exact bX8_restore_29 hC hr _ _ _ _ _ _ _ _ _ _ _ _ _ h
  · have h := ite_t c h
    refine v_iconst hC (v := (nI 1)) dX8_restore_11 (by decide) rfl ?_
    refine v_goto hC (tgt := 29) dX8_restore_12 (by decide) ?_
    exact bX8_restore_29 hC hr _ _ _ _ _ _ _ _ _ _ _ _ _ h

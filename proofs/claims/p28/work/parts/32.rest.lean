def pX2_changes (se : Nat → Int32) (x1 : Int32) (x2 : Int32) : Option (Int32 × (Nat → Int32)) := (pX7_isSetting x1 x2).bind fun v1 => if v1 = 0 then some ((nI 0), se) else (pX0_change se x1 x2).bind fun v2 => some ((nI 1), v2.2)
abbrev rmX2_changes : Room := { frames := 3, cells := 0, slots := 0, locals := 67 }
set_option maxHeartbeats 4000000 in
set_option maxRecDepth 100000 in
theorem mX2_changes (l : Launch) (g : va_G) (cy : Nat → ClassId) (h0 q1 a1 q2 a2 q3 a3 : Nat) (ec : Int32) (sn : Int32) (dy : Int32) (wg : Int32) (pe : Int32) (pn : Int32) (br : Int32) (ex : Nat → Int32) (sc : Nat → Int32) (se : Nat → Int32) (x1 : Int32) (x2 : Int32) {res : Int32 × (Nat → Int32)} (h : pX2_changes se x1 x2 = some res) : Met l yX2_changes wsX2_changes rmX2_changes (PW [.ref h0, .int x1, .int x2] g cy [(h0, .inr (0, [.ref q1, .ref q2, .ref q3, .int ec, .int sn, .int dy, .int wg, .int pe, .int pn, .int br])), (q1, .inr (3, [.int (nI 14), .ref a1])), (a1, .inl (cy 0, 84, .inl ex)), (q2, .inr (3, [.int (nI 10), .ref a2])), (a2, .inl (cy 0, 60, .inl sc)), (q3, .inr (3, [.int (nI 1), .ref a3])), (a3, .inl (cy 0, 3, .inl se))]) (QWi g (wA [(h0, .inr (0, [.ref q1, .ref q2, .ref q3, .int ec, .int sn, .int dy, .int wg, .int pe, .int pn, .int br])), (q1, .inr (3, [.int (nI 14), .ref a1])), (a1, .inl (cy 0, 84, .inl ex)), (q2, .inr (3, [.int (nI 10), .ref a2])), (a2, .inl (cy 0, 60, .inl sc)), (q3, .inr (3, [.int (nI 1), .ref a3])), (a3, .inl (cy 0, 3, .inl se))]) res.1 [(h0, .inr (0, [.ref q1, .ref q2, .ref q3, .int ec, .int sn, .int dy, .int wg, .int pe, .int pn, .int br])), (q1, .inr (3, [.int (nI 14), .ref a1])), (a1, .inl (cy 0, 84, .inl ex)), (q2, .inr (3, [.int (nI 10), .ref a2])), (a2, .inl (cy 0, 60, .inl sc)), (q3, .inr (3, [.int (nI 1), .ref a3])), (a3, .inl (cy 0, 3, .inl res.2))]) 0 0 (wA [(h0, .inr (0, [.ref q1, .ref q2, .ref q3, .int ec, .int sn, .int dy, .int wg, .int pe, .int pn, .int br])), (q1, .inr (3, [.int (nI 14), .ref a1])), (a1, .inl (cy 0, 84, .inl ex)), (q2, .inr (3, [.int (nI 10), .ref a2])), (a2, .inl (cy 0, 60, .inl sc)), (q3, .inr (3, [.int (nI 1), .ref a3])), (a3, .inl (cy 0, 3, .inl se))]) := by
  refine m_ofV (cc := cX2_changes) (nL := 3) (ret := (some .boolean)) (B := (wA [(h0, .inr (0, [.ref q1, .ref q2, .ref q3, .int ec, .int sn, .int dy, .int wg, .int pe, .int pn, .int br])), (q1, .inr (3, [.int (nI 14), .ref a1])), (a1, .inl (cy 0, 84, .inl ex)), (q2, .inr (3, [.int (nI 10), .ref a2])), (a2, .inl (cy 0, 60, .inl sc)), (q3, .inr (3, [.int (nI 1), .ref a3])), (a3, .inl (cy 0, 3, .inl se))])) RX2 rfl (by decide) rfl [(0, .ref h0), (1, .int x1), (2, .int x2)] rfl (Nat.le_of_ble_eq_true rfl) (wA.self) ?_
  intro p e s m args below meth c hC hr
  generalize (wA [(h0, .inr (0, [.ref q1, .ref q2, .ref q3, .int ec, .int sn, .int dy, .int wg, .int pe, .int pn, .int br])), (q1, .inr (3, [.int (nI 14), .ref a1])), (a1, .inl (cy 0, 84, .inl ex)), (q2, .inr (3, [.int (nI 10), .ref a2])), (a2, .inl (cy 0, 60, .inl sc)), (q3, .inr (3, [.int (nI 1), .ref a3])), (a3, .inl (cy 0, 3, .inl se))]) = A
  unfold pX2_changes at h
  refine v_iload_n hC dX2_changes_0 rfl 1 rfl rfl ?_
  refine v_iload_n hC dX2_changes_1 rfl 2 rfl rfl ?_
  obtain ⟨v1, hv1, h⟩ := bind_g h
  refine v_callNri hC (n := 2) (st := []) (mX7_isSetting l g cy x1 x2 hv1) gX2_changes_X7_isSetting_n42 2 rfl ⟨by decide +kernel, by decide +kernel⟩ rfl rfl rfl (by decide +kernel) ⟨Nat.le_of_ble_eq_true rfl, Nat.le_of_ble_eq_true rfl⟩ [] rfl rfl rfl rfl (Nat.le_of_ble_eq_true rfl) rfl ⟨Nat.zero_le _, Nat.zero_le _⟩ dX2_changes_2 rfl ?_
  refine v_if_ne hC (tgt := 10) dX2_changes_5 (by decide) rfl (fun c => ?_) (fun c => ?_)
  · have h := ite_f c h
    refine v_aload_n hC dX2_changes_10 rfl 0 rfl rfl ?_
    refine v_iload_n hC dX2_changes_11 rfl 1 rfl rfl ?_
    refine v_iload_n hC dX2_changes_12 rfl 2 rfl rfl ?_
    obtain ⟨v2, hv2, h⟩ := bind_g h
    refine v_callVwi hC (n := 2) (st := []) [(h0, .inr (0, [.ref q1, .ref q2, .ref q3, .int ec, .int sn, .int dy, .int wg, .int pe, .int pn, .int br])), (q1, .inr (3, [.int (nI 14), .ref a1])), (a1, .inl (cy 0, 84, .inl ex)), (q2, .inr (3, [.int (nI 10), .ref a2])), (a2, .inl (cy 0, 60, .inl sc)), (q3, .inr (3, [.int (nI 1), .ref a3])), (a3, .inl (cy 0, 3, .inl v2.2))] _ (mX0_change l g cy h0 q1 a1 q2 a2 q3 a3 ec sn dy wg pe pn br ex sc se x1 x2 hv2) gX2_changes_X0_change rfl rfl rfl (by decide +kernel) ⟨Nat.le_of_ble_eq_true rfl, Nat.le_of_ble_eq_true rfl⟩ 0 rfl rfl [0, 1, 2, 3, 4, 5, 6] [] rfl rfl rfl rfl rfl rfl rfl rfl rfl (Nat.le_of_ble_eq_true rfl) rfl ⟨Nat.zero_le _, Nat.zero_le _⟩ dX2_changes_13 rfl ?_
    refine v_pop hC dX2_changes_16 rfl rfl ?_
    refine v_iconst hC (v := (nI 1)) dX2_changes_17 (by decide) rfl ?_
    obtain rfl := Option.some.inj h
    exact v_irw hC hr rfl rfl dX2_changes_18
  · have h := ite_t c h
    refine v_iconst hC (v := (nI 0)) dX2_changes_8 (by decide) rfl ?_
    obtain rfl := Option.some.inj h
    exact v_irw hC hr rfl rfl dX2_changes_9
def pX2_isCast_33 (ec : Int32) (sn : Int32) (sc : Nat → Int32) (s0 : Int32) : Option (Int32) := bz s0
def pX2_isCast_32 (ec : Int32) (sn : Int32) (sc : Nat → Int32) : Option (Int32) := pX2_isCast_33 ec sn sc (nI 0)
def pX2_isCast (ec : Int32) (sn : Int32) (sc : Nat → Int32) (x1 : Int32) (x2 : Int32) : Option (Int32) := (pX0_isScene sn x1).bind fun v1 => if v1 = 0 then pX2_isCast_32 ec sn sc else (pX0_isExtra ec x2).bind fun v2 => if v2 = 0 then pX2_isCast_32 ec sn sc else (pX0_crowdOf sc x1).bind fun v3 => (pX7_has v3 x2).bind fun v4 => if v4 = 0 then pX2_isCast_32 ec sn sc else pX2_isCast_33 ec sn sc (nI 1)
abbrev rmX2_isCast : Room := { frames := 2, cells := 0, slots := 0, locals := 44 }
set_option maxHeartbeats 4000000 in
set_option maxRecDepth 100000 in
theorem bX2_isCast_33 {p : Program} {l : Launch} {e : Env} {s : State} {m : MethodId} {args : Array Value} {below : List Frame} {meth : Method} {c : Code} {g : va_G} {cy : Nat → ClassId} (hC : CX p s m args meth c g cy 3 cX2_isCast wsX2_isCast RX2) (hr : meth.sig.returnType = (some .boolean)) {h0 q1 a1 q2 a2 q3 a3 : Nat} {res : Int32} : ∀ (ec : Int32) (sn : Int32) (dy : Int32) (wg : Int32) (pe : Int32) (pn : Int32) (br : Int32) (ex : Nat → Int32) (sc : Nat → Int32) (se : Nat → Int32) (s0 : Int32)(h : pX2_isCast_33 ec sn sc s0 = some res), V p l e (headSpec wsX2_isCast rmX2_isCast).room s m args below meth c g 3 0 0 (MQ below (QRi res) args s 0 0 nF) nF (fun _ => True) [(h0, .inr (0, [.ref q1, .ref q2, .ref q3, .int ec, .int sn, .int dy, .int wg, .int pe, .int pn, .int br])), (q1, .inr (3, [.int (nI 14), .ref a1])), (a1, .inl (cy 0, 84, .inl ex)), (q2, .inr (3, [.int (nI 10), .ref a2])), (a2, .inl (cy 0, 60, .inl sc)), (q3, .inr (3, [.int (nI 1), .ref a3])), (a3, .inl (cy 0, 3, .inl se))] 33 [] [.int s0] := by
  intro ec sn dy wg pe pn br ex sc se s0 h
  unfold pX2_isCast_33 at h
  obtain ⟨e9, hn⟩ := bz_g h
  exact v_irt hC hr hn e9 dX2_isCast_33
set_option maxHeartbeats 4000000 in
set_option maxRecDepth 100000 in
theorem bX2_isCast_32 {p : Program} {l : Launch} {e : Env} {s : State} {m : MethodId} {args : Array Value} {below : List Frame} {meth : Method} {c : Code} {g : va_G} {cy : Nat → ClassId} (hC : CX p s m args meth c g cy 3 cX2_isCast wsX2_isCast RX2) (hr : meth.sig.returnType = (some .boolean)) {h0 q1 a1 q2 a2 q3 a3 : Nat} {res : Int32} : ∀ (ec : Int32) (sn : Int32) (dy : Int32) (wg : Int32) (pe : Int32) (pn : Int32) (br : Int32) (ex : Nat → Int32) (sc : Nat → Int32) (se : Nat → Int32) (h : pX2_isCast_32 ec sn sc = some res), V p l e (headSpec wsX2_isCast rmX2_isCast).room s m args below meth c g 3 0 0 (MQ below (QRi res) args s 0 0 nF) nF (fun _ => True) [(h0, .inr (0, [.ref q1, .ref q2, .ref q3, .int ec, .int sn, .int dy, .int wg, .int pe, .int pn, .int br])), (q1, .inr (3, [.int (nI 14), .ref a1])), (a1, .inl (cy 0, 84, .inl ex)), (q2, .inr (3, [.int (nI 10), .ref a2])), (a2, .inl (cy 0, 60, .inl sc)), (q3, .inr (3, [.int (nI 1), .ref a3])), (a3, .inl (cy 0, 3, .inl se))] 32 [] [] := by
  intro ec sn dy wg pe pn br ex sc se  h
  unfold pX2_isCast_32 at h
  refine v_iconst hC (v := (nI 0)) dX2_isCast_32 (by decide) rfl ?_
  exact bX2_isCast_33 hC hr _ _ _ _ _ _ _ _ _ _ _ h
set_option maxHeartbeats 4000000 in
set_option maxRecDepth 100000 in
theorem mX2_isCast (l : Launch) (g : va_G) (cy : Nat → ClassId) (h0 q1 a1 q2 a2 q3 a3 : Nat) (ec : Int32) (sn : Int32) (dy : Int32) (wg : Int32) (pe : Int32) (pn : Int32) (br : Int32) (ex : Nat → Int32) (sc : Nat → Int32) (se : Nat → Int32) (x1 : Int32) (x2 : Int32) {res : Int32} (h : pX2_isCast ec sn sc x1 x2 = some res) : Met l yX2_isCast wsX2_isCast rmX2_isCast (PW [.ref h0, .int x1, .int x2] g cy [(h0, .inr (0, [.ref q1, .ref q2, .ref q3, .int ec, .int sn, .int dy, .int wg, .int pe, .int pn, .int br])), (q1, .inr (3, [.int (nI 14), .ref a1])), (a1, .inl (cy 0, 84, .inl ex)), (q2, .inr (3, [.int (nI 10), .ref a2])), (a2, .inl (cy 0, 60, .inl sc)), (q3, .inr (3, [.int (nI 1), .ref a3])), (a3, .inl (cy 0, 3, .inl se))]) (QRi res) 0 0 nF := by
  refine m_ofV (cc := cX2_isCast) (nL := 3) (ret := (some .boolean)) (B := fun _ => True) RX2 rfl (by decide) rfl [(0, .ref h0), (1, .int x1), (2, .int x2)] rfl (Nat.le_of_ble_eq_true rfl) (fun h => h) ?_
  intro p e s m args below meth c hC hr
  unfold pX2_isCast at h
  refine v_aload_n hC dX2_isCast_0 rfl 0 rfl rfl ?_
  refine v_iload_n hC dX2_isCast_1 rfl 1 rfl rfl ?_
  obtain ⟨v1, hv1, h⟩ := bind_g h
  refine v_callVri hC (n := 1) (st := []) (mX0_isScene l g cy h0 q1 a1 q2 a2 q3 a3 ec sn dy wg pe pn br ex sc se x1 hv1) gX2_isCast_X0_isScene rfl rfl rfl (by decide +kernel) ⟨Nat.le_of_ble_eq_true rfl, Nat.le_of_ble_eq_true rfl⟩ 0 rfl rfl [0, 1, 2, 3, 4, 5, 6] rfl rfl rfl rfl (Nat.le_of_ble_eq_true rfl) rfl ⟨Nat.zero_le _, Nat.zero_le _⟩ dX2_isCast_2 rfl ?_
  refine v_if_eq hC (tgt := 32) dX2_isCast_5 (by decide) rfl (fun c => ?_) (fun c => ?_)
  · have h := ite_t c h
    exact v_sub [] (lv' := []) rfl (bX2_isCast_32 hC hr _ _ _ _ _ _ _ _ _ _ h)
  · have h := ite_f c h
    refine v_aload_n hC dX2_isCast_8 rfl 0 rfl rfl ?_
    refine v_iload_n hC dX2_isCast_9 rfl 2 rfl rfl ?_
    obtain ⟨v2, hv2, h⟩ := bind_g h
    refine v_callVri hC (n := 1) (st := []) (mX0_isExtra l g cy h0 q1 a1 q2 a2 q3 a3 ec sn dy wg pe pn br ex sc se x2 hv2) gX2_isCast_X0_isExtra rfl rfl rfl (by decide +kernel) ⟨Nat.le_of_ble_eq_true rfl, Nat.le_of_ble_eq_true rfl⟩ 0 rfl rfl [0, 1, 2, 3, 4, 5, 6] rfl rfl rfl rfl (Nat.le_of_ble_eq_true rfl) rfl ⟨Nat.zero_le _, Nat.zero_le _⟩ dX2_isCast_10 rfl ?_
    refine v_if_eq hC (tgt := 32) dX2_isCast_13 (by decide) rfl (fun c => ?_) (fun c => ?_)
    · have h := ite_t c h
      exact v_sub [] (lv' := []) rfl (bX2_isCast_32 hC hr _ _ _ _ _ _ _ _ _ _ h)
    · have h := ite_f c h
      refine v_aload_n hC dX2_isCast_16 rfl 0 rfl rfl ?_
      refine v_iload_n hC dX2_isCast_17 rfl 1 rfl rfl ?_
      obtain ⟨v3, hv3, h⟩ := bind_g h
      refine v_callVri hC (n := 1) (st := []) (mX0_crowdOf l g cy h0 q1 a1 q2 a2 q3 a3 ec sn dy wg pe pn br ex sc se x1 hv3) gX2_isCast_X0_crowdOf rfl rfl rfl (by decide +kernel) ⟨Nat.le_of_ble_eq_true rfl, Nat.le_of_ble_eq_true rfl⟩ 0 rfl rfl [0, 1, 2, 3, 4, 5, 6] rfl rfl rfl rfl (Nat.le_of_ble_eq_true rfl) rfl ⟨Nat.zero_le _, Nat.zero_le _⟩ dX2_isCast_18 rfl ?_
      refine v_iload_n hC dX2_isCast_21 rfl 2 rfl rfl ?_
      obtain ⟨v4, hv4, h⟩ := bind_g h
      refine v_callNri hC (n := 2) (st := []) (mX7_has l g cy v3 x2 hv4) gX2_isCast_X7_has_n61 3 rfl ⟨by decide +kernel, by decide +kernel⟩ rfl rfl rfl (by decide +kernel) ⟨Nat.le_of_ble_eq_true rfl, Nat.le_of_ble_eq_true rfl⟩ [] rfl rfl rfl rfl (Nat.le_of_ble_eq_true rfl) rfl ⟨Nat.zero_le _, Nat.zero_le _⟩ dX2_isCast_22 rfl ?_
      refine v_if_eq hC (tgt := 32) dX2_isCast_25 (by decide) rfl (fun c => ?_) (fun c => ?_)
      · have h := ite_t c h
        exact v_sub [] (lv' := []) rfl (bX2_isCast_32 hC hr _ _ _ _ _ _ _ _ _ _ h)
      · have h := ite_f c h
        refine v_iconst hC (v := (nI 1)) dX2_isCast_28 (by decide) rfl ?_
        refine v_goto hC (tgt := 33) dX2_isCast_29 (by decide) ?_
        exact v_sub [] (lv' := []) rfl (bX2_isCast_33 hC hr _ _ _ _ _ _ _ _ _ _ _ h)
def pX2_worksSo_40 (ec : Int32) (ex : Nat → Int32) (s0 : Int32) : Option (Int32) := bz s0
def pX2_worksSo_39 (ec : Int32) (ex : Nat → Int32) : Option (Int32) := pX2_worksSo_40 ec ex (nI 0)
def pX2_worksSo_32 (ec : Int32) (ex : Nat → Int32) (s0 : Int32) (s1 : Int32) : Option (Int32) := if s1 = s0 then pX2_worksSo_40 ec ex (nI 1) else pX2_worksSo_39 ec ex
def pX2_worksSo (ec : Int32) (ex : Nat → Int32) (x1 : Int32) (x2 : Int32) : Option (Int32) := (pX0_isExtra ec x1).bind fun v1 => if v1 = 0 then pX2_worksSo_39 ec ex else (pX7_isIn x2 (nI 0) (nI 1)).bind fun v2 => if v2 = 0 then pX2_worksSo_39 ec ex else (pX0_hasWorked ex x1).bind fun v3 => if x2 = (nI 1) then pX2_worksSo_32 ec ex (nI 1) v3 else pX2_worksSo_32 ec ex (nI 0) v3
abbrev rmX2_worksSo : Room := { frames := 2, cells := 0, slots := 0, locals := 44 }
set_option maxHeartbeats 4000000 in
set_option maxRecDepth 100000 in
theorem bX2_worksSo_40 {p : Program} {l : Launch} {e : Env} {s : State} {m : MethodId} {args : Array Value} {below : List Frame} {meth : Method} {c : Code} {g : va_G} {cy : Nat → ClassId} (hC : CX p s m args meth c g cy 3 cX2_worksSo wsX2_worksSo RX2) (hr : meth.sig.returnType = (some .boolean)) {h0 q1 a1 q2 a2 q3 a3 : Nat} {res : Int32} : ∀ (ec : Int32) (sn : Int32) (dy : Int32) (wg : Int32) (pe : Int32) (pn : Int32) (br : Int32) (ex : Nat → Int32) (sc : Nat → Int32) (se : Nat → Int32) (s0 : Int32)(h : pX2_worksSo_40 ec ex s0 = some res), V p l e (headSpec wsX2_worksSo rmX2_worksSo).room s m args below meth c g 3 0 0 (MQ below (QRi res) args s 0 0 nF) nF (fun _ => True) [(h0, .inr (0, [.ref q1, .ref q2, .ref q3, .int ec, .int sn, .int dy, .int wg, .int pe, .int pn, .int br])), (q1, .inr (3, [.int (nI 14), .ref a1])), (a1, .inl (cy 0, 84, .inl ex)), (q2, .inr (3, [.int (nI 10), .ref a2])), (a2, .inl (cy 0, 60, .inl sc)), (q3, .inr (3, [.int (nI 1), .ref a3])), (a3, .inl (cy 0, 3, .inl se))] 40 [] [.int s0] := by
  intro ec sn dy wg pe pn br ex sc se s0 h
  unfold pX2_worksSo_40 at h
  obtain ⟨e9, hn⟩ := bz_g h
  exact v_irt hC hr hn e9 dX2_worksSo_40
set_option maxHeartbeats 4000000 in
set_option maxRecDepth 100000 in
theorem bX2_worksSo_39 {p : Program} {l : Launch} {e : Env} {s : State} {m : MethodId} {args : Array Value} {below : List Frame} {meth : Method} {c : Code} {g : va_G} {cy : Nat → ClassId} (hC : CX p s m args meth c g cy 3 cX2_worksSo wsX2_worksSo RX2) (hr : meth.sig.returnType = (some .boolean)) {h0 q1 a1 q2 a2 q3 a3 : Nat} {res : Int32} : ∀ (ec : Int32) (sn : Int32) (dy : Int32) (wg : Int32) (pe : Int32) (pn : Int32) (br : Int32) (ex : Nat → Int32) (sc : Nat → Int32) (se : Nat → Int32) (h : pX2_worksSo_39 ec ex = some res), V p l e (headSpec wsX2_worksSo rmX2_worksSo).room s m args below meth c g 3 0 0 (MQ below (QRi res) args s 0 0 nF) nF (fun _ => True) [(h0, .inr (0, [.ref q1, .ref q2, .ref q3, .int ec, .int sn, .int dy, .int wg, .int pe, .int pn, .int br])), (q1, .inr (3, [.int (nI 14), .ref a1])), (a1, .inl (cy 0, 84, .inl ex)), (q2, .inr (3, [.int (nI 10), .ref a2])), (a2, .inl (cy 0, 60, .inl sc)), (q3, .inr (3, [.int (nI 1), .ref a3])), (a3, .inl (cy 0, 3, .inl se))] 39 [] [] := by
  intro ec sn dy wg pe pn br ex sc se  h
  unfold pX2_worksSo_39 at h
  refine v_iconst hC (v := (nI 0)) dX2_worksSo_39 (by decide) rfl ?_
  exact bX2_worksSo_40 hC hr _ _ _ _ _ _ _ _ _ _ _ h
set_option maxHeartbeats 4000000 in
set_option maxRecDepth 100000 in
theorem bX2_worksSo_32 {p : Program} {l : Launch} {e : Env} {s : State} {m : MethodId} {args : Array Value} {below : List Frame} {meth : Method} {c : Code} {g : va_G} {cy : Nat → ClassId} (hC : CX p s m args meth c g cy 3 cX2_worksSo wsX2_worksSo RX2) (hr : meth.sig.returnType = (some .boolean)) {h0 q1 a1 q2 a2 q3 a3 : Nat} {res : Int32} : ∀ (ec : Int32) (sn : Int32) (dy : Int32) (wg : Int32) (pe : Int32) (pn : Int32) (br : Int32) (ex : Nat → Int32) (sc : Nat → Int32) (se : Nat → Int32) (s0 : Int32) (s1 : Int32)(h : pX2_worksSo_32 ec ex s0 s1 = some res), V p l e (headSpec wsX2_worksSo rmX2_worksSo).room s m args below meth c g 3 0 0 (MQ below (QRi res) args s 0 0 nF) nF (fun _ => True) [(h0, .inr (0, [.ref q1, .ref q2, .ref q3, .int ec, .int sn, .int dy, .int wg, .int pe, .int pn, .int br])), (q1, .inr (3, [.int (nI 14), .ref a1])), (a1, .inl (cy 0, 84, .inl ex)), (q2, .inr (3, [.int (nI 10), .ref a2])), (a2, .inl (cy 0, 60, .inl sc)), (q3, .inr (3, [.int (nI 1), .ref a3])), (a3, .inl (cy 0, 3, .inl se))] 32 [] [.int s0, .int s1] := by
  intro ec sn dy wg pe pn br ex sc se s0 s1 h
  unfold pX2_worksSo_32 at h
  refine v_icmp_ne hC (tgt := 39) dX2_worksSo_32 (by decide) rfl (fun c => ?_) (fun c => ?_)
  · have h := ite_f c h
    exact bX2_worksSo_39 hC hr _ _ _ _ _ _ _ _ _ _ h
  · have h := ite_t c h
    refine v_iconst hC (v := (nI 1)) dX2_worksSo_35 (by decide) rfl ?_
    refine v_goto hC (tgt := 40) dX2_worksSo_36 (by decide) ?_
    exact bX2_worksSo_40 hC hr _ _ _ _ _ _ _ _ _ _ _ h
set_option maxHeartbeats 4000000 in
set_option maxRecDepth 100000 in
theorem mX2_worksSo (l : Launch) (g : va_G) (cy : Nat → ClassId) (h0 q1 a1 q2 a2 q3 a3 : Nat) (ec : Int32) (sn : Int32) (dy : Int32) (wg : Int32) (pe : Int32) (pn : Int32) (br : Int32) (ex : Nat → Int32) (sc : Nat → Int32) (se : Nat → Int32) (x1 : Int32) (x2 : Int32) {res : Int32} (h : pX2_worksSo ec ex x1 x2 = some res) : Met l yX2_worksSo wsX2_worksSo rmX2_worksSo (PW [.ref h0, .int x1, .int x2] g cy [(h0, .inr (0, [.ref q1, .ref q2, .ref q3, .int ec, .int sn, .int dy, .int wg, .int pe, .int pn, .int br])), (q1, .inr (3, [.int (nI 14), .ref a1])), (a1, .inl (cy 0, 84, .inl ex)), (q2, .inr (3, [.int (nI 10), .ref a2])), (a2, .inl (cy 0, 60, .inl sc)), (q3, .inr (3, [.int (nI 1), .ref a3])), (a3, .inl (cy 0, 3, .inl se))]) (QRi res) 0 0 nF := by
  refine m_ofV (cc := cX2_worksSo) (nL := 3) (ret := (some .boolean)) (B := fun _ => True) RX2 rfl (by decide) rfl [(0, .ref h0), (1, .int x1), (2, .int x2)] rfl (Nat.le_of_ble_eq_true rfl) (fun h => h) ?_
  intro p e s m args below meth c hC hr
  unfold pX2_worksSo at h
  refine v_aload_n hC dX2_worksSo_0 rfl 0 rfl rfl ?_
  refine v_iload_n hC dX2_worksSo_1 rfl 1 rfl rfl ?_
  obtain ⟨v1, hv1, h⟩ := bind_g h
  refine v_callVri hC (n := 1) (st := []) (mX0_isExtra l g cy h0 q1 a1 q2 a2 q3 a3 ec sn dy wg pe pn br ex sc se x1 hv1) gX2_worksSo_X0_isExtra rfl rfl rfl (by decide +kernel) ⟨Nat.le_of_ble_eq_true rfl, Nat.le_of_ble_eq_true rfl⟩ 0 rfl rfl [0, 1, 2, 3, 4, 5, 6] rfl rfl rfl rfl (Nat.le_of_ble_eq_true rfl) rfl ⟨Nat.zero_le _, Nat.zero_le _⟩ dX2_worksSo_2 rfl ?_
  refine v_if_eq hC (tgt := 39) dX2_worksSo_5 (by decide) rfl (fun c => ?_) (fun c => ?_)
  · have h := ite_t c h
    exact v_sub [] (lv' := []) rfl (bX2_worksSo_39 hC hr _ _ _ _ _ _ _ _ _ _ h)
  · have h := ite_f c h
    refine v_iload_n hC dX2_worksSo_8 rfl 2 rfl rfl ?_
    refine v_iconst hC (v := (nI 0)) dX2_worksSo_9 (by decide) rfl ?_
    refine v_iconst hC (v := (nI 1)) dX2_worksSo_10 (by decide) rfl ?_
    obtain ⟨v2, hv2, h⟩ := bind_g h
    refine v_callNri hC (n := 3) (st := []) (mX7_isIn l g cy x2 (nI 0) (nI 1) hv2) gX2_worksSo_X7_isIn_n64 4 rfl ⟨by decide +kernel, by decide +kernel⟩ rfl rfl rfl (by decide +kernel) ⟨Nat.le_of_ble_eq_true rfl, Nat.le_of_ble_eq_true rfl⟩ [] rfl rfl rfl rfl (Nat.le_of_ble_eq_true rfl) rfl ⟨Nat.zero_le _, Nat.zero_le _⟩ dX2_worksSo_11 rfl ?_
    refine v_if_eq hC (tgt := 39) dX2_worksSo_14 (by decide) rfl (fun c => ?_) (fun c => ?_)
    · have h := ite_t c h
      exact v_sub [] (lv' := []) rfl (bX2_worksSo_39 hC hr _ _ _ _ _ _ _ _ _ _ h)
    · have h := ite_f c h
      refine v_aload_n hC dX2_worksSo_17 rfl 0 rfl rfl ?_
      refine v_iload_n hC dX2_worksSo_18 rfl 1 rfl rfl ?_
      obtain ⟨v3, hv3, h⟩ := bind_g h
      refine v_callVri hC (n := 1) (st := []) (mX0_hasWorked l g cy h0 q1 a1 q2 a2 q3 a3 ec sn dy wg pe pn br ex sc se x1 hv3) gX2_worksSo_X0_hasWorked rfl rfl rfl (by decide +kernel) ⟨Nat.le_of_ble_eq_true rfl, Nat.le_of_ble_eq_true rfl⟩ 0 rfl rfl [0, 1, 2, 3, 4, 5, 6] rfl rfl rfl rfl (Nat.le_of_ble_eq_true rfl) rfl ⟨Nat.zero_le _, Nat.zero_le _⟩ dX2_worksSo_19 rfl ?_
      refine v_iload_n hC dX2_worksSo_22 rfl 2 rfl rfl ?_
      refine v_iconst hC (v := (nI 1)) dX2_worksSo_23 (by decide) rfl ?_
      refine v_icmp_ne hC (tgt := 31) dX2_worksSo_24 (by decide) rfl (fun c => ?_) (fun c => ?_)
      · have h := ite_f c h
        refine v_iconst hC (v := (nI 0)) dX2_worksSo_31 (by decide) rfl ?_
        exact v_sub [] (lv' := []) rfl (bX2_worksSo_32 hC hr _ _ _ _ _ _ _ _ _ _ _ _ h)
      · have h := ite_t c h
        refine v_iconst hC (v := (nI 1)) dX2_worksSo_27 (by decide) rfl ?_
        refine v_goto hC (tgt := 32) dX2_worksSo_28 (by decide) ?_
        exact v_sub [] (lv' := []) rfl (bX2_worksSo_32 hC hr _ _ _ _ _ _ _ _ _ _ _ _ h)
def pX2_succeeds_84 (ec : Int32) (sn : Int32) (dy : Int32) (wg : Int32) (pe : Int32) (pn : Int32) (br : Int32) (ex : Nat → Int32) (sc : Nat → Int32) (se : Nat → Int32) (s0 : Int32) : Option (Int32 × Int32 × Int32 × Int32 × Int32 × Int32 × (Nat → Int32) × (Nat → Int32) × (Nat → Int32)) := (bz s0).bind fun b1 => some (b1, dy, wg, pe, pn, br, ex, sc, se)
def pX2_succeeds_83 (ec : Int32) (sn : Int32) (dy : Int32) (wg : Int32) (pe : Int32) (pn : Int32) (br : Int32) (ex : Nat → Int32) (sc : Nat → Int32) (se : Nat → Int32) : Option (Int32 × Int32 × Int32 × Int32 × Int32 × Int32 × (Nat → Int32) × (Nat → Int32) × (Nat → Int32)) := pX2_succeeds_84 ec sn dy wg pe pn br ex sc se (nI 0)
def pX2_succeeds_105 (ec : Int32) (sn : Int32) (dy : Int32) (wg : Int32) (pe : Int32) (pn : Int32) (br : Int32) (ex : Nat → Int32) (sc : Nat → Int32) (se : Nat → Int32) (s0 : Int32) : Option (Int32 × Int32 × Int32 × Int32 × Int32 × Int32 × (Nat → Int32) × (Nat → Int32) × (Nat → Int32)) := (bz s0).bind fun b1 => some (b1, dy, wg, pe, pn, br, ex, sc, se)
def pX2_succeeds_104 (ec : Int32) (sn : Int32) (dy : Int32) (wg : Int32) (pe : Int32) (pn : Int32) (br : Int32) (ex : Nat → Int32) (sc : Nat → Int32) (se : Nat → Int32) : Option (Int32 × Int32 × Int32 × Int32 × Int32 × Int32 × (Nat → Int32) × (Nat → Int32) × (Nat → Int32)) := pX2_succeeds_105 ec sn dy wg pe pn br ex sc se (nI 0)
def pX2_succeeds_126 (ec : Int32) (sn : Int32) (dy : Int32) (wg : Int32) (pe : Int32) (pn : Int32) (br : Int32) (ex : Nat → Int32) (sc : Nat → Int32) (se : Nat → Int32) (s0 : Int32) : Option (Int32 × Int32 × Int32 × Int32 × Int32 × Int32 × (Nat → Int32) × (Nat → Int32) × (Nat → Int32)) := (bz s0).bind fun b1 => some (b1, dy, wg, pe, pn, br, ex, sc, se)
def pX2_succeeds_125 (ec : Int32) (sn : Int32) (dy : Int32) (wg : Int32) (pe : Int32) (pn : Int32) (br : Int32) (ex : Nat → Int32) (sc : Nat → Int32) (se : Nat → Int32) : Option (Int32 × Int32 × Int32 × Int32 × Int32 × Int32 × (Nat → Int32) × (Nat → Int32) × (Nat → Int32)) := pX2_succeeds_126 ec sn dy wg pe pn br ex sc se (nI 0)
def pX2_succeeds_161 (ec : Int32) (sn : Int32) (dy : Int32) (wg : Int32) (pe : Int32) (pn : Int32) (br : Int32) (ex : Nat → Int32) (sc : Nat → Int32) (se : Nat → Int32) (s0 : Int32) : Option (Int32 × Int32 × Int32 × Int32 × Int32 × Int32 × (Nat → Int32) × (Nat → Int32) × (Nat → Int32)) := (bz s0).bind fun b1 => some (b1, dy, wg, pe, pn, br, ex, sc, se)
def pX2_succeeds_160 (ec : Int32) (sn : Int32) (dy : Int32) (wg : Int32) (pe : Int32) (pn : Int32) (br : Int32) (ex : Nat → Int32) (sc : Nat → Int32) (se : Nat → Int32) : Option (Int32 × Int32 × Int32 × Int32 × Int32 × Int32 × (Nat → Int32) × (Nat → Int32) × (Nat → Int32)) := pX2_succeeds_161 ec sn dy wg pe pn br ex sc se (nI 0)
def pX2_succeeds_214 (ec : Int32) (sn : Int32) (dy : Int32) (wg : Int32) (pe : Int32) (pn : Int32) (br : Int32) (ex : Nat → Int32) (sc : Nat → Int32) (se : Nat → Int32) (s0 : Int32) : Option (Int32 × Int32 × Int32 × Int32 × Int32 × Int32 × (Nat → Int32) × (Nat → Int32) × (Nat → Int32)) := (bz s0).bind fun b1 => some (b1, dy, wg, pe, pn, br, ex, sc, se)
def pX2_succeeds_213 (ec : Int32) (sn : Int32) (dy : Int32) (wg : Int32) (pe : Int32) (pn : Int32) (br : Int32) (ex : Nat → Int32) (sc : Nat → Int32) (se : Nat → Int32) : Option (Int32 × Int32 × Int32 × Int32 × Int32 × Int32 × (Nat → Int32) × (Nat → Int32) × (Nat → Int32)) := pX2_succeeds_214 ec sn dy wg pe pn br ex sc se (nI 0)
def pX2_succeeds_257 (ec : Int32) (sn : Int32) (dy : Int32) (wg : Int32) (pe : Int32) (pn : Int32) (br : Int32) (ex : Nat → Int32) (sc : Nat → Int32) (se : Nat → Int32) (s0 : Int32) : Option (Int32 × Int32 × Int32 × Int32 × Int32 × Int32 × (Nat → Int32) × (Nat → Int32) × (Nat → Int32)) := (bz s0).bind fun b1 => some (b1, dy, wg, pe, pn, br, ex, sc, se)
def pX2_succeeds_256 (ec : Int32) (sn : Int32) (dy : Int32) (wg : Int32) (pe : Int32) (pn : Int32) (br : Int32) (ex : Nat → Int32) (sc : Nat → Int32) (se : Nat → Int32) : Option (Int32 × Int32 × Int32 × Int32 × Int32 × Int32 × (Nat → Int32) × (Nat → Int32) × (Nat → Int32)) := pX2_succeeds_257 ec sn dy wg pe pn br ex sc se (nI 0)
def pX2_succeeds_284 (ec : Int32) (sn : Int32) (dy : Int32) (wg : Int32) (pe : Int32) (pn : Int32) (br : Int32) (ex : Nat → Int32) (sc : Nat → Int32) (se : Nat → Int32) (s0 : Int32) : Option (Int32 × Int32 × Int32 × Int32 × Int32 × Int32 × (Nat → Int32) × (Nat → Int32) × (Nat → Int32)) := (bz s0).bind fun b1 => some (b1, dy, wg, pe, pn, br, ex, sc, se)
def pX2_succeeds_283 (ec : Int32) (sn : Int32) (dy : Int32) (wg : Int32) (pe : Int32) (pn : Int32) (br : Int32) (ex : Nat → Int32) (sc : Nat → Int32) (se : Nat → Int32) : Option (Int32 × Int32 × Int32 × Int32 × Int32 × Int32 × (Nat → Int32) × (Nat → Int32) × (Nat → Int32)) := pX2_succeeds_284 ec sn dy wg pe pn br ex sc se (nI 0)
def pX2_succeeds (ec : Int32) (sn : Int32) (dy : Int32) (wg : Int32) (pe : Int32) (pn : Int32) (br : Int32) (ex : Nat → Int32) (sc : Nat → Int32) (se : Nat → Int32) (x1 : Int32) : Option (Int32 × Int32 × Int32 × Int32 × Int32 × Int32 × (Nat → Int32) × (Nat → Int32) × (Nat → Int32)) := if (x1 / (nI 10000)) = (nI 1) then if (x1 - x1 / (nI 1000) * (nI 1000)) = 0 then (pX0_shootIfPossible ec sn wg pe pn br ex sc se ((x1 / (nI 1000)) - (x1 / (nI 1000)) / (nI 10) * (nI 10))).bind fun v1 => if v1.1 = 0 then pX2_succeeds_83 ec sn dy v1.2.1 v1.2.2.1 v1.2.2.2.1 v1.2.2.2.2.1 v1.2.2.2.2.2.1 v1.2.2.2.2.2.2 se else pX2_succeeds_84 ec sn dy v1.2.1 v1.2.2.1 v1.2.2.2.1 v1.2.2.2.2.1 v1.2.2.2.2.2.1 v1.2.2.2.2.2.2 se (nI 1) else pX2_succeeds_83 ec sn dy wg pe pn br ex sc se else if (x1 / (nI 10000)) = (nI 2) then if (x1 - x1 / (nI 10000) * (nI 10000)) = 0 then (pX0_eat ec ex).bind fun v2 => if v2.1 < 0 then pX2_succeeds_104 ec sn dy wg pe pn br v2.2 sc se else pX2_succeeds_105 ec sn dy wg pe pn br v2.2 sc se (nI 1) else pX2_succeeds_104 ec sn dy wg pe pn br ex sc se else if (x1 / (nI 10000)) = (nI 3) then if (x1 - x1 / (nI 10000) * (nI 10000)) = 0 then (pX0_beginDay dy ex).bind fun v3 => if v3.1 ≤ 0 then pX2_succeeds_125 ec sn v3.2.1 wg pe pn br v3.2.2 sc se else pX2_succeeds_126 ec sn v3.2.1 wg pe pn br v3.2.2 sc se (nI 1) else pX2_succeeds_125 ec sn dy wg pe pn br ex sc se else if (x1 / (nI 10000)) = (nI 4) then if (x1 - x1 / (nI 10) * (nI 10)) = 0 then (pX0_exchangeForLowest ec sn ex sc ((x1 / (nI 1000)) - (x1 / (nI 1000)) / (nI 10) * (nI 10)) ((x1 / (nI 10)) - (x1 / (nI 10)) / (nI 100) * (nI 100))).bind fun v4 => if v4.1 = 0 then pX2_succeeds_160 ec sn dy wg pe pn br ex v4.2 se else pX2_succeeds_161 ec sn dy wg pe pn br ex v4.2 se (nI 1) else pX2_succeeds_160 ec sn dy wg pe pn br ex sc se else if (x1 / (nI 10000)) = (nI 5) then (pX2_changes se ((x1 / (nI 1000)) - (x1 / (nI 1000)) / (nI 10) * (nI 10)) (x1 - x1 / (nI 1000) * (nI 1000))).bind fun v5 => (bz v5.1).bind fun b6 => some (b6, dy, wg, pe, pn, br, ex, sc, v5.2) else if (x1 / (nI 10000)) = (nI 6) then if (x1 - x1 / (nI 10) * (nI 10)) = 0 then (pX2_isCast ec sn sc ((x1 / (nI 1000)) - (x1 / (nI 1000)) / (nI 10) * (nI 10)) ((x1 / (nI 10)) - (x1 / (nI 10)) / (nI 100) * (nI 100))).bind fun v7 => if v7 = 0 then pX2_succeeds_213 ec sn dy wg pe pn br ex sc se else pX2_succeeds_214 ec sn dy wg pe pn br ex sc se (nI 1) else pX2_succeeds_213 ec sn dy wg pe pn br ex sc se else if (x1 / (nI 10000)) = (nI 7) then (pX2_worksSo ec ex ((x1 / (nI 100)) - (x1 / (nI 100)) / (nI 100) * (nI 100)) (x1 - x1 / (nI 100) * (nI 100))).bind fun v8 => (bz v8).bind fun b9 => some (b9, dy, wg, pe, pn, br, ex, sc, se) else if (x1 / (nI 10000)) = (nI 8) then if ((x1 / (nI 100)) - (x1 / (nI 100)) / (nI 100) * (nI 100)) = 0 then (pX0_allPenalties pn).bind fun v10 => if (x1 - x1 / (nI 100) * (nI 100)) < v10 then pX2_succeeds_256 ec sn dy wg pe pn br ex sc se else pX2_succeeds_257 ec sn dy wg pe pn br ex sc se (nI 1) else pX2_succeeds_256 ec sn dy wg pe pn br ex sc se else if (x1 / (nI 10000)) = (nI 9) then if ((x1 / (nI 100)) - (x1 / (nI 100)) / (nI 100) * (nI 100)) = 0 then (pX0_allBreaks br).bind fun v11 => if (x1 - x1 / (nI 100) * (nI 100)) < v11 then pX2_succeeds_283 ec sn dy wg pe pn br ex sc se else pX2_succeeds_284 ec sn dy wg pe pn br ex sc se (nI 1) else pX2_succeeds_283 ec sn dy wg pe pn br ex sc se else some ((nI 0), dy, wg, pe, pn, br, ex, sc, se)
abbrev rmX2_succeeds : Room := { frames := 5, cells := 0, slots := 0, locals := 123 }
set_option maxHeartbeats 4000000 in
set_option maxRecDepth 100000 in
theorem bX2_succeeds_84 {p : Program} {l : Launch} {e : Env} {s : State} {m : MethodId} {args : Array Value} {below : List Frame} {meth : Method} {c : Code} {g : va_G} {cy : Nat → ClassId} (hC : CX p s m args meth c g cy 2 cX2_succeeds wsX2_succeeds RX2) (hr : meth.sig.returnType = (some .boolean)) {h0 q1 a1 q2 a2 q3 a3 : Nat} {A : Nat → Prop} {res : Int32 × Int32 × Int32 × Int32 × Int32 × Int32 × (Nat → Int32) × (Nat → Int32) × (Nat → Int32)} : ∀ (ec : Int32) (sn : Int32) (dy : Int32) (wg : Int32) (pe : Int32) (pn : Int32) (br : Int32) (ex : Nat → Int32) (sc : Nat → Int32) (se : Nat → Int32) (s0 : Int32)(h : pX2_succeeds_84 ec sn dy wg pe pn br ex sc se s0 = some res), V p l e (headSpec wsX2_succeeds rmX2_succeeds).room s m args below meth c g 2 0 0 (MQ below (QWi g A res.1 [(h0, .inr (0, [.ref q1, .ref q2, .ref q3, .int ec, .int sn, .int res.2.1, .int res.2.2.1, .int res.2.2.2.1, .int res.2.2.2.2.1, .int res.2.2.2.2.2.1])), (q1, .inr (3, [.int (nI 14), .ref a1])), (a1, .inl (cy 0, 84, .inl res.2.2.2.2.2.2.1)), (q2, .inr (3, [.int (nI 10), .ref a2])), (a2, .inl (cy 0, 60, .inl res.2.2.2.2.2.2.2.1)), (q3, .inr (3, [.int (nI 1), .ref a3])), (a3, .inl (cy 0, 3, .inl res.2.2.2.2.2.2.2.2))]) args s 0 0 A) A A [(h0, .inr (0, [.ref q1, .ref q2, .ref q3, .int ec, .int sn, .int dy, .int wg, .int pe, .int pn, .int br])), (q1, .inr (3, [.int (nI 14), .ref a1])), (a1, .inl (cy 0, 84, .inl ex)), (q2, .inr (3, [.int (nI 10), .ref a2])), (a2, .inl (cy 0, 60, .inl sc)), (q3, .inr (3, [.int (nI 1), .ref a3])), (a3, .inl (cy 0, 3, .inl se))] 84 [] [.int s0] := by
  intro ec sn dy wg pe pn br ex sc se s0 h
  unfold pX2_succeeds_84 at h
  obtain ⟨b1, hb9, h⟩ := bind_g h
  obtain ⟨e9, hn⟩ := bz_g hb9
  obtain rfl := Option.some.inj h
  exact v_irw hC hr hn e9 dX2_succeeds_84
set_option maxHeartbeats 4000000 in
set_option maxRecDepth 100000 in
theorem bX2_succeeds_83 {p : Program} {l : Launch} {e : Env} {s : State} {m : MethodId} {args : Array Value} {below : List Frame} {meth : Method} {c : Code} {g : va_G} {cy : Nat → ClassId} (hC : CX p s m args meth c g cy 2 cX2_succeeds wsX2_succeeds RX2) (hr : meth.sig.returnType = (some .boolean)) {h0 q1 a1 q2 a2 q3 a3 : Nat} {A : Nat → Prop} {res : Int32 × Int32 × Int32 × Int32 × Int32 × Int32 × (Nat → Int32) × (Nat → Int32) × (Nat → Int32)} : ∀ (ec : Int32) (sn : Int32) (dy : Int32) (wg : Int32) (pe : Int32) (pn : Int32) (br : Int32) (ex : Nat → Int32) (sc : Nat → Int32) (se : Nat → Int32) (h : pX2_succeeds_83 ec sn dy wg pe pn br ex sc se = some res), V p l e (headSpec wsX2_succeeds rmX2_succeeds).room s m args below meth c g 2 0 0 (MQ below (QWi g A res.1 [(h0, .inr (0, [.ref q1, .ref q2, .ref q3, .int ec, .int sn, .int res.2.1, .int res.2.2.1, .int res.2.2.2.1, .int res.2.2.2.2.1, .int res.2.2.2.2.2.1])), (q1, .inr (3, [.int (nI 14), .ref a1])), (a1, .inl (cy 0, 84, .inl res.2.2.2.2.2.2.1)), (q2, .inr (3, [.int (nI 10), .ref a2])), (a2, .inl (cy 0, 60, .inl res.2.2.2.2.2.2.2.1)), (q3, .inr (3, [.int (nI 1), .ref a3])), (a3, .inl (cy 0, 3, .inl res.2.2.2.2.2.2.2.2))]) args s 0 0 A) A A [(h0, .inr (0, [.ref q1, .ref q2, .ref q3, .int ec, .int sn, .int dy, .int wg, .int pe, .int pn, .int br])), (q1, .inr (3, [.int (nI 14), .ref a1])), (a1, .inl (cy 0, 84, .inl ex)), (q2, .inr (3, [.int (nI 10), .ref a2])), (a2, .inl (cy 0, 60, .inl sc)), (q3, .inr (3, [.int (nI 1), .ref a3])), (a3, .inl (cy 0, 3, .inl se))] 83 [] [] := by
  intro ec sn dy wg pe pn br ex sc se  h
  unfold pX2_succeeds_83 at h
  refine v_iconst hC (v := (nI 0)) dX2_succeeds_83 (by decide) rfl ?_
  exact bX2_succeeds_84 hC hr _ _ _ _ _ _ _ _ _ _ _ h
set_option maxHeartbeats 4000000 in
set_option maxRecDepth 100000 in
theorem bX2_succeeds_105 {p : Program} {l : Launch} {e : Env} {s : State} {m : MethodId} {args : Array Value} {below : List Frame} {meth : Method} {c : Code} {g : va_G} {cy : Nat → ClassId} (hC : CX p s m args meth c g cy 2 cX2_succeeds wsX2_succeeds RX2) (hr : meth.sig.returnType = (some .boolean)) {h0 q1 a1 q2 a2 q3 a3 : Nat} {A : Nat → Prop} {res : Int32 × Int32 × Int32 × Int32 × Int32 × Int32 × (Nat → Int32) × (Nat → Int32) × (Nat → Int32)} : ∀ (ec : Int32) (sn : Int32) (dy : Int32) (wg : Int32) (pe : Int32) (pn : Int32) (br : Int32) (ex : Nat → Int32) (sc : Nat → Int32) (se : Nat → Int32) (s0 : Int32)(h : pX2_succeeds_105 ec sn dy wg pe pn br ex sc se s0 = some res), V p l e (headSpec wsX2_succeeds rmX2_succeeds).room s m args below meth c g 2 0 0 (MQ below (QWi g A res.1 [(h0, .inr (0, [.ref q1, .ref q2, .ref q3, .int ec, .int sn, .int res.2.1, .int res.2.2.1, .int res.2.2.2.1, .int res.2.2.2.2.1, .int res.2.2.2.2.2.1])), (q1, .inr (3, [.int (nI 14), .ref a1])), (a1, .inl (cy 0, 84, .inl res.2.2.2.2.2.2.1)), (q2, .inr (3, [.int (nI 10), .ref a2])), (a2, .inl (cy 0, 60, .inl res.2.2.2.2.2.2.2.1)), (q3, .inr (3, [.int (nI 1), .ref a3])), (a3, .inl (cy 0, 3, .inl res.2.2.2.2.2.2.2.2))]) args s 0 0 A) A A [(h0, .inr (0, [.ref q1, .ref q2, .ref q3, .int ec, .int sn, .int dy, .int wg, .int pe, .int pn, .int br])), (q1, .inr (3, [.int (nI 14), .ref a1])), (a1, .inl (cy 0, 84, .inl ex)), (q2, .inr (3, [.int (nI 10), .ref a2])), (a2, .inl (cy 0, 60, .inl sc)), (q3, .inr (3, [.int (nI 1), .ref a3])), (a3, .inl (cy 0, 3, .inl se))] 105 [] [.int s0] := by
  intro ec sn dy wg pe pn br ex sc se s0 h
  unfold pX2_succeeds_105 at h
  obtain ⟨b1, hb9, h⟩ := bind_g h
  obtain ⟨e9, hn⟩ := bz_g hb9
  obtain rfl := Option.some.inj h
  exact v_irw hC hr hn e9 dX2_succeeds_105
set_option maxHeartbeats 4000000 in
set_option maxRecDepth 100000 in
theorem bX2_succeeds_104 {p : Program} {l : Launch} {e : Env} {s : State} {m : MethodId} {args : Array Value} {below : List Frame} {meth : Method} {c : Code} {g : va_G} {cy : Nat → ClassId} (hC : CX p s m args meth c g cy 2 cX2_succeeds wsX2_succeeds RX2) (hr : meth.sig.returnType = (some .boolean)) {h0 q1 a1 q2 a2 q3 a3 : Nat} {A : Nat → Prop} {res : Int32 × Int32 × Int32 × Int32 × Int32 × Int32 × (Nat → Int32) × (Nat → Int32) × (Nat → Int32)} : ∀ (ec : Int32) (sn : Int32) (dy : Int32) (wg : Int32) (pe : Int32) (pn : Int32) (br : Int32) (ex : Nat → Int32) (sc : Nat → Int32) (se : Nat → Int32) (h : pX2_succeeds_104 ec sn dy wg pe pn br ex sc se = some res), V p l e (headSpec wsX2_succeeds rmX2_succeeds).room s m args below meth c g 2 0 0 (MQ below (QWi g A res.1 [(h0, .inr (0, [.ref q1, .ref q2, .ref q3, .int ec, .int sn, .int res.2.1, .int res.2.2.1, .int res.2.2.2.1, .int res.2.2.2.2.1, .int res.2.2.2.2.2.1])), (q1, .inr (3, [.int (nI 14), .ref a1])), (a1, .inl (cy 0, 84, .inl res.2.2.2.2.2.2.1)), (q2, .inr (3, [.int (nI 10), .ref a2])), (a2, .inl (cy 0, 60, .inl res.2.2.2.2.2.2.2.1)), (q3, .inr (3, [.int (nI 1), .ref a3])), (a3, .inl (cy 0, 3, .inl res.2.2.2.2.2.2.2.2))]) args s 0 0 A) A A [(h0, .inr (0, [.ref q1, .ref q2, .ref q3, .int ec, .int sn, .int dy, .int wg, .int pe, .int pn, .int br])), (q1, .inr (3, [.int (nI 14), .ref a1])), (a1, .inl (cy 0, 84, .inl ex)), (q2, .inr (3, [.int (nI 10), .ref a2])), (a2, .inl (cy 0, 60, .inl sc)), (q3, .inr (3, [.int (nI 1), .ref a3])), (a3, .inl (cy 0, 3, .inl se))] 104 [] [] := by
  intro ec sn dy wg pe pn br ex sc se  h
  unfold pX2_succeeds_104 at h
  refine v_iconst hC (v := (nI 0)) dX2_succeeds_104 (by decide) rfl ?_
  exact bX2_succeeds_105 hC hr _ _ _ _ _ _ _ _ _ _ _ h
set_option maxHeartbeats 4000000 in
set_option maxRecDepth 100000 in
theorem bX2_succeeds_126 {p : Program} {l : Launch} {e : Env} {s : State} {m : MethodId} {args : Array Value} {below : List Frame} {meth : Method} {c : Code} {g : va_G} {cy : Nat → ClassId} (hC : CX p s m args meth c g cy 2 cX2_succeeds wsX2_succeeds RX2) (hr : meth.sig.returnType = (some .boolean)) {h0 q1 a1 q2 a2 q3 a3 : Nat} {A : Nat → Prop} {res : Int32 × Int32 × Int32 × Int32 × Int32 × Int32 × (Nat → Int32) × (Nat → Int32) × (Nat → Int32)} : ∀ (ec : Int32) (sn : Int32) (dy : Int32) (wg : Int32) (pe : Int32) (pn : Int32) (br : Int32) (ex : Nat → Int32) (sc : Nat → Int32) (se : Nat → Int32) (s0 : Int32)(h : pX2_succeeds_126 ec sn dy wg pe pn br ex sc se s0 = some res), V p l e (headSpec wsX2_succeeds rmX2_succeeds).room s m args below meth c g 2 0 0 (MQ below (QWi g A res.1 [(h0, .inr (0, [.ref q1, .ref q2, .ref q3, .int ec, .int sn, .int res.2.1, .int res.2.2.1, .int res.2.2.2.1, .int res.2.2.2.2.1, .int res.2.2.2.2.2.1])), (q1, .inr (3, [.int (nI 14), .ref a1])), (a1, .inl (cy 0, 84, .inl res.2.2.2.2.2.2.1)), (q2, .inr (3, [.int (nI 10), .ref a2])), (a2, .inl (cy 0, 60, .inl res.2.2.2.2.2.2.2.1)), (q3, .inr (3, [.int (nI 1), .ref a3])), (a3, .inl (cy 0, 3, .inl res.2.2.2.2.2.2.2.2))]) args s 0 0 A) A A [(h0, .inr (0, [.ref q1, .ref q2, .ref q3, .int ec, .int sn, .int dy, .int wg, .int pe, .int pn, .int br])), (q1, .inr (3, [.int (nI 14), .ref a1])), (a1, .inl (cy 0, 84, .inl ex)), (q2, .inr (3, [.int (nI 10), .ref a2])), (a2, .inl (cy 0, 60, .inl sc)), (q3, .inr (3, [.int (nI 1), .ref a3])), (a3, .inl (cy 0, 3, .inl se))] 126 [] [.int s0] := by
  intro ec sn dy wg pe pn br ex sc se s0 h
  unfold pX2_succeeds_126 at h
  obtain ⟨b1, hb9, h⟩ := bind_g h
  obtain ⟨e9, hn⟩ := bz_g hb9
  obtain rfl := Option.some.inj h
  exact v_irw hC hr hn e9 dX2_succeeds_126
set_option maxHeartbeats 4000000 in
set_option maxRecDepth 100000 in
theorem bX2_succeeds_125 {p : Program} {l : Launch} {e : Env} {s : State} {m : MethodId} {args : Array Value} {below : List Frame} {meth : Method} {c : Code} {g : va_G} {cy : Nat → ClassId} (hC : CX p s m args meth c g cy 2 cX2_succeeds wsX2_succeeds RX2) (hr : meth.sig.returnType = (some .boolean)) {h0 q1 a1 q2 a2 q3 a3 : Nat} {A : Nat → Prop} {res : Int32 × Int32 × Int32 × Int32 × Int32 × Int32 × (Nat → Int32) × (Nat → Int32) × (Nat → Int32)} : ∀ (ec : Int32) (sn : Int32) (dy : Int32) (wg : Int32) (pe : Int32) (pn : Int32) (br : Int32) (ex : Nat → Int32) (sc : Nat → Int32) (se : Nat → Int32) (h : pX2_succeeds_125 ec sn dy wg pe pn br ex sc se = some res), V p l e (headSpec wsX2_succeeds rmX2_succeeds).room s m args below meth c g 2 0 0 (MQ below (QWi g A res.1 [(h0, .inr (0, [.ref q1, .ref q2, .ref q3, .int ec, .int sn, .int res.2.1, .int res.2.2.1, .int res.2.2.2.1, .int res.2.2.2.2.1, .int res.2.2.2.2.2.1])), (q1, .inr (3, [.int (nI 14), .ref a1])), (a1, .inl (cy 0, 84, .inl res.2.2.2.2.2.2.1)), (q2, .inr (3, [.int (nI 10), .ref a2])), (a2, .inl (cy 0, 60, .inl res.2.2.2.2.2.2.2.1)), (q3, .inr (3, [.int (nI 1), .ref a3])), (a3, .inl (cy 0, 3, .inl res.2.2.2.2.2.2.2.2))]) args s 0 0 A) A A [(h0, .inr (0, [.ref q1, .ref q2, .ref q3, .int ec, .int sn, .int dy, .int wg, .int pe, .int pn, .int br])), (q1, .inr (3, [.int (nI 14), .ref a1])), (a1, .inl (cy 0, 84, .inl ex)), (q2, .inr (3, [.int (nI 10), .ref a2])), (a2, .inl (cy 0, 60, .inl sc)), (q3, .inr (3, [.int (nI 1), .ref a3])), (a3, .inl (cy 0, 3, .inl se))] 125 [] [] := by
  intro ec sn dy wg pe pn br ex sc se  h
  unfold pX2_succeeds_125 at h
  refine v_iconst hC (v := (nI 0)) dX2_succeeds_125 (by decide) rfl ?_
  exact bX2_succeeds_126 hC hr _ _ _ _ _ _ _ _ _ _ _ h
set_option maxHeartbeats 4000000 in
set_option maxRecDepth 100000 in
theorem bX2_succeeds_161 {p : Program} {l : Launch} {e : Env} {s : State} {m : MethodId} {args : Array Value} {below : List Frame} {meth : Method} {c : Code} {g : va_G} {cy : Nat → ClassId} (hC : CX p s m args meth c g cy 2 cX2_succeeds wsX2_succeeds RX2) (hr : meth.sig.returnType = (some .boolean)) {h0 q1 a1 q2 a2 q3 a3 : Nat} {A : Nat → Prop} {res : Int32 × Int32 × Int32 × Int32 × Int32 × Int32 × (Nat → Int32) × (Nat → Int32) × (Nat → Int32)} : ∀ (ec : Int32) (sn : Int32) (dy : Int32) (wg : Int32) (pe : Int32) (pn : Int32) (br : Int32) (ex : Nat → Int32) (sc : Nat → Int32) (se : Nat → Int32) (s0 : Int32)(h : pX2_succeeds_161 ec sn dy wg pe pn br ex sc se s0 = some res), V p l e (headSpec wsX2_succeeds rmX2_succeeds).room s m args below meth c g 2 0 0 (MQ below (QWi g A res.1 [(h0, .inr (0, [.ref q1, .ref q2, .ref q3, .int ec, .int sn, .int res.2.1, .int res.2.2.1, .int res.2.2.2.1, .int res.2.2.2.2.1, .int res.2.2.2.2.2.1])), (q1, .inr (3, [.int (nI 14), .ref a1])), (a1, .inl (cy 0, 84, .inl res.2.2.2.2.2.2.1)), (q2, .inr (3, [.int (nI 10), .ref a2])), (a2, .inl (cy 0, 60, .inl res.2.2.2.2.2.2.2.1)), (q3, .inr (3, [.int (nI 1), .ref a3])), (a3, .inl (cy 0, 3, .inl res.2.2.2.2.2.2.2.2))]) args s 0 0 A) A A [(h0, .inr (0, [.ref q1, .ref q2, .ref q3, .int ec, .int sn, .int dy, .int wg, .int pe, .int pn, .int br])), (q1, .inr (3, [.int (nI 14), .ref a1])), (a1, .inl (cy 0, 84, .inl ex)), (q2, .inr (3, [.int (nI 10), .ref a2])), (a2, .inl (cy 0, 60, .inl sc)), (q3, .inr (3, [.int (nI 1), .ref a3])), (a3, .inl (cy 0, 3, .inl se))] 161 [] [.int s0] := by
  intro ec sn dy wg pe pn br ex sc se s0 h
  unfold pX2_succeeds_161 at h
  obtain ⟨b1, hb9, h⟩ := bind_g h
  obtain ⟨e9, hn⟩ := bz_g hb9
  obtain rfl := Option.some.inj h
  exact v_irw hC hr hn e9 dX2_succeeds_161
set_option maxHeartbeats 4000000 in
set_option maxRecDepth 100000 in
theorem bX2_succeeds_160 {p : Program} {l : Launch} {e : Env} {s : State} {m : MethodId} {args : Array Value} {below : List Frame} {meth : Method} {c : Code} {g : va_G} {cy : Nat → ClassId} (hC : CX p s m args meth c g cy 2 cX2_succeeds wsX2_succeeds RX2) (hr : meth.sig.returnType = (some .boolean)) {h0 q1 a1 q2 a2 q3 a3 : Nat} {A : Nat → Prop} {res : Int32 × Int32 × Int32 × Int32 × Int32 × Int32 × (Nat → Int32) × (Nat → Int32) × (Nat → Int32)} : ∀ (ec : Int32) (sn : Int32) (dy : Int32) (wg : Int32) (pe : Int32) (pn : Int32) (br : Int32) (ex : Nat → Int32) (sc : Nat → Int32) (se : Nat → Int32) (h : pX2_succeeds_160 ec sn dy wg pe pn br ex sc se = some res), V p l e (headSpec wsX2_succeeds rmX2_succeeds).room s m args below meth c g 2 0 0 (MQ below (QWi g A res.1 [(h0, .inr (0, [.ref q1, .ref q2, .ref q3, .int ec, .int sn, .int res.2.1, .int res.2.2.1, .int res.2.2.2.1, .int res.2.2.2.2.1, .int res.2.2.2.2.2.1])), (q1, .inr (3, [.int (nI 14), .ref a1])), (a1, .inl (cy 0, 84, .inl res.2.2.2.2.2.2.1)), (q2, .inr (3, [.int (nI 10), .ref a2])), (a2, .inl (cy 0, 60, .inl res.2.2.2.2.2.2.2.1)), (q3, .inr (3, [.int (nI 1), .ref a3])), (a3, .inl (cy 0, 3, .inl res.2.2.2.2.2.2.2.2))]) args s 0 0 A) A A [(h0, .inr (0, [.ref q1, .ref q2, .ref q3, .int ec, .int sn, .int dy, .int wg, .int pe, .int pn, .int br])), (q1, .inr (3, [.int (nI 14), .ref a1])), (a1, .inl (cy 0, 84, .inl ex)), (q2, .inr (3, [.int (nI 10), .ref a2])), (a2, .inl (cy 0, 60, .inl sc)), (q3, .inr (3, [.int (nI 1), .ref a3])), (a3, .inl (cy 0, 3, .inl se))] 160 [] [] := by
  intro ec sn dy wg pe pn br ex sc se  h
  unfold pX2_succeeds_160 at h
  refine v_iconst hC (v := (nI 0)) dX2_succeeds_160 (by decide) rfl ?_
  exact bX2_succeeds_161 hC hr _ _ _ _ _ _ _ _ _ _ _ h
set_option maxHeartbeats 4000000 in
set_option maxRecDepth 100000 in
theorem bX2_succeeds_214 {p : Program} {l : Launch} {e : Env} {s : State} {m : MethodId} {args : Array Value} {below : List Frame} {meth : Method} {c : Code} {g : va_G} {cy : Nat → ClassId} (hC : CX p s m args meth c g cy 2 cX2_succeeds wsX2_succeeds RX2) (hr : meth.sig.returnType = (some .boolean)) {h0 q1 a1 q2 a2 q3 a3 : Nat} {A : Nat → Prop} {res : Int32 × Int32 × Int32 × Int32 × Int32 × Int32 × (Nat → Int32) × (Nat → Int32) × (Nat → Int32)} : ∀ (ec : Int32) (sn : Int32) (dy : Int32) (wg : Int32) (pe : Int32) (pn : Int32) (br : Int32) (ex : Nat → Int32) (sc : Nat → Int32) (se : Nat → Int32) (s0 : Int32)(h : pX2_succeeds_214 ec sn dy wg pe pn br ex sc se s0 = some res), V p l e (headSpec wsX2_succeeds rmX2_succeeds).room s m args below meth c g 2 0 0 (MQ below (QWi g A res.1 [(h0, .inr (0, [.ref q1, .ref q2, .ref q3, .int ec, .int sn, .int res.2.1, .int res.2.2.1, .int res.2.2.2.1, .int res.2.2.2.2.1, .int res.2.2.2.2.2.1])), (q1, .inr (3, [.int (nI 14), .ref a1])), (a1, .inl (cy 0, 84, .inl res.2.2.2.2.2.2.1)), (q2, .inr (3, [.int (nI 10), .ref a2])), (a2, .inl (cy 0, 60, .inl res.2.2.2.2.2.2.2.1)), (q3, .inr (3, [.int (nI 1), .ref a3])), (a3, .inl (cy 0, 3, .inl res.2.2.2.2.2.2.2.2))]) args s 0 0 A) A A [(h0, .inr (0, [.ref q1, .ref q2, .ref q3, .int ec, .int sn, .int dy, .int wg, .int pe, .int pn, .int br])), (q1, .inr (3, [.int (nI 14), .ref a1])), (a1, .inl (cy 0, 84, .inl ex)), (q2, .inr (3, [.int (nI 10), .ref a2])), (a2, .inl (cy 0, 60, .inl sc)), (q3, .inr (3, [.int (nI 1), .ref a3])), (a3, .inl (cy 0, 3, .inl se))] 214 [] [.int s0] := by
  intro ec sn dy wg pe pn br ex sc se s0 h
  unfold pX2_succeeds_214 at h
  obtain ⟨b1, hb9, h⟩ := bind_g h
  obtain ⟨e9, hn⟩ := bz_g hb9
  obtain rfl := Option.some.inj h
  exact v_irw hC hr hn e9 dX2_succeeds_214
set_option maxHeartbeats 4000000 in
set_option maxRecDepth 100000 in
theorem bX2_succeeds_213 {p : Program} {l : Launch} {e : Env} {s : State} {m : MethodId} {args : Array Value} {below : List Frame} {meth : Method} {c : Code} {g : va_G} {cy : Nat → ClassId} (hC : CX p s m args meth c g cy 2 cX2_succeeds wsX2_succeeds RX2) (hr : meth.sig.returnType = (some .boolean)) {h0 q1 a1 q2 a2 q3 a3 : Nat} {A : Nat → Prop} {res : Int32 × Int32 × Int32 × Int32 × Int32 × Int32 × (Nat → Int32) × (Nat → Int32) × (Nat → Int32)} : ∀ (ec : Int32) (sn : Int32) (dy : Int32) (wg : Int32) (pe : Int32) (pn : Int32) (br : Int32) (ex : Nat → Int32) (sc : Nat → Int32) (se : Nat → Int32) (h : pX2_succeeds_213 ec sn dy wg pe pn br ex sc se = some res), V p l e (headSpec wsX2_succeeds rmX2_succeeds).room s m args below meth c g 2 0 0 (MQ below (QWi g A res.1 [(h0, .inr (0, [.ref q1, .ref q2, .ref q3, .int ec, .int sn, .int res.2.1, .int res.2.2.1, .int res.2.2.2.1, .int res.2.2.2.2.1, .int res.2.2.2.2.2.1])), (q1, .inr (3, [.int (nI 14), .ref a1])), (a1, .inl (cy 0, 84, .inl res.2.2.2.2.2.2.1)), (q2, .inr (3, [.int (nI 10), .ref a2])), (a2, .inl (cy 0, 60, .inl res.2.2.2.2.2.2.2.1)), (q3, .inr (3, [.int (nI 1), .ref a3])), (a3, .inl (cy 0, 3, .inl res.2.2.2.2.2.2.2.2))]) args s 0 0 A) A A [(h0, .inr (0, [.ref q1, .ref q2, .ref q3, .int ec, .int sn, .int dy, .int wg, .int pe, .int pn, .int br])), (q1, .inr (3, [.int (nI 14), .ref a1])), (a1, .inl (cy 0, 84, .inl ex)), (q2, .inr (3, [.int (nI 10), .ref a2])), (a2, .inl (cy 0, 60, .inl sc)), (q3, .inr (3, [.int (nI 1), .ref a3])), (a3, .inl (cy 0, 3, .inl se))] 213 [] [] := by
  intro ec sn dy wg pe pn br ex sc se  h
  unfold pX2_succeeds_213 at h
  refine v_iconst hC (v := (nI 0)) dX2_succeeds_213 (by decide) rfl ?_
  exact bX2_succeeds_214 hC hr _ _ _ _ _ _ _ _ _ _ _ h
set_option maxHeartbeats 4000000 in
set_option maxRecDepth 100000 in
theorem bX2_succeeds_257 {p : Program} {l : Launch} {e : Env} {s : State} {m : MethodId} {args : Array Value} {below : List Frame} {meth : Method} {c : Code} {g : va_G} {cy : Nat → ClassId} (hC : CX p s m args meth c g cy 2 cX2_succeeds wsX2_succeeds RX2) (hr : meth.sig.returnType = (some .boolean)) {h0 q1 a1 q2 a2 q3 a3 : Nat} {A : Nat → Prop} {res : Int32 × Int32 × Int32 × Int32 × Int32 × Int32 × (Nat → Int32) × (Nat → Int32) × (Nat → Int32)} : ∀ (ec : Int32) (sn : Int32) (dy : Int32) (wg : Int32) (pe : Int32) (pn : Int32) (br : Int32) (ex : Nat → Int32) (sc : Nat → Int32) (se : Nat → Int32) (s0 : Int32)(h : pX2_succeeds_257 ec sn dy wg pe pn br ex sc se s0 = some res), V p l e (headSpec wsX2_succeeds rmX2_succeeds).room s m args below meth c g 2 0 0 (MQ below (QWi g A res.1 [(h0, .inr (0, [.ref q1, .ref q2, .ref q3, .int ec, .int sn, .int res.2.1, .int res.2.2.1, .int res.2.2.2.1, .int res.2.2.2.2.1, .int res.2.2.2.2.2.1])), (q1, .inr (3, [.int (nI 14), .ref a1])), (a1, .inl (cy 0, 84, .inl res.2.2.2.2.2.2.1)), (q2, .inr (3, [.int (nI 10), .ref a2])), (a2, .inl (cy 0, 60, .inl res.2.2.2.2.2.2.2.1)), (q3, .inr (3, [.int (nI 1), .ref a3])), (a3, .inl (cy 0, 3, .inl res.2.2.2.2.2.2.2.2))]) args s 0 0 A) A A [(h0, .inr (0, [.ref q1, .ref q2, .ref q3, .int ec, .int sn, .int dy, .int wg, .int pe, .int pn, .int br])), (q1, .inr (3, [.int (nI 14), .ref a1])), (a1, .inl (cy 0, 84, .inl ex)), (q2, .inr (3, [.int (nI 10), .ref a2])), (a2, .inl (cy 0, 60, .inl sc)), (q3, .inr (3, [.int (nI 1), .ref a3])), (a3, .inl (cy 0, 3, .inl se))] 257 [] [.int s0] := by
  intro ec sn dy wg pe pn br ex sc se s0 h
  unfold pX2_succeeds_257 at h
  obtain ⟨b1, hb9, h⟩ := bind_g h
  obtain ⟨e9, hn⟩ := bz_g hb9
  obtain rfl := Option.some.inj h
  exact v_irw hC hr hn e9 dX2_succeeds_257
set_option maxHeartbeats 4000000 in
set_option maxRecDepth 100000 in
theorem bX2_succeeds_256 {p : Program} {l : Launch} {e : Env} {s : State} {m : MethodId} {args : Array Value} {below : List Frame} {meth : Method} {c : Code} {g : va_G} {cy : Nat → ClassId} (hC : CX p s m args meth c g cy 2 cX2_succeeds wsX2_succeeds RX2) (hr : meth.sig.returnType = (some .boolean)) {h0 q1 a1 q2 a2 q3 a3 : Nat} {A : Nat → Prop} {res : Int32 × Int32 × Int32 × Int32 × Int32 × Int32 × (Nat → Int32) × (Nat → Int32) × (Nat → Int32)} : ∀ (ec : Int32) (sn : Int32) (dy : Int32) (wg : Int32) (pe : Int32) (pn : Int32) (br : Int32) (ex : Nat → Int32) (sc : Nat → Int32) (se : Nat → Int32) (h : pX2_succeeds_256 ec sn dy wg pe pn br ex sc se = some res), V p l e (headSpec wsX2_succeeds rmX2_succeeds).room s m args below meth c g 2 0 0 (MQ below (QWi g A res.1 [(h0, .inr (0, [.ref q1, .ref q2, .ref q3, .int ec, .int sn, .int res.2.1, .int res.2.2.1, .int res.2.2.2.1, .int res.2.2.2.2.1, .int res.2.2.2.2.2.1])), (q1, .inr (3, [.int (nI 14), .ref a1])), (a1, .inl (cy 0, 84, .inl res.2.2.2.2.2.2.1)), (q2, .inr (3, [.int (nI 10), .ref a2])), (a2, .inl (cy 0, 60, .inl res.2.2.2.2.2.2.2.1)), (q3, .inr (3, [.int (nI 1), .ref a3])), (a3, .inl (cy 0, 3, .inl res.2.2.2.2.2.2.2.2))]) args s 0 0 A) A A [(h0, .inr (0, [.ref q1, .ref q2, .ref q3, .int ec, .int sn, .int dy, .int wg, .int pe, .int pn, .int br])), (q1, .inr (3, [.int (nI 14), .ref a1])), (a1, .inl (cy 0, 84, .inl ex)), (q2, .inr (3, [.int (nI 10), .ref a2])), (a2, .inl (cy 0, 60, .inl sc)), (q3, .inr (3, [.int (nI 1), .ref a3])), (a3, .inl (cy 0, 3, .inl se))] 256 [] [] := by
  intro ec sn dy wg pe pn br ex sc se  h
  unfold pX2_succeeds_256 at h
  refine v_iconst hC (v := (nI 0)) dX2_succeeds_256 (by decide) rfl ?_
  exact bX2_succeeds_257 hC hr _ _ _ _ _ _ _ _ _ _ _ h
set_option maxHeartbeats 4000000 in
set_option maxRecDepth 100000 in
theorem bX2_succeeds_284 {p : Program} {l : Launch} {e : Env} {s : State} {m : MethodId} {args : Array Value} {below : List Frame} {meth : Method} {c : Code} {g : va_G} {cy : Nat → ClassId} (hC : CX p s m args meth c g cy 2 cX2_succeeds wsX2_succeeds RX2) (hr : meth.sig.returnType = (some .boolean)) {h0 q1 a1 q2 a2 q3 a3 : Nat} {A : Nat → Prop} {res : Int32 × Int32 × Int32 × Int32 × Int32 × Int32 × (Nat → Int32) × (Nat → Int32) × (Nat → Int32)} : ∀ (ec : Int32) (sn : Int32) (dy : Int32) (wg : Int32) (pe : Int32) (pn : Int32) (br : Int32) (ex : Nat → Int32) (sc : Nat → Int32) (se : Nat → Int32) (s0 : Int32)(h : pX2_succeeds_284 ec sn dy wg pe pn br ex sc se s0 = some res), V p l e (headSpec wsX2_succeeds rmX2_succeeds).room s m args below meth c g 2 0 0 (MQ below (QWi g A res.1 [(h0, .inr (0, [.ref q1, .ref q2, .ref q3, .int ec, .int sn, .int res.2.1, .int res.2.2.1, .int res.2.2.2.1, .int res.2.2.2.2.1, .int res.2.2.2.2.2.1])), (q1, .inr (3, [.int (nI 14), .ref a1])), (a1, .inl (cy 0, 84, .inl res.2.2.2.2.2.2.1)), (q2, .inr (3, [.int (nI 10), .ref a2])), (a2, .inl (cy 0, 60, .inl res.2.2.2.2.2.2.2.1)), (q3, .inr (3, [.int (nI 1), .ref a3])), (a3, .inl (cy 0, 3, .inl res.2.2.2.2.2.2.2.2))]) args s 0 0 A) A A [(h0, .inr (0, [.ref q1, .ref q2, .ref q3, .int ec, .int sn, .int dy, .int wg, .int pe, .int pn, .int br])), (q1, .inr (3, [.int (nI 14), .ref a1])), (a1, .inl (cy 0, 84, .inl ex)), (q2, .inr (3, [.int (nI 10), .ref a2])), (a2, .inl (cy 0, 60, .inl sc)), (q3, .inr (3, [.int (nI 1), .ref a3])), (a3, .inl (cy 0, 3, .inl se))] 284 [] [.int s0] := by
  intro ec sn dy wg pe pn br ex sc se s0 h
  unfold pX2_succeeds_284 at h
  obtain ⟨b1, hb9, h⟩ := bind_g h
  obtain ⟨e9, hn⟩ := bz_g hb9
  obtain rfl := Option.some.inj h
  exact v_irw hC hr hn e9 dX2_succeeds_284
set_option maxHeartbeats 4000000 in
set_option maxRecDepth 100000 in
theorem bX2_succeeds_283 {p : Program} {l : Launch} {e : Env} {s : State} {m : MethodId} {args : Array Value} {below : List Frame} {meth : Method} {c : Code} {g : va_G} {cy : Nat → ClassId} (hC : CX p s m args meth c g cy 2 cX2_succeeds wsX2_succeeds RX2) (hr : meth.sig.returnType = (some .boolean)) {h0 q1 a1 q2 a2 q3 a3 : Nat} {A : Nat → Prop} {res : Int32 × Int32 × Int32 × Int32 × Int32 × Int32 × (Nat → Int32) × (Nat → Int32) × (Nat → Int32)} : ∀ (ec : Int32) (sn : Int32) (dy : Int32) (wg : Int32) (pe : Int32) (pn : Int32) (br : Int32) (ex : Nat → Int32) (sc : Nat → Int32) (se : Nat → Int32) (h : pX2_succeeds_283 ec sn dy wg pe pn br ex sc se = some res), V p l e (headSpec wsX2_succeeds rmX2_succeeds).room s m args below meth c g 2 0 0 (MQ below (QWi g A res.1 [(h0, .inr (0, [.ref q1, .ref q2, .ref q3, .int ec, .int sn, .int res.2.1, .int res.2.2.1, .int res.2.2.2.1, .int res.2.2.2.2.1, .int res.2.2.2.2.2.1])), (q1, .inr (3, [.int (nI 14), .ref a1])), (a1, .inl (cy 0, 84, .inl res.2.2.2.2.2.2.1)), (q2, .inr (3, [.int (nI 10), .ref a2])), (a2, .inl (cy 0, 60, .inl res.2.2.2.2.2.2.2.1)), (q3, .inr (3, [.int (nI 1), .ref a3])), (a3, .inl (cy 0, 3, .inl res.2.2.2.2.2.2.2.2))]) args s 0 0 A) A A [(h0, .inr (0, [.ref q1, .ref q2, .ref q3, .int ec, .int sn, .int dy, .int wg, .int pe, .int pn, .int br])), (q1, .inr (3, [.int (nI 14), .ref a1])), (a1, .inl (cy 0, 84, .inl ex)), (q2, .inr (3, [.int (nI 10), .ref a2])), (a2, .inl (cy 0, 60, .inl sc)), (q3, .inr (3, [.int (nI 1), .ref a3])), (a3, .inl (cy 0, 3, .inl se))] 283 [] [] := by
  intro ec sn dy wg pe pn br ex sc se  h
  unfold pX2_succeeds_283 at h
  refine v_iconst hC (v := (nI 0)) dX2_succeeds_283 (by decide) rfl ?_
  exact bX2_succeeds_284 hC hr _ _ _ _ _ _ _ _ _ _ _ h
set_option maxHeartbeats 4000000 in
set_option maxRecDepth 100000 in
theorem mX2_succeeds (l : Launch) (g : va_G) (cy : Nat → ClassId) (h0 q1 a1 q2 a2 q3 a3 : Nat) (ec : Int32) (sn : Int32) (dy : Int32) (wg : Int32) (pe : Int32) (pn : Int32) (br : Int32) (ex : Nat → Int32) (sc : Nat → Int32) (se : Nat → Int32) (x1 : Int32) {res : Int32 × Int32 × Int32 × Int32 × Int32 × Int32 × (Nat → Int32) × (Nat → Int32) × (Nat → Int32)} (h : pX2_succeeds ec sn dy wg pe pn br ex sc se x1 = some res) : Met l yX2_succeeds wsX2_succeeds rmX2_succeeds (PW [.ref h0, .int x1] g cy [(h0, .inr (0, [.ref q1, .ref q2, .ref q3, .int ec, .int sn, .int dy, .int wg, .int pe, .int pn, .int br])), (q1, .inr (3, [.int (nI 14), .ref a1])), (a1, .inl (cy 0, 84, .inl ex)), (q2, .inr (3, [.int (nI 10), .ref a2])), (a2, .inl (cy 0, 60, .inl sc)), (q3, .inr (3, [.int (nI 1), .ref a3])), (a3, .inl (cy 0, 3, .inl se))]) (QWi g (wA [(h0, .inr (0, [.ref q1, .ref q2, .ref q3, .int ec, .int sn, .int dy, .int wg, .int pe, .int pn, .int br])), (q1, .inr (3, [.int (nI 14), .ref a1])), (a1, .inl (cy 0, 84, .inl ex)), (q2, .inr (3, [.int (nI 10), .ref a2])), (a2, .inl (cy 0, 60, .inl sc)), (q3, .inr (3, [.int (nI 1), .ref a3])), (a3, .inl (cy 0, 3, .inl se))]) res.1 [(h0, .inr (0, [.ref q1, .ref q2, .ref q3, .int ec, .int sn, .int res.2.1, .int res.2.2.1, .int res.2.2.2.1, .int res.2.2.2.2.1, .int res.2.2.2.2.2.1])), (q1, .inr (3, [.int (nI 14), .ref a1])), (a1, .inl (cy 0, 84, .inl res.2.2.2.2.2.2.1)), (q2, .inr (3, [.int (nI 10), .ref a2])), (a2, .inl (cy 0, 60, .inl res.2.2.2.2.2.2.2.1)), (q3, .inr (3, [.int (nI 1), .ref a3])), (a3, .inl (cy 0, 3, .inl res.2.2.2.2.2.2.2.2))]) 0 0 (wA [(h0, .inr (0, [.ref q1, .ref q2, .ref q3, .int ec, .int sn, .int dy, .int wg, .int pe, .int pn, .int br])), (q1, .inr (3, [.int (nI 14), .ref a1])), (a1, .inl (cy 0, 84, .inl ex)), (q2, .inr (3, [.int (nI 10), .ref a2])), (a2, .inl (cy 0, 60, .inl sc)), (q3, .inr (3, [.int (nI 1), .ref a3])), (a3, .inl (cy 0, 3, .inl se))]) := by
  refine m_ofV (cc := cX2_succeeds) (nL := 2) (ret := (some .boolean)) (B := (wA [(h0, .inr (0, [.ref q1, .ref q2, .ref q3, .int ec, .int sn, .int dy, .int wg, .int pe, .int pn, .int br])), (q1, .inr (3, [.int (nI 14), .ref a1])), (a1, .inl (cy 0, 84, .inl ex)), (q2, .inr (3, [.int (nI 10), .ref a2])), (a2, .inl (cy 0, 60, .inl sc)), (q3, .inr (3, [.int (nI 1), .ref a3])), (a3, .inl (cy 0, 3, .inl se))])) RX2 rfl (by decide) rfl [(0, .ref h0), (1, .int x1)] rfl (Nat.le_of_ble_eq_true rfl) (wA.self) ?_
  intro p e s m args below meth c hC hr
  generalize (wA [(h0, .inr (0, [.ref q1, .ref q2, .ref q3, .int ec, .int sn, .int dy, .int wg, .int pe, .int pn, .int br])), (q1, .inr (3, [.int (nI 14), .ref a1])), (a1, .inl (cy 0, 84, .inl ex)), (q2, .inr (3, [.int (nI 10), .ref a2])), (a2, .inl (cy 0, 60, .inl sc)), (q3, .inr (3, [.int (nI 1), .ref a3])), (a3, .inl (cy 0, 3, .inl se))]) = A
  unfold pX2_succeeds at h
  refine v_iload_n hC dX2_succeeds_0 rfl 1 rfl rfl ?_
  refine v_sipush hC (v := (nI 10000)) dX2_succeeds_1 (by decide) rfl ?_
  refine v_idiv hC dX2_succeeds_4 (by decide) rfl ?_
  by_cases c1 : (x1 / (nI 10000)) = (nI 1)
  · have h := ite_t c1 h
    refine v_tswI hC (v := (nI 1)) (tgt := 56) dX2_succeeds_5 c1 (by decide) (by decide) rfl (by decide) ?_
    refine v_iload_n hC dX2_succeeds_56 rfl 1 rfl rfl ?_
    refine v_sipush hC (v := (nI 1000)) dX2_succeeds_57 (by decide) rfl ?_
    refine v_irem hC dX2_succeeds_60 (by decide) rfl ?_
    refine v_if_ne hC (tgt := 83) dX2_succeeds_61 (by decide) rfl (fun c => ?_) (fun c => ?_)
    · have h := ite_f c h
      exact v_sub [] (lv' := []) rfl (bX2_succeeds_83 hC hr _ _ _ _ _ _ _ _ _ _ h)
    · have h := ite_t c h
      refine v_aload_n hC dX2_succeeds_64 rfl 0 rfl rfl ?_
      refine v_iload_n hC dX2_succeeds_65 rfl 1 rfl rfl ?_
      refine v_sipush hC (v := (nI 1000)) dX2_succeeds_66 (by decide) rfl ?_
      refine v_idiv hC dX2_succeeds_69 (by decide) rfl ?_
      refine v_bipush hC (v := (nI 10)) dX2_succeeds_70 (by decide) rfl ?_
      refine v_irem hC dX2_succeeds_72 (by decide) rfl ?_
      obtain ⟨v1, hv1, h⟩ := bind_g h
      refine v_callVwi hC (n := 1) (st := []) [(h0, .inr (0, [.ref q1, .ref q2, .ref q3, .int ec, .int sn, .int dy, .int v1.2.1, .int v1.2.2.1, .int v1.2.2.2.1, .int v1.2.2.2.2.1])), (q1, .inr (3, [.int (nI 14), .ref a1])), (a1, .inl (cy 0, 84, .inl v1.2.2.2.2.2.1)), (q2, .inr (3, [.int (nI 10), .ref a2])), (a2, .inl (cy 0, 60, .inl v1.2.2.2.2.2.2)), (q3, .inr (3, [.int (nI 1), .ref a3])), (a3, .inl (cy 0, 3, .inl se))] _ (mX0_shootIfPossible l g cy h0 q1 a1 q2 a2 q3 a3 ec sn dy wg pe pn br ex sc se ((x1 / (nI 1000)) - (x1 / (nI 1000)) / (nI 10) * (nI 10)) hv1) gX2_succeeds_X0_shootIfPossible rfl rfl rfl (by decide +kernel) ⟨Nat.le_of_ble_eq_true rfl, Nat.le_of_ble_eq_true rfl⟩ 0 rfl rfl [0, 1, 2, 3, 4, 5, 6] [] rfl rfl rfl rfl rfl rfl rfl rfl rfl (Nat.le_of_ble_eq_true rfl) rfl ⟨Nat.zero_le _, Nat.zero_le _⟩ dX2_succeeds_73 rfl ?_
      refine v_if_eq hC (tgt := 83) dX2_succeeds_76 (by decide) rfl (fun c => ?_) (fun c => ?_)
      · have h := ite_t c h
        exact v_sub [] (lv' := []) rfl (bX2_succeeds_83 hC hr _ _ _ _ _ _ _ _ _ _ h)
      · have h := ite_f c h
        refine v_iconst hC (v := (nI 1)) dX2_succeeds_79 (by decide) rfl ?_
        refine v_goto hC (tgt := 84) dX2_succeeds_80 (by decide) ?_
        exact v_sub [] (lv' := []) rfl (bX2_succeeds_84 hC hr _ _ _ _ _ _ _ _ _ _ _ h)
  · have h := ite_f c1 h
    by_cases c2 : (x1 / (nI 10000)) = (nI 2)
    · have h := ite_t c2 h
      refine v_tswI hC (v := (nI 2)) (tgt := 85) dX2_succeeds_5 c2 (by decide) (by decide) rfl (by decide) ?_
      refine v_iload_n hC dX2_succeeds_85 rfl 1 rfl rfl ?_
      refine v_sipush hC (v := (nI 10000)) dX2_succeeds_86 (by decide) rfl ?_
      refine v_irem hC dX2_succeeds_89 (by decide) rfl ?_
      refine v_if_ne hC (tgt := 104) dX2_succeeds_90 (by decide) rfl (fun c => ?_) (fun c => ?_)
      · have h := ite_f c h
        exact v_sub [] (lv' := []) rfl (bX2_succeeds_104 hC hr _ _ _ _ _ _ _ _ _ _ h)
      · have h := ite_t c h
        refine v_aload_n hC dX2_succeeds_93 rfl 0 rfl rfl ?_
        obtain ⟨v2, hv2, h⟩ := bind_g h
        refine v_callVwi hC (n := 0) (st := []) [(h0, .inr (0, [.ref q1, .ref q2, .ref q3, .int ec, .int sn, .int dy, .int wg, .int pe, .int pn, .int br])), (q1, .inr (3, [.int (nI 14), .ref a1])), (a1, .inl (cy 0, 84, .inl v2.2)), (q2, .inr (3, [.int (nI 10), .ref a2])), (a2, .inl (cy 0, 60, .inl sc)), (q3, .inr (3, [.int (nI 1), .ref a3])), (a3, .inl (cy 0, 3, .inl se))] _ (mX0_eat l g cy h0 q1 a1 q2 a2 q3 a3 ec sn dy wg pe pn br ex sc se hv2) gX2_succeeds_X0_eat rfl rfl rfl (by decide +kernel) ⟨Nat.le_of_ble_eq_true rfl, Nat.le_of_ble_eq_true rfl⟩ 0 rfl rfl [0, 1, 2, 3, 4, 5, 6] [] rfl rfl rfl rfl rfl rfl rfl rfl rfl (Nat.le_of_ble_eq_true rfl) rfl ⟨Nat.zero_le _, Nat.zero_le _⟩ dX2_succeeds_94 rfl ?_
        refine v_if_lt hC (tgt := 104) dX2_succeeds_97 (by decide) rfl (fun c => ?_) (fun c => ?_)
        · have h := ite_t c h
          exact v_sub [] (lv' := []) rfl (bX2_succeeds_104 hC hr _ _ _ _ _ _ _ _ _ _ h)
        · have h := ite_f c h
          refine v_iconst hC (v := (nI 1)) dX2_succeeds_100 (by decide) rfl ?_
          refine v_goto hC (tgt := 105) dX2_succeeds_101 (by decide) ?_
          exact v_sub [] (lv' := []) rfl (bX2_succeeds_105 hC hr _ _ _ _ _ _ _ _ _ _ _ h)
    · have h := ite_f c2 h
      by_cases c3 : (x1 / (nI 10000)) = (nI 3)
      · have h := ite_t c3 h
        refine v_tswI hC (v := (nI 3)) (tgt := 106) dX2_succeeds_5 c3 (by decide) (by decide) rfl (by decide) ?_
        refine v_iload_n hC dX2_succeeds_106 rfl 1 rfl rfl ?_
        refine v_sipush hC (v := (nI 10000)) dX2_succeeds_107 (by decide) rfl ?_
        refine v_irem hC dX2_succeeds_110 (by decide) rfl ?_
        refine v_if_ne hC (tgt := 125) dX2_succeeds_111 (by decide) rfl (fun c => ?_) (fun c => ?_)
        · have h := ite_f c h
          exact v_sub [] (lv' := []) rfl (bX2_succeeds_125 hC hr _ _ _ _ _ _ _ _ _ _ h)
        · have h := ite_t c h
          refine v_aload_n hC dX2_succeeds_114 rfl 0 rfl rfl ?_
          obtain ⟨v3, hv3, h⟩ := bind_g h
          refine v_callVwi hC (n := 0) (st := []) [(h0, .inr (0, [.ref q1, .ref q2, .ref q3, .int ec, .int sn, .int v3.2.1, .int wg, .int pe, .int pn, .int br])), (q1, .inr (3, [.int (nI 14), .ref a1])), (a1, .inl (cy 0, 84, .inl v3.2.2)), (q2, .inr (3, [.int (nI 10), .ref a2])), (a2, .inl (cy 0, 60, .inl sc)), (q3, .inr (3, [.int (nI 1), .ref a3])), (a3, .inl (cy 0, 3, .inl se))] _ (mX0_beginDay l g cy h0 q1 a1 q2 a2 q3 a3 ec sn dy wg pe pn br ex sc se hv3) gX2_succeeds_X0_beginDay rfl rfl rfl (by decide +kernel) ⟨Nat.le_of_ble_eq_true rfl, Nat.le_of_ble_eq_true rfl⟩ 0 rfl rfl [0, 1, 2, 3, 4, 5, 6] [] rfl rfl rfl rfl rfl rfl rfl rfl rfl (Nat.le_of_ble_eq_true rfl) rfl ⟨Nat.zero_le _, Nat.zero_le _⟩ dX2_succeeds_115 rfl ?_
          refine v_if_le hC (tgt := 125) dX2_succeeds_118 (by decide) rfl (fun c => ?_) (fun c => ?_)
          · have h := ite_t c h
            exact v_sub [] (lv' := []) rfl (bX2_succeeds_125 hC hr _ _ _ _ _ _ _ _ _ _ h)
          · have h := ite_f c h
            refine v_iconst hC (v := (nI 1)) dX2_succeeds_121 (by decide) rfl ?_
            refine v_goto hC (tgt := 126) dX2_succeeds_122 (by decide) ?_
            exact v_sub [] (lv' := []) rfl (bX2_succeeds_126 hC hr _ _ _ _ _ _ _ _ _ _ _ h)
      · have h := ite_f c3 h
        by_cases c4 : (x1 / (nI 10000)) = (nI 4)
        · have h := ite_t c4 h
          refine v_tswI hC (v := (nI 4)) (tgt := 127) dX2_succeeds_5 c4 (by decide) (by decide) rfl (by decide) ?_
          refine v_iload_n hC dX2_succeeds_127 rfl 1 rfl rfl ?_
          refine v_bipush hC (v := (nI 10)) dX2_succeeds_128 (by decide) rfl ?_
          refine v_irem hC dX2_succeeds_130 (by decide) rfl ?_
          refine v_if_ne hC (tgt := 160) dX2_succeeds_131 (by decide) rfl (fun c => ?_) (fun c => ?_)
          · have h := ite_f c h
            exact v_sub [] (lv' := []) rfl (bX2_succeeds_160 hC hr _ _ _ _ _ _ _ _ _ _ h)
          · have h := ite_t c h
            refine v_aload_n hC dX2_succeeds_134 rfl 0 rfl rfl ?_
            refine v_iload_n hC dX2_succeeds_135 rfl 1 rfl rfl ?_
            refine v_sipush hC (v := (nI 1000)) dX2_succeeds_136 (by decide) rfl ?_
            refine v_idiv hC dX2_succeeds_139 (by decide) rfl ?_
            refine v_bipush hC (v := (nI 10)) dX2_succeeds_140 (by decide) rfl ?_
            refine v_irem hC dX2_succeeds_142 (by decide) rfl ?_
            refine v_iload_n hC dX2_succeeds_143 rfl 1 rfl rfl ?_
            refine v_bipush hC (v := (nI 10)) dX2_succeeds_144 (by decide) rfl ?_
            refine v_idiv hC dX2_succeeds_146 (by decide) rfl ?_
            refine v_bipush hC (v := (nI 100)) dX2_succeeds_147 (by decide) rfl ?_
            refine v_irem hC dX2_succeeds_149 (by decide) rfl ?_
            obtain ⟨v4, hv4, h⟩ := bind_g h
            refine v_callVwi hC (n := 2) (st := []) [(h0, .inr (0, [.ref q1, .ref q2, .ref q3, .int ec, .int sn, .int dy, .int wg, .int pe, .int pn, .int br])), (q1, .inr (3, [.int (nI 14), .ref a1])), (a1, .inl (cy 0, 84, .inl ex)), (q2, .inr (3, [.int (nI 10), .ref a2])), (a2, .inl (cy 0, 60, .inl v4.2)), (q3, .inr (3, [.int (nI 1), .ref a3])), (a3, .inl (cy 0, 3, .inl se))] _ (mX0_exchangeForLowest l g cy h0 q1 a1 q2 a2 q3 a3 ec sn dy wg pe pn br ex sc se ((x1 / (nI 1000)) - (x1 / (nI 1000)) / (nI 10) * (nI 10)) ((x1 / (nI 10)) - (x1 / (nI 10)) / (nI 100) * (nI 100)) hv4) gX2_succeeds_X0_exchangeForLowest rfl rfl rfl (by decide +kernel) ⟨Nat.le_of_ble_eq_true rfl, Nat.le_of_ble_eq_true rfl⟩ 0 rfl rfl [0, 1, 2, 3, 4, 5, 6] [] rfl rfl rfl rfl rfl rfl rfl rfl rfl (Nat.le_of_ble_eq_true rfl) rfl ⟨Nat.zero_le _, Nat.zero_le _⟩ dX2_succeeds_150 rfl ?_
            refine v_if_eq hC (tgt := 160) dX2_succeeds_153 (by decide) rfl (fun c => ?_) (fun c => ?_)
            · have h := ite_t c h
              exact v_sub [] (lv' := []) rfl (bX2_succeeds_160 hC hr _ _ _ _ _ _ _ _ _ _ h)
            · have h := ite_f c h
              refine v_iconst hC (v := (nI 1)) dX2_succeeds_156 (by decide) rfl ?_
              refine v_goto hC (tgt := 161) dX2_succeeds_157 (by decide) ?_
              exact v_sub [] (lv' := []) rfl (bX2_succeeds_161 hC hr _ _ _ _ _ _ _ _ _ _ _ h)
        · have h := ite_f c4 h
          by_cases c5 : (x1 / (nI 10000)) = (nI 5)
          · have h := ite_t c5 h
            refine v_tswI hC (v := (nI 5)) (tgt := 162) dX2_succeeds_5 c5 (by decide) (by decide) rfl (by decide) ?_
            refine v_aload_n hC dX2_succeeds_162 rfl 0 rfl rfl ?_
            refine v_iload_n hC dX2_succeeds_163 rfl 1 rfl rfl ?_
            refine v_sipush hC (v := (nI 1000)) dX2_succeeds_164 (by decide) rfl ?_
            refine v_idiv hC dX2_succeeds_167 (by decide) rfl ?_
            refine v_bipush hC (v := (nI 10)) dX2_succeeds_168 (by decide) rfl ?_
            refine v_irem hC dX2_succeeds_170 (by decide) rfl ?_
            refine v_iload_n hC dX2_succeeds_171 rfl 1 rfl rfl ?_
            refine v_sipush hC (v := (nI 1000)) dX2_succeeds_172 (by decide) rfl ?_
            refine v_irem hC dX2_succeeds_175 (by decide) rfl ?_
            obtain ⟨v5, hv5, h⟩ := bind_g h
            refine v_callSwi hC (n := 3) (st := []) [(h0, .inr (0, [.ref q1, .ref q2, .ref q3, .int ec, .int sn, .int dy, .int wg, .int pe, .int pn, .int br])), (q1, .inr (3, [.int (nI 14), .ref a1])), (a1, .inl (cy 0, 84, .inl ex)), (q2, .inr (3, [.int (nI 10), .ref a2])), (a2, .inl (cy 0, 60, .inl sc)), (q3, .inr (3, [.int (nI 1), .ref a3])), (a3, .inl (cy 0, 3, .inl v5.2))] _ (mX2_changes l g cy h0 q1 a1 q2 a2 q3 a3 ec sn dy wg pe pn br ex sc se ((x1 / (nI 1000)) - (x1 / (nI 1000)) / (nI 10) * (nI 10)) (x1 - x1 / (nI 1000) * (nI 1000)) hv5) gX2_succeeds_X2_changes rfl rfl rfl (by decide +kernel) ⟨Nat.le_of_ble_eq_true rfl, Nat.le_of_ble_eq_true rfl⟩ [0, 1, 2, 3, 4, 5, 6] [] rfl rfl rfl rfl rfl rfl rfl rfl rfl (Nat.le_of_ble_eq_true rfl) rfl ⟨Nat.zero_le _, Nat.zero_le _⟩ dX2_succeeds_176 rfl ?_
            obtain ⟨b6, hb9, h⟩ := bind_g h
            obtain ⟨e9, hn⟩ := bz_g hb9
            obtain rfl := Option.some.inj h
            exact v_irw hC hr hn e9 dX2_succeeds_179
          · have h := ite_f c5 h
            by_cases c6 : (x1 / (nI 10000)) = (nI 6)
            · have h := ite_t c6 h
              refine v_tswI hC (v := (nI 6)) (tgt := 180) dX2_succeeds_5 c6 (by decide) (by decide) rfl (by decide) ?_
              refine v_iload_n hC dX2_succeeds_180 rfl 1 rfl rfl ?_
              refine v_bipush hC (v := (nI 10)) dX2_succeeds_181 (by decide) rfl ?_
              refine v_irem hC dX2_succeeds_183 (by decide) rfl ?_
              refine v_if_ne hC (tgt := 213) dX2_succeeds_184 (by decide) rfl (fun c => ?_) (fun c => ?_)
              · have h := ite_f c h
                exact v_sub [] (lv' := []) rfl (bX2_succeeds_213 hC hr _ _ _ _ _ _ _ _ _ _ h)
              · have h := ite_t c h
                refine v_aload_n hC dX2_succeeds_187 rfl 0 rfl rfl ?_
                refine v_iload_n hC dX2_succeeds_188 rfl 1 rfl rfl ?_
                refine v_sipush hC (v := (nI 1000)) dX2_succeeds_189 (by decide) rfl ?_
                refine v_idiv hC dX2_succeeds_192 (by decide) rfl ?_
                refine v_bipush hC (v := (nI 10)) dX2_succeeds_193 (by decide) rfl ?_
                refine v_irem hC dX2_succeeds_195 (by decide) rfl ?_
                refine v_iload_n hC dX2_succeeds_196 rfl 1 rfl rfl ?_
                refine v_bipush hC (v := (nI 10)) dX2_succeeds_197 (by decide) rfl ?_
                refine v_idiv hC dX2_succeeds_199 (by decide) rfl ?_
                refine v_bipush hC (v := (nI 100)) dX2_succeeds_200 (by decide) rfl ?_
                refine v_irem hC dX2_succeeds_202 (by decide) rfl ?_
                obtain ⟨v7, hv7, h⟩ := bind_g h
                refine v_callSri hC (n := 3) (st := []) (mX2_isCast l g cy h0 q1 a1 q2 a2 q3 a3 ec sn dy wg pe pn br ex sc se ((x1 / (nI 1000)) - (x1 / (nI 1000)) / (nI 10) * (nI 10)) ((x1 / (nI 10)) - (x1 / (nI 10)) / (nI 100) * (nI 100)) hv7) gX2_succeeds_X2_isCast rfl rfl rfl (by decide +kernel) ⟨Nat.le_of_ble_eq_true rfl, Nat.le_of_ble_eq_true rfl⟩ [0, 1, 2, 3, 4, 5, 6] rfl rfl rfl rfl (Nat.le_of_ble_eq_true rfl) rfl ⟨Nat.zero_le _, Nat.zero_le _⟩ dX2_succeeds_203 rfl ?_
                refine v_if_eq hC (tgt := 213) dX2_succeeds_206 (by decide) rfl (fun c => ?_) (fun c => ?_)
                · have h := ite_t c h
                  exact v_sub [] (lv' := []) rfl (bX2_succeeds_213 hC hr _ _ _ _ _ _ _ _ _ _ h)
                · have h := ite_f c h
                  refine v_iconst hC (v := (nI 1)) dX2_succeeds_209 (by decide) rfl ?_
                  refine v_goto hC (tgt := 214) dX2_succeeds_210 (by decide) ?_
                  exact v_sub [] (lv' := []) rfl (bX2_succeeds_214 hC hr _ _ _ _ _ _ _ _ _ _ _ h)
            · have h := ite_f c6 h
              by_cases c7 : (x1 / (nI 10000)) = (nI 7)
              · have h := ite_t c7 h
                refine v_tswI hC (v := (nI 7)) (tgt := 215) dX2_succeeds_5 c7 (by decide) (by decide) rfl (by decide) ?_
                refine v_aload_n hC dX2_succeeds_215 rfl 0 rfl rfl ?_
                refine v_iload_n hC dX2_succeeds_216 rfl 1 rfl rfl ?_
                refine v_bipush hC (v := (nI 100)) dX2_succeeds_217 (by decide) rfl ?_
                refine v_idiv hC dX2_succeeds_219 (by decide) rfl ?_
                refine v_bipush hC (v := (nI 100)) dX2_succeeds_220 (by decide) rfl ?_
                refine v_irem hC dX2_succeeds_222 (by decide) rfl ?_
                refine v_iload_n hC dX2_succeeds_223 rfl 1 rfl rfl ?_
                refine v_bipush hC (v := (nI 100)) dX2_succeeds_224 (by decide) rfl ?_
                refine v_irem hC dX2_succeeds_226 (by decide) rfl ?_
                obtain ⟨v8, hv8, h⟩ := bind_g h
                refine v_callSri hC (n := 3) (st := []) (mX2_worksSo l g cy h0 q1 a1 q2 a2 q3 a3 ec sn dy wg pe pn br ex sc se ((x1 / (nI 100)) - (x1 / (nI 100)) / (nI 100) * (nI 100)) (x1 - x1 / (nI 100) * (nI 100)) hv8) gX2_succeeds_X2_worksSo rfl rfl rfl (by decide +kernel) ⟨Nat.le_of_ble_eq_true rfl, Nat.le_of_ble_eq_true rfl⟩ [0, 1, 2, 3, 4, 5, 6] rfl rfl rfl rfl (Nat.le_of_ble_eq_true rfl) rfl ⟨Nat.zero_le _, Nat.zero_le _⟩ dX2_succeeds_227 rfl ?_
                obtain ⟨b9, hb9, h⟩ := bind_g h
                obtain ⟨e9, hn⟩ := bz_g hb9
                obtain rfl := Option.some.inj h
                exact v_irw hC hr hn e9 dX2_succeeds_230
              · have h := ite_f c7 h
                by_cases c8 : (x1 / (nI 10000)) = (nI 8)
                · have h := ite_t c8 h
                  refine v_tswI hC (v := (nI 8)) (tgt := 231) dX2_succeeds_5 c8 (by decide) (by decide) rfl (by decide) ?_
                  refine v_iload_n hC dX2_succeeds_231 rfl 1 rfl rfl ?_
                  refine v_bipush hC (v := (nI 100)) dX2_succeeds_232 (by decide) rfl ?_
                  refine v_idiv hC dX2_succeeds_234 (by decide) rfl ?_
                  refine v_bipush hC (v := (nI 100)) dX2_succeeds_235 (by decide) rfl ?_
                  refine v_irem hC dX2_succeeds_237 (by decide) rfl ?_
                  refine v_if_ne hC (tgt := 256) dX2_succeeds_238 (by decide) rfl (fun c => ?_) (fun c => ?_)
                  · have h := ite_f c h
                    exact v_sub [] (lv' := []) rfl (bX2_succeeds_256 hC hr _ _ _ _ _ _ _ _ _ _ h)
                  · have h := ite_t c h
                    refine v_aload_n hC dX2_succeeds_241 rfl 0 rfl rfl ?_
                    obtain ⟨v10, hv10, h⟩ := bind_g h
                    refine v_callVri hC (n := 0) (st := []) (mX0_allPenalties l g cy h0 q1 a1 q2 a2 q3 a3 ec sn dy wg pe pn br ex sc se hv10) gX2_succeeds_X0_allPenalties rfl rfl rfl (by decide +kernel) ⟨Nat.le_of_ble_eq_true rfl, Nat.le_of_ble_eq_true rfl⟩ 0 rfl rfl [0, 1, 2, 3, 4, 5, 6] rfl rfl rfl rfl (Nat.le_of_ble_eq_true rfl) rfl ⟨Nat.zero_le _, Nat.zero_le _⟩ dX2_succeeds_242 rfl ?_
                    refine v_iload_n hC dX2_succeeds_245 rfl 1 rfl rfl ?_
                    refine v_bipush hC (v := (nI 100)) dX2_succeeds_246 (by decide) rfl ?_
                    refine v_irem hC dX2_succeeds_248 (by decide) rfl ?_
                    refine v_icmp_gt hC (tgt := 256) dX2_succeeds_249 (by decide) rfl (fun c => ?_) (fun c => ?_)
                    · have h := ite_t c h
                      exact v_sub [] (lv' := []) rfl (bX2_succeeds_256 hC hr _ _ _ _ _ _ _ _ _ _ h)
                    · have h := ite_f c h
                      refine v_iconst hC (v := (nI 1)) dX2_succeeds_252 (by decide) rfl ?_
                      refine v_goto hC (tgt := 257) dX2_succeeds_253 (by decide) ?_
                      exact v_sub [] (lv' := []) rfl (bX2_succeeds_257 hC hr _ _ _ _ _ _ _ _ _ _ _ h)
                · have h := ite_f c8 h
                  by_cases c9 : (x1 / (nI 10000)) = (nI 9)
                  · have h := ite_t c9 h
                    refine v_tswI hC (v := (nI 9)) (tgt := 258) dX2_succeeds_5 c9 (by decide) (by decide) rfl (by decide) ?_
                    refine v_iload_n hC dX2_succeeds_258 rfl 1 rfl rfl ?_
                    refine v_bipush hC (v := (nI 100)) dX2_succeeds_259 (by decide) rfl ?_
                    refine v_idiv hC dX2_succeeds_261 (by decide) rfl ?_
                    refine v_bipush hC (v := (nI 100)) dX2_succeeds_262 (by decide) rfl ?_
                    refine v_irem hC dX2_succeeds_264 (by decide) rfl ?_
                    refine v_if_ne hC (tgt := 283) dX2_succeeds_265 (by decide) rfl (fun c => ?_) (fun c => ?_)
                    · have h := ite_f c h
                      exact v_sub [] (lv' := []) rfl (bX2_succeeds_283 hC hr _ _ _ _ _ _ _ _ _ _ h)
                    · have h := ite_t c h
                      refine v_aload_n hC dX2_succeeds_268 rfl 0 rfl rfl ?_
                      obtain ⟨v11, hv11, h⟩ := bind_g h
                      refine v_callVri hC (n := 0) (st := []) (mX0_allBreaks l g cy h0 q1 a1 q2 a2 q3 a3 ec sn dy wg pe pn br ex sc se hv11) gX2_succeeds_X0_allBreaks rfl rfl rfl (by decide +kernel) ⟨Nat.le_of_ble_eq_true rfl, Nat.le_of_ble_eq_true rfl⟩ 0 rfl rfl [0, 1, 2, 3, 4, 5, 6] rfl rfl rfl rfl (Nat.le_of_ble_eq_true rfl) rfl ⟨Nat.zero_le _, Nat.zero_le _⟩ dX2_succeeds_269 rfl ?_
                      refine v_iload_n hC dX2_succeeds_272 rfl 1 rfl rfl ?_
                      refine v_bipush hC (v := (nI 100)) dX2_succeeds_273 (by decide) rfl ?_
                      refine v_irem hC dX2_succeeds_275 (by decide) rfl ?_
                      refine v_icmp_gt hC (tgt := 283) dX2_succeeds_276 (by decide) rfl (fun c => ?_) (fun c => ?_)
                      · have h := ite_t c h
                        exact v_sub [] (lv' := []) rfl (bX2_succeeds_283 hC hr _ _ _ _ _ _ _ _ _ _ h)
                      · have h := ite_f c h
                        refine v_iconst hC (v := (nI 1)) dX2_succeeds_279 (by decide) rfl ?_
                        refine v_goto hC (tgt := 284) dX2_succeeds_280 (by decide) ?_
                        exact v_sub [] (lv' := []) rfl (bX2_succeeds_284 hC hr _ _ _ _ _ _ _ _ _ _ _ h)
                  · have h := ite_f c9 h
                    refine v_tswO hC (tgt := 285) dX2_succeeds_5 (by have e1 := ne_I (z := 1) (by decide) c1; have e2 := ne_I (z := 2) (by decide) c2; have e3 := ne_I (z := 3) (by decide) c3; have e4 := ne_I (z := 4) (by decide) c4; have e5 := ne_I (z := 5) (by decide) c5; have e6 := ne_I (z := 6) (by decide) c6; have e7 := ne_I (z := 7) (by decide) c7; have e8 := ne_I (z := 8) (by decide) c8; have e9 := ne_I (z := 9) (by decide) c9; omega) (by decide) ?_
                    refine v_iconst hC (v := (nI 0)) dX2_succeeds_285 (by decide) rfl ?_
                    obtain rfl := Option.some.inj h
                    exact v_irw hC hr rfl rfl dX2_succeeds_286
def pX3_turn_154 (ec : Int32) (sn : Int32) (dy : Int32) (wg : Int32) (pe : Int32) (pn : Int32) (br : Int32) (ex : Nat → Int32) (sc : Nat → Int32) (se : Nat → Int32) : Option (Int32 × Int32 × Int32 × Int32 × Int32 × Int32 × Int32 × (Nat → Int32) × (Nat → Int32) × (Nat → Int32)) := some (ec, sn, dy, wg, pe, pn, br, ex, sc, se)
def pX3_turn_44 (ec : Int32) (sn : Int32) (dy : Int32) (wg : Int32) (pe : Int32) (pn : Int32) (br : Int32) (ex : Nat → Int32) (sc : Nat → Int32) (se : Nat → Int32) (y2 : Int32) : Option (Int32 × Int32 × Int32 × Int32 × Int32 × Int32 × Int32 × (Nat → Int32) × (Nat → Int32) × (Nat → Int32)) := (pX0_addExtra ec ex (y2 - y2 / (nI 3) * (nI 3)) ((y2 / (nI 4)) - (y2 / (nI 4)) / (nI 14) * (nI 14))).bind fun v1 => pX3_turn_154 v1.2.1 sn dy wg pe pn br v1.2.2 sc se
def pX3_turn (ec : Int32) (sn : Int32) (dy : Int32) (wg : Int32) (pe : Int32) (pn : Int32) (br : Int32) (ex : Nat → Int32) (sc : Nat → Int32) (se : Nat → Int32) (x1 : Int32) : Option (Int32 × Int32 × Int32 × Int32 × Int32 × Int32 × Int32 × (Nat → Int32) × (Nat → Int32) × (Nat → Int32)) := if (x1 - x1 / (nI 8) * (nI 8)) = (nI 0) then pX3_turn_44 ec sn dy wg pe pn br ex sc se (x1 / (nI 8)) else if (x1 - x1 / (nI 8) * (nI 8)) = (nI 1) then pX3_turn_44 ec sn dy wg pe pn br ex sc se (x1 / (nI 8)) else if (x1 - x1 / (nI 8) * (nI 8)) = (nI 2) then (pX0_addScene sn sc ((x1 / (nI 8)) - (x1 / (nI 8)) / (nI 3) * (nI 3)) ((nI 1) + (((x1 / (nI 8)) / (nI 4)) - ((x1 / (nI 8)) / (nI 4)) / (nI 4) * (nI 4))) (((x1 / (nI 8)) / (nI 16)) - ((x1 / (nI 8)) / (nI 16)) / (nI 3) * (nI 3)) (((x1 / (nI 8)) / (nI 64)) - ((x1 / (nI 8)) / (nI 64)) / (nI 2) * (nI 2)) ((nI 10) + (((x1 / (nI 8)) / (nI 128)) - ((x1 / (nI 8)) / (nI 128)) / (nI 231) * (nI 231)))).bind fun v1 => pX3_turn_154 ec v1.2.1 dy wg pe pn br ex v1.2.2 se else if (x1 - x1 / (nI 8) * (nI 8)) = (nI 3) then (pX0_eat ec ex).bind fun v2 => pX3_turn_154 ec sn dy wg pe pn br v2.2 sc se else if (x1 - x1 / (nI 8) * (nI 8)) = (nI 4) then if ((x1 / (nI 8)) - (x1 / (nI 8)) / (nI 4) * (nI 4)) = 0 then (pX0_beginDay dy ex).bind fun v4 => pX3_turn_154 ec sn v4.2.1 wg pe pn br v4.2.2 sc se else (pX0_change se (nI 0) ((nI 240) + (((x1 / (nI 8)) / (nI 4)) - ((x1 / (nI 8)) / (nI 4)) / (nI 721) * (nI 721)))).bind fun v3 => pX3_turn_154 ec sn dy wg pe pn br ex sc v3.2 else (pX0_shootIfPossible ec sn wg pe pn br ex sc se ((x1 / (nI 8)) - (x1 / (nI 8)) / (nI 10) * (nI 10))).bind fun v5 => pX3_turn_154 ec sn dy v5.2.1 v5.2.2.1 v5.2.2.2.1 v5.2.2.2.2.1 v5.2.2.2.2.2.1 v5.2.2.2.2.2.2 se
abbrev rmX3_turn : Room := { frames := 5, cells := 0, slots := 0, locals := 123 }
set_option maxHeartbeats 4000000 in
set_option maxRecDepth 100000 in
theorem bX3_turn_154 {p : Program} {l : Launch} {e : Env} {s : State} {m : MethodId} {args : Array Value} {below : List Frame} {meth : Method} {c : Code} {g : va_G} {cy : Nat → ClassId} (hC : CX p s m args meth c g cy 3 cX3_turn wsX3_turn RX3) (hr : meth.sig.returnType = none) {h0 q1 a1 q2 a2 q3 a3 : Nat} {A : Nat → Prop} {res : Int32 × Int32 × Int32 × Int32 × Int32 × Int32 × Int32 × (Nat → Int32) × (Nat → Int32) × (Nat → Int32)} : ∀ (ec : Int32) (sn : Int32) (dy : Int32) (wg : Int32) (pe : Int32) (pn : Int32) (br : Int32) (ex : Nat → Int32) (sc : Nat → Int32) (se : Nat → Int32) (h : pX3_turn_154 ec sn dy wg pe pn br ex sc se = some res), V p l e (headSpec wsX3_turn rmX3_turn).room s m args below meth c g 3 0 0 (MQ below (QWv g A [(h0, .inr (0, [.ref q1, .ref q2, .ref q3, .int res.1, .int res.2.1, .int res.2.2.1, .int res.2.2.2.1, .int res.2.2.2.2.1, .int res.2.2.2.2.2.1, .int res.2.2.2.2.2.2.1])), (q1, .inr (3, [.int (nI 14), .ref a1])), (a1, .inl (cy 0, 84, .inl res.2.2.2.2.2.2.2.1)), (q2, .inr (3, [.int (nI 10), .ref a2])), (a2, .inl (cy 0, 60, .inl res.2.2.2.2.2.2.2.2.1)), (q3, .inr (3, [.int (nI 1), .ref a3])), (a3, .inl (cy 0, 3, .inl res.2.2.2.2.2.2.2.2.2))]) args s 0 0 A) A A [(h0, .inr (0, [.ref q1, .ref q2, .ref q3, .int ec, .int sn, .int dy, .int wg, .int pe, .int pn, .int br])), (q1, .inr (3, [.int (nI 14), .ref a1])), (a1, .inl (cy 0, 84, .inl ex)), (q2, .inr (3, [.int (nI 10), .ref a2])), (a2, .inl (cy 0, 60, .inl sc)), (q3, .inr (3, [.int (nI 1), .ref a3])), (a3, .inl (cy 0, 3, .inl se))] 154 [] [] := by
  intro ec sn dy wg pe pn br ex sc se  h
  unfold pX3_turn_154 at h
  obtain rfl := Option.some.inj h
  exact v_vrw hC hr dX3_turn_154
set_option maxHeartbeats 4000000 in
set_option maxRecDepth 100000 in
theorem bX3_turn_44 {p : Program} {l : Launch} {e : Env} {s : State} {m : MethodId} {args : Array Value} {below : List Frame} {meth : Method} {c : Code} {g : va_G} {cy : Nat → ClassId} (hC : CX p s m args meth c g cy 3 cX3_turn wsX3_turn RX3) (hr : meth.sig.returnType = none) {h0 q1 a1 q2 a2 q3 a3 : Nat} {A : Nat → Prop} {res : Int32 × Int32 × Int32 × Int32 × Int32 × Int32 × Int32 × (Nat → Int32) × (Nat → Int32) × (Nat → Int32)} : ∀ (ec : Int32) (sn : Int32) (dy : Int32) (wg : Int32) (pe : Int32) (pn : Int32) (br : Int32) (ex : Nat → Int32) (sc : Nat → Int32) (se : Nat → Int32) (y2 : Int32)(h : pX3_turn_44 ec sn dy wg pe pn br ex sc se y2 = some res), V p l e (headSpec wsX3_turn rmX3_turn).room s m args below meth c g 3 0 0 (MQ below (QWv g A [(h0, .inr (0, [.ref q1, .ref q2, .ref q3, .int res.1, .int res.2.1, .int res.2.2.1, .int res.2.2.2.1, .int res.2.2.2.2.1, .int res.2.2.2.2.2.1, .int res.2.2.2.2.2.2.1])), (q1, .inr (3, [.int (nI 14), .ref a1])), (a1, .inl (cy 0, 84, .inl res.2.2.2.2.2.2.2.1)), (q2, .inr (3, [.int (nI 10), .ref a2])), (a2, .inl (cy 0, 60, .inl res.2.2.2.2.2.2.2.2.1)), (q3, .inr (3, [.int (nI 1), .ref a3])), (a3, .inl (cy 0, 3, .inl res.2.2.2.2.2.2.2.2.2))]) args s 0 0 A) A A [(h0, .inr (0, [.ref q1, .ref q2, .ref q3, .int ec, .int sn, .int dy, .int wg, .int pe, .int pn, .int br])), (q1, .inr (3, [.int (nI 14), .ref a1])), (a1, .inl (cy 0, 84, .inl ex)), (q2, .inr (3, [.int (nI 10), .ref a2])), (a2, .inl (cy 0, 60, .inl sc)), (q3, .inr (3, [.int (nI 1), .ref a3])), (a3, .inl (cy 0, 3, .inl se))] 44 [(0, .ref h0), (2, .int y2)] [] := by
  intro ec sn dy wg pe pn br ex sc se y2 h
  unfold pX3_turn_44 at h
  refine v_aload_n hC dX3_turn_44 rfl 0 rfl rfl ?_
  refine v_iload_n hC dX3_turn_45 rfl 1 rfl rfl ?_
  refine v_iconst hC (v := (nI 3)) dX3_turn_46 (by decide) rfl ?_
  refine v_irem hC dX3_turn_47 (by decide) rfl ?_
  refine v_iload_n hC dX3_turn_48 rfl 1 rfl rfl ?_
  refine v_iconst hC (v := (nI 4)) dX3_turn_49 (by decide) rfl ?_
  refine v_idiv hC dX3_turn_50 (by decide) rfl ?_
  refine v_bipush hC (v := (nI 14)) dX3_turn_51 (by decide) rfl ?_
  refine v_irem hC dX3_turn_53 (by decide) rfl ?_
  obtain ⟨v1, hv1, h⟩ := bind_g h
  refine v_callVwi hC (n := 2) (st := []) [(h0, .inr (0, [.ref q1, .ref q2, .ref q3, .int v1.2.1, .int sn, .int dy, .int wg, .int pe, .int pn, .int br])), (q1, .inr (3, [.int (nI 14), .ref a1])), (a1, .inl (cy 0, 84, .inl v1.2.2)), (q2, .inr (3, [.int (nI 10), .ref a2])), (a2, .inl (cy 0, 60, .inl sc)), (q3, .inr (3, [.int (nI 1), .ref a3])), (a3, .inl (cy 0, 3, .inl se))] _ (mX0_addExtra l g cy h0 q1 a1 q2 a2 q3 a3 ec sn dy wg pe pn br ex sc se (y2 - y2 / (nI 3) * (nI 3)) ((y2 / (nI 4)) - (y2 / (nI 4)) / (nI 14) * (nI 14)) hv1) gX3_turn_X0_addExtra rfl rfl rfl (by decide +kernel) ⟨Nat.le_of_ble_eq_true rfl, Nat.le_of_ble_eq_true rfl⟩ 0 rfl rfl [0, 1, 2, 3, 4, 5, 6] [] rfl rfl rfl rfl rfl rfl rfl rfl rfl (Nat.le_of_ble_eq_true rfl) rfl ⟨Nat.zero_le _, Nat.zero_le _⟩ dX3_turn_54 rfl ?_
  refine v_pop hC dX3_turn_57 rfl rfl ?_
  refine v_goto hC (tgt := 154) dX3_turn_58 (by decide) ?_
  exact v_sub [] (lv' := []) rfl (bX3_turn_154 hC hr _ _ _ _ _ _ _ _ _ _ h)
set_option maxHeartbeats 4000000 in
set_option maxRecDepth 100000 in
theorem mX3_turn (l : Launch) (g : va_G) (cy : Nat → ClassId) (h0 q1 a1 q2 a2 q3 a3 : Nat) (ec : Int32) (sn : Int32) (dy : Int32) (wg : Int32) (pe : Int32) (pn : Int32) (br : Int32) (ex : Nat → Int32) (sc : Nat → Int32) (se : Nat → Int32) (x1 : Int32) {res : Int32 × Int32 × Int32 × Int32 × Int32 × Int32 × Int32 × (Nat → Int32) × (Nat → Int32) × (Nat → Int32)} (h : pX3_turn ec sn dy wg pe pn br ex sc se x1 = some res) : Met l yX3_turn wsX3_turn rmX3_turn (PW [.ref h0, .int x1] g cy [(h0, .inr (0, [.ref q1, .ref q2, .ref q3, .int ec, .int sn, .int dy, .int wg, .int pe, .int pn, .int br])), (q1, .inr (3, [.int (nI 14), .ref a1])), (a1, .inl (cy 0, 84, .inl ex)), (q2, .inr (3, [.int (nI 10), .ref a2])), (a2, .inl (cy 0, 60, .inl sc)), (q3, .inr (3, [.int (nI 1), .ref a3])), (a3, .inl (cy 0, 3, .inl se))]) (QWv g (wA [(h0, .inr (0, [.ref q1, .ref q2, .ref q3, .int ec, .int sn, .int dy, .int wg, .int pe, .int pn, .int br])), (q1, .inr (3, [.int (nI 14), .ref a1])), (a1, .inl (cy 0, 84, .inl ex)), (q2, .inr (3, [.int (nI 10), .ref a2])), (a2, .inl (cy 0, 60, .inl sc)), (q3, .inr (3, [.int (nI 1), .ref a3])), (a3, .inl (cy 0, 3, .inl se))]) [(h0, .inr (0, [.ref q1, .ref q2, .ref q3, .int res.1, .int res.2.1, .int res.2.2.1, .int res.2.2.2.1, .int res.2.2.2.2.1, .int res.2.2.2.2.2.1, .int res.2.2.2.2.2.2.1])), (q1, .inr (3, [.int (nI 14), .ref a1])), (a1, .inl (cy 0, 84, .inl res.2.2.2.2.2.2.2.1)), (q2, .inr (3, [.int (nI 10), .ref a2])), (a2, .inl (cy 0, 60, .inl res.2.2.2.2.2.2.2.2.1)), (q3, .inr (3, [.int (nI 1), .ref a3])), (a3, .inl (cy 0, 3, .inl res.2.2.2.2.2.2.2.2.2))]) 0 0 (wA [(h0, .inr (0, [.ref q1, .ref q2, .ref q3, .int ec, .int sn, .int dy, .int wg, .int pe, .int pn, .int br])), (q1, .inr (3, [.int (nI 14), .ref a1])), (a1, .inl (cy 0, 84, .inl ex)), (q2, .inr (3, [.int (nI 10), .ref a2])), (a2, .inl (cy 0, 60, .inl sc)), (q3, .inr (3, [.int (nI 1), .ref a3])), (a3, .inl (cy 0, 3, .inl se))]) := by
  refine m_ofV (cc := cX3_turn) (nL := 3) (ret := none) (B := (wA [(h0, .inr (0, [.ref q1, .ref q2, .ref q3, .int ec, .int sn, .int dy, .int wg, .int pe, .int pn, .int br])), (q1, .inr (3, [.int (nI 14), .ref a1])), (a1, .inl (cy 0, 84, .inl ex)), (q2, .inr (3, [.int (nI 10), .ref a2])), (a2, .inl (cy 0, 60, .inl sc)), (q3, .inr (3, [.int (nI 1), .ref a3])), (a3, .inl (cy 0, 3, .inl se))])) RX3 rfl (by decide) rfl [(0, .ref h0), (1, .int x1)] rfl (Nat.le_of_ble_eq_true rfl) (wA.self) ?_
  intro p e s m args below meth c hC hr
  generalize (wA [(h0, .inr (0, [.ref q1, .ref q2, .ref q3, .int ec, .int sn, .int dy, .int wg, .int pe, .int pn, .int br])), (q1, .inr (3, [.int (nI 14), .ref a1])), (a1, .inl (cy 0, 84, .inl ex)), (q2, .inr (3, [.int (nI 10), .ref a2])), (a2, .inl (cy 0, 60, .inl sc)), (q3, .inr (3, [.int (nI 1), .ref a3])), (a3, .inl (cy 0, 3, .inl se))]) = A
  unfold pX3_turn at h
  refine v_iload_n hC dX3_turn_0 rfl 1 rfl rfl ?_
  refine v_bipush hC (v := (nI 8)) dX3_turn_1 (by decide) rfl ?_
  refine v_idiv hC dX3_turn_3 (by decide) rfl ?_
  refine v_istore_n hC dX3_turn_4 rfl (by decide) [(2, .int (x1 / (nI 8))), (0, .ref h0), (1, .int x1)] rfl rfl ?_
  refine v_iload_n hC dX3_turn_5 rfl 2 rfl rfl ?_
  refine v_bipush hC (v := (nI 8)) dX3_turn_6 (by decide) rfl ?_
  refine v_irem hC dX3_turn_8 (by decide) rfl ?_
  by_cases c0 : (x1 - x1 / (nI 8) * (nI 8)) = (nI 0)
  · have h := ite_t c0 h
    refine v_tswI hC (v := (nI 0)) (tgt := 44) dX3_turn_9 c0 (by decide) (by decide) rfl (by decide) ?_
    exact v_sub [1, 0] (lv' := [(0, .ref h0), (2, .int (x1 / (nI 8)))]) rfl (bX3_turn_44 hC hr _ _ _ _ _ _ _ _ _ _ _ h)
  · have h := ite_f c0 h
    by_cases c1 : (x1 - x1 / (nI 8) * (nI 8)) = (nI 1)
    · have h := ite_t c1 h
      refine v_tswI hC (v := (nI 1)) (tgt := 44) dX3_turn_9 c1 (by decide) (by decide) rfl (by decide) ?_
      exact v_sub [1, 0] (lv' := [(0, .ref h0), (2, .int (x1 / (nI 8)))]) rfl (bX3_turn_44 hC hr _ _ _ _ _ _ _ _ _ _ _ h)
    · have h := ite_f c1 h
      by_cases c2 : (x1 - x1 / (nI 8) * (nI 8)) = (nI 2)
      · have h := ite_t c2 h
        refine v_tswI hC (v := (nI 2)) (tgt := 61) dX3_turn_9 c2 (by decide) (by decide) rfl (by decide) ?_
        refine v_aload_n hC dX3_turn_61 rfl 1 rfl rfl ?_
        refine v_iload_n hC dX3_turn_62 rfl 0 rfl rfl ?_
        refine v_iconst hC (v := (nI 3)) dX3_turn_63 (by decide) rfl ?_
        refine v_irem hC dX3_turn_64 (by decide) rfl ?_
        refine v_iconst hC (v := (nI 1)) dX3_turn_65 (by decide) rfl ?_
        refine v_iload_n hC dX3_turn_66 rfl 0 rfl rfl ?_
        refine v_iconst hC (v := (nI 4)) dX3_turn_67 (by decide) rfl ?_
        refine v_idiv hC dX3_turn_68 (by decide) rfl ?_
        refine v_iconst hC (v := (nI 4)) dX3_turn_69 (by decide) rfl ?_
        refine v_irem hC dX3_turn_70 (by decide) rfl ?_
        refine v_iadd hC dX3_turn_71 rfl ?_
        refine v_iload_n hC dX3_turn_72 rfl 0 rfl rfl ?_
        refine v_bipush hC (v := (nI 16)) dX3_turn_73 (by decide) rfl ?_
        refine v_idiv hC dX3_turn_75 (by decide) rfl ?_
        refine v_iconst hC (v := (nI 3)) dX3_turn_76 (by decide) rfl ?_
        refine v_irem hC dX3_turn_77 (by decide) rfl ?_
        refine v_iload_n hC dX3_turn_78 rfl 0 rfl rfl ?_
        refine v_bipush hC (v := (nI 64)) dX3_turn_79 (by decide) rfl ?_
        refine v_idiv hC dX3_turn_81 (by decide) rfl ?_
        refine v_iconst hC (v := (nI 2)) dX3_turn_82 (by decide) rfl ?_
        refine v_irem hC dX3_turn_83 (by decide) rfl ?_
        refine v_bipush hC (v := (nI 10)) dX3_turn_84 (by decide) rfl ?_
        refine v_iload_n hC dX3_turn_86 rfl 0 rfl rfl ?_
        refine v_sipush hC (v := (nI 128)) dX3_turn_87 (by decide) rfl ?_
        refine v_idiv hC dX3_turn_90 (by decide) rfl ?_
        refine v_sipush hC (v := (nI 231)) dX3_turn_91 (by decide) rfl ?_
        refine v_irem hC dX3_turn_94 (by decide) rfl ?_
        refine v_iadd hC dX3_turn_95 rfl ?_
        obtain ⟨v1, hv1, h⟩ := bind_g h
        refine v_callVwi hC (n := 5) (st := []) [(h0, .inr (0, [.ref q1, .ref q2, .ref q3, .int ec, .int v1.2.1, .int dy, .int wg, .int pe, .int pn, .int br])), (q1, .inr (3, [.int (nI 14), .ref a1])), (a1, .inl (cy 0, 84, .inl ex)), (q2, .inr (3, [.int (nI 10), .ref a2])), (a2, .inl (cy 0, 60, .inl v1.2.2)), (q3, .inr (3, [.int (nI 1), .ref a3])), (a3, .inl (cy 0, 3, .inl se))] _ (mX0_addScene l g cy h0 q1 a1 q2 a2 q3 a3 ec sn dy wg pe pn br ex sc se ((x1 / (nI 8)) - (x1 / (nI 8)) / (nI 3) * (nI 3)) ((nI 1) + (((x1 / (nI 8)) / (nI 4)) - ((x1 / (nI 8)) / (nI 4)) / (nI 4) * (nI 4))) (((x1 / (nI 8)) / (nI 16)) - ((x1 / (nI 8)) / (nI 16)) / (nI 3) * (nI 3)) (((x1 / (nI 8)) / (nI 64)) - ((x1 / (nI 8)) / (nI 64)) / (nI 2) * (nI 2)) ((nI 10) + (((x1 / (nI 8)) / (nI 128)) - ((x1 / (nI 8)) / (nI 128)) / (nI 231) * (nI 231))) hv1) gX3_turn_X0_addScene rfl rfl rfl (by decide +kernel) ⟨Nat.le_of_ble_eq_true rfl, Nat.le_of_ble_eq_true rfl⟩ 0 rfl rfl [0, 1, 2, 3, 4, 5, 6] [] rfl rfl rfl rfl rfl rfl rfl rfl rfl (Nat.le_of_ble_eq_true rfl) rfl ⟨Nat.zero_le _, Nat.zero_le _⟩ dX3_turn_96 rfl ?_
        refine v_pop hC dX3_turn_99 rfl rfl ?_
        refine v_goto hC (tgt := 154) dX3_turn_100 (by decide) ?_
        exact v_sub [] (lv' := []) rfl (bX3_turn_154 hC hr _ _ _ _ _ _ _ _ _ _ h)
      · have h := ite_f c2 h
        by_cases c3 : (x1 - x1 / (nI 8) * (nI 8)) = (nI 3)
        · have h := ite_t c3 h
          refine v_tswI hC (v := (nI 3)) (tgt := 103) dX3_turn_9 c3 (by decide) (by decide) rfl (by decide) ?_
          refine v_aload_n hC dX3_turn_103 rfl 1 rfl rfl ?_
          obtain ⟨v2, hv2, h⟩ := bind_g h
          refine v_callVwi hC (n := 0) (st := []) [(h0, .inr (0, [.ref q1, .ref q2, .ref q3, .int ec, .int sn, .int dy, .int wg, .int pe, .int pn, .int br])), (q1, .inr (3, [.int (nI 14), .ref a1])), (a1, .inl (cy 0, 84, .inl v2.2)), (q2, .inr (3, [.int (nI 10), .ref a2])), (a2, .inl (cy 0, 60, .inl sc)), (q3, .inr (3, [.int (nI 1), .ref a3])), (a3, .inl (cy 0, 3, .inl se))] _ (mX0_eat l g cy h0 q1 a1 q2 a2 q3 a3 ec sn dy wg pe pn br ex sc se hv2) gX3_turn_X0_eat rfl rfl rfl (by decide +kernel) ⟨Nat.le_of_ble_eq_true rfl, Nat.le_of_ble_eq_true rfl⟩ 0 rfl rfl [0, 1, 2, 3, 4, 5, 6] [] rfl rfl rfl rfl rfl rfl rfl rfl rfl (Nat.le_of_ble_eq_true rfl) rfl ⟨Nat.zero_le _, Nat.zero_le _⟩ dX3_turn_104 rfl ?_
          refine v_pop hC dX3_turn_107 rfl rfl ?_
          refine v_goto hC (tgt := 154) dX3_turn_108 (by decide) ?_
          exact v_sub [] (lv' := []) rfl (bX3_turn_154 hC hr _ _ _ _ _ _ _ _ _ _ h)
        · have h := ite_f c3 h
          by_cases c4 : (x1 - x1 / (nI 8) * (nI 8)) = (nI 4)
          · have h := ite_t c4 h
            refine v_tswI hC (v := (nI 4)) (tgt := 111) dX3_turn_9 c4 (by decide) (by decide) rfl (by decide) ?_
            refine v_iload_n hC dX3_turn_111 rfl 0 rfl rfl ?_
            refine v_iconst hC (v := (nI 4)) dX3_turn_112 (by decide) rfl ?_
            refine v_irem hC dX3_turn_113 (by decide) rfl ?_
            refine v_if_ne hC (tgt := 125) dX3_turn_114 (by decide) rfl (fun c => ?_) (fun c => ?_)
            · have h := ite_f c h
              refine v_aload_n hC dX3_turn_125 rfl 1 rfl rfl ?_
              refine v_iconst hC (v := (nI 0)) dX3_turn_126 (by decide) rfl ?_
              refine v_sipush hC (v := (nI 240)) dX3_turn_127 (by decide) rfl ?_
              refine v_iload_n hC dX3_turn_130 rfl 0 rfl rfl ?_
              refine v_iconst hC (v := (nI 4)) dX3_turn_131 (by decide) rfl ?_
              refine v_idiv hC dX3_turn_132 (by decide) rfl ?_
              refine v_sipush hC (v := (nI 721)) dX3_turn_133 (by decide) rfl ?_
              refine v_irem hC dX3_turn_136 (by decide) rfl ?_
              refine v_iadd hC dX3_turn_137 rfl ?_
              obtain ⟨v3, hv3, h⟩ := bind_g h
              refine v_callVwi hC (n := 2) (st := []) [(h0, .inr (0, [.ref q1, .ref q2, .ref q3, .int ec, .int sn, .int dy, .int wg, .int pe, .int pn, .int br])), (q1, .inr (3, [.int (nI 14), .ref a1])), (a1, .inl (cy 0, 84, .inl ex)), (q2, .inr (3, [.int (nI 10), .ref a2])), (a2, .inl (cy 0, 60, .inl sc)), (q3, .inr (3, [.int (nI 1), .ref a3])), (a3, .inl (cy 0, 3, .inl v3.2))] _ (mX0_change l g cy h0 q1 a1 q2 a2 q3 a3 ec sn dy wg pe pn br ex sc se (nI 0) ((nI 240) + (((x1 / (nI 8)) / (nI 4)) - ((x1 / (nI 8)) / (nI 4)) / (nI 721) * (nI 721))) hv3) gX3_turn_X0_change rfl rfl rfl (by decide +kernel) ⟨Nat.le_of_ble_eq_true rfl, Nat.le_of_ble_eq_true rfl⟩ 0 rfl rfl [0, 1, 2, 3, 4, 5, 6] [] rfl rfl rfl rfl rfl rfl rfl rfl rfl (Nat.le_of_ble_eq_true rfl) rfl ⟨Nat.zero_le _, Nat.zero_le _⟩ dX3_turn_138 rfl ?_
              refine v_pop hC dX3_turn_141 rfl rfl ?_
              refine v_goto hC (tgt := 154) dX3_turn_142 (by decide) ?_
              exact v_sub [] (lv' := []) rfl (bX3_turn_154 hC hr _ _ _ _ _ _ _ _ _ _ h)
            · have h := ite_t c h
              refine v_aload_n hC dX3_turn_117 rfl 1 rfl rfl ?_
              obtain ⟨v4, hv4, h⟩ := bind_g h
              refine v_callVwi hC (n := 0) (st := []) [(h0, .inr (0, [.ref q1, .ref q2, .ref q3, .int ec, .int sn, .int v4.2.1, .int wg, .int pe, .int pn, .int br])), (q1, .inr (3, [.int (nI 14), .ref a1])), (a1, .inl (cy 0, 84, .inl v4.2.2)), (q2, .inr (3, [.int (nI 10), .ref a2])), (a2, .inl (cy 0, 60, .inl sc)), (q3, .inr (3, [.int (nI 1), .ref a3])), (a3, .inl (cy 0, 3, .inl se))] _ (mX0_beginDay l g cy h0 q1 a1 q2 a2 q3 a3 ec sn dy wg pe pn br ex sc se hv4) gX3_turn_X0_beginDay rfl rfl rfl (by decide +kernel) ⟨Nat.le_of_ble_eq_true rfl, Nat.le_of_ble_eq_true rfl⟩ 0 rfl rfl [0, 1, 2, 3, 4, 5, 6] [] rfl rfl rfl rfl rfl rfl rfl rfl rfl (Nat.le_of_ble_eq_true rfl) rfl ⟨Nat.zero_le _, Nat.zero_le _⟩ dX3_turn_118 rfl ?_
              refine v_pop hC dX3_turn_121 rfl rfl ?_
              refine v_goto hC (tgt := 154) dX3_turn_122 (by decide) ?_
              exact v_sub [] (lv' := []) rfl (bX3_turn_154 hC hr _ _ _ _ _ _ _ _ _ _ h)
          · have h := ite_f c4 h
            refine v_tswO hC (tgt := 145) dX3_turn_9 (by have e0 := ne_I (z := 0) (by decide) c0; have e1 := ne_I (z := 1) (by decide) c1; have e2 := ne_I (z := 2) (by decide) c2; have e3 := ne_I (z := 3) (by decide) c3; have e4 := ne_I (z := 4) (by decide) c4; omega) (by decide) ?_
            refine v_aload_n hC dX3_turn_145 rfl 1 rfl rfl ?_
            refine v_iload_n hC dX3_turn_146 rfl 0 rfl rfl ?_
            refine v_bipush hC (v := (nI 10)) dX3_turn_147 (by decide) rfl ?_
            refine v_irem hC dX3_turn_149 (by decide) rfl ?_
            obtain ⟨v5, hv5, h⟩ := bind_g h
            refine v_callVwi hC (n := 1) (st := []) [(h0, .inr (0, [.ref q1, .ref q2, .ref q3, .int ec, .int sn, .int dy, .int v5.2.1, .int v5.2.2.1, .int v5.2.2.2.1, .int v5.2.2.2.2.1])), (q1, .inr (3, [.int (nI 14), .ref a1])), (a1, .inl (cy 0, 84, .inl v5.2.2.2.2.2.1)), (q2, .inr (3, [.int (nI 10), .ref a2])), (a2, .inl (cy 0, 60, .inl v5.2.2.2.2.2.2)), (q3, .inr (3, [.int (nI 1), .ref a3])), (a3, .inl (cy 0, 3, .inl se))] _ (mX0_shootIfPossible l g cy h0 q1 a1 q2 a2 q3 a3 ec sn dy wg pe pn br ex sc se ((x1 / (nI 8)) - (x1 / (nI 8)) / (nI 10) * (nI 10)) hv5) gX3_turn_X0_shootIfPossible rfl rfl rfl (by decide +kernel) ⟨Nat.le_of_ble_eq_true rfl, Nat.le_of_ble_eq_true rfl⟩ 0 rfl rfl [0, 1, 2, 3, 4, 5, 6] [] rfl rfl rfl rfl rfl rfl rfl rfl rfl (Nat.le_of_ble_eq_true rfl) rfl ⟨Nat.zero_le _, Nat.zero_le _⟩ dX3_turn_150 rfl ?_
            refine v_pop hC dX3_turn_153 rfl rfl ?_
            exact v_sub [] (lv' := []) rfl (bX3_turn_154 hC hr _ _ _ _ _ _ _ _ _ _ h)

theorem kX7_extraOf_10 : Cond.fieldLink RX7 10 "CrowdFaces" "film" "LCrowdFaces$Film;" ∈ wsX7_extraOf := by decide +kernel
theorem iX7_extraOf_X7 : ∀ w ∈ wsX70, w ∈ wsX7_extraOf := by decide +kernel
def pX7_extraOf (ec : Int32) (sn : Int32) (ex : Nat → Int32) (sc : Nat → Int32) (x1 : Int32) (x2 : Int32) : Option (Sum Nat (Int32)) := (pX7_requireExtra ec x1).bind fun v1 => Sum.elim (fun k => some (.inl k)) (fun _ => (pX7_isIn x2 (nI 0) (nI 6)).bind fun v2 => (pX7_requireArgument v2).bind fun v3 => Sum.elim (fun k => some (.inl k)) (fun _ => (pX0_numberOfExtra ec sn ex sc x1 x2).bind fun v4 => some (.inr v4)) v3) v1
abbrev rmX7_extraOf : Room := { frames := 8, cells := 2, slots := 12, locals := 131 }
set_option maxHeartbeats 4000000 in
set_option maxRecDepth 100000 in
theorem mX7_extraOf (l : Launch) (hlst : l.stackTraces = false) (g : va_G) (cy : Nat → ClassId) (tt sa : Nat → Nat) (sz : Nat) (h0 f0 t0 g0 k1 k2 w0 q1 a1 q2 a2 q3 a3 : Nat) (ec : Int32) (sn : Int32) (dy : Int32) (wg : Int32) (pe : Int32) (pn : Int32) (br : Int32) (ex : Nat → Int32) (sc : Nat → Int32) (se : Nat → Int32) (x1 : Int32) (x2 : Int32) {res : Sum Nat (Int32)} (h : pX7_extraOf ec sn ex sc x1 x2 = some res) : vx_Met l yX7_extraOf wsX7_extraOf rmX7_extraOf (PE [.ref h0, .int x1, .int x2] g cy tt sa sz [(h0, .inr (5, [.ref f0, .ref t0, .ref g0, .ref k1, .ref k2, .ref w0])), (f0, .inr (0, [.ref q1, .ref q2, .ref q3, .int ec, .int sn, .int dy, .int wg, .int pe, .int pn, .int br])), (q1, .inr (3, [.int (nI 14), .ref a1])), (a1, .inl (cy 0, 84, .inl ex)), (q2, .inr (3, [.int (nI 10), .ref a2])), (a2, .inl (cy 0, 60, .inl sc)), (q3, .inr (3, [.int (nI 1), .ref a3])), (a3, .inl (cy 0, 3, .inl se))]) (QXi g (va_A [(h0, .inr (5, [.ref f0, .ref t0, .ref g0, .ref k1, .ref k2, .ref w0])), (f0, .inr (0, [.ref q1, .ref q2, .ref q3, .int ec, .int sn, .int dy, .int wg, .int pe, .int pn, .int br])), (q1, .inr (3, [.int (nI 14), .ref a1])), (a1, .inl (cy 0, 84, .inl ex)), (q2, .inr (3, [.int (nI 10), .ref a2])), (a2, .inl (cy 0, 60, .inl sc)), (q3, .inr (3, [.int (nI 1), .ref a3])), (a3, .inl (cy 0, 3, .inl se))] sz) res (fun u : Int32 => u) (fun _ => [(h0, .inr (5, [.ref f0, .ref t0, .ref g0, .ref k1, .ref k2, .ref w0])), (f0, .inr (0, [.ref q1, .ref q2, .ref q3, .int ec, .int sn, .int dy, .int wg, .int pe, .int pn, .int br])), (q1, .inr (3, [.int (nI 14), .ref a1])), (a1, .inl (cy 0, 84, .inl ex)), (q2, .inr (3, [.int (nI 10), .ref a2])), (a2, .inl (cy 0, 60, .inl sc)), (q3, .inr (3, [.int (nI 1), .ref a3])), (a3, .inl (cy 0, 3, .inl se))])) (XX g (va_A [(h0, .inr (5, [.ref f0, .ref t0, .ref g0, .ref k1, .ref k2, .ref w0])), (f0, .inr (0, [.ref q1, .ref q2, .ref q3, .int ec, .int sn, .int dy, .int wg, .int pe, .int pn, .int br])), (q1, .inr (3, [.int (nI 14), .ref a1])), (a1, .inl (cy 0, 84, .inl ex)), (q2, .inr (3, [.int (nI 10), .ref a2])), (a2, .inl (cy 0, 60, .inl sc)), (q3, .inr (3, [.int (nI 1), .ref a3])), (a3, .inl (cy 0, 3, .inl se))] sz) res [(h0, .inr (5, [.ref f0, .ref t0, .ref g0, .ref k1, .ref k2, .ref w0])), (f0, .inr (0, [.ref q1, .ref q2, .ref q3, .int ec, .int sn, .int dy, .int wg, .int pe, .int pn, .int br])), (q1, .inr (3, [.int (nI 14), .ref a1])), (a1, .inl (cy 0, 84, .inl ex)), (q2, .inr (3, [.int (nI 10), .ref a2])), (a2, .inl (cy 0, 60, .inl sc)), (q3, .inr (3, [.int (nI 1), .ref a3])), (a3, .inl (cy 0, 3, .inl se))]) 2 12 (va_A [(h0, .inr (5, [.ref f0, .ref t0, .ref g0, .ref k1, .ref k2, .ref w0])), (f0, .inr (0, [.ref q1, .ref q2, .ref q3, .int ec, .int sn, .int dy, .int wg, .int pe, .int pn, .int br])), (q1, .inr (3, [.int (nI 14), .ref a1])), (a1, .inl (cy 0, 84, .inl ex)), (q2, .inr (3, [.int (nI 10), .ref a2])), (a2, .inl (cy 0, 60, .inl sc)), (q3, .inr (3, [.int (nI 1), .ref a3])), (a3, .inl (cy 0, 3, .inl se))] sz) := by
  refine m_ofVX (cc := cX7_extraOf) (nL := 3) (ret := (some .int)) hlst RX7 rfl (by decide) rfl [(0, .ref h0), (1, .int x1), (2, .int x2)] rfl (Nat.le_of_ble_eq_true rfl) ?_
  intro p e s m args below meth c hC hr hX
  generalize (va_A [(h0, .inr (5, [.ref f0, .ref t0, .ref g0, .ref k1, .ref k2, .ref w0])), (f0, .inr (0, [.ref q1, .ref q2, .ref q3, .int ec, .int sn, .int dy, .int wg, .int pe, .int pn, .int br])), (q1, .inr (3, [.int (nI 14), .ref a1])), (a1, .inl (cy 0, 84, .inl ex)), (q2, .inr (3, [.int (nI 10), .ref a2])), (a2, .inl (cy 0, 60, .inl sc)), (q3, .inr (3, [.int (nI 1), .ref a3])), (a3, .inl (cy 0, 3, .inl se))] sz) = A at hX ⊢
  unfold pX7_extraOf at h
  refine v_aload_n hC dX7_extraOf_0 rfl 0 rfl rfl ?_
  refine v_iload_n hC dX7_extraOf_1 rfl 1 rfl rfl ?_
  obtain ⟨v1, hv1, h⟩ := bind_g h
  refine v_callVx hC hX (n := 1) (st := []) (fun sz => mX7_requireExtra l hX.1 g cy tt sa sz h0 f0 t0 g0 k1 k2 w0 q1 a1 q2 a2 q3 a3 ec sn dy wg pe pn br ex sc se x1 hv1) gX7_extraOf_X7_requireExtra rfl rfl rfl (by decide +kernel) ⟨Nat.le_of_ble_eq_true rfl, Nat.le_of_ble_eq_true rfl⟩ 0 rfl rfl [0, 1, 2, 3, 4, 5, 6, 7] [] rfl rfl rfl rfl rfl rfl (Nat.le_of_ble_eq_true rfl) rfl ⟨Nat.le_of_ble_eq_true rfl, Nat.le_of_ble_eq_true rfl⟩ dX7_extraOf_2 (fun k e => by subst e; exact (Option.some.inj h).symm) ⟨Nat.le_of_ble_eq_true rfl, Nat.le_of_ble_eq_true rfl⟩ rfl (fun hu => ?_)
  obtain ⟨u, e⟩ := hu
  subst e
  rw [Sum.elim_inr] at h
  refine v_iload_n hC dX7_extraOf_5 rfl 2 rfl rfl ?_
  refine v_iconst hC (v := (nI 0)) dX7_extraOf_6 (by decide) rfl ?_
  refine v_bipush hC (v := (nI 6)) dX7_extraOf_7 (by decide) rfl ?_
  obtain ⟨v2, hv2, h⟩ := bind_g h
  refine v_callSri hC (n := 3) (st := []) (mX7_isIn l g cy x2 (nI 0) (nI 6) hv2) gX7_extraOf_X7_isIn rfl rfl rfl (by decide +kernel) ⟨Nat.le_of_ble_eq_true rfl, Nat.le_of_ble_eq_true rfl⟩ [] rfl rfl rfl rfl (Nat.le_of_ble_eq_true rfl) rfl ⟨Nat.le_of_ble_eq_true rfl, Nat.le_of_ble_eq_true rfl⟩ dX7_extraOf_9 rfl ?_
  obtain ⟨v3, hv3, h⟩ := bind_g h
  refine v_callSx hC hX (n := 1) (st := []) (fun sz => mX7_requireArgument l hX.1 g cy tt sa sz v2 hv3) gX7_extraOf_X7_requireArgument rfl rfl rfl (by decide +kernel) ⟨Nat.le_of_ble_eq_true rfl, Nat.le_of_ble_eq_true rfl⟩ [] [0, 1, 2, 3, 4, 5, 6, 7] rfl rfl rfl rfl rfl rfl (Nat.le_of_ble_eq_true rfl) rfl ⟨Nat.le_of_ble_eq_true rfl, Nat.le_of_ble_eq_true rfl⟩ dX7_extraOf_12 (fun k e => by subst e; exact (Option.some.inj h).symm) ⟨Nat.le_of_ble_eq_true rfl, Nat.le_of_ble_eq_true rfl⟩ rfl (fun hu => ?_)
  obtain ⟨u, e⟩ := hu
  subst e
  rw [Sum.elim_inr] at h
  refine v_aload_n hC dX7_extraOf_15 rfl 0 rfl rfl ?_
  refine v_get hC iX7_extraOf_X7 0 rfl rfl 0 (by decide) kX7_extraOf_10 rfl rfl dX7_extraOf_16 rfl ?_
  refine v_iload_n hC dX7_extraOf_19 rfl 1 rfl rfl ?_
  refine v_iload_n hC dX7_extraOf_20 rfl 2 rfl rfl ?_
  obtain ⟨v4, hv4, h⟩ := bind_g h
  refine v_callVri hC (n := 2) (st := []) (mX0_numberOfExtra l g cy f0 q1 a1 q2 a2 q3 a3 ec sn dy wg pe pn br ex sc se x1 x2 hv4) gX7_extraOf_X0_numberOfExtra rfl rfl rfl (by decide +kernel) ⟨Nat.le_of_ble_eq_true rfl, Nat.le_of_ble_eq_true rfl⟩ 1 rfl rfl [1, 2, 3, 4, 5, 6, 7] rfl rfl rfl rfl (Nat.le_of_ble_eq_true rfl) rfl ⟨Nat.le_of_ble_eq_true rfl, Nat.le_of_ble_eq_true rfl⟩ dX7_extraOf_21 rfl ?_
  obtain rfl := Option.some.inj h
  exact v_irX hC hr rfl rfl rfl rfl ⟨Nat.le_of_ble_eq_true rfl, Nat.le_of_ble_eq_true rfl⟩ dX7_extraOf_24
theorem kX7_sceneOf_10 : Cond.fieldLink RX7 10 "CrowdFaces" "film" "LCrowdFaces$Film;" ∈ wsX7_sceneOf := by decide +kernel
theorem iX7_sceneOf_X7 : ∀ w ∈ wsX70, w ∈ wsX7_sceneOf := by decide +kernel
def pX7_sceneOf (ec : Int32) (sn : Int32) (ex : Nat → Int32) (sc : Nat → Int32) (x1 : Int32) (x2 : Int32) : Option (Sum Nat (Int32)) := (pX7_requireScene sn x1).bind fun v1 => Sum.elim (fun k => some (.inl k)) (fun _ => (pX7_isIn x2 (nI 0) (nI 8)).bind fun v2 => (pX7_requireArgument v2).bind fun v3 => Sum.elim (fun k => some (.inl k)) (fun _ => (pX0_numberOfScene ec sn ex sc x1 x2).bind fun v4 => some (.inr v4)) v3) v1
abbrev rmX7_sceneOf : Room := { frames := 8, cells := 2, slots := 12, locals := 131 }
set_option maxHeartbeats 4000000 in
set_option maxRecDepth 100000 in
theorem mX7_sceneOf (l : Launch) (hlst : l.stackTraces = false) (g : va_G) (cy : Nat → ClassId) (tt sa : Nat → Nat) (sz : Nat) (h0 f0 t0 g0 k1 k2 w0 q1 a1 q2 a2 q3 a3 : Nat) (ec : Int32) (sn : Int32) (dy : Int32) (wg : Int32) (pe : Int32) (pn : Int32) (br : Int32) (ex : Nat → Int32) (sc : Nat → Int32) (se : Nat → Int32) (x1 : Int32) (x2 : Int32) {res : Sum Nat (Int32)} (h : pX7_sceneOf ec sn ex sc x1 x2 = some res) : vx_Met l yX7_sceneOf wsX7_sceneOf rmX7_sceneOf (PE [.ref h0, .int x1, .int x2] g cy tt sa sz [(h0, .inr (5, [.ref f0, .ref t0, .ref g0, .ref k1, .ref k2, .ref w0])), (f0, .inr (0, [.ref q1, .ref q2, .ref q3, .int ec, .int sn, .int dy, .int wg, .int pe, .int pn, .int br])), (q1, .inr (3, [.int (nI 14), .ref a1])), (a1, .inl (cy 0, 84, .inl ex)), (q2, .inr (3, [.int (nI 10), .ref a2])), (a2, .inl (cy 0, 60, .inl sc)), (q3, .inr (3, [.int (nI 1), .ref a3])), (a3, .inl (cy 0, 3, .inl se))]) (QXi g (va_A [(h0, .inr (5, [.ref f0, .ref t0, .ref g0, .ref k1, .ref k2, .ref w0])), (f0, .inr (0, [.ref q1, .ref q2, .ref q3, .int ec, .int sn, .int dy, .int wg, .int pe, .int pn, .int br])), (q1, .inr (3, [.int (nI 14), .ref a1])), (a1, .inl (cy 0, 84, .inl ex)), (q2, .inr (3, [.int (nI 10), .ref a2])), (a2, .inl (cy 0, 60, .inl sc)), (q3, .inr (3, [.int (nI 1), .ref a3])), (a3, .inl (cy 0, 3, .inl se))] sz) res (fun u : Int32 => u) (fun _ => [(h0, .inr (5, [.ref f0, .ref t0, .ref g0, .ref k1, .ref k2, .ref w0])), (f0, .inr (0, [.ref q1, .ref q2, .ref q3, .int ec, .int sn, .int dy, .int wg, .int pe, .int pn, .int br])), (q1, .inr (3, [.int (nI 14), .ref a1])), (a1, .inl (cy 0, 84, .inl ex)), (q2, .inr (3, [.int (nI 10), .ref a2])), (a2, .inl (cy 0, 60, .inl sc)), (q3, .inr (3, [.int (nI 1), .ref a3])), (a3, .inl (cy 0, 3, .inl se))])) (XX g (va_A [(h0, .inr (5, [.ref f0, .ref t0, .ref g0, .ref k1, .ref k2, .ref w0])), (f0, .inr (0, [.ref q1, .ref q2, .ref q3, .int ec, .int sn, .int dy, .int wg, .int pe, .int pn, .int br])), (q1, .inr (3, [.int (nI 14), .ref a1])), (a1, .inl (cy 0, 84, .inl ex)), (q2, .inr (3, [.int (nI 10), .ref a2])), (a2, .inl (cy 0, 60, .inl sc)), (q3, .inr (3, [.int (nI 1), .ref a3])), (a3, .inl (cy 0, 3, .inl se))] sz) res [(h0, .inr (5, [.ref f0, .ref t0, .ref g0, .ref k1, .ref k2, .ref w0])), (f0, .inr (0, [.ref q1, .ref q2, .ref q3, .int ec, .int sn, .int dy, .int wg, .int pe, .int pn, .int br])), (q1, .inr (3, [.int (nI 14), .ref a1])), (a1, .inl (cy 0, 84, .inl ex)), (q2, .inr (3, [.int (nI 10), .ref a2])), (a2, .inl (cy 0, 60, .inl sc)), (q3, .inr (3, [.int (nI 1), .ref a3])), (a3, .inl (cy 0, 3, .inl se))]) 2 12 (va_A [(h0, .inr (5, [.ref f0, .ref t0, .ref g0, .ref k1, .ref k2, .ref w0])), (f0, .inr (0, [.ref q1, .ref q2, .ref q3, .int ec, .int sn, .int dy, .int wg, .int pe, .int pn, .int br])), (q1, .inr (3, [.int (nI 14), .ref a1])), (a1, .inl (cy 0, 84, .inl ex)), (q2, .inr (3, [.int (nI 10), .ref a2])), (a2, .inl (cy 0, 60, .inl sc)), (q3, .inr (3, [.int (nI 1), .ref a3])), (a3, .inl (cy 0, 3, .inl se))] sz) := by
  refine m_ofVX (cc := cX7_sceneOf) (nL := 3) (ret := (some .int)) hlst RX7 rfl (by decide) rfl [(0, .ref h0), (1, .int x1), (2, .int x2)] rfl (Nat.le_of_ble_eq_true rfl) ?_
  intro p e s m args below meth c hC hr hX
  generalize (va_A [(h0, .inr (5, [.ref f0, .ref t0, .ref g0, .ref k1, .ref k2, .ref w0])), (f0, .inr (0, [.ref q1, .ref q2, .ref q3, .int ec, .int sn, .int dy, .int wg, .int pe, .int pn, .int br])), (q1, .inr (3, [.int (nI 14), .ref a1])), (a1, .inl (cy 0, 84, .inl ex)), (q2, .inr (3, [.int (nI 10), .ref a2])), (a2, .inl (cy 0, 60, .inl sc)), (q3, .inr (3, [.int (nI 1), .ref a3])), (a3, .inl (cy 0, 3, .inl se))] sz) = A at hX ⊢
  unfold pX7_sceneOf at h
  refine v_aload_n hC dX7_sceneOf_0 rfl 0 rfl rfl ?_
  refine v_iload_n hC dX7_sceneOf_1 rfl 1 rfl rfl ?_
  obtain ⟨v1, hv1, h⟩ := bind_g h
  refine v_callVx hC hX (n := 1) (st := []) (fun sz => mX7_requireScene l hX.1 g cy tt sa sz h0 f0 t0 g0 k1 k2 w0 q1 a1 q2 a2 q3 a3 ec sn dy wg pe pn br ex sc se x1 hv1) gX7_sceneOf_X7_requireScene rfl rfl rfl (by decide +kernel) ⟨Nat.le_of_ble_eq_true rfl, Nat.le_of_ble_eq_true rfl⟩ 0 rfl rfl [0, 1, 2, 3, 4, 5, 6, 7] [] rfl rfl rfl rfl rfl rfl (Nat.le_of_ble_eq_true rfl) rfl ⟨Nat.le_of_ble_eq_true rfl, Nat.le_of_ble_eq_true rfl⟩ dX7_sceneOf_2 (fun k e => by subst e; exact (Option.some.inj h).symm) ⟨Nat.le_of_ble_eq_true rfl, Nat.le_of_ble_eq_true rfl⟩ rfl (fun hu => ?_)
  obtain ⟨u, e⟩ := hu
  subst e
  rw [Sum.elim_inr] at h
  refine v_iload_n hC dX7_sceneOf_5 rfl 2 rfl rfl ?_
  refine v_iconst hC (v := (nI 0)) dX7_sceneOf_6 (by decide) rfl ?_
  refine v_bipush hC (v := (nI 8)) dX7_sceneOf_7 (by decide) rfl ?_
  obtain ⟨v2, hv2, h⟩ := bind_g h
  refine v_callSri hC (n := 3) (st := []) (mX7_isIn l g cy x2 (nI 0) (nI 8) hv2) gX7_sceneOf_X7_isIn rfl rfl rfl (by decide +kernel) ⟨Nat.le_of_ble_eq_true rfl, Nat.le_of_ble_eq_true rfl⟩ [] rfl rfl rfl rfl (Nat.le_of_ble_eq_true rfl) rfl ⟨Nat.le_of_ble_eq_true rfl, Nat.le_of_ble_eq_true rfl⟩ dX7_sceneOf_9 rfl ?_
  obtain ⟨v3, hv3, h⟩ := bind_g h
  refine v_callSx hC hX (n := 1) (st := []) (fun sz => mX7_requireArgument l hX.1 g cy tt sa sz v2 hv3) gX7_sceneOf_X7_requireArgument rfl rfl rfl (by decide +kernel) ⟨Nat.le_of_ble_eq_true rfl, Nat.le_of_ble_eq_true rfl⟩ [] [0, 1, 2, 3, 4, 5, 6, 7] rfl rfl rfl rfl rfl rfl (Nat.le_of_ble_eq_true rfl) rfl ⟨Nat.le_of_ble_eq_true rfl, Nat.le_of_ble_eq_true rfl⟩ dX7_sceneOf_12 (fun k e => by subst e; exact (Option.some.inj h).symm) ⟨Nat.le_of_ble_eq_true rfl, Nat.le_of_ble_eq_true rfl⟩ rfl (fun hu => ?_)
  obtain ⟨u, e⟩ := hu
  subst e
  rw [Sum.elim_inr] at h
  refine v_aload_n hC dX7_sceneOf_15 rfl 0 rfl rfl ?_
  refine v_get hC iX7_sceneOf_X7 0 rfl rfl 0 (by decide) kX7_sceneOf_10 rfl rfl dX7_sceneOf_16 rfl ?_
  refine v_iload_n hC dX7_sceneOf_19 rfl 1 rfl rfl ?_
  refine v_iload_n hC dX7_sceneOf_20 rfl 2 rfl rfl ?_
  obtain ⟨v4, hv4, h⟩ := bind_g h
  refine v_callVri hC (n := 2) (st := []) (mX0_numberOfScene l g cy f0 q1 a1 q2 a2 q3 a3 ec sn dy wg pe pn br ex sc se x1 x2 hv4) gX7_sceneOf_X0_numberOfScene rfl rfl rfl (by decide +kernel) ⟨Nat.le_of_ble_eq_true rfl, Nat.le_of_ble_eq_true rfl⟩ 1 rfl rfl [1, 2, 3, 4, 5, 6, 7] rfl rfl rfl rfl (Nat.le_of_ble_eq_true rfl) rfl ⟨Nat.le_of_ble_eq_true rfl, Nat.le_of_ble_eq_true rfl⟩ dX7_sceneOf_21 rfl ?_
  obtain rfl := Option.some.inj h
  exact v_irX hC hr rfl rfl rfl rfl ⟨Nat.le_of_ble_eq_true rfl, Nat.le_of_ble_eq_true rfl⟩ dX7_sceneOf_24
theorem kX7_would_10 : Cond.fieldLink RX7 10 "CrowdFaces" "film" "LCrowdFaces$Film;" ∈ wsX7_would := by decide +kernel
theorem iX7_would_X7 : ∀ w ∈ wsX70, w ∈ wsX7_would := by decide +kernel
def pX7_would (ec : Int32) (sn : Int32) (ex : Nat → Int32) (sc : Nat → Int32) (se : Nat → Int32) (x1 : Int32) (x2 : Int32) : Option (Sum Nat (Int32)) := (pX7_requireScene sn x1).bind fun v1 => Sum.elim (fun k => some (.inl k)) (fun _ => (pX7_isIn x2 (nI 0) (nI 3)).bind fun v2 => (pX7_requireArgument v2).bind fun v3 => Sum.elim (fun k => some (.inl k)) (fun _ => (pX0_crowdNow ec sn ex sc se x1).bind fun v4 => if v4 = 0 then some (.inr (-1)) else if x2 = (nI 0) then some (.inr v4) else if x2 = (nI 1) then (pX0_wagesOf sc se x1 v4).bind fun v5 => some (.inr v5) else if x2 = (nI 2) then (pX0_penaltyCostsOf ec ex sc se x1 v4).bind fun v6 => some (.inr v6) else (pX0_breaksOf ec sn ex sc x1 v4).bind fun v7 => some (.inr v7)) v3) v1
abbrev rmX7_would : Room := { frames := 8, cells := 2, slots := 12, locals := 131 }
set_option maxHeartbeats 4000000 in
set_option maxRecDepth 100000 in
theorem mX7_would (l : Launch) (hlst : l.stackTraces = false) (g : va_G) (cy : Nat → ClassId) (tt sa : Nat → Nat) (sz : Nat) (h0 f0 t0 g0 k1 k2 w0 q1 a1 q2 a2 q3 a3 : Nat) (ec : Int32) (sn : Int32) (dy : Int32) (wg : Int32) (pe : Int32) (pn : Int32) (br : Int32) (ex : Nat → Int32) (sc : Nat → Int32) (se : Nat → Int32) (x1 : Int32) (x2 : Int32) {res : Sum Nat (Int32)} (h : pX7_would ec sn ex sc se x1 x2 = some res) : vx_Met l yX7_would wsX7_would rmX7_would (PE [.ref h0, .int x1, .int x2] g cy tt sa sz [(h0, .inr (5, [.ref f0, .ref t0, .ref g0, .ref k1, .ref k2, .ref w0])), (f0, .inr (0, [.ref q1, .ref q2, .ref q3, .int ec, .int sn, .int dy, .int wg, .int pe, .int pn, .int br])), (q1, .inr (3, [.int (nI 14), .ref a1])), (a1, .inl (cy 0, 84, .inl ex)), (q2, .inr (3, [.int (nI 10), .ref a2])), (a2, .inl (cy 0, 60, .inl sc)), (q3, .inr (3, [.int (nI 1), .ref a3])), (a3, .inl (cy 0, 3, .inl se))]) (QXi g (va_A [(h0, .inr (5, [.ref f0, .ref t0, .ref g0, .ref k1, .ref k2, .ref w0])), (f0, .inr (0, [.ref q1, .ref q2, .ref q3, .int ec, .int sn, .int dy, .int wg, .int pe, .int pn, .int br])), (q1, .inr (3, [.int (nI 14), .ref a1])), (a1, .inl (cy 0, 84, .inl ex)), (q2, .inr (3, [.int (nI 10), .ref a2])), (a2, .inl (cy 0, 60, .inl sc)), (q3, .inr (3, [.int (nI 1), .ref a3])), (a3, .inl (cy 0, 3, .inl se))] sz) res (fun u : Int32 => u) (fun _ => [(h0, .inr (5, [.ref f0, .ref t0, .ref g0, .ref k1, .ref k2, .ref w0])), (f0, .inr (0, [.ref q1, .ref q2, .ref q3, .int ec, .int sn, .int dy, .int wg, .int pe, .int pn, .int br])), (q1, .inr (3, [.int (nI 14), .ref a1])), (a1, .inl (cy 0, 84, .inl ex)), (q2, .inr (3, [.int (nI 10), .ref a2])), (a2, .inl (cy 0, 60, .inl sc)), (q3, .inr (3, [.int (nI 1), .ref a3])), (a3, .inl (cy 0, 3, .inl se))])) (XX g (va_A [(h0, .inr (5, [.ref f0, .ref t0, .ref g0, .ref k1, .ref k2, .ref w0])), (f0, .inr (0, [.ref q1, .ref q2, .ref q3, .int ec, .int sn, .int dy, .int wg, .int pe, .int pn, .int br])), (q1, .inr (3, [.int (nI 14), .ref a1])), (a1, .inl (cy 0, 84, .inl ex)), (q2, .inr (3, [.int (nI 10), .ref a2])), (a2, .inl (cy 0, 60, .inl sc)), (q3, .inr (3, [.int (nI 1), .ref a3])), (a3, .inl (cy 0, 3, .inl se))] sz) res [(h0, .inr (5, [.ref f0, .ref t0, .ref g0, .ref k1, .ref k2, .ref w0])), (f0, .inr (0, [.ref q1, .ref q2, .ref q3, .int ec, .int sn, .int dy, .int wg, .int pe, .int pn, .int br])), (q1, .inr (3, [.int (nI 14), .ref a1])), (a1, .inl (cy 0, 84, .inl ex)), (q2, .inr (3, [.int (nI 10), .ref a2])), (a2, .inl (cy 0, 60, .inl sc)), (q3, .inr (3, [.int (nI 1), .ref a3])), (a3, .inl (cy 0, 3, .inl se))]) 2 12 (va_A [(h0, .inr (5, [.ref f0, .ref t0, .ref g0, .ref k1, .ref k2, .ref w0])), (f0, .inr (0, [.ref q1, .ref q2, .ref q3, .int ec, .int sn, .int dy, .int wg, .int pe, .int pn, .int br])), (q1, .inr (3, [.int (nI 14), .ref a1])), (a1, .inl (cy 0, 84, .inl ex)), (q2, .inr (3, [.int (nI 10), .ref a2])), (a2, .inl (cy 0, 60, .inl sc)), (q3, .inr (3, [.int (nI 1), .ref a3])), (a3, .inl (cy 0, 3, .inl se))] sz) := by
  refine m_ofVX (cc := cX7_would) (nL := 4) (ret := (some .int)) hlst RX7 rfl (by decide) rfl [(0, .ref h0), (1, .int x1), (2, .int x2)] rfl (Nat.le_of_ble_eq_true rfl) ?_
  intro p e s m args below meth c hC hr hX
  generalize (va_A [(h0, .inr (5, [.ref f0, .ref t0, .ref g0, .ref k1, .ref k2, .ref w0])), (f0, .inr (0, [.ref q1, .ref q2, .ref q3, .int ec, .int sn, .int dy, .int wg, .int pe, .int pn, .int br])), (q1, .inr (3, [.int (nI 14), .ref a1])), (a1, .inl (cy 0, 84, .inl ex)), (q2, .inr (3, [.int (nI 10), .ref a2])), (a2, .inl (cy 0, 60, .inl sc)), (q3, .inr (3, [.int (nI 1), .ref a3])), (a3, .inl (cy 0, 3, .inl se))] sz) = A at hX ⊢
  unfold pX7_would at h
  refine v_aload_n hC dX7_would_0 rfl 0 rfl rfl ?_
  refine v_iload_n hC dX7_would_1 rfl 1 rfl rfl ?_
  obtain ⟨v1, hv1, h⟩ := bind_g h
  refine v_callVx hC hX (n := 1) (st := []) (fun sz => mX7_requireScene l hX.1 g cy tt sa sz h0 f0 t0 g0 k1 k2 w0 q1 a1 q2 a2 q3 a3 ec sn dy wg pe pn br ex sc se x1 hv1) gX7_would_X7_requireScene rfl rfl rfl (by decide +kernel) ⟨Nat.le_of_ble_eq_true rfl, Nat.le_of_ble_eq_true rfl⟩ 0 rfl rfl [0, 1, 2, 3, 4, 5, 6, 7] [] rfl rfl rfl rfl rfl rfl (Nat.le_of_ble_eq_true rfl) rfl ⟨Nat.le_of_ble_eq_true rfl, Nat.le_of_ble_eq_true rfl⟩ dX7_would_2 (fun k e => by subst e; exact (Option.some.inj h).symm) ⟨Nat.le_of_ble_eq_true rfl, Nat.le_of_ble_eq_true rfl⟩ rfl (fun hu => ?_)
  obtain ⟨u, e⟩ := hu
  subst e
  rw [Sum.elim_inr] at h
  refine v_iload_n hC dX7_would_5 rfl 2 rfl rfl ?_
  refine v_iconst hC (v := (nI 0)) dX7_would_6 (by decide) rfl ?_
  refine v_iconst hC (v := (nI 3)) dX7_would_7 (by decide) rfl ?_
  obtain ⟨v2, hv2, h⟩ := bind_g h
  refine v_callSri hC (n := 3) (st := []) (mX7_isIn l g cy x2 (nI 0) (nI 3) hv2) gX7_would_X7_isIn rfl rfl rfl (by decide +kernel) ⟨Nat.le_of_ble_eq_true rfl, Nat.le_of_ble_eq_true rfl⟩ [] rfl rfl rfl rfl (Nat.le_of_ble_eq_true rfl) rfl ⟨Nat.le_of_ble_eq_true rfl, Nat.le_of_ble_eq_true rfl⟩ dX7_would_8 rfl ?_
  obtain ⟨v3, hv3, h⟩ := bind_g h
  refine v_callSx hC hX (n := 1) (st := []) (fun sz => mX7_requireArgument l hX.1 g cy tt sa sz v2 hv3) gX7_would_X7_requireArgument rfl rfl rfl (by decide +kernel) ⟨Nat.le_of_ble_eq_true rfl, Nat.le_of_ble_eq_true rfl⟩ [] [0, 1, 2, 3, 4, 5, 6, 7] rfl rfl rfl rfl rfl rfl (Nat.le_of_ble_eq_true rfl) rfl ⟨Nat.le_of_ble_eq_true rfl, Nat.le_of_ble_eq_true rfl⟩ dX7_would_11 (fun k e => by subst e; exact (Option.some.inj h).symm) ⟨Nat.le_of_ble_eq_true rfl, Nat.le_of_ble_eq_true rfl⟩ rfl (fun hu => ?_)
  obtain ⟨u, e⟩ := hu
  subst e
  rw [Sum.elim_inr] at h
  refine v_aload_n hC dX7_would_14 rfl 0 rfl rfl ?_
  refine v_get hC iX7_would_X7 0 rfl rfl 0 (by decide) kX7_would_10 rfl rfl dX7_would_15 rfl ?_
  refine v_iload_n hC dX7_would_18 rfl 1 rfl rfl ?_
  obtain ⟨v4, hv4, h⟩ := bind_g h
  refine v_callVri hC (n := 1) (st := []) (mX0_crowdNow l g cy f0 q1 a1 q2 a2 q3 a3 ec sn dy wg pe pn br ex sc se x1 hv4) gX7_would_X0_crowdNow rfl rfl rfl (by decide +kernel) ⟨Nat.le_of_ble_eq_true rfl, Nat.le_of_ble_eq_true rfl⟩ 1 rfl rfl [1, 2, 3, 4, 5, 6, 7] rfl rfl rfl rfl (Nat.le_of_ble_eq_true rfl) rfl ⟨Nat.le_of_ble_eq_true rfl, Nat.le_of_ble_eq_true rfl⟩ dX7_would_19 rfl ?_
  refine v_istore_n hC dX7_would_22 rfl (by decide) [(3, .int v4), (0, .ref h0), (1, .int x1), (2, .int x2)] rfl rfl ?_
  refine v_iload_n hC dX7_would_23 rfl 0 rfl rfl ?_
  refine v_if_ne hC (tgt := 29) dX7_would_24 (by decide) rfl (fun c => ?_) (fun c => ?_)
  · have h := ite_f c h
    refine v_iload_n hC dX7_would_29 rfl 3 rfl rfl ?_
    by_cases c0 : x2 = (nI 0)
    · have h := ite_t c0 h
      refine v_tswI hC (v := (nI 0)) (tgt := 56) dX7_would_30 c0 (by decide) (by decide) rfl (by decide) ?_
      refine v_iload_n hC dX7_would_56 rfl 0 rfl rfl ?_
      obtain rfl := Option.some.inj h
      exact v_irX hC hr rfl rfl rfl rfl ⟨Nat.le_of_ble_eq_true rfl, Nat.le_of_ble_eq_true rfl⟩ dX7_would_57
    · have h := ite_f c0 h
      by_cases c1 : x2 = (nI 1)
      · have h := ite_t c1 h
        refine v_tswI hC (v := (nI 1)) (tgt := 58) dX7_would_30 c1 (by decide) (by decide) rfl (by decide) ?_
        refine v_aload_n hC dX7_would_58 rfl 1 rfl rfl ?_
        refine v_get hC iX7_would_X7 0 rfl rfl 0 (by decide) kX7_would_10 rfl rfl dX7_would_59 rfl ?_
        refine v_iload_n hC dX7_would_62 rfl 2 rfl rfl ?_
        refine v_iload_n hC dX7_would_63 rfl 0 rfl rfl ?_
        obtain ⟨v5, hv5, h⟩ := bind_g h
        refine v_callVri hC (n := 2) (st := []) (mX0_wagesOf l g cy f0 q1 a1 q2 a2 q3 a3 ec sn dy wg pe pn br ex sc se x1 v4 hv5) gX7_would_X0_wagesOf rfl rfl rfl (by decide +kernel) ⟨Nat.le_of_ble_eq_true rfl, Nat.le_of_ble_eq_true rfl⟩ 1 rfl rfl [1, 2, 3, 4, 5, 6, 7] rfl rfl rfl rfl (Nat.le_of_ble_eq_true rfl) rfl ⟨Nat.le_of_ble_eq_true rfl, Nat.le_of_ble_eq_true rfl⟩ dX7_would_64 rfl ?_
        obtain rfl := Option.some.inj h
        exact v_irX hC hr rfl rfl rfl rfl ⟨Nat.le_of_ble_eq_true rfl, Nat.le_of_ble_eq_true rfl⟩ dX7_would_67
      · have h := ite_f c1 h
        by_cases c2 : x2 = (nI 2)
        · have h := ite_t c2 h
          refine v_tswI hC (v := (nI 2)) (tgt := 68) dX7_would_30 c2 (by decide) (by decide) rfl (by decide) ?_
          refine v_aload_n hC dX7_would_68 rfl 1 rfl rfl ?_
          refine v_get hC iX7_would_X7 0 rfl rfl 0 (by decide) kX7_would_10 rfl rfl dX7_would_69 rfl ?_
          refine v_iload_n hC dX7_would_72 rfl 2 rfl rfl ?_
          refine v_iload_n hC dX7_would_73 rfl 0 rfl rfl ?_
          obtain ⟨v6, hv6, h⟩ := bind_g h
          refine v_callVri hC (n := 2) (st := []) (mX0_penaltyCostsOf l g cy f0 q1 a1 q2 a2 q3 a3 ec sn dy wg pe pn br ex sc se x1 v4 hv6) gX7_would_X0_penaltyCostsOf rfl rfl rfl (by decide +kernel) ⟨Nat.le_of_ble_eq_true rfl, Nat.le_of_ble_eq_true rfl⟩ 1 rfl rfl [1, 2, 3, 4, 5, 6, 7] rfl rfl rfl rfl (Nat.le_of_ble_eq_true rfl) rfl ⟨Nat.le_of_ble_eq_true rfl, Nat.le_of_ble_eq_true rfl⟩ dX7_would_74 rfl ?_
          obtain rfl := Option.some.inj h
          exact v_irX hC hr rfl rfl rfl rfl ⟨Nat.le_of_ble_eq_true rfl, Nat.le_of_ble_eq_true rfl⟩ dX7_would_77
        · have h := ite_f c2 h
          refine v_tswO hC (tgt := 78) dX7_would_30 (by have e0 := ne_I (z := 0) (by decide) c0; have e1 := ne_I (z := 1) (by decide) c1; have e2 := ne_I (z := 2) (by decide) c2; omega) (by decide) ?_
          refine v_aload_n hC dX7_would_78 rfl 1 rfl rfl ?_
          refine v_get hC iX7_would_X7 0 rfl rfl 0 (by decide) kX7_would_10 rfl rfl dX7_would_79 rfl ?_
          refine v_iload_n hC dX7_would_82 rfl 2 rfl rfl ?_
          refine v_iload_n hC dX7_would_83 rfl 0 rfl rfl ?_
          obtain ⟨v7, hv7, h⟩ := bind_g h
          refine v_callVri hC (n := 2) (st := []) (mX0_breaksOf l g cy f0 q1 a1 q2 a2 q3 a3 ec sn dy wg pe pn br ex sc se x1 v4 hv7) gX7_would_X0_breaksOf rfl rfl rfl (by decide +kernel) ⟨Nat.le_of_ble_eq_true rfl, Nat.le_of_ble_eq_true rfl⟩ 1 rfl rfl [1, 2, 3, 4, 5, 6, 7] rfl rfl rfl rfl (Nat.le_of_ble_eq_true rfl) rfl ⟨Nat.le_of_ble_eq_true rfl, Nat.le_of_ble_eq_true rfl⟩ dX7_would_84 rfl ?_
          obtain rfl := Option.some.inj h
          exact v_irX hC hr rfl rfl rfl rfl ⟨Nat.le_of_ble_eq_true rfl, Nat.le_of_ble_eq_true rfl⟩ dX7_would_87
  · have h := ite_t c h
    refine v_iconst hC (v := (-1)) dX7_would_27 (by decide) rfl ?_
    obtain rfl := Option.some.inj h
    exact v_irX hC hr rfl rfl rfl rfl ⟨Nat.le_of_ble_eq_true rfl, Nat.le_of_ble_eq_true rfl⟩ dX7_would_28
theorem kX7_why_10 : Cond.fieldLink RX7 10 "CrowdFaces" "film" "LCrowdFaces$Film;" ∈ wsX7_why := by decide +kernel
theorem iX7_why_X7 : ∀ w ∈ wsX70, w ∈ wsX7_why := by decide +kernel
def pX7_why (ec : Int32) (sn : Int32) (ex : Nat → Int32) (sc : Nat → Int32) (se : Nat → Int32) (x1 : Int32) (x2 : Int32) : Option (Sum Nat (Int32)) := (pX7_requireScene sn x1).bind fun v1 => Sum.elim (fun k => some (.inl k)) (fun _ => (pX7_requireExtra ec x2).bind fun v2 => Sum.elim (fun k => some (.inl k)) (fun _ => (pX0_reason ec sn ex sc se x1 x2).bind fun v3 => some (.inr v3)) v2) v1
abbrev rmX7_why : Room := { frames := 8, cells := 2, slots := 12, locals := 131 }
set_option maxHeartbeats 4000000 in
set_option maxRecDepth 100000 in
theorem mX7_why (l : Launch) (hlst : l.stackTraces = false) (g : va_G) (cy : Nat → ClassId) (tt sa : Nat → Nat) (sz : Nat) (h0 f0 t0 g0 k1 k2 w0 q1 a1 q2 a2 q3 a3 : Nat) (ec : Int32) (sn : Int32) (dy : Int32) (wg : Int32) (pe : Int32) (pn : Int32) (br : Int32) (ex : Nat → Int32) (sc : Nat → Int32) (se : Nat → Int32) (x1 : Int32) (x2 : Int32) {res : Sum Nat (Int32)} (h : pX7_why ec sn ex sc se x1 x2 = some res) : vx_Met l yX7_why wsX7_why rmX7_why (PE [.ref h0, .int x1, .int x2] g cy tt sa sz [(h0, .inr (5, [.ref f0, .ref t0, .ref g0, .ref k1, .ref k2, .ref w0])), (f0, .inr (0, [.ref q1, .ref q2, .ref q3, .int ec, .int sn, .int dy, .int wg, .int pe, .int pn, .int br])), (q1, .inr (3, [.int (nI 14), .ref a1])), (a1, .inl (cy 0, 84, .inl ex)), (q2, .inr (3, [.int (nI 10), .ref a2])), (a2, .inl (cy 0, 60, .inl sc)), (q3, .inr (3, [.int (nI 1), .ref a3])), (a3, .inl (cy 0, 3, .inl se))]) (QXi g (va_A [(h0, .inr (5, [.ref f0, .ref t0, .ref g0, .ref k1, .ref k2, .ref w0])), (f0, .inr (0, [.ref q1, .ref q2, .ref q3, .int ec, .int sn, .int dy, .int wg, .int pe, .int pn, .int br])), (q1, .inr (3, [.int (nI 14), .ref a1])), (a1, .inl (cy 0, 84, .inl ex)), (q2, .inr (3, [.int (nI 10), .ref a2])), (a2, .inl (cy 0, 60, .inl sc)), (q3, .inr (3, [.int (nI 1), .ref a3])), (a3, .inl (cy 0, 3, .inl se))] sz) res (fun u : Int32 => u) (fun _ => [(h0, .inr (5, [.ref f0, .ref t0, .ref g0, .ref k1, .ref k2, .ref w0])), (f0, .inr (0, [.ref q1, .ref q2, .ref q3, .int ec, .int sn, .int dy, .int wg, .int pe, .int pn, .int br])), (q1, .inr (3, [.int (nI 14), .ref a1])), (a1, .inl (cy 0, 84, .inl ex)), (q2, .inr (3, [.int (nI 10), .ref a2])), (a2, .inl (cy 0, 60, .inl sc)), (q3, .inr (3, [.int (nI 1), .ref a3])), (a3, .inl (cy 0, 3, .inl se))])) (XX g (va_A [(h0, .inr (5, [.ref f0, .ref t0, .ref g0, .ref k1, .ref k2, .ref w0])), (f0, .inr (0, [.ref q1, .ref q2, .ref q3, .int ec, .int sn, .int dy, .int wg, .int pe, .int pn, .int br])), (q1, .inr (3, [.int (nI 14), .ref a1])), (a1, .inl (cy 0, 84, .inl ex)), (q2, .inr (3, [.int (nI 10), .ref a2])), (a2, .inl (cy 0, 60, .inl sc)), (q3, .inr (3, [.int (nI 1), .ref a3])), (a3, .inl (cy 0, 3, .inl se))] sz) res [(h0, .inr (5, [.ref f0, .ref t0, .ref g0, .ref k1, .ref k2, .ref w0])), (f0, .inr (0, [.ref q1, .ref q2, .ref q3, .int ec, .int sn, .int dy, .int wg, .int pe, .int pn, .int br])), (q1, .inr (3, [.int (nI 14), .ref a1])), (a1, .inl (cy 0, 84, .inl ex)), (q2, .inr (3, [.int (nI 10), .ref a2])), (a2, .inl (cy 0, 60, .inl sc)), (q3, .inr (3, [.int (nI 1), .ref a3])), (a3, .inl (cy 0, 3, .inl se))]) 2 12 (va_A [(h0, .inr (5, [.ref f0, .ref t0, .ref g0, .ref k1, .ref k2, .ref w0])), (f0, .inr (0, [.ref q1, .ref q2, .ref q3, .int ec, .int sn, .int dy, .int wg, .int pe, .int pn, .int br])), (q1, .inr (3, [.int (nI 14), .ref a1])), (a1, .inl (cy 0, 84, .inl ex)), (q2, .inr (3, [.int (nI 10), .ref a2])), (a2, .inl (cy 0, 60, .inl sc)), (q3, .inr (3, [.int (nI 1), .ref a3])), (a3, .inl (cy 0, 3, .inl se))] sz) := by
  refine m_ofVX (cc := cX7_why) (nL := 3) (ret := (some .int)) hlst RX7 rfl (by decide) rfl [(0, .ref h0), (1, .int x1), (2, .int x2)] rfl (Nat.le_of_ble_eq_true rfl) ?_
  intro p e s m args below meth c hC hr hX
  generalize (va_A [(h0, .inr (5, [.ref f0, .ref t0, .ref g0, .ref k1, .ref k2, .ref w0])), (f0, .inr (0, [.ref q1, .ref q2, .ref q3, .int ec, .int sn, .int dy, .int wg, .int pe, .int pn, .int br])), (q1, .inr (3, [.int (nI 14), .ref a1])), (a1, .inl (cy 0, 84, .inl ex)), (q2, .inr (3, [.int (nI 10), .ref a2])), (a2, .inl (cy 0, 60, .inl sc)), (q3, .inr (3, [.int (nI 1), .ref a3])), (a3, .inl (cy 0, 3, .inl se))] sz) = A at hX ⊢
  unfold pX7_why at h
  refine v_aload_n hC dX7_why_0 rfl 0 rfl rfl ?_
  refine v_iload_n hC dX7_why_1 rfl 1 rfl rfl ?_
  obtain ⟨v1, hv1, h⟩ := bind_g h
  refine v_callVx hC hX (n := 1) (st := []) (fun sz => mX7_requireScene l hX.1 g cy tt sa sz h0 f0 t0 g0 k1 k2 w0 q1 a1 q2 a2 q3 a3 ec sn dy wg pe pn br ex sc se x1 hv1) gX7_why_X7_requireScene rfl rfl rfl (by decide +kernel) ⟨Nat.le_of_ble_eq_true rfl, Nat.le_of_ble_eq_true rfl⟩ 0 rfl rfl [0, 1, 2, 3, 4, 5, 6, 7] [] rfl rfl rfl rfl rfl rfl (Nat.le_of_ble_eq_true rfl) rfl ⟨Nat.le_of_ble_eq_true rfl, Nat.le_of_ble_eq_true rfl⟩ dX7_why_2 (fun k e => by subst e; exact (Option.some.inj h).symm) ⟨Nat.le_of_ble_eq_true rfl, Nat.le_of_ble_eq_true rfl⟩ rfl (fun hu => ?_)
  obtain ⟨u, e⟩ := hu
  subst e
  rw [Sum.elim_inr] at h
  refine v_aload_n hC dX7_why_5 rfl 0 rfl rfl ?_
  refine v_iload_n hC dX7_why_6 rfl 2 rfl rfl ?_
  obtain ⟨v2, hv2, h⟩ := bind_g h
  refine v_callVx hC hX (n := 1) (st := []) (fun sz => mX7_requireExtra l hX.1 g cy tt sa sz h0 f0 t0 g0 k1 k2 w0 q1 a1 q2 a2 q3 a3 ec sn dy wg pe pn br ex sc se x2 hv2) gX7_why_X7_requireExtra rfl rfl rfl (by decide +kernel) ⟨Nat.le_of_ble_eq_true rfl, Nat.le_of_ble_eq_true rfl⟩ 0 rfl rfl [0, 1, 2, 3, 4, 5, 6, 7] [] rfl rfl rfl rfl rfl rfl (Nat.le_of_ble_eq_true rfl) rfl ⟨Nat.le_of_ble_eq_true rfl, Nat.le_of_ble_eq_true rfl⟩ dX7_why_7 (fun k e => by subst e; exact (Option.some.inj h).symm) ⟨Nat.le_of_ble_eq_true rfl, Nat.le_of_ble_eq_true rfl⟩ rfl (fun hu => ?_)
  obtain ⟨u, e⟩ := hu
  subst e
  rw [Sum.elim_inr] at h
  refine v_aload_n hC dX7_why_10 rfl 0 rfl rfl ?_
  refine v_get hC iX7_why_X7 0 rfl rfl 0 (by decide) kX7_why_10 rfl rfl dX7_why_11 rfl ?_
  refine v_iload_n hC dX7_why_14 rfl 1 rfl rfl ?_
  refine v_iload_n hC dX7_why_15 rfl 2 rfl rfl ?_
  obtain ⟨v3, hv3, h⟩ := bind_g h
  refine v_callVri hC (n := 2) (st := []) (mX0_reason l g cy f0 q1 a1 q2 a2 q3 a3 ec sn dy wg pe pn br ex sc se x1 x2 hv3) gX7_why_X0_reason rfl rfl rfl (by decide +kernel) ⟨Nat.le_of_ble_eq_true rfl, Nat.le_of_ble_eq_true rfl⟩ 1 rfl rfl [1, 2, 3, 4, 5, 6, 7] rfl rfl rfl rfl (Nat.le_of_ble_eq_true rfl) rfl ⟨Nat.le_of_ble_eq_true rfl, Nat.le_of_ble_eq_true rfl⟩ dX7_why_16 rfl ?_
  obtain rfl := Option.some.inj h
  exact v_irX hC hr rfl rfl rfl rfl ⟨Nat.le_of_ble_eq_true rfl, Nat.le_of_ble_eq_true rfl⟩ dX7_why_19
theorem kX7_cheapest_10 : Cond.fieldLink RX7 10 "CrowdFaces" "film" "LCrowdFaces$Film;" ∈ wsX7_cheapest := by decide +kernel
theorem iX7_cheapest_X7 : ∀ w ∈ wsX70, w ∈ wsX7_cheapest := by decide +kernel
def pX7_cheapest_55 (kk : Int32 → Int32 → (Nat → Int32) → (Nat → Int32) → (Nat → Int32) → Int32 → Int32 → Int32 → Option (Int32)) (ec : Int32) (sn : Int32) (ex : Nat → Int32) (sc : Nat → Int32) (se : Nat → Int32) (y1 : Int32) (y2 : Int32) (y3 : Int32) : Option (Int32) := kk ec sn ex sc se y1 y2 (y3 + (nI 1))
def pX7_cheapest_50 (kk : Int32 → Int32 → (Nat → Int32) → (Nat → Int32) → (Nat → Int32) → Int32 → Int32 → Int32 → Option (Int32)) (ec : Int32) (sn : Int32) (ex : Nat → Int32) (sc : Nat → Int32) (se : Nat → Int32) (y3 : Int32) (y5 : Int32) : Option (Int32) := pX7_cheapest_55 kk ec sn ex sc se y3 y5 y3
def pX7_cheapest_6 : Nat → Int32 → Int32 → (Nat → Int32) → (Nat → Int32) → (Nat → Int32) → Int32 → Int32 → Int32 → Option (Int32)
  | 0, _, _, _, _, _, _, _, _ => none
  | k + 1, ec, sn, ex, sc, se, y1, y2, y3 => if (nI 10) ≤ y3 then some y1 else (pX0_crowdNow ec sn ex sc se y3).bind fun v1 => if v1 = 0 then pX7_cheapest_55 (fun u0 u1 u2 u3 u4 u5 u6 u7 => pX7_cheapest_6 k u0 u1 u2 u3 u4 u5 u6 u7) ec sn ex sc se y1 y2 y3 else (pX0_costOf ec ex sc se y3 v1).bind fun v2 => if y1 = (-1) then pX7_cheapest_50 (fun u0 u1 u2 u3 u4 u5 u6 u7 => pX7_cheapest_6 k u0 u1 u2 u3 u4 u5 u6 u7) ec sn ex sc se y3 v2 else if y2 ≤ v2 then pX7_cheapest_55 (fun u0 u1 u2 u3 u4 u5 u6 u7 => pX7_cheapest_6 k u0 u1 u2 u3 u4 u5 u6 u7) ec sn ex sc se y1 y2 y3 else pX7_cheapest_50 (fun u0 u1 u2 u3 u4 u5 u6 u7 => pX7_cheapest_6 k u0 u1 u2 u3 u4 u5 u6 u7) ec sn ex sc se y3 v2
theorem pX7_cheapest_6_s {k : Nat} (ec : Int32) (sn : Int32) (ex : Nat → Int32) (sc : Nat → Int32) (se : Nat → Int32) (y1 : Int32) (y2 : Int32) (y3 : Int32) : pX7_cheapest_6 (k + 1) ec sn ex sc se y1 y2 y3 = if (nI 10) ≤ y3 then some y1 else (pX0_crowdNow ec sn ex sc se y3).bind fun v1 => if v1 = 0 then pX7_cheapest_55 (fun u0 u1 u2 u3 u4 u5 u6 u7 => pX7_cheapest_6 k u0 u1 u2 u3 u4 u5 u6 u7) ec sn ex sc se y1 y2 y3 else (pX0_costOf ec ex sc se y3 v1).bind fun v2 => if y1 = (-1) then pX7_cheapest_50 (fun u0 u1 u2 u3 u4 u5 u6 u7 => pX7_cheapest_6 k u0 u1 u2 u3 u4 u5 u6 u7) ec sn ex sc se y3 v2 else if y2 ≤ v2 then pX7_cheapest_55 (fun u0 u1 u2 u3 u4 u5 u6 u7 => pX7_cheapest_6 k u0 u1 u2 u3 u4 u5 u6 u7) ec sn ex sc se y1 y2 y3 else pX7_cheapest_50 (fun u0 u1 u2 u3 u4 u5 u6 u7 => pX7_cheapest_6 k u0 u1 u2 u3 u4 u5 u6 u7) ec sn ex sc se y3 v2 := rfl
def pX7_cheapest (ec : Int32) (sn : Int32) (ex : Nat → Int32) (sc : Nat → Int32) (se : Nat → Int32) : Option (Int32) := pX7_cheapest_6 FU ec sn ex sc se (-1) (nI 0) (nI 0)
abbrev rmX7_cheapest : Room := { frames := 4, cells := 0, slots := 0, locals := 101 }
set_option maxHeartbeats 4000000 in
set_option maxRecDepth 100000 in
theorem bX7_cheapest_55 {p : Program} {l : Launch} {e : Env} {s : State} {m : MethodId} {args : Array Value} {below : List Frame} {meth : Method} {c : Code} {g : va_G} {cy : Nat → ClassId} (hC : CX p s m args meth c g cy 6 cX7_cheapest wsX7_cheapest RX7) (hr : meth.sig.returnType = (some .int)) {h0 f0 t0 g0 k1 k2 w0 q1 a1 q2 a2 q3 a3 : Nat} {res : Int32} : ∀ (ec : Int32) (sn : Int32) (dy : Int32) (wg : Int32) (pe : Int32) (pn : Int32) (br : Int32) (ex : Nat → Int32) (sc : Nat → Int32) (se : Nat → Int32) (y1 : Int32) (y2 : Int32) (y3 : Int32) {kk : Int32 → Int32 → (Nat → Int32) → (Nat → Int32) → (Nat → Int32) → Int32 → Int32 → Int32 → Option (Int32)} (hk : ∀ (ec : Int32) (sn : Int32) (dy : Int32) (wg : Int32) (pe : Int32) (pn : Int32) (br : Int32) (ex : Nat → Int32) (sc : Nat → Int32) (se : Nat → Int32) (y1 : Int32) (y2 : Int32) (y3 : Int32), kk ec sn ex sc se y1 y2 y3 = some res → V p l e (headSpec wsX7_cheapest rmX7_cheapest).room s m args below meth c g 6 0 0 (MQ below (QRi res) args s 0 0 nF) nF (fun _ => True) [(h0, .inr (5, [.ref f0, .ref t0, .ref g0, .ref k1, .ref k2, .ref w0])), (f0, .inr (0, [.ref q1, .ref q2, .ref q3, .int ec, .int sn, .int dy, .int wg, .int pe, .int pn, .int br])), (q1, .inr (3, [.int (nI 14), .ref a1])), (a1, .inl (cy 0, 84, .inl ex)), (q2, .inr (3, [.int (nI 10), .ref a2])), (a2, .inl (cy 0, 60, .inl sc)), (q3, .inr (3, [.int (nI 1), .ref a3])), (a3, .inl (cy 0, 3, .inl se))] 6 [(0, .ref h0), (1, .int y1), (2, .int y2), (3, .int y3)] []) (h : pX7_cheapest_55 kk ec sn ex sc se y1 y2 y3 = some res), V p l e (headSpec wsX7_cheapest rmX7_cheapest).room s m args below meth c g 6 0 0 (MQ below (QRi res) args s 0 0 nF) nF (fun _ => True) [(h0, .inr (5, [.ref f0, .ref t0, .ref g0, .ref k1, .ref k2, .ref w0])), (f0, .inr (0, [.ref q1, .ref q2, .ref q3, .int ec, .int sn, .int dy, .int wg, .int pe, .int pn, .int br])), (q1, .inr (3, [.int (nI 14), .ref a1])), (a1, .inl (cy 0, 84, .inl ex)), (q2, .inr (3, [.int (nI 10), .ref a2])), (a2, .inl (cy 0, 60, .inl sc)), (q3, .inr (3, [.int (nI 1), .ref a3])), (a3, .inl (cy 0, 3, .inl se))] 55 [(0, .ref h0), (1, .int y1), (2, .int y2), (3, .int y3)] [] := by
  intro ec sn dy wg pe pn br ex sc se y1 y2 y3 kk hk h
  unfold pX7_cheapest_55 at h
  refine v_iinc hC dX7_cheapest_55 3 rfl (v := (y3 + (nI 1))) rfl (by decide) [(3, .int (y3 + (nI 1))), (0, .ref h0), (1, .int y1), (2, .int y2)] rfl rfl ?_
  refine v_goto hC (tgt := 6) dX7_cheapest_58 (by decide) ?_
  exact v_sub [1, 2, 3, 0] (lv' := [(0, .ref h0), (1, .int y1), (2, .int y2), (3, .int (y3 + (nI 1)))]) rfl (hk _ _ _ _ _ _ _ _ _ _ _ _ _ h)
set_option maxHeartbeats 4000000 in
set_option maxRecDepth 100000 in
theorem bX7_cheapest_50 {p : Program} {l : Launch} {e : Env} {s : State} {m : MethodId} {args : Array Value} {below : List Frame} {meth : Method} {c : Code} {g : va_G} {cy : Nat → ClassId} (hC : CX p s m args meth c g cy 6 cX7_cheapest wsX7_cheapest RX7) (hr : meth.sig.returnType = (some .int)) {h0 f0 t0 g0 k1 k2 w0 q1 a1 q2 a2 q3 a3 : Nat} {res : Int32} : ∀ (ec : Int32) (sn : Int32) (dy : Int32) (wg : Int32) (pe : Int32) (pn : Int32) (br : Int32) (ex : Nat → Int32) (sc : Nat → Int32) (se : Nat → Int32) (y3 : Int32) (y5 : Int32) {kk : Int32 → Int32 → (Nat → Int32) → (Nat → Int32) → (Nat → Int32) → Int32 → Int32 → Int32 → Option (Int32)} (hk : ∀ (ec : Int32) (sn : Int32) (dy : Int32) (wg : Int32) (pe : Int32) (pn : Int32) (br : Int32) (ex : Nat → Int32) (sc : Nat → Int32) (se : Nat → Int32) (y1 : Int32) (y2 : Int32) (y3 : Int32), kk ec sn ex sc se y1 y2 y3 = some res → V p l e (headSpec wsX7_cheapest rmX7_cheapest).room s m args below meth c g 6 0 0 (MQ below (QRi res) args s 0 0 nF) nF (fun _ => True) [(h0, .inr (5, [.ref f0, .ref t0, .ref g0, .ref k1, .ref k2, .ref w0])), (f0, .inr (0, [.ref q1, .ref q2, .ref q3, .int ec, .int sn, .int dy, .int wg, .int pe, .int pn, .int br])), (q1, .inr (3, [.int (nI 14), .ref a1])), (a1, .inl (cy 0, 84, .inl ex)), (q2, .inr (3, [.int (nI 10), .ref a2])), (a2, .inl (cy 0, 60, .inl sc)), (q3, .inr (3, [.int (nI 1), .ref a3])), (a3, .inl (cy 0, 3, .inl se))] 6 [(0, .ref h0), (1, .int y1), (2, .int y2), (3, .int y3)] []) (h : pX7_cheapest_50 kk ec sn ex sc se y3 y5 = some res), V p l e (headSpec wsX7_cheapest rmX7_cheapest).room s m args below meth c g 6 0 0 (MQ below (QRi res) args s 0 0 nF) nF (fun _ => True) [(h0, .inr (5, [.ref f0, .ref t0, .ref g0, .ref k1, .ref k2, .ref w0])), (f0, .inr (0, [.ref q1, .ref q2, .ref q3, .int ec, .int sn, .int dy, .int wg, .int pe, .int pn, .int br])), (q1, .inr (3, [.int (nI 14), .ref a1])), (a1, .inl (cy 0, 84, .inl ex)), (q2, .inr (3, [.int (nI 10), .ref a2])), (a2, .inl (cy 0, 60, .inl sc)), (q3, .inr (3, [.int (nI 1), .ref a3])), (a3, .inl (cy 0, 3, .inl se))] 50 [(0, .ref h0), (3, .int y3), (5, .int y5)] [] := by
  intro ec sn dy wg pe pn br ex sc se y3 y5 kk hk h
  unfold pX7_cheapest_50 at h
  refine v_iload_n hC dX7_cheapest_50 rfl 1 rfl rfl ?_
  refine v_istore_n hC dX7_cheapest_51 rfl (by decide) [(1, .int y3), (0, .ref h0), (3, .int y3), (5, .int y5)] rfl rfl ?_
  refine v_iload hC dX7_cheapest_52 3 rfl rfl ?_
  refine v_istore_n hC dX7_cheapest_54 rfl (by decide) [(2, .int y5), (1, .int y3), (0, .ref h0), (3, .int y3), (5, .int y5)] rfl rfl ?_
  exact v_sub [2, 1, 0, 3] (lv' := [(0, .ref h0), (1, .int y3), (2, .int y5), (3, .int y3)]) rfl (bX7_cheapest_55 hC hr _ _ _ _ _ _ _ _ _ _ _ _ _ hk h)
set_option maxHeartbeats 4000000 in
set_option maxRecDepth 100000 in
theorem bX7_cheapest_6 {p : Program} {l : Launch} {e : Env} {s : State} {m : MethodId} {args : Array Value} {below : List Frame} {meth : Method} {c : Code} {g : va_G} {cy : Nat → ClassId} (hC : CX p s m args meth c g cy 6 cX7_cheapest wsX7_cheapest RX7) (hr : meth.sig.returnType = (some .int)) {h0 f0 t0 g0 k1 k2 w0 q1 a1 q2 a2 q3 a3 : Nat} {res : Int32} : ∀ (k : Nat) (ec : Int32) (sn : Int32) (dy : Int32) (wg : Int32) (pe : Int32) (pn : Int32) (br : Int32) (ex : Nat → Int32) (sc : Nat → Int32) (se : Nat → Int32) (y1 : Int32) (y2 : Int32) (y3 : Int32) (h : pX7_cheapest_6 k ec sn ex sc se y1 y2 y3 = some res), V p l e (headSpec wsX7_cheapest rmX7_cheapest).room s m args below meth c g 6 0 0 (MQ below (QRi res) args s 0 0 nF) nF (fun _ => True) [(h0, .inr (5, [.ref f0, .ref t0, .ref g0, .ref k1, .ref k2, .ref w0])), (f0, .inr (0, [.ref q1, .ref q2, .ref q3, .int ec, .int sn, .int dy, .int wg, .int pe, .int pn, .int br])), (q1, .inr (3, [.int (nI 14), .ref a1])), (a1, .inl (cy 0, 84, .inl ex)), (q2, .inr (3, [.int (nI 10), .ref a2])), (a2, .inl (cy 0, 60, .inl sc)), (q3, .inr (3, [.int (nI 1), .ref a3])), (a3, .inl (cy 0, 3, .inl se))] 6 [(0, .ref h0), (1, .int y1), (2, .int y2), (3, .int y3)] [] := by
  intro k
  induction k with
  | zero =>
    intro ec sn dy wg pe pn br ex sc se y1 y2 y3 h
    have h : (none : Option _) = some res := h
    cases h
  | succ k ih =>
    intro ec sn dy wg pe pn br ex sc se y1 y2 y3 h
    rw [pX7_cheapest_6_s] at h
    refine v_iload_n hC dX7_cheapest_6 rfl 3 rfl rfl ?_
    refine v_bipush hC (v := (nI 10)) dX7_cheapest_7 (by decide) rfl ?_
    refine v_icmp_ge hC (tgt := 61) dX7_cheapest_9 (by decide) rfl (fun c => ?_) (fun c => ?_)
    · have h := ite_t c h
      refine v_iload_n hC dX7_cheapest_61 rfl 1 rfl rfl ?_
      obtain rfl := Option.some.inj h
      exact v_irt hC hr rfl rfl dX7_cheapest_62
    · have h := ite_f c h
      refine v_aload_n hC dX7_cheapest_12 rfl 0 rfl rfl ?_
      refine v_get hC iX7_cheapest_X7 0 rfl rfl 0 (by decide) kX7_cheapest_10 rfl rfl dX7_cheapest_13 rfl ?_
      refine v_iload_n hC dX7_cheapest_16 rfl 3 rfl rfl ?_
      obtain ⟨v1, hv1, h⟩ := bind_g h
      refine v_callVri hC (n := 1) (st := []) (mX0_crowdNow l g cy f0 q1 a1 q2 a2 q3 a3 ec sn dy wg pe pn br ex sc se y3 hv1) gX7_cheapest_X0_crowdNow rfl rfl rfl (by decide +kernel) ⟨Nat.le_of_ble_eq_true rfl, Nat.le_of_ble_eq_true rfl⟩ 1 rfl rfl [1, 2, 3, 4, 5, 6, 7] rfl rfl rfl rfl (Nat.le_of_ble_eq_true rfl) rfl ⟨Nat.zero_le _, Nat.zero_le _⟩ dX7_cheapest_17 rfl ?_
      refine v_istore hC dX7_cheapest_20 (by decide) [(4, .int v1), (0, .ref h0), (1, .int y1), (2, .int y2), (3, .int y3)] rfl rfl ?_
      refine v_iload hC dX7_cheapest_22 0 rfl rfl ?_
      refine v_if_eq hC (tgt := 55) dX7_cheapest_24 (by decide) rfl (fun c => ?_) (fun c => ?_)
      · have h := ite_t c h
        exact v_sub [1, 2, 3, 4] (lv' := [(0, .ref h0), (1, .int y1), (2, .int y2), (3, .int y3)]) rfl (bX7_cheapest_55 hC hr _ _ _ _ _ _ _ _ _ _ _ _ _ ih h)
      · have h := ite_f c h
        refine v_aload_n hC dX7_cheapest_27 rfl 1 rfl rfl ?_
        refine v_get hC iX7_cheapest_X7 0 rfl rfl 0 (by decide) kX7_cheapest_10 rfl rfl dX7_cheapest_28 rfl ?_
        refine v_iload_n hC dX7_cheapest_31 rfl 4 rfl rfl ?_
        refine v_iload hC dX7_cheapest_32 0 rfl rfl ?_
        obtain ⟨v2, hv2, h⟩ := bind_g h
        refine v_callVri hC (n := 2) (st := []) (mX0_costOf l g cy f0 q1 a1 q2 a2 q3 a3 ec sn dy wg pe pn br ex sc se y3 v1 hv2) gX7_cheapest_X0_costOf rfl rfl rfl (by decide +kernel) ⟨Nat.le_of_ble_eq_true rfl, Nat.le_of_ble_eq_true rfl⟩ 1 rfl rfl [1, 2, 3, 4, 5, 6, 7] rfl rfl rfl rfl (Nat.le_of_ble_eq_true rfl) rfl ⟨Nat.zero_le _, Nat.zero_le _⟩ dX7_cheapest_34 rfl ?_
        refine v_istore hC dX7_cheapest_37 (by decide) [(5, .int v2), (4, .int v1), (0, .ref h0), (1, .int y1), (2, .int y2), (3, .int y3)] rfl rfl ?_
        refine v_iload_n hC dX7_cheapest_39 rfl 3 rfl rfl ?_
        refine v_iconst hC (v := (-1)) dX7_cheapest_40 (by decide) rfl ?_
        refine v_icmp_eq hC (tgt := 50) dX7_cheapest_41 (by decide) rfl (fun c => ?_) (fun c => ?_)
        · have h := ite_t c h
          exact v_sub [2, 5, 0] (lv' := [(0, .ref h0), (3, .int y3), (5, .int v2)]) rfl (bX7_cheapest_50 hC hr _ _ _ _ _ _ _ _ _ _ _ _ ih h)
        · have h := ite_f c h
          refine v_iload hC dX7_cheapest_44 0 rfl rfl ?_
          refine v_iload_n hC dX7_cheapest_46 rfl 4 rfl rfl ?_
          refine v_icmp_ge hC (tgt := 55) dX7_cheapest_47 (by decide) rfl (fun c => ?_) (fun c => ?_)
          · have h := ite_t c h
            exact v_sub [2, 3, 4, 5] (lv' := [(0, .ref h0), (1, .int y1), (2, .int y2), (3, .int y3)]) rfl (bX7_cheapest_55 hC hr _ _ _ _ _ _ _ _ _ _ _ _ _ ih h)
          · have h := ite_f c h
            exact v_sub [2, 5, 0] (lv' := [(0, .ref h0), (3, .int y3), (5, .int v2)]) rfl (bX7_cheapest_50 hC hr _ _ _ _ _ _ _ _ _ _ _ _ ih h)
set_option maxHeartbeats 4000000 in
set_option maxRecDepth 100000 in
theorem mX7_cheapest (l : Launch) (g : va_G) (cy : Nat → ClassId) (h0 f0 t0 g0 k1 k2 w0 q1 a1 q2 a2 q3 a3 : Nat) (ec : Int32) (sn : Int32) (dy : Int32) (wg : Int32) (pe : Int32) (pn : Int32) (br : Int32) (ex : Nat → Int32) (sc : Nat → Int32) (se : Nat → Int32)  {res : Int32} (h : pX7_cheapest ec sn ex sc se = some res) : Met l yX7_cheapest wsX7_cheapest rmX7_cheapest (PW [.ref h0] g cy [(h0, .inr (5, [.ref f0, .ref t0, .ref g0, .ref k1, .ref k2, .ref w0])), (f0, .inr (0, [.ref q1, .ref q2, .ref q3, .int ec, .int sn, .int dy, .int wg, .int pe, .int pn, .int br])), (q1, .inr (3, [.int (nI 14), .ref a1])), (a1, .inl (cy 0, 84, .inl ex)), (q2, .inr (3, [.int (nI 10), .ref a2])), (a2, .inl (cy 0, 60, .inl sc)), (q3, .inr (3, [.int (nI 1), .ref a3])), (a3, .inl (cy 0, 3, .inl se))]) (QRi res) 0 0 nF := by
  refine m_ofV (cc := cX7_cheapest) (nL := 6) (ret := (some .int)) (B := fun _ => True) RX7 rfl (by decide) rfl [(0, .ref h0)] rfl (Nat.le_of_ble_eq_true rfl) (fun h => h) ?_
  intro p e s m args below meth c hC hr
  unfold pX7_cheapest at h
  refine v_iconst hC (v := (-1)) dX7_cheapest_0 (by decide) rfl ?_
  refine v_istore_n hC dX7_cheapest_1 rfl (by decide) [(1, .int (-1)), (0, .ref h0)] rfl rfl ?_
  refine v_iconst hC (v := (nI 0)) dX7_cheapest_2 (by decide) rfl ?_
  refine v_istore_n hC dX7_cheapest_3 rfl (by decide) [(2, .int (nI 0)), (1, .int (-1)), (0, .ref h0)] rfl rfl ?_
  refine v_iconst hC (v := (nI 0)) dX7_cheapest_4 (by decide) rfl ?_
  refine v_istore_n hC dX7_cheapest_5 rfl (by decide) [(3, .int (nI 0)), (2, .int (nI 0)), (1, .int (-1)), (0, .ref h0)] rfl rfl ?_
  exact v_sub [3, 2, 1, 0] (lv' := [(0, .ref h0), (1, .int (-1)), (2, .int (nI 0)), (3, .int (nI 0))]) rfl (bX7_cheapest_6 hC hr FU _ _ _ _ _ _ _ _ _ _ _ _ _ h)
theorem kX7_lacks_10 : Cond.fieldLink RX7 10 "CrowdFaces" "film" "LCrowdFaces$Film;" ∈ wsX7_lacks := by decide +kernel
theorem iX7_lacks_X7 : ∀ w ∈ wsX70, w ∈ wsX7_lacks := by decide +kernel
def pX7_lacks (ec : Int32) (sn : Int32) (ex : Nat → Int32) (sc : Nat → Int32) (se : Nat → Int32) (x1 : Int32) : Option (Sum Nat (Int32)) := (pX7_requireScene sn x1).bind fun v1 => Sum.elim (fun k => some (.inl k)) (fun _ => (pX0_lackOf ec sn ex sc se x1).bind fun v2 => some (.inr v2)) v1
abbrev rmX7_lacks : Room := { frames := 8, cells := 1, slots := 6, locals := 131 }
set_option maxHeartbeats 4000000 in
set_option maxRecDepth 100000 in
theorem mX7_lacks (l : Launch) (hlst : l.stackTraces = false) (g : va_G) (cy : Nat → ClassId) (tt sa : Nat → Nat) (sz : Nat) (h0 f0 t0 g0 k1 k2 w0 q1 a1 q2 a2 q3 a3 : Nat) (ec : Int32) (sn : Int32) (dy : Int32) (wg : Int32) (pe : Int32) (pn : Int32) (br : Int32) (ex : Nat → Int32) (sc : Nat → Int32) (se : Nat → Int32) (x1 : Int32) {res : Sum Nat (Int32)} (h : pX7_lacks ec sn ex sc se x1 = some res) : vx_Met l yX7_lacks wsX7_lacks rmX7_lacks (PE [.ref h0, .int x1] g cy tt sa sz [(h0, .inr (5, [.ref f0, .ref t0, .ref g0, .ref k1, .ref k2, .ref w0])), (f0, .inr (0, [.ref q1, .ref q2, .ref q3, .int ec, .int sn, .int dy, .int wg, .int pe, .int pn, .int br])), (q1, .inr (3, [.int (nI 14), .ref a1])), (a1, .inl (cy 0, 84, .inl ex)), (q2, .inr (3, [.int (nI 10), .ref a2])), (a2, .inl (cy 0, 60, .inl sc)), (q3, .inr (3, [.int (nI 1), .ref a3])), (a3, .inl (cy 0, 3, .inl se))]) (QXi g (va_A [(h0, .inr (5, [.ref f0, .ref t0, .ref g0, .ref k1, .ref k2, .ref w0])), (f0, .inr (0, [.ref q1, .ref q2, .ref q3, .int ec, .int sn, .int dy, .int wg, .int pe, .int pn, .int br])), (q1, .inr (3, [.int (nI 14), .ref a1])), (a1, .inl (cy 0, 84, .inl ex)), (q2, .inr (3, [.int (nI 10), .ref a2])), (a2, .inl (cy 0, 60, .inl sc)), (q3, .inr (3, [.int (nI 1), .ref a3])), (a3, .inl (cy 0, 3, .inl se))] sz) res (fun u : Int32 => u) (fun _ => [(h0, .inr (5, [.ref f0, .ref t0, .ref g0, .ref k1, .ref k2, .ref w0])), (f0, .inr (0, [.ref q1, .ref q2, .ref q3, .int ec, .int sn, .int dy, .int wg, .int pe, .int pn, .int br])), (q1, .inr (3, [.int (nI 14), .ref a1])), (a1, .inl (cy 0, 84, .inl ex)), (q2, .inr (3, [.int (nI 10), .ref a2])), (a2, .inl (cy 0, 60, .inl sc)), (q3, .inr (3, [.int (nI 1), .ref a3])), (a3, .inl (cy 0, 3, .inl se))])) (XX g (va_A [(h0, .inr (5, [.ref f0, .ref t0, .ref g0, .ref k1, .ref k2, .ref w0])), (f0, .inr (0, [.ref q1, .ref q2, .ref q3, .int ec, .int sn, .int dy, .int wg, .int pe, .int pn, .int br])), (q1, .inr (3, [.int (nI 14), .ref a1])), (a1, .inl (cy 0, 84, .inl ex)), (q2, .inr (3, [.int (nI 10), .ref a2])), (a2, .inl (cy 0, 60, .inl sc)), (q3, .inr (3, [.int (nI 1), .ref a3])), (a3, .inl (cy 0, 3, .inl se))] sz) res [(h0, .inr (5, [.ref f0, .ref t0, .ref g0, .ref k1, .ref k2, .ref w0])), (f0, .inr (0, [.ref q1, .ref q2, .ref q3, .int ec, .int sn, .int dy, .int wg, .int pe, .int pn, .int br])), (q1, .inr (3, [.int (nI 14), .ref a1])), (a1, .inl (cy 0, 84, .inl ex)), (q2, .inr (3, [.int (nI 10), .ref a2])), (a2, .inl (cy 0, 60, .inl sc)), (q3, .inr (3, [.int (nI 1), .ref a3])), (a3, .inl (cy 0, 3, .inl se))]) 1 6 (va_A [(h0, .inr (5, [.ref f0, .ref t0, .ref g0, .ref k1, .ref k2, .ref w0])), (f0, .inr (0, [.ref q1, .ref q2, .ref q3, .int ec, .int sn, .int dy, .int wg, .int pe, .int pn, .int br])), (q1, .inr (3, [.int (nI 14), .ref a1])), (a1, .inl (cy 0, 84, .inl ex)), (q2, .inr (3, [.int (nI 10), .ref a2])), (a2, .inl (cy 0, 60, .inl sc)), (q3, .inr (3, [.int (nI 1), .ref a3])), (a3, .inl (cy 0, 3, .inl se))] sz) := by
  refine m_ofVX (cc := cX7_lacks) (nL := 2) (ret := (some .int)) hlst RX7 rfl (by decide) rfl [(0, .ref h0), (1, .int x1)] rfl (Nat.le_of_ble_eq_true rfl) ?_
  intro p e s m args below meth c hC hr hX
  generalize (va_A [(h0, .inr (5, [.ref f0, .ref t0, .ref g0, .ref k1, .ref k2, .ref w0])), (f0, .inr (0, [.ref q1, .ref q2, .ref q3, .int ec, .int sn, .int dy, .int wg, .int pe, .int pn, .int br])), (q1, .inr (3, [.int (nI 14), .ref a1])), (a1, .inl (cy 0, 84, .inl ex)), (q2, .inr (3, [.int (nI 10), .ref a2])), (a2, .inl (cy 0, 60, .inl sc)), (q3, .inr (3, [.int (nI 1), .ref a3])), (a3, .inl (cy 0, 3, .inl se))] sz) = A at hX ⊢
  unfold pX7_lacks at h
  refine v_aload_n hC dX7_lacks_0 rfl 0 rfl rfl ?_
  refine v_iload_n hC dX7_lacks_1 rfl 1 rfl rfl ?_
  obtain ⟨v1, hv1, h⟩ := bind_g h
  refine v_callVx hC hX (n := 1) (st := []) (fun sz => mX7_requireScene l hX.1 g cy tt sa sz h0 f0 t0 g0 k1 k2 w0 q1 a1 q2 a2 q3 a3 ec sn dy wg pe pn br ex sc se x1 hv1) gX7_lacks_X7_requireScene rfl rfl rfl (by decide +kernel) ⟨Nat.le_of_ble_eq_true rfl, Nat.le_of_ble_eq_true rfl⟩ 0 rfl rfl [0, 1, 2, 3, 4, 5, 6, 7] [] rfl rfl rfl rfl rfl rfl (Nat.le_of_ble_eq_true rfl) rfl ⟨Nat.le_of_ble_eq_true rfl, Nat.le_of_ble_eq_true rfl⟩ dX7_lacks_2 (fun k e => by subst e; exact (Option.some.inj h).symm) ⟨Nat.le_of_ble_eq_true rfl, Nat.le_of_ble_eq_true rfl⟩ rfl (fun hu => ?_)
  obtain ⟨u, e⟩ := hu
  subst e
  rw [Sum.elim_inr] at h
  refine v_aload_n hC dX7_lacks_5 rfl 0 rfl rfl ?_
  refine v_get hC iX7_lacks_X7 0 rfl rfl 0 (by decide) kX7_lacks_10 rfl rfl dX7_lacks_6 rfl ?_
  refine v_iload_n hC dX7_lacks_9 rfl 1 rfl rfl ?_
  obtain ⟨v2, hv2, h⟩ := bind_g h
  refine v_callVri hC (n := 1) (st := []) (mX0_lackOf l g cy f0 q1 a1 q2 a2 q3 a3 ec sn dy wg pe pn br ex sc se x1 hv2) gX7_lacks_X0_lackOf rfl rfl rfl (by decide +kernel) ⟨Nat.le_of_ble_eq_true rfl, Nat.le_of_ble_eq_true rfl⟩ 1 rfl rfl [1, 2, 3, 4, 5, 6, 7] rfl rfl rfl rfl (Nat.le_of_ble_eq_true rfl) rfl ⟨Nat.le_of_ble_eq_true rfl, Nat.le_of_ble_eq_true rfl⟩ dX7_lacks_10 rfl ?_
  obtain rfl := Option.some.inj h
  exact v_irX hC hr rfl rfl rfl rfl ⟨Nat.le_of_ble_eq_true rfl, Nat.le_of_ble_eq_true rfl⟩ dX7_lacks_13

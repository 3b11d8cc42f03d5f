theorem kX7_requireExtra_10 : Cond.fieldLink RX7 10 "CrowdFaces" "film" "LCrowdFaces$Film;" ∈ wsX7_requireExtra := by decide +kernel
theorem iX7_requireExtra_X7 : ∀ w ∈ wsX70, w ∈ wsX7_requireExtra := by decide +kernel
def pX7_requireExtra (ec : Int32) (x1 : Int32) : Option (Sum Nat (Unit)) := (pX0_isExtra ec x1).bind fun v1 => (pX7_requireIndex v1).bind fun v2 => Sum.elim (fun k => some (.inl k)) (fun _ => some (.inr ())) v2
abbrev rmX7_requireExtra : Room := { frames := 7, cells := 1, slots := 6, locals := 110 }
set_option maxHeartbeats 4000000 in
set_option maxRecDepth 100000 in
theorem mX7_requireExtra (l : Launch) (hlst : l.stackTraces = false) (g : va_G) (cy : Nat → ClassId) (tt sa : Nat → Nat) (sz : Nat) (h0 f0 t0 g0 k1 k2 w0 q1 a1 q2 a2 q3 a3 : Nat) (ec : Int32) (sn : Int32) (dy : Int32) (wg : Int32) (pe : Int32) (pn : Int32) (br : Int32) (ex : Nat → Int32) (sc : Nat → Int32) (se : Nat → Int32) (x1 : Int32) {res : Sum Nat (Unit)} (h : pX7_requireExtra ec x1 = some res) : vx_Met l yX7_requireExtra wsX7_requireExtra rmX7_requireExtra (PE [.ref h0, .int x1] g cy tt sa sz [(h0, .inr (5, [.ref f0, .ref t0, .ref g0, .ref k1, .ref k2, .ref w0])), (f0, .inr (0, [.ref q1, .ref q2, .ref q3, .int ec, .int sn, .int dy, .int wg, .int pe, .int pn, .int br])), (q1, .inr (3, [.int (nI 14), .ref a1])), (a1, .inl (cy 0, 84, .inl ex)), (q2, .inr (3, [.int (nI 10), .ref a2])), (a2, .inl (cy 0, 60, .inl sc)), (q3, .inr (3, [.int (nI 1), .ref a3])), (a3, .inl (cy 0, 3, .inl se))]) (QXv g (va_A [(h0, .inr (5, [.ref f0, .ref t0, .ref g0, .ref k1, .ref k2, .ref w0])), (f0, .inr (0, [.ref q1, .ref q2, .ref q3, .int ec, .int sn, .int dy, .int wg, .int pe, .int pn, .int br])), (q1, .inr (3, [.int (nI 14), .ref a1])), (a1, .inl (cy 0, 84, .inl ex)), (q2, .inr (3, [.int (nI 10), .ref a2])), (a2, .inl (cy 0, 60, .inl sc)), (q3, .inr (3, [.int (nI 1), .ref a3])), (a3, .inl (cy 0, 3, .inl se))] sz) res (fun _ => [(h0, .inr (5, [.ref f0, .ref t0, .ref g0, .ref k1, .ref k2, .ref w0])), (f0, .inr (0, [.ref q1, .ref q2, .ref q3, .int ec, .int sn, .int dy, .int wg, .int pe, .int pn, .int br])), (q1, .inr (3, [.int (nI 14), .ref a1])), (a1, .inl (cy 0, 84, .inl ex)), (q2, .inr (3, [.int (nI 10), .ref a2])), (a2, .inl (cy 0, 60, .inl sc)), (q3, .inr (3, [.int (nI 1), .ref a3])), (a3, .inl (cy 0, 3, .inl se))])) (XX g (va_A [(h0, .inr (5, [.ref f0, .ref t0, .ref g0, .ref k1, .ref k2, .ref w0])), (f0, .inr (0, [.ref q1, .ref q2, .ref q3, .int ec, .int sn, .int dy, .int wg, .int pe, .int pn, .int br])), (q1, .inr (3, [.int (nI 14), .ref a1])), (a1, .inl (cy 0, 84, .inl ex)), (q2, .inr (3, [.int (nI 10), .ref a2])), (a2, .inl (cy 0, 60, .inl sc)), (q3, .inr (3, [.int (nI 1), .ref a3])), (a3, .inl (cy 0, 3, .inl se))] sz) res [(h0, .inr (5, [.ref f0, .ref t0, .ref g0, .ref k1, .ref k2, .ref w0])), (f0, .inr (0, [.ref q1, .ref q2, .ref q3, .int ec, .int sn, .int dy, .int wg, .int pe, .int pn, .int br])), (q1, .inr (3, [.int (nI 14), .ref a1])), (a1, .inl (cy 0, 84, .inl ex)), (q2, .inr (3, [.int (nI 10), .ref a2])), (a2, .inl (cy 0, 60, .inl sc)), (q3, .inr (3, [.int (nI 1), .ref a3])), (a3, .inl (cy 0, 3, .inl se))]) 1 6 (va_A [(h0, .inr (5, [.ref f0, .ref t0, .ref g0, .ref k1, .ref k2, .ref w0])), (f0, .inr (0, [.ref q1, .ref q2, .ref q3, .int ec, .int sn, .int dy, .int wg, .int pe, .int pn, .int br])), (q1, .inr (3, [.int (nI 14), .ref a1])), (a1, .inl (cy 0, 84, .inl ex)), (q2, .inr (3, [.int (nI 10), .ref a2])), (a2, .inl (cy 0, 60, .inl sc)), (q3, .inr (3, [.int (nI 1), .ref a3])), (a3, .inl (cy 0, 3, .inl se))] sz) := by
  refine m_ofVX (cc := cX7_requireExtra) (nL := 2) (ret := none) hlst RX7 rfl (by decide) rfl [(0, .ref h0), (1, .int x1)] rfl (Nat.le_of_ble_eq_true rfl) ?_
  intro p e s m args below meth c hC hr hX
  generalize (va_A [(h0, .inr (5, [.ref f0, .ref t0, .ref g0, .ref k1, .ref k2, .ref w0])), (f0, .inr (0, [.ref q1, .ref q2, .ref q3, .int ec, .int sn, .int dy, .int wg, .int pe, .int pn, .int br])), (q1, .inr (3, [.int (nI 14), .ref a1])), (a1, .inl (cy 0, 84, .inl ex)), (q2, .inr (3, [.int (nI 10), .ref a2])), (a2, .inl (cy 0, 60, .inl sc)), (q3, .inr (3, [.int (nI 1), .ref a3])), (a3, .inl (cy 0, 3, .inl se))] sz) = A at hX ⊢
  unfold pX7_requireExtra at h
  refine v_aload_n hC dX7_requireExtra_0 rfl 0 rfl rfl ?_
  refine v_get hC iX7_requireExtra_X7 0 rfl rfl 0 (by decide) kX7_requireExtra_10 rfl rfl dX7_requireExtra_1 rfl ?_
  refine v_iload_n hC dX7_requireExtra_4 rfl 1 rfl rfl ?_
  obtain ⟨v1, hv1, h⟩ := bind_g h
  refine v_callVri hC (n := 1) (st := []) (mX0_isExtra l g cy f0 q1 a1 q2 a2 q3 a3 ec sn dy wg pe pn br ex sc se x1 hv1) gX7_requireExtra_X0_isExtra rfl rfl rfl (by decide +kernel) ⟨Nat.le_of_ble_eq_true rfl, Nat.le_of_ble_eq_true rfl⟩ 1 rfl rfl [1, 2, 3, 4, 5, 6, 7] rfl rfl rfl rfl (Nat.le_of_ble_eq_true rfl) rfl ⟨Nat.le_of_ble_eq_true rfl, Nat.le_of_ble_eq_true rfl⟩ dX7_requireExtra_5 rfl ?_
  obtain ⟨v2, hv2, h⟩ := bind_g h
  refine v_callSx hC hX (n := 1) (st := []) (fun sz => mX7_requireIndex l hX.1 g cy tt sa sz v1 hv2) gX7_requireExtra_X7_requireIndex rfl rfl rfl (by decide +kernel) ⟨Nat.le_of_ble_eq_true rfl, Nat.le_of_ble_eq_true rfl⟩ [] [0, 1, 2, 3, 4, 5, 6, 7] rfl rfl rfl rfl rfl rfl (Nat.le_of_ble_eq_true rfl) rfl ⟨Nat.le_of_ble_eq_true rfl, Nat.le_of_ble_eq_true rfl⟩ dX7_requireExtra_8 (fun k e => by subst e; exact (Option.some.inj h).symm) ⟨Nat.le_of_ble_eq_true rfl, Nat.le_of_ble_eq_true rfl⟩ rfl (fun hu => ?_)
  obtain ⟨u, e⟩ := hu
  subst e
  rw [Sum.elim_inr] at h
  obtain rfl := Option.some.inj h
  exact v_vrX hC hr rfl rfl ⟨Nat.le_of_ble_eq_true rfl, Nat.le_of_ble_eq_true rfl⟩ dX7_requireExtra_11
theorem kX7_requireScene_10 : Cond.fieldLink RX7 10 "CrowdFaces" "film" "LCrowdFaces$Film;" ∈ wsX7_requireScene := by decide +kernel
theorem iX7_requireScene_X7 : ∀ w ∈ wsX70, w ∈ wsX7_requireScene := by decide +kernel
def pX7_requireScene (sn : Int32) (x1 : Int32) : Option (Sum Nat (Unit)) := (pX0_isScene sn x1).bind fun v1 => (pX7_requireIndex v1).bind fun v2 => Sum.elim (fun k => some (.inl k)) (fun _ => some (.inr ())) v2
abbrev rmX7_requireScene : Room := { frames := 7, cells := 1, slots := 6, locals := 110 }
set_option maxHeartbeats 4000000 in
set_option maxRecDepth 100000 in
theorem mX7_requireScene (l : Launch) (hlst : l.stackTraces = false) (g : va_G) (cy : Nat → ClassId) (tt sa : Nat → Nat) (sz : Nat) (h0 f0 t0 g0 k1 k2 w0 q1 a1 q2 a2 q3 a3 : Nat) (ec : Int32) (sn : Int32) (dy : Int32) (wg : Int32) (pe : Int32) (pn : Int32) (br : Int32) (ex : Nat → Int32) (sc : Nat → Int32) (se : Nat → Int32) (x1 : Int32) {res : Sum Nat (Unit)} (h : pX7_requireScene sn x1 = some res) : vx_Met l yX7_requireScene wsX7_requireScene rmX7_requireScene (PE [.ref h0, .int x1] g cy tt sa sz [(h0, .inr (5, [.ref f0, .ref t0, .ref g0, .ref k1, .ref k2, .ref w0])), (f0, .inr (0, [.ref q1, .ref q2, .ref q3, .int ec, .int sn, .int dy, .int wg, .int pe, .int pn, .int br])), (q1, .inr (3, [.int (nI 14), .ref a1])), (a1, .inl (cy 0, 84, .inl ex)), (q2, .inr (3, [.int (nI 10), .ref a2])), (a2, .inl (cy 0, 60, .inl sc)), (q3, .inr (3, [.int (nI 1), .ref a3])), (a3, .inl (cy 0, 3, .inl se))]) (QXv g (va_A [(h0, .inr (5, [.ref f0, .ref t0, .ref g0, .ref k1, .ref k2, .ref w0])), (f0, .inr (0, [.ref q1, .ref q2, .ref q3, .int ec, .int sn, .int dy, .int wg, .int pe, .int pn, .int br])), (q1, .inr (3, [.int (nI 14), .ref a1])), (a1, .inl (cy 0, 84, .inl ex)), (q2, .inr (3, [.int (nI 10), .ref a2])), (a2, .inl (cy 0, 60, .inl sc)), (q3, .inr (3, [.int (nI 1), .ref a3])), (a3, .inl (cy 0, 3, .inl se))] sz) res (fun _ => [(h0, .inr (5, [.ref f0, .ref t0, .ref g0, .ref k1, .ref k2, .ref w0])), (f0, .inr (0, [.ref q1, .ref q2, .ref q3, .int ec, .int sn, .int dy, .int wg, .int pe, .int pn, .int br])), (q1, .inr (3, [.int (nI 14), .ref a1])), (a1, .inl (cy 0, 84, .inl ex)), (q2, .inr (3, [.int (nI 10), .ref a2])), (a2, .inl (cy 0, 60, .inl sc)), (q3, .inr (3, [.int (nI 1), .ref a3])), (a3, .inl (cy 0, 3, .inl se))])) (XX g (va_A [(h0, .inr (5, [.ref f0, .ref t0, .ref g0, .ref k1, .ref k2, .ref w0])), (f0, .inr (0, [.ref q1, .ref q2, .ref q3, .int ec, .int sn, .int dy, .int wg, .int pe, .int pn, .int br])), (q1, .inr (3, [.int (nI 14), .ref a1])), (a1, .inl (cy 0, 84, .inl ex)), (q2, .inr (3, [.int (nI 10), .ref a2])), (a2, .inl (cy 0, 60, .inl sc)), (q3, .inr (3, [.int (nI 1), .ref a3])), (a3, .inl (cy 0, 3, .inl se))] sz) res [(h0, .inr (5, [.ref f0, .ref t0, .ref g0, .ref k1, .ref k2, .ref w0])), (f0, .inr (0, [.ref q1, .ref q2, .ref q3, .int ec, .int sn, .int dy, .int wg, .int pe, .int pn, .int br])), (q1, .inr (3, [.int (nI 14), .ref a1])), (a1, .inl (cy 0, 84, .inl ex)), (q2, .inr (3, [.int (nI 10), .ref a2])), (a2, .inl (cy 0, 60, .inl sc)), (q3, .inr (3, [.int (nI 1), .ref a3])), (a3, .inl (cy 0, 3, .inl se))]) 1 6 (va_A [(h0, .inr (5, [.ref f0, .ref t0, .ref g0, .ref k1, .ref k2, .ref w0])), (f0, .inr (0, [.ref q1, .ref q2, .ref q3, .int ec, .int sn, .int dy, .int wg, .int pe, .int pn, .int br])), (q1, .inr (3, [.int (nI 14), .ref a1])), (a1, .inl (cy 0, 84, .inl ex)), (q2, .inr (3, [.int (nI 10), .ref a2])), (a2, .inl (cy 0, 60, .inl sc)), (q3, .inr (3, [.int (nI 1), .ref a3])), (a3, .inl (cy 0, 3, .inl se))] sz) := by
  refine m_ofVX (cc := cX7_requireScene) (nL := 2) (ret := none) hlst RX7 rfl (by decide) rfl [(0, .ref h0), (1, .int x1)] rfl (Nat.le_of_ble_eq_true rfl) ?_
  intro p e s m args below meth c hC hr hX
  generalize (va_A [(h0, .inr (5, [.ref f0, .ref t0, .ref g0, .ref k1, .ref k2, .ref w0])), (f0, .inr (0, [.ref q1, .ref q2, .ref q3, .int ec, .int sn, .int dy, .int wg, .int pe, .int pn, .int br])), (q1, .inr (3, [.int (nI 14), .ref a1])), (a1, .inl (cy 0, 84, .inl ex)), (q2, .inr (3, [.int (nI 10), .ref a2])), (a2, .inl (cy 0, 60, .inl sc)), (q3, .inr (3, [.int (nI 1), .ref a3])), (a3, .inl (cy 0, 3, .inl se))] sz) = A at hX ⊢
  unfold pX7_requireScene at h
  refine v_aload_n hC dX7_requireScene_0 rfl 0 rfl rfl ?_
  refine v_get hC iX7_requireScene_X7 0 rfl rfl 0 (by decide) kX7_requireScene_10 rfl rfl dX7_requireScene_1 rfl ?_
  refine v_iload_n hC dX7_requireScene_4 rfl 1 rfl rfl ?_
  obtain ⟨v1, hv1, h⟩ := bind_g h
  refine v_callVri hC (n := 1) (st := []) (mX0_isScene l g cy f0 q1 a1 q2 a2 q3 a3 ec sn dy wg pe pn br ex sc se x1 hv1) gX7_requireScene_X0_isScene rfl rfl rfl (by decide +kernel) ⟨Nat.le_of_ble_eq_true rfl, Nat.le_of_ble_eq_true rfl⟩ 1 rfl rfl [1, 2, 3, 4, 5, 6, 7] rfl rfl rfl rfl (Nat.le_of_ble_eq_true rfl) rfl ⟨Nat.le_of_ble_eq_true rfl, Nat.le_of_ble_eq_true rfl⟩ dX7_requireScene_5 rfl ?_
  obtain ⟨v2, hv2, h⟩ := bind_g h
  refine v_callSx hC hX (n := 1) (st := []) (fun sz => mX7_requireIndex l hX.1 g cy tt sa sz v1 hv2) gX7_requireScene_X7_requireIndex rfl rfl rfl (by decide +kernel) ⟨Nat.le_of_ble_eq_true rfl, Nat.le_of_ble_eq_true rfl⟩ [] [0, 1, 2, 3, 4, 5, 6, 7] rfl rfl rfl rfl rfl rfl (Nat.le_of_ble_eq_true rfl) rfl ⟨Nat.le_of_ble_eq_true rfl, Nat.le_of_ble_eq_true rfl⟩ dX7_requireScene_8 (fun k e => by subst e; exact (Option.some.inj h).symm) ⟨Nat.le_of_ble_eq_true rfl, Nat.le_of_ble_eq_true rfl⟩ rfl (fun hu => ?_)
  obtain ⟨u, e⟩ := hu
  subst e
  rw [Sum.elim_inr] at h
  obtain rfl := Option.some.inj h
  exact v_vrX hC hr rfl rfl ⟨Nat.le_of_ble_eq_true rfl, Nat.le_of_ble_eq_true rfl⟩ dX7_requireScene_11
theorem kX7_doTextCommand_10 : Cond.fieldLink RX7 10 "CrowdFaces" "film" "LCrowdFaces$Film;" ∈ wsX7_doTextCommand := by decide +kernel
theorem kX7_doTextCommand_39 : Cond.fieldLink RX7 39 "CrowdFaces" "text" "LCrowdFaces$Text;" ∈ wsX7_doTextCommand := by decide +kernel
theorem iX7_doTextCommand_X7 : ∀ w ∈ wsX70, w ∈ wsX7_doTextCommand := by decide +kernel
def pX7_doTextCommand_122 (ec : Int32) (sn : Int32) (dy : Int32) (wg : Int32) (pe : Int32) (pn : Int32) (br : Int32) (ex : Nat → Int32) (sc : Nat → Int32) (se : Nat → Int32) (tc : Nat → Int32) (s0 : Int32) : Option (Int32 × Int32 × Int32 × Int32 × Int32 × Int32 × Int32 × Int32 × (Nat → Int32) × (Nat → Int32)) := (bz s0).bind fun b1 => some (b1, ec, sn, dy, wg, pe, pn, br, ex, sc)
def pX7_doTextCommand_194 (ec : Int32) (sn : Int32) (dy : Int32) (wg : Int32) (pe : Int32) (pn : Int32) (br : Int32) (ex : Nat → Int32) (sc : Nat → Int32) (se : Nat → Int32) (tc : Nat → Int32) (s0 : Int32) : Option (Int32 × Int32 × Int32 × Int32 × Int32 × Int32 × Int32 × Int32 × (Nat → Int32) × (Nat → Int32)) := (bz s0).bind fun b1 => some (b1, ec, sn, dy, wg, pe, pn, br, ex, sc)
def pX7_doTextCommand_234 (ec : Int32) (sn : Int32) (dy : Int32) (wg : Int32) (pe : Int32) (pn : Int32) (br : Int32) (ex : Nat → Int32) (sc : Nat → Int32) (se : Nat → Int32) (tc : Nat → Int32) : Option (Int32 × Int32 × Int32 × Int32 × Int32 × Int32 × Int32 × Int32 × (Nat → Int32) × (Nat → Int32)) := some ((nI 0), ec, sn, dy, wg, pe, pn, br, ex, sc)
def pX7_doTextCommand (ec : Int32) (sn : Int32) (dy : Int32) (wg : Int32) (pe : Int32) (pn : Int32) (br : Int32) (ex : Nat → Int32) (sc : Nat → Int32) (se : Nat → Int32) (tc : Nat → Int32) (x1 : Int32) : Option (Int32 × Int32 × Int32 × Int32 × Int32 × Int32 × Int32 × Int32 × (Nat → Int32) × (Nat → Int32)) := (pX6_characterAt tc x1).bind fun v1 => if v1 = (nI 101) then (pX6_number tc (x1 + (nI 1)) (nI 1)).bind fun v2 => (pX6_number tc (x1 + (nI 2)) (nI 2)).bind fun v3 => (pX0_addExtra ec ex v2 v3).bind fun v4 => if v4.1 = (-1) then pX7_doTextCommand_122 v4.2.1 sn dy wg pe pn br v4.2.2 sc se tc (nI 0) else pX7_doTextCommand_122 v4.2.1 sn dy wg pe pn br v4.2.2 sc se tc (nI 1) else if v1 = (nI 103) then (pX6_number tc (x1 + (nI 1)) (nI 1)).bind fun v5 => (pX0_shootIfPossible ec sn wg pe pn br ex sc se v5).bind fun v6 => (bz v6.1).bind fun b7 => some (b7, ec, sn, dy, v6.2.1, v6.2.2.1, v6.2.2.2.1, v6.2.2.2.2.1, v6.2.2.2.2.2.1, v6.2.2.2.2.2.2) else if v1 = (nI 109) then (pX0_eat ec ex).bind fun v8 => some ((nI 1), ec, sn, dy, wg, pe, pn, br, v8.2, sc) else if v1 = (nI 110) then (pX0_beginDay dy ex).bind fun v9 => some ((nI 1), ec, sn, v9.2.1, wg, pe, pn, br, v9.2.2, sc) else if v1 = (nI 115) then (pX6_number tc (x1 + (nI 1)) (nI 1)).bind fun v10 => (pX6_number tc (x1 + (nI 2)) (nI 1)).bind fun v11 => (pX6_number tc (x1 + (nI 3)) (nI 1)).bind fun v12 => (pX6_number tc (x1 + (nI 4)) (nI 1)).bind fun v13 => (pX6_number tc (x1 + (nI 5)) (nI 3)).bind fun v14 => (pX0_addScene sn sc v10 v11 v12 v13 v14).bind fun v15 => if v15.1 = (-1) then pX7_doTextCommand_194 ec v15.2.1 dy wg pe pn br ex v15.2.2 se tc (nI 0) else pX7_doTextCommand_194 ec v15.2.1 dy wg pe pn br ex v15.2.2 se tc (nI 1) else pX7_doTextCommand_234 ec sn dy wg pe pn br ex sc se tc
abbrev rmX7_doTextCommand : Room := { frames := 5, cells := 0, slots := 0, locals := 123 }
set_option maxHeartbeats 4000000 in
set_option maxRecDepth 100000 in
theorem bX7_doTextCommand_122 {p : Program} {l : Launch} {e : Env} {s : State} {m : MethodId} {args : Array Value} {below : List Frame} {meth : Method} {c : Code} {g : va_G} {cy : Nat → ClassId} (hC : CX p s m args meth c g cy 2 cX7_doTextCommand wsX7_doTextCommand RX7) (hr : meth.sig.returnType = (some .boolean)) {h0 f0 t0 g0 k1 k2 w0 q1 a1 q2 a2 q3 a3 q4 a4 : Nat} {A : Nat → Prop} {res : Int32 × Int32 × Int32 × Int32 × Int32 × Int32 × Int32 × Int32 × (Nat → Int32) × (Nat → Int32)} : ∀ (ec : Int32) (sn : Int32) (dy : Int32) (wg : Int32) (pe : Int32) (pn : Int32) (br : Int32) (ex : Nat → Int32) (sc : Nat → Int32) (se : Nat → Int32) (tl : Int32) (tc : Nat → Int32) (s0 : Int32)(h : pX7_doTextCommand_122 ec sn dy wg pe pn br ex sc se tc s0 = some res), V p l e (headSpec wsX7_doTextCommand rmX7_doTextCommand).room s m args below meth c g 2 0 0 (MQ below (QWi g A res.1 [(h0, .inr (5, [.ref f0, .ref t0, .ref g0, .ref k1, .ref k2, .ref w0])), (f0, .inr (0, [.ref q1, .ref q2, .ref q3, .int res.2.1, .int res.2.2.1, .int res.2.2.2.1, .int res.2.2.2.2.1, .int res.2.2.2.2.2.1, .int res.2.2.2.2.2.2.1, .int res.2.2.2.2.2.2.2.1])), (q1, .inr (3, [.int (nI 14), .ref a1])), (a1, .inl (cy 0, 84, .inl res.2.2.2.2.2.2.2.2.1)), (q2, .inr (3, [.int (nI 10), .ref a2])), (a2, .inl (cy 0, 60, .inl res.2.2.2.2.2.2.2.2.2)), (q3, .inr (3, [.int (nI 1), .ref a3])), (a3, .inl (cy 0, 3, .inl se)), (w0, .inr (4, [.ref q4, .int tl])), (q4, .inr (3, [.int (nI 120), .ref a4])), (a4, .inl (cy 0, 120, .inl tc))]) args s 0 0 A) A A [(h0, .inr (5, [.ref f0, .ref t0, .ref g0, .ref k1, .ref k2, .ref w0])), (f0, .inr (0, [.ref q1, .ref q2, .ref q3, .int ec, .int sn, .int dy, .int wg, .int pe, .int pn, .int br])), (q1, .inr (3, [.int (nI 14), .ref a1])), (a1, .inl (cy 0, 84, .inl ex)), (q2, .inr (3, [.int (nI 10), .ref a2])), (a2, .inl (cy 0, 60, .inl sc)), (q3, .inr (3, [.int (nI 1), .ref a3])), (a3, .inl (cy 0, 3, .inl se)), (w0, .inr (4, [.ref q4, .int tl])), (q4, .inr (3, [.int (nI 120), .ref a4])), (a4, .inl (cy 0, 120, .inl tc))] 122 [] [.int s0] := by
  intro ec sn dy wg pe pn br ex sc se tl tc s0 h
  unfold pX7_doTextCommand_122 at h
  obtain ⟨b1, hb9, h⟩ := bind_g h
  obtain ⟨e9, hn⟩ := bz_g hb9
  obtain rfl := Option.some.inj h
  exact v_irw hC hr hn e9 dX7_doTextCommand_122
set_option maxHeartbeats 4000000 in
set_option maxRecDepth 100000 in
theorem bX7_doTextCommand_194 {p : Program} {l : Launch} {e : Env} {s : State} {m : MethodId} {args : Array Value} {below : List Frame} {meth : Method} {c : Code} {g : va_G} {cy : Nat → ClassId} (hC : CX p s m args meth c g cy 2 cX7_doTextCommand wsX7_doTextCommand RX7) (hr : meth.sig.returnType = (some .boolean)) {h0 f0 t0 g0 k1 k2 w0 q1 a1 q2 a2 q3 a3 q4 a4 : Nat} {A : Nat → Prop} {res : Int32 × Int32 × Int32 × Int32 × Int32 × Int32 × Int32 × Int32 × (Nat → Int32) × (Nat → Int32)} : ∀ (ec : Int32) (sn : Int32) (dy : Int32) (wg : Int32) (pe : Int32) (pn : Int32) (br : Int32) (ex : Nat → Int32) (sc : Nat → Int32) (se : Nat → Int32) (tl : Int32) (tc : Nat → Int32) (s0 : Int32)(h : pX7_doTextCommand_194 ec sn dy wg pe pn br ex sc se tc s0 = some res), V p l e (headSpec wsX7_doTextCommand rmX7_doTextCommand).room s m args below meth c g 2 0 0 (MQ below (QWi g A res.1 [(h0, .inr (5, [.ref f0, .ref t0, .ref g0, .ref k1, .ref k2, .ref w0])), (f0, .inr (0, [.ref q1, .ref q2, .ref q3, .int res.2.1, .int res.2.2.1, .int res.2.2.2.1, .int res.2.2.2.2.1, .int res.2.2.2.2.2.1, .int res.2.2.2.2.2.2.1, .int res.2.2.2.2.2.2.2.1])), (q1, .inr (3, [.int (nI 14), .ref a1])), (a1, .inl (cy 0, 84, .inl res.2.2.2.2.2.2.2.2.1)), (q2, .inr (3, [.int (nI 10), .ref a2])), (a2, .inl (cy 0, 60, .inl res.2.2.2.2.2.2.2.2.2)), (q3, .inr (3, [.int (nI 1), .ref a3])), (a3, .inl (cy 0, 3, .inl se)), (w0, .inr (4, [.ref q4, .int tl])), (q4, .inr (3, [.int (nI 120), .ref a4])), (a4, .inl (cy 0, 120, .inl tc))]) args s 0 0 A) A A [(h0, .inr (5, [.ref f0, .ref t0, .ref g0, .ref k1, .ref k2, .ref w0])), (f0, .inr (0, [.ref q1, .ref q2, .ref q3, .int ec, .int sn, .int dy, .int wg, .int pe, .int pn, .int br])), (q1, .inr (3, [.int (nI 14), .ref a1])), (a1, .inl (cy 0, 84, .inl ex)), (q2, .inr (3, [.int (nI 10), .ref a2])), (a2, .inl (cy 0, 60, .inl sc)), (q3, .inr (3, [.int (nI 1), .ref a3])), (a3, .inl (cy 0, 3, .inl se)), (w0, .inr (4, [.ref q4, .int tl])), (q4, .inr (3, [.int (nI 120), .ref a4])), (a4, .inl (cy 0, 120, .inl tc))] 194 [] [.int s0] := by
  intro ec sn dy wg pe pn br ex sc se tl tc s0 h
  unfold pX7_doTextCommand_194 at h
  obtain ⟨b1, hb9, h⟩ := bind_g h
  obtain ⟨e9, hn⟩ := bz_g hb9
  obtain rfl := Option.some.inj h
  exact v_irw hC hr hn e9 dX7_doTextCommand_194
set_option maxHeartbeats 4000000 in
set_option maxRecDepth 100000 in
theorem bX7_doTextCommand_234 {p : Program} {l : Launch} {e : Env} {s : State} {m : MethodId} {args : Array Value} {below : List Frame} {meth : Method} {c : Code} {g : va_G} {cy : Nat → ClassId} (hC : CX p s m args meth c g cy 2 cX7_doTextCommand wsX7_doTextCommand RX7) (hr : meth.sig.returnType = (some .boolean)) {h0 f0 t0 g0 k1 k2 w0 q1 a1 q2 a2 q3 a3 q4 a4 : Nat} {A : Nat → Prop} {res : Int32 × Int32 × Int32 × Int32 × Int32 × Int32 × Int32 × Int32 × (Nat → Int32) × (Nat → Int32)} : ∀ (ec : Int32) (sn : Int32) (dy : Int32) (wg : Int32) (pe : Int32) (pn : Int32) (br : Int32) (ex : Nat → Int32) (sc : Nat → Int32) (se : Nat → Int32) (tl : Int32) (tc : Nat → Int32) (h : pX7_doTextCommand_234 ec sn dy wg pe pn br ex sc se tc = some res), V p l e (headSpec wsX7_doTextCommand rmX7_doTextCommand).room s m args below meth c g 2 0 0 (MQ below (QWi g A res.1 [(h0, .inr (5, [.ref f0, .ref t0, .ref g0, .ref k1, .ref k2, .ref w0])), (f0, .inr (0, [.ref q1, .ref q2, .ref q3, .int res.2.1, .int res.2.2.1, .int res.2.2.2.1, .int res.2.2.2.2.1, .int res.2.2.2.2.2.1, .int res.2.2.2.2.2.2.1, .int res.2.2.2.2.2.2.2.1])), (q1, .inr (3, [.int (nI 14), .ref a1])), (a1, .inl (cy 0, 84, .inl res.2.2.2.2.2.2.2.2.1)), (q2, .inr (3, [.int (nI 10), .ref a2])), (a2, .inl (cy 0, 60, .inl res.2.2.2.2.2.2.2.2.2)), (q3, .inr (3, [.int (nI 1), .ref a3])), (a3, .inl (cy 0, 3, .inl se)), (w0, .inr (4, [.ref q4, .int tl])), (q4, .inr (3, [.int (nI 120), .ref a4])), (a4, .inl (cy 0, 120, .inl tc))]) args s 0 0 A) A A [(h0, .inr (5, [.ref f0, .ref t0, .ref g0, .ref k1, .ref k2, .ref w0])), (f0, .inr (0, [.ref q1, .ref q2, .ref q3, .int ec, .int sn, .int dy, .int wg, .int pe, .int pn, .int br])), (q1, .inr (3, [.int (nI 14), .ref a1])), (a1, .inl (cy 0, 84, .inl ex)), (q2, .inr (3, [.int (nI 10), .ref a2])), (a2, .inl (cy 0, 60, .inl sc)), (q3, .inr (3, [.int (nI 1), .ref a3])), (a3, .inl (cy 0, 3, .inl se)), (w0, .inr (4, [.ref q4, .int tl])), (q4, .inr (3, [.int (nI 120), .ref a4])), (a4, .inl (cy 0, 120, .inl tc))] 234 [] [] := by
  intro ec sn dy wg pe pn br ex sc se tl tc  h
  unfold pX7_doTextCommand_234 at h
  refine v_iconst hC (v := (nI 0)) dX7_doTextCommand_234 (by decide) rfl ?_
  obtain rfl := Option.some.inj h
  exact v_irw hC hr rfl rfl dX7_doTextCommand_235
set_option maxHeartbeats 4000000 in
set_option maxRecDepth 100000 in
theorem mX7_doTextCommand (l : Launch) (g : va_G) (cy : Nat → ClassId) (h0 f0 t0 g0 k1 k2 w0 q1 a1 q2 a2 q3 a3 q4 a4 : Nat) (ec : Int32) (sn : Int32) (dy : Int32) (wg : Int32) (pe : Int32) (pn : Int32) (br : Int32) (ex : Nat → Int32) (sc : Nat → Int32) (se : Nat → Int32) (tl : Int32) (tc : Nat → Int32) (x1 : Int32) {res : Int32 × Int32 × Int32 × Int32 × Int32 × Int32 × Int32 × Int32 × (Nat → Int32) × (Nat → Int32)} (h : pX7_doTextCommand ec sn dy wg pe pn br ex sc se tc x1 = some res) : Met l yX7_doTextCommand wsX7_doTextCommand rmX7_doTextCommand (PW [.ref h0, .int x1] g cy [(h0, .inr (5, [.ref f0, .ref t0, .ref g0, .ref k1, .ref k2, .ref w0])), (f0, .inr (0, [.ref q1, .ref q2, .ref q3, .int ec, .int sn, .int dy, .int wg, .int pe, .int pn, .int br])), (q1, .inr (3, [.int (nI 14), .ref a1])), (a1, .inl (cy 0, 84, .inl ex)), (q2, .inr (3, [.int (nI 10), .ref a2])), (a2, .inl (cy 0, 60, .inl sc)), (q3, .inr (3, [.int (nI 1), .ref a3])), (a3, .inl (cy 0, 3, .inl se)), (w0, .inr (4, [.ref q4, .int tl])), (q4, .inr (3, [.int (nI 120), .ref a4])), (a4, .inl (cy 0, 120, .inl tc))]) (QWi g (wA [(h0, .inr (5, [.ref f0, .ref t0, .ref g0, .ref k1, .ref k2, .ref w0])), (f0, .inr (0, [.ref q1, .ref q2, .ref q3, .int ec, .int sn, .int dy, .int wg, .int pe, .int pn, .int br])), (q1, .inr (3, [.int (nI 14), .ref a1])), (a1, .inl (cy 0, 84, .inl ex)), (q2, .inr (3, [.int (nI 10), .ref a2])), (a2, .inl (cy 0, 60, .inl sc)), (q3, .inr (3, [.int (nI 1), .ref a3])), (a3, .inl (cy 0, 3, .inl se)), (w0, .inr (4, [.ref q4, .int tl])), (q4, .inr (3, [.int (nI 120), .ref a4])), (a4, .inl (cy 0, 120, .inl tc))]) res.1 [(h0, .inr (5, [.ref f0, .ref t0, .ref g0, .ref k1, .ref k2, .ref w0])), (f0, .inr (0, [.ref q1, .ref q2, .ref q3, .int res.2.1, .int res.2.2.1, .int res.2.2.2.1, .int res.2.2.2.2.1, .int res.2.2.2.2.2.1, .int res.2.2.2.2.2.2.1, .int res.2.2.2.2.2.2.2.1])), (q1, .inr (3, [.int (nI 14), .ref a1])), (a1, .inl (cy 0, 84, .inl res.2.2.2.2.2.2.2.2.1)), (q2, .inr (3, [.int (nI 10), .ref a2])), (a2, .inl (cy 0, 60, .inl res.2.2.2.2.2.2.2.2.2)), (q3, .inr (3, [.int (nI 1), .ref a3])), (a3, .inl (cy 0, 3, .inl se)), (w0, .inr (4, [.ref q4, .int tl])), (q4, .inr (3, [.int (nI 120), .ref a4])), (a4, .inl (cy 0, 120, .inl tc))]) 0 0 (wA [(h0, .inr (5, [.ref f0, .ref t0, .ref g0, .ref k1, .ref k2, .ref w0])), (f0, .inr (0, [.ref q1, .ref q2, .ref q3, .int ec, .int sn, .int dy, .int wg, .int pe, .int pn, .int br])), (q1, .inr (3, [.int (nI 14), .ref a1])), (a1, .inl (cy 0, 84, .inl ex)), (q2, .inr (3, [.int (nI 10), .ref a2])), (a2, .inl (cy 0, 60, .inl sc)), (q3, .inr (3, [.int (nI 1), .ref a3])), (a3, .inl (cy 0, 3, .inl se)), (w0, .inr (4, [.ref q4, .int tl])), (q4, .inr (3, [.int (nI 120), .ref a4])), (a4, .inl (cy 0, 120, .inl tc))]) := by
  refine m_ofV (cc := cX7_doTextCommand) (nL := 2) (ret := (some .boolean)) (B := (wA [(h0, .inr (5, [.ref f0, .ref t0, .ref g0, .ref k1, .ref k2, .ref w0])), (f0, .inr (0, [.ref q1, .ref q2, .ref q3, .int ec, .int sn, .int dy, .int wg, .int pe, .int pn, .int br])), (q1, .inr (3, [.int (nI 14), .ref a1])), (a1, .inl (cy 0, 84, .inl ex)), (q2, .inr (3, [.int (nI 10), .ref a2])), (a2, .inl (cy 0, 60, .inl sc)), (q3, .inr (3, [.int (nI 1), .ref a3])), (a3, .inl (cy 0, 3, .inl se)), (w0, .inr (4, [.ref q4, .int tl])), (q4, .inr (3, [.int (nI 120), .ref a4])), (a4, .inl (cy 0, 120, .inl tc))])) RX7 rfl (by decide) rfl [(0, .ref h0), (1, .int x1)] rfl (Nat.le_of_ble_eq_true rfl) (wA.self) ?_
  intro p e s m args below meth c hC hr
  generalize (wA [(h0, .inr (5, [.ref f0, .ref t0, .ref g0, .ref k1, .ref k2, .ref w0])), (f0, .inr (0, [.ref q1, .ref q2, .ref q3, .int ec, .int sn, .int dy, .int wg, .int pe, .int pn, .int br])), (q1, .inr (3, [.int (nI 14), .ref a1])), (a1, .inl (cy 0, 84, .inl ex)), (q2, .inr (3, [.int (nI 10), .ref a2])), (a2, .inl (cy 0, 60, .inl sc)), (q3, .inr (3, [.int (nI 1), .ref a3])), (a3, .inl (cy 0, 3, .inl se)), (w0, .inr (4, [.ref q4, .int tl])), (q4, .inr (3, [.int (nI 120), .ref a4])), (a4, .inl (cy 0, 120, .inl tc))]) = A
  unfold pX7_doTextCommand at h
  refine v_aload_n hC dX7_doTextCommand_0 rfl 0 rfl rfl ?_
  refine v_get hC iX7_doTextCommand_X7 0 rfl rfl 5 (by decide) kX7_doTextCommand_39 rfl rfl dX7_doTextCommand_1 rfl ?_
  refine v_iload_n hC dX7_doTextCommand_4 rfl 1 rfl rfl ?_
  obtain ⟨v1, hv1, h⟩ := bind_g h
  refine v_callVri hC (n := 1) (st := []) (mX6_characterAt l g cy w0 q4 a4 tl tc x1 hv1) gX7_doTextCommand_X6_characterAt rfl rfl rfl (by decide +kernel) ⟨Nat.le_of_ble_eq_true rfl, Nat.le_of_ble_eq_true rfl⟩ 8 rfl rfl [8, 9, 10] rfl rfl rfl rfl (Nat.le_of_ble_eq_true rfl) rfl ⟨Nat.zero_le _, Nat.zero_le _⟩ dX7_doTextCommand_5 rfl ?_
  by_cases c101 : v1 = (nI 101)
  · have h := ite_t c101 h
    refine v_tswI hC (v := (nI 101)) (tgt := 84) dX7_doTextCommand_8 c101 (by decide) (by decide) rfl (by decide) ?_
    refine v_aload_n hC dX7_doTextCommand_84 rfl 0 rfl rfl ?_
    refine v_get hC iX7_doTextCommand_X7 0 rfl rfl 0 (by decide) kX7_doTextCommand_10 rfl rfl dX7_doTextCommand_85 rfl ?_
    refine v_aload_n hC dX7_doTextCommand_88 rfl 0 rfl rfl ?_
    refine v_get hC iX7_doTextCommand_X7 0 rfl rfl 5 (by decide) kX7_doTextCommand_39 rfl rfl dX7_doTextCommand_89 rfl ?_
    refine v_iload_n hC dX7_doTextCommand_92 rfl 1 rfl rfl ?_
    refine v_iconst hC (v := (nI 1)) dX7_doTextCommand_93 (by decide) rfl ?_
    refine v_iadd hC dX7_doTextCommand_94 rfl ?_
    refine v_iconst hC (v := (nI 1)) dX7_doTextCommand_95 (by decide) rfl ?_
    obtain ⟨v2, hv2, h⟩ := bind_g h
    refine v_callVri hC (n := 2) (st := [.ref f0]) (mX6_number l g cy w0 q4 a4 tl tc (x1 + (nI 1)) (nI 1) hv2) gX7_doTextCommand_X6_number rfl rfl rfl (by decide +kernel) ⟨Nat.le_of_ble_eq_true rfl, Nat.le_of_ble_eq_true rfl⟩ 8 rfl rfl [8, 9, 10] rfl rfl rfl rfl (Nat.le_of_ble_eq_true rfl) rfl ⟨Nat.zero_le _, Nat.zero_le _⟩ dX7_doTextCommand_96 rfl ?_
    refine v_aload_n hC dX7_doTextCommand_99 rfl 0 rfl rfl ?_
    refine v_get hC iX7_doTextCommand_X7 0 rfl rfl 5 (by decide) kX7_doTextCommand_39 rfl rfl dX7_doTextCommand_100 rfl ?_
    refine v_iload_n hC dX7_doTextCommand_103 rfl 1 rfl rfl ?_
    refine v_iconst hC (v := (nI 2)) dX7_doTextCommand_104 (by decide) rfl ?_
    refine v_iadd hC dX7_doTextCommand_105 rfl ?_
    refine v_iconst hC (v := (nI 2)) dX7_doTextCommand_106 (by decide) rfl ?_
    obtain ⟨v3, hv3, h⟩ := bind_g h
    refine v_callVri hC (n := 2) (st := [.int v2, .ref f0]) (mX6_number l g cy w0 q4 a4 tl tc (x1 + (nI 2)) (nI 2) hv3) gX7_doTextCommand_X6_number rfl rfl rfl (by decide +kernel) ⟨Nat.le_of_ble_eq_true rfl, Nat.le_of_ble_eq_true rfl⟩ 8 rfl rfl [8, 9, 10] rfl rfl rfl rfl (Nat.le_of_ble_eq_true rfl) rfl ⟨Nat.zero_le _, Nat.zero_le _⟩ dX7_doTextCommand_107 rfl ?_
    obtain ⟨v4, hv4, h⟩ := bind_g h
    refine v_callVwi hC (n := 2) (st := []) [(h0, .inr (5, [.ref f0, .ref t0, .ref g0, .ref k1, .ref k2, .ref w0])), (f0, .inr (0, [.ref q1, .ref q2, .ref q3, .int v4.2.1, .int sn, .int dy, .int wg, .int pe, .int pn, .int br])), (q1, .inr (3, [.int (nI 14), .ref a1])), (a1, .inl (cy 0, 84, .inl v4.2.2)), (q2, .inr (3, [.int (nI 10), .ref a2])), (a2, .inl (cy 0, 60, .inl sc)), (q3, .inr (3, [.int (nI 1), .ref a3])), (a3, .inl (cy 0, 3, .inl se)), (w0, .inr (4, [.ref q4, .int tl])), (q4, .inr (3, [.int (nI 120), .ref a4])), (a4, .inl (cy 0, 120, .inl tc))] _ (mX0_addExtra l g cy f0 q1 a1 q2 a2 q3 a3 ec sn dy wg pe pn br ex sc se v2 v3 hv4) gX7_doTextCommand_X0_addExtra rfl rfl rfl (by decide +kernel) ⟨Nat.le_of_ble_eq_true rfl, Nat.le_of_ble_eq_true rfl⟩ 1 rfl rfl [1, 2, 3, 4, 5, 6, 7] [0, 8, 9, 10] rfl rfl rfl rfl rfl rfl rfl rfl rfl (Nat.le_of_ble_eq_true rfl) rfl ⟨Nat.zero_le _, Nat.zero_le _⟩ dX7_doTextCommand_110 rfl ?_
    refine v_iconst hC (v := (-1)) dX7_doTextCommand_113 (by decide) rfl ?_
    refine v_icmp_eq hC (tgt := 121) dX7_doTextCommand_114 (by decide) rfl (fun c => ?_) (fun c => ?_)
    · have h := ite_t c h
      refine v_iconst hC (v := (nI 0)) dX7_doTextCommand_121 (by decide) rfl ?_
      exact v_sub [] (lv' := []) rfl (bX7_doTextCommand_122 hC hr _ _ _ _ _ _ _ _ _ _ _ _ _ h)
    · have h := ite_f c h
      refine v_iconst hC (v := (nI 1)) dX7_doTextCommand_117 (by decide) rfl ?_
      refine v_goto hC (tgt := 122) dX7_doTextCommand_118 (by decide) ?_
      exact v_sub [] (lv' := []) rfl (bX7_doTextCommand_122 hC hr _ _ _ _ _ _ _ _ _ _ _ _ _ h)
  · have h := ite_f c101 h
    by_cases c103 : v1 = (nI 103)
    · have h := ite_t c103 h
      refine v_tswI hC (v := (nI 103)) (tgt := 195) dX7_doTextCommand_8 c103 (by decide) (by decide) rfl (by decide) ?_
      refine v_aload_n hC dX7_doTextCommand_195 rfl 0 rfl rfl ?_
      refine v_get hC iX7_doTextCommand_X7 0 rfl rfl 0 (by decide) kX7_doTextCommand_10 rfl rfl dX7_doTextCommand_196 rfl ?_
      refine v_aload_n hC dX7_doTextCommand_199 rfl 0 rfl rfl ?_
      refine v_get hC iX7_doTextCommand_X7 0 rfl rfl 5 (by decide) kX7_doTextCommand_39 rfl rfl dX7_doTextCommand_200 rfl ?_
      refine v_iload_n hC dX7_doTextCommand_203 rfl 1 rfl rfl ?_
      refine v_iconst hC (v := (nI 1)) dX7_doTextCommand_204 (by decide) rfl ?_
      refine v_iadd hC dX7_doTextCommand_205 rfl ?_
      refine v_iconst hC (v := (nI 1)) dX7_doTextCommand_206 (by decide) rfl ?_
      obtain ⟨v5, hv5, h⟩ := bind_g h
      refine v_callVri hC (n := 2) (st := [.ref f0]) (mX6_number l g cy w0 q4 a4 tl tc (x1 + (nI 1)) (nI 1) hv5) gX7_doTextCommand_X6_number rfl rfl rfl (by decide +kernel) ⟨Nat.le_of_ble_eq_true rfl, Nat.le_of_ble_eq_true rfl⟩ 8 rfl rfl [8, 9, 10] rfl rfl rfl rfl (Nat.le_of_ble_eq_true rfl) rfl ⟨Nat.zero_le _, Nat.zero_le _⟩ dX7_doTextCommand_207 rfl ?_
      obtain ⟨v6, hv6, h⟩ := bind_g h
      refine v_callVwi hC (n := 1) (st := []) [(h0, .inr (5, [.ref f0, .ref t0, .ref g0, .ref k1, .ref k2, .ref w0])), (f0, .inr (0, [.ref q1, .ref q2, .ref q3, .int ec, .int sn, .int dy, .int v6.2.1, .int v6.2.2.1, .int v6.2.2.2.1, .int v6.2.2.2.2.1])), (q1, .inr (3, [.int (nI 14), .ref a1])), (a1, .inl (cy 0, 84, .inl v6.2.2.2.2.2.1)), (q2, .inr (3, [.int (nI 10), .ref a2])), (a2, .inl (cy 0, 60, .inl v6.2.2.2.2.2.2)), (q3, .inr (3, [.int (nI 1), .ref a3])), (a3, .inl (cy 0, 3, .inl se)), (w0, .inr (4, [.ref q4, .int tl])), (q4, .inr (3, [.int (nI 120), .ref a4])), (a4, .inl (cy 0, 120, .inl tc))] _ (mX0_shootIfPossible l g cy f0 q1 a1 q2 a2 q3 a3 ec sn dy wg pe pn br ex sc se v5 hv6) gX7_doTextCommand_X0_shootIfPossible rfl rfl rfl (by decide +kernel) ⟨Nat.le_of_ble_eq_true rfl, Nat.le_of_ble_eq_true rfl⟩ 1 rfl rfl [1, 2, 3, 4, 5, 6, 7] [0, 8, 9, 10] rfl rfl rfl rfl rfl rfl rfl rfl rfl (Nat.le_of_ble_eq_true rfl) rfl ⟨Nat.zero_le _, Nat.zero_le _⟩ dX7_doTextCommand_210 rfl ?_
      obtain ⟨b7, hb9, h⟩ := bind_g h
      obtain ⟨e9, hn⟩ := bz_g hb9
      obtain rfl := Option.some.inj h
      exact v_irw hC hr hn e9 dX7_doTextCommand_213
    · have h := ite_f c103 h
      by_cases c109 : v1 = (nI 109)
      · have h := ite_t c109 h
        refine v_tswI hC (v := (nI 109)) (tgt := 214) dX7_doTextCommand_8 c109 (by decide) (by decide) rfl (by decide) ?_
        refine v_aload_n hC dX7_doTextCommand_214 rfl 0 rfl rfl ?_
        refine v_get hC iX7_doTextCommand_X7 0 rfl rfl 0 (by decide) kX7_doTextCommand_10 rfl rfl dX7_doTextCommand_215 rfl ?_
        obtain ⟨v8, hv8, h⟩ := bind_g h
        refine v_callVwi hC (n := 0) (st := []) [(h0, .inr (5, [.ref f0, .ref t0, .ref g0, .ref k1, .ref k2, .ref w0])), (f0, .inr (0, [.ref q1, .ref q2, .ref q3, .int ec, .int sn, .int dy, .int wg, .int pe, .int pn, .int br])), (q1, .inr (3, [.int (nI 14), .ref a1])), (a1, .inl (cy 0, 84, .inl v8.2)), (q2, .inr (3, [.int (nI 10), .ref a2])), (a2, .inl (cy 0, 60, .inl sc)), (q3, .inr (3, [.int (nI 1), .ref a3])), (a3, .inl (cy 0, 3, .inl se)), (w0, .inr (4, [.ref q4, .int tl])), (q4, .inr (3, [.int (nI 120), .ref a4])), (a4, .inl (cy 0, 120, .inl tc))] _ (mX0_eat l g cy f0 q1 a1 q2 a2 q3 a3 ec sn dy wg pe pn br ex sc se hv8) gX7_doTextCommand_X0_eat rfl rfl rfl (by decide +kernel) ⟨Nat.le_of_ble_eq_true rfl, Nat.le_of_ble_eq_true rfl⟩ 1 rfl rfl [1, 2, 3, 4, 5, 6, 7] [0, 8, 9, 10] rfl rfl rfl rfl rfl rfl rfl rfl rfl (Nat.le_of_ble_eq_true rfl) rfl ⟨Nat.zero_le _, Nat.zero_le _⟩ dX7_doTextCommand_218 rfl ?_
        refine v_pop hC dX7_doTextCommand_221 rfl rfl ?_
        refine v_iconst hC (v := (nI 1)) dX7_doTextCommand_222 (by decide) rfl ?_
        obtain rfl := Option.some.inj h
        exact v_irw hC hr rfl rfl dX7_doTextCommand_223
      · have h := ite_f c109 h
        by_cases c110 : v1 = (nI 110)
        · have h := ite_t c110 h
          refine v_tswI hC (v := (nI 110)) (tgt := 224) dX7_doTextCommand_8 c110 (by decide) (by decide) rfl (by decide) ?_
          refine v_aload_n hC dX7_doTextCommand_224 rfl 0 rfl rfl ?_
          refine v_get hC iX7_doTextCommand_X7 0 rfl rfl 0 (by decide) kX7_doTextCommand_10 rfl rfl dX7_doTextCommand_225 rfl ?_
          obtain ⟨v9, hv9, h⟩ := bind_g h
          refine v_callVwi hC (n := 0) (st := []) [(h0, .inr (5, [.ref f0, .ref t0, .ref g0, .ref k1, .ref k2, .ref w0])), (f0, .inr (0, [.ref q1, .ref q2, .ref q3, .int ec, .int sn, .int v9.2.1, .int wg, .int pe, .int pn, .int br])), (q1, .inr (3, [.int (nI 14), .ref a1])), (a1, .inl (cy 0, 84, .inl v9.2.2)), (q2, .inr (3, [.int (nI 10), .ref a2])), (a2, .inl (cy 0, 60, .inl sc)), (q3, .inr (3, [.int (nI 1), .ref a3])), (a3, .inl (cy 0, 3, .inl se)), (w0, .inr (4, [.ref q4, .int tl])), (q4, .inr (3, [.int (nI 120), .ref a4])), (a4, .inl (cy 0, 120, .inl tc))] _ (mX0_beginDay l g cy f0 q1 a1 q2 a2 q3 a3 ec sn dy wg pe pn br ex sc se hv9) gX7_doTextCommand_X0_beginDay rfl rfl rfl (by decide +kernel) ⟨Nat.le_of_ble_eq_true rfl, Nat.le_of_ble_eq_true rfl⟩ 1 rfl rfl [1, 2, 3, 4, 5, 6, 7] [0, 8, 9, 10] rfl rfl rfl rfl rfl rfl rfl rfl rfl (Nat.le_of_ble_eq_true rfl) rfl ⟨Nat.zero_le _, Nat.zero_le _⟩ dX7_doTextCommand_228 rfl ?_
          refine v_pop hC dX7_doTextCommand_231 rfl rfl ?_
          refine v_iconst hC (v := (nI 1)) dX7_doTextCommand_232 (by decide) rfl ?_
          obtain rfl := Option.some.inj h
          exact v_irw hC hr rfl rfl dX7_doTextCommand_233
        · have h := ite_f c110 h
          by_cases c115 : v1 = (nI 115)
          · have h := ite_t c115 h
            refine v_tswI hC (v := (nI 115)) (tgt := 123) dX7_doTextCommand_8 c115 (by decide) (by decide) rfl (by decide) ?_
            refine v_aload_n hC dX7_doTextCommand_123 rfl 0 rfl rfl ?_
            refine v_get hC iX7_doTextCommand_X7 0 rfl rfl 0 (by decide) kX7_doTextCommand_10 rfl rfl dX7_doTextCommand_124 rfl ?_
            refine v_aload_n hC dX7_doTextCommand_127 rfl 0 rfl rfl ?_
            refine v_get hC iX7_doTextCommand_X7 0 rfl rfl 5 (by decide) kX7_doTextCommand_39 rfl rfl dX7_doTextCommand_128 rfl ?_
            refine v_iload_n hC dX7_doTextCommand_131 rfl 1 rfl rfl ?_
            refine v_iconst hC (v := (nI 1)) dX7_doTextCommand_132 (by decide) rfl ?_
            refine v_iadd hC dX7_doTextCommand_133 rfl ?_
            refine v_iconst hC (v := (nI 1)) dX7_doTextCommand_134 (by decide) rfl ?_
            obtain ⟨v10, hv10, h⟩ := bind_g h
            refine v_callVri hC (n := 2) (st := [.ref f0]) (mX6_number l g cy w0 q4 a4 tl tc (x1 + (nI 1)) (nI 1) hv10) gX7_doTextCommand_X6_number rfl rfl rfl (by decide +kernel) ⟨Nat.le_of_ble_eq_true rfl, Nat.le_of_ble_eq_true rfl⟩ 8 rfl rfl [8, 9, 10] rfl rfl rfl rfl (Nat.le_of_ble_eq_true rfl) rfl ⟨Nat.zero_le _, Nat.zero_le _⟩ dX7_doTextCommand_135 rfl ?_
            refine v_aload_n hC dX7_doTextCommand_138 rfl 0 rfl rfl ?_
            refine v_get hC iX7_doTextCommand_X7 0 rfl rfl 5 (by decide) kX7_doTextCommand_39 rfl rfl dX7_doTextCommand_139 rfl ?_
            refine v_iload_n hC dX7_doTextCommand_142 rfl 1 rfl rfl ?_
            refine v_iconst hC (v := (nI 2)) dX7_doTextCommand_143 (by decide) rfl ?_
            refine v_iadd hC dX7_doTextCommand_144 rfl ?_
            refine v_iconst hC (v := (nI 1)) dX7_doTextCommand_145 (by decide) rfl ?_
            obtain ⟨v11, hv11, h⟩ := bind_g h
            refine v_callVri hC (n := 2) (st := [.int v10, .ref f0]) (mX6_number l g cy w0 q4 a4 tl tc (x1 + (nI 2)) (nI 1) hv11) gX7_doTextCommand_X6_number rfl rfl rfl (by decide +kernel) ⟨Nat.le_of_ble_eq_true rfl, Nat.le_of_ble_eq_true rfl⟩ 8 rfl rfl [8, 9, 10] rfl rfl rfl rfl (Nat.le_of_ble_eq_true rfl) rfl ⟨Nat.zero_le _, Nat.zero_le _⟩ dX7_doTextCommand_146 rfl ?_
            refine v_aload_n hC dX7_doTextCommand_149 rfl 0 rfl rfl ?_
            refine v_get hC iX7_doTextCommand_X7 0 rfl rfl 5 (by decide) kX7_doTextCommand_39 rfl rfl dX7_doTextCommand_150 rfl ?_
            refine v_iload_n hC dX7_doTextCommand_153 rfl 1 rfl rfl ?_
            refine v_iconst hC (v := (nI 3)) dX7_doTextCommand_154 (by decide) rfl ?_
            refine v_iadd hC dX7_doTextCommand_155 rfl ?_
            refine v_iconst hC (v := (nI 1)) dX7_doTextCommand_156 (by decide) rfl ?_
            obtain ⟨v12, hv12, h⟩ := bind_g h
            refine v_callVri hC (n := 2) (st := [.int v11, .int v10, .ref f0]) (mX6_number l g cy w0 q4 a4 tl tc (x1 + (nI 3)) (nI 1) hv12) gX7_doTextCommand_X6_number rfl rfl rfl (by decide +kernel) ⟨Nat.le_of_ble_eq_true rfl, Nat.le_of_ble_eq_true rfl⟩ 8 rfl rfl [8, 9, 10] rfl rfl rfl rfl (Nat.le_of_ble_eq_true rfl) rfl ⟨Nat.zero_le _, Nat.zero_le _⟩ dX7_doTextCommand_157 rfl ?_
            refine v_aload_n hC dX7_doTextCommand_160 rfl 0 rfl rfl ?_
            refine v_get hC iX7_doTextCommand_X7 0 rfl rfl 5 (by decide) kX7_doTextCommand_39 rfl rfl dX7_doTextCommand_161 rfl ?_
            refine v_iload_n hC dX7_doTextCommand_164 rfl 1 rfl rfl ?_
            refine v_iconst hC (v := (nI 4)) dX7_doTextCommand_165 (by decide) rfl ?_
            refine v_iadd hC dX7_doTextCommand_166 rfl ?_
            refine v_iconst hC (v := (nI 1)) dX7_doTextCommand_167 (by decide) rfl ?_
            obtain ⟨v13, hv13, h⟩ := bind_g h
            refine v_callVri hC (n := 2) (st := [.int v12, .int v11, .int v10, .ref f0]) (mX6_number l g cy w0 q4 a4 tl tc (x1 + (nI 4)) (nI 1) hv13) gX7_doTextCommand_X6_number rfl rfl rfl (by decide +kernel) ⟨Nat.le_of_ble_eq_true rfl, Nat.le_of_ble_eq_true rfl⟩ 8 rfl rfl [8, 9, 10] rfl rfl rfl rfl (Nat.le_of_ble_eq_true rfl) rfl ⟨Nat.zero_le _, Nat.zero_le _⟩ dX7_doTextCommand_168 rfl ?_
            refine v_aload_n hC dX7_doTextCommand_171 rfl 0 rfl rfl ?_
            refine v_get hC iX7_doTextCommand_X7 0 rfl rfl 5 (by decide) kX7_doTextCommand_39 rfl rfl dX7_doTextCommand_172 rfl ?_
            refine v_iload_n hC dX7_doTextCommand_175 rfl 1 rfl rfl ?_
            refine v_iconst hC (v := (nI 5)) dX7_doTextCommand_176 (by decide) rfl ?_
            refine v_iadd hC dX7_doTextCommand_177 rfl ?_
            refine v_iconst hC (v := (nI 3)) dX7_doTextCommand_178 (by decide) rfl ?_
            obtain ⟨v14, hv14, h⟩ := bind_g h
            refine v_callVri hC (n := 2) (st := [.int v13, .int v12, .int v11, .int v10, .ref f0]) (mX6_number l g cy w0 q4 a4 tl tc (x1 + (nI 5)) (nI 3) hv14) gX7_doTextCommand_X6_number rfl rfl rfl (by decide +kernel) ⟨Nat.le_of_ble_eq_true rfl, Nat.le_of_ble_eq_true rfl⟩ 8 rfl rfl [8, 9, 10] rfl rfl rfl rfl (Nat.le_of_ble_eq_true rfl) rfl ⟨Nat.zero_le _, Nat.zero_le _⟩ dX7_doTextCommand_179 rfl ?_
            obtain ⟨v15, hv15, h⟩ := bind_g h
            refine v_callVwi hC (n := 5) (st := []) [(h0, .inr (5, [.ref f0, .ref t0, .ref g0, .ref k1, .ref k2, .ref w0])), (f0, .inr (0, [.ref q1, .ref q2, .ref q3, .int ec, .int v15.2.1, .int dy, .int wg, .int pe, .int pn, .int br])), (q1, .inr (3, [.int (nI 14), .ref a1])), (a1, .inl (cy 0, 84, .inl ex)), (q2, .inr (3, [.int (nI 10), .ref a2])), (a2, .inl (cy 0, 60, .inl v15.2.2)), (q3, .inr (3, [.int (nI 1), .ref a3])), (a3, .inl (cy 0, 3, .inl se)), (w0, .inr (4, [.ref q4, .int tl])), (q4, .inr (3, [.int (nI 120), .ref a4])), (a4, .inl (cy 0, 120, .inl tc))] _ (mX0_addScene l g cy f0 q1 a1 q2 a2 q3 a3 ec sn dy wg pe pn br ex sc se v10 v11 v12 v13 v14 hv15) gX7_doTextCommand_X0_addScene rfl rfl rfl (by decide +kernel) ⟨Nat.le_of_ble_eq_true rfl, Nat.le_of_ble_eq_true rfl⟩ 1 rfl rfl [1, 2, 3, 4, 5, 6, 7] [0, 8, 9, 10] rfl rfl rfl rfl rfl rfl rfl rfl rfl (Nat.le_of_ble_eq_true rfl) rfl ⟨Nat.zero_le _, Nat.zero_le _⟩ dX7_doTextCommand_182 rfl ?_
            refine v_iconst hC (v := (-1)) dX7_doTextCommand_185 (by decide) rfl ?_
            refine v_icmp_eq hC (tgt := 193) dX7_doTextCommand_186 (by decide) rfl (fun c => ?_) (fun c => ?_)
            · have h := ite_t c h
              refine v_iconst hC (v := (nI 0)) dX7_doTextCommand_193 (by decide) rfl ?_
              exact v_sub [] (lv' := []) rfl (bX7_doTextCommand_194 hC hr _ _ _ _ _ _ _ _ _ _ _ _ _ h)
            · have h := ite_f c h
              refine v_iconst hC (v := (nI 1)) dX7_doTextCommand_189 (by decide) rfl ?_
              refine v_goto hC (tgt := 194) dX7_doTextCommand_190 (by decide) ?_
              exact v_sub [] (lv' := []) rfl (bX7_doTextCommand_194 hC hr _ _ _ _ _ _ _ _ _ _ _ _ _ h)
          · have h := ite_f c115 h
            by_cases c102 : v1 = (nI 102)
            · refine v_tswI hC (v := (nI 102)) (tgt := 234) dX7_doTextCommand_8 c102 (by decide) (by decide) rfl (by decide) ?_
              exact v_sub [] (lv' := []) rfl (bX7_doTextCommand_234 hC hr _ _ _ _ _ _ _ _ _ _ _ _ h)
            · skip
              by_cases c104 : v1 = (nI 104)
              · refine v_tswI hC (v := (nI 104)) (tgt := 234) dX7_doTextCommand_8 c104 (by decide) (by decide) rfl (by decide) ?_
                exact v_sub [] (lv' := []) rfl (bX7_doTextCommand_234 hC hr _ _ _ _ _ _ _ _ _ _ _ _ h)
              · skip
                by_cases c105 : v1 = (nI 105)
                · refine v_tswI hC (v := (nI 105)) (tgt := 234) dX7_doTextCommand_8 c105 (by decide) (by decide) rfl (by decide) ?_
                  exact v_sub [] (lv' := []) rfl (bX7_doTextCommand_234 hC hr _ _ _ _ _ _ _ _ _ _ _ _ h)
                · skip
                  by_cases c106 : v1 = (nI 106)
                  · refine v_tswI hC (v := (nI 106)) (tgt := 234) dX7_doTextCommand_8 c106 (by decide) (by decide) rfl (by decide) ?_
                    exact v_sub [] (lv' := []) rfl (bX7_doTextCommand_234 hC hr _ _ _ _ _ _ _ _ _ _ _ _ h)
                  · skip
                    by_cases c107 : v1 = (nI 107)
                    · refine v_tswI hC (v := (nI 107)) (tgt := 234) dX7_doTextCommand_8 c107 (by decide) (by decide) rfl (by decide) ?_
                      exact v_sub [] (lv' := []) rfl (bX7_doTextCommand_234 hC hr _ _ _ _ _ _ _ _ _ _ _ _ h)
                    · skip
                      by_cases c108 : v1 = (nI 108)
                      · refine v_tswI hC (v := (nI 108)) (tgt := 234) dX7_doTextCommand_8 c108 (by decide) (by decide) rfl (by decide) ?_
                        exact v_sub [] (lv' := []) rfl (bX7_doTextCommand_234 hC hr _ _ _ _ _ _ _ _ _ _ _ _ h)
                      · skip
                        by_cases c111 : v1 = (nI 111)
                        · refine v_tswI hC (v := (nI 111)) (tgt := 234) dX7_doTextCommand_8 c111 (by decide) (by decide) rfl (by decide) ?_
                          exact v_sub [] (lv' := []) rfl (bX7_doTextCommand_234 hC hr _ _ _ _ _ _ _ _ _ _ _ _ h)
                        · skip
                          by_cases c112 : v1 = (nI 112)
                          · refine v_tswI hC (v := (nI 112)) (tgt := 234) dX7_doTextCommand_8 c112 (by decide) (by decide) rfl (by decide) ?_
                            exact v_sub [] (lv' := []) rfl (bX7_doTextCommand_234 hC hr _ _ _ _ _ _ _ _ _ _ _ _ h)
                          · skip
                            by_cases c113 : v1 = (nI 113)
                            · refine v_tswI hC (v := (nI 113)) (tgt := 234) dX7_doTextCommand_8 c113 (by decide) (by decide) rfl (by decide) ?_
                              exact v_sub [] (lv' := []) rfl (bX7_doTextCommand_234 hC hr _ _ _ _ _ _ _ _ _ _ _ _ h)
                            · skip
                              by_cases c114 : v1 = (nI 114)
                              · refine v_tswI hC (v := (nI 114)) (tgt := 234) dX7_doTextCommand_8 c114 (by decide) (by decide) rfl (by decide) ?_
                                exact v_sub [] (lv' := []) rfl (bX7_doTextCommand_234 hC hr _ _ _ _ _ _ _ _ _ _ _ _ h)
                              · skip
                                refine v_tswO hC (tgt := 234) dX7_doTextCommand_8 (by have e101 := ne_I (z := 101) (by decide) c101; have e102 := ne_I (z := 102) (by decide) c102; have e103 := ne_I (z := 103) (by decide) c103; have e104 := ne_I (z := 104) (by decide) c104; have e105 := ne_I (z := 105) (by decide) c105; have e106 := ne_I (z := 106) (by decide) c106; have e107 := ne_I (z := 107) (by decide) c107; have e108 := ne_I (z := 108) (by decide) c108; have e109 := ne_I (z := 109) (by decide) c109; have e110 := ne_I (z := 110) (by decide) c110; have e111 := ne_I (z := 111) (by decide) c111; have e112 := ne_I (z := 112) (by decide) c112; have e113 := ne_I (z := 113) (by decide) c113; have e114 := ne_I (z := 114) (by decide) c114; have e115 := ne_I (z := 115) (by decide) c115; omega) (by decide) ?_
                                exact v_sub [] (lv' := []) rfl (bX7_doTextCommand_234 hC hr _ _ _ _ _ _ _ _ _ _ _ _ h)
theorem kX7_costInTurn_10 : Cond.fieldLink RX7 10 "CrowdFaces" "film" "LCrowdFaces$Film;" ∈ wsX7_costInTurn := by decide +kernel
theorem kX7_costInTurn_16 : Cond.fieldLink RX7 16 "CrowdFaces" "trial" "LCrowdFaces$Film;" ∈ wsX7_costInTurn := by decide +kernel
theorem iX7_costInTurn_X7 : ∀ w ∈ wsX70, w ∈ wsX7_costInTurn := by decide +kernel
def pX7_costInTurn_33 (ec : Int32) (sn : Int32) (dy : Int32) (wg : Int32) (pe : Int32) (pn : Int32) (br : Int32) (ex : Nat → Int32) (sc : Nat → Int32) (se : Nat → Int32) (ec_t : Int32) (sn_t : Int32) (dy_t : Int32) (wg_t : Int32) (pe_t : Int32) (pn_t : Int32) (br_t : Int32) (ex_t : Nat → Int32) (sc_t : Nat → Int32) (se_t : Nat → Int32) : Option (Int32 × Int32 × Int32 × Int32 × Int32 × Int32 × Int32 × Int32 × (Nat → Int32) × (Nat → Int32) × (Nat → Int32)) := some ((-1), ec_t, sn_t, dy_t, wg_t, pe_t, pn_t, br_t, ex_t, sc_t, se_t)
def pX7_costInTurn (ec : Int32) (sn : Int32) (dy : Int32) (wg : Int32) (pe : Int32) (pn : Int32) (br : Int32) (ex : Nat → Int32) (sc : Nat → Int32) (se : Nat → Int32) (ec_t : Int32) (sn_t : Int32) (dy_t : Int32) (wg_t : Int32) (pe_t : Int32) (pn_t : Int32) (br_t : Int32) (ex_t : Nat → Int32) (sc_t : Nat → Int32) (se_t : Nat → Int32) (x1 : Int32) (x2 : Int32) : Option (Int32 × Int32 × Int32 × Int32 × Int32 × Int32 × Int32 × Int32 × (Nat → Int32) × (Nat → Int32) × (Nat → Int32)) := (pX0_copy ec_t sn_t dy_t wg_t pe_t pn_t br_t ex_t sc_t se_t ec sn dy wg pe pn br ex sc se).bind fun v1 => (pX0_shootIfPossible v1.1 v1.2.1 v1.2.2.2.1 v1.2.2.2.2.1 v1.2.2.2.2.2.1 v1.2.2.2.2.2.2.1 v1.2.2.2.2.2.2.2.1 v1.2.2.2.2.2.2.2.2.1 v1.2.2.2.2.2.2.2.2.2 x1).bind fun v2 => if v2.1 = 0 then pX7_costInTurn_33 ec sn dy wg pe pn br ex sc se v1.1 v1.2.1 v1.2.2.1 v2.2.1 v2.2.2.1 v2.2.2.2.1 v2.2.2.2.2.1 v2.2.2.2.2.2.1 v2.2.2.2.2.2.2 v1.2.2.2.2.2.2.2.2.2 else (pX0_shootIfPossible v1.1 v1.2.1 v2.2.1 v2.2.2.1 v2.2.2.2.1 v2.2.2.2.2.1 v2.2.2.2.2.2.1 v2.2.2.2.2.2.2 v1.2.2.2.2.2.2.2.2.2 x2).bind fun v3 => if v3.1 = 0 then pX7_costInTurn_33 ec sn dy wg pe pn br ex sc se v1.1 v1.2.1 v1.2.2.1 v3.2.1 v3.2.2.1 v3.2.2.2.1 v3.2.2.2.2.1 v3.2.2.2.2.2.1 v3.2.2.2.2.2.2 v1.2.2.2.2.2.2.2.2.2 else (pX0_allCosts v3.2.1 v3.2.2.1).bind fun v4 => (pX0_allCosts wg pe).bind fun v5 => some ((v4 - v5), v1.1, v1.2.1, v1.2.2.1, v3.2.1, v3.2.2.1, v3.2.2.2.1, v3.2.2.2.2.1, v3.2.2.2.2.2.1, v3.2.2.2.2.2.2, v1.2.2.2.2.2.2.2.2.2)
abbrev rmX7_costInTurn : Room := { frames := 5, cells := 0, slots := 0, locals := 123 }
set_option maxHeartbeats 4000000 in
set_option maxRecDepth 100000 in
theorem bX7_costInTurn_33 {p : Program} {l : Launch} {e : Env} {s : State} {m : MethodId} {args : Array Value} {below : List Frame} {meth : Method} {c : Code} {g : va_G} {cy : Nat → ClassId} (hC : CX p s m args meth c g cy 3 cX7_costInTurn wsX7_costInTurn RX7) (hr : meth.sig.returnType = (some .int)) {h0 f0 t0 g0 k1 k2 w0 q1 a1 q2 a2 q3 a3 q1_t a1_t q2_t a2_t q3_t a3_t : Nat} {A : Nat → Prop} {res : Int32 × Int32 × Int32 × Int32 × Int32 × Int32 × Int32 × Int32 × (Nat → Int32) × (Nat → Int32) × (Nat → Int32)} : ∀ (ec : Int32) (sn : Int32) (dy : Int32) (wg : Int32) (pe : Int32) (pn : Int32) (br : Int32) (ex : Nat → Int32) (sc : Nat → Int32) (se : Nat → Int32) (ec_t : Int32) (sn_t : Int32) (dy_t : Int32) (wg_t : Int32) (pe_t : Int32) (pn_t : Int32) (br_t : Int32) (ex_t : Nat → Int32) (sc_t : Nat → Int32) (se_t : Nat → Int32) (h : pX7_costInTurn_33 ec sn dy wg pe pn br ex sc se ec_t sn_t dy_t wg_t pe_t pn_t br_t ex_t sc_t se_t = some res), V p l e (headSpec wsX7_costInTurn rmX7_costInTurn).room s m args below meth c g 3 0 0 (MQ below (QWi g A res.1 [(h0, .inr (5, [.ref f0, .ref t0, .ref g0, .ref k1, .ref k2, .ref w0])), (f0, .inr (0, [.ref q1, .ref q2, .ref q3, .int ec, .int sn, .int dy, .int wg, .int pe, .int pn, .int br])), (q1, .inr (3, [.int (nI 14), .ref a1])), (a1, .inl (cy 0, 84, .inl ex)), (q2, .inr (3, [.int (nI 10), .ref a2])), (a2, .inl (cy 0, 60, .inl sc)), (q3, .inr (3, [.int (nI 1), .ref a3])), (a3, .inl (cy 0, 3, .inl se)), (t0, .inr (0, [.ref q1_t, .ref q2_t, .ref q3_t, .int res.2.1, .int res.2.2.1, .int res.2.2.2.1, .int res.2.2.2.2.1, .int res.2.2.2.2.2.1, .int res.2.2.2.2.2.2.1, .int res.2.2.2.2.2.2.2.1])), (q1_t, .inr (3, [.int (nI 14), .ref a1_t])), (a1_t, .inl (cy 0, 84, .inl res.2.2.2.2.2.2.2.2.1)), (q2_t, .inr (3, [.int (nI 10), .ref a2_t])), (a2_t, .inl (cy 0, 60, .inl res.2.2.2.2.2.2.2.2.2.1)), (q3_t, .inr (3, [.int (nI 1), .ref a3_t])), (a3_t, .inl (cy 0, 3, .inl res.2.2.2.2.2.2.2.2.2.2))]) args s 0 0 A) A A [(h0, .inr (5, [.ref f0, .ref t0, .ref g0, .ref k1, .ref k2, .ref w0])), (f0, .inr (0, [.ref q1, .ref q2, .ref q3, .int ec, .int sn, .int dy, .int wg, .int pe, .int pn, .int br])), (q1, .inr (3, [.int (nI 14), .ref a1])), (a1, .inl (cy 0, 84, .inl ex)), (q2, .inr (3, [.int (nI 10), .ref a2])), (a2, .inl (cy 0, 60, .inl sc)), (q3, .inr (3, [.int (nI 1), .ref a3])), (a3, .inl (cy 0, 3, .inl se)), (t0, .inr (0, [.ref q1_t, .ref q2_t, .ref q3_t, .int ec_t, .int sn_t, .int dy_t, .int wg_t, .int pe_t, .int pn_t, .int br_t])), (q1_t, .inr (3, [.int (nI 14), .ref a1_t])), (a1_t, .inl (cy 0, 84, .inl ex_t)), (q2_t, .inr (3, [.int (nI 10), .ref a2_t])), (a2_t, .inl (cy 0, 60, .inl sc_t)), (q3_t, .inr (3, [.int (nI 1), .ref a3_t])), (a3_t, .inl (cy 0, 3, .inl se_t))] 33 [] [] := by
  intro ec sn dy wg pe pn br ex sc se ec_t sn_t dy_t wg_t pe_t pn_t br_t ex_t sc_t se_t  h
  unfold pX7_costInTurn_33 at h
  refine v_iconst hC (v := (-1)) dX7_costInTurn_33 (by decide) rfl ?_
  obtain rfl := Option.some.inj h
  exact v_irw hC hr rfl rfl dX7_costInTurn_34
set_option maxHeartbeats 4000000 in
set_option maxRecDepth 100000 in
theorem mX7_costInTurn (l : Launch) (g : va_G) (cy : Nat → ClassId) (h0 f0 t0 g0 k1 k2 w0 q1 a1 q2 a2 q3 a3 q1_t a1_t q2_t a2_t q3_t a3_t : Nat) (ec : Int32) (sn : Int32) (dy : Int32) (wg : Int32) (pe : Int32) (pn : Int32) (br : Int32) (ex : Nat → Int32) (sc : Nat → Int32) (se : Nat → Int32) (ec_t : Int32) (sn_t : Int32) (dy_t : Int32) (wg_t : Int32) (pe_t : Int32) (pn_t : Int32) (br_t : Int32) (ex_t : Nat → Int32) (sc_t : Nat → Int32) (se_t : Nat → Int32) (x1 : Int32) (x2 : Int32) {res : Int32 × Int32 × Int32 × Int32 × Int32 × Int32 × Int32 × Int32 × (Nat → Int32) × (Nat → Int32) × (Nat → Int32)} (h : pX7_costInTurn ec sn dy wg pe pn br ex sc se ec_t sn_t dy_t wg_t pe_t pn_t br_t ex_t sc_t se_t x1 x2 = some res) : Met l yX7_costInTurn wsX7_costInTurn rmX7_costInTurn (PW [.ref h0, .int x1, .int x2] g cy [(h0, .inr (5, [.ref f0, .ref t0, .ref g0, .ref k1, .ref k2, .ref w0])), (f0, .inr (0, [.ref q1, .ref q2, .ref q3, .int ec, .int sn, .int dy, .int wg, .int pe, .int pn, .int br])), (q1, .inr (3, [.int (nI 14), .ref a1])), (a1, .inl (cy 0, 84, .inl ex)), (q2, .inr (3, [.int (nI 10), .ref a2])), (a2, .inl (cy 0, 60, .inl sc)), (q3, .inr (3, [.int (nI 1), .ref a3])), (a3, .inl (cy 0, 3, .inl se)), (t0, .inr (0, [.ref q1_t, .ref q2_t, .ref q3_t, .int ec_t, .int sn_t, .int dy_t, .int wg_t, .int pe_t, .int pn_t, .int br_t])), (q1_t, .inr (3, [.int (nI 14), .ref a1_t])), (a1_t, .inl (cy 0, 84, .inl ex_t)), (q2_t, .inr (3, [.int (nI 10), .ref a2_t])), (a2_t, .inl (cy 0, 60, .inl sc_t)), (q3_t, .inr (3, [.int (nI 1), .ref a3_t])), (a3_t, .inl (cy 0, 3, .inl se_t))]) (QWi g (wA [(h0, .inr (5, [.ref f0, .ref t0, .ref g0, .ref k1, .ref k2, .ref w0])), (f0, .inr (0, [.ref q1, .ref q2, .ref q3, .int ec, .int sn, .int dy, .int wg, .int pe, .int pn, .int br])), (q1, .inr (3, [.int (nI 14), .ref a1])), (a1, .inl (cy 0, 84, .inl ex)), (q2, .inr (3, [.int (nI 10), .ref a2])), (a2, .inl (cy 0, 60, .inl sc)), (q3, .inr (3, [.int (nI 1), .ref a3])), (a3, .inl (cy 0, 3, .inl se)), (t0, .inr (0, [.ref q1_t, .ref q2_t, .ref q3_t, .int ec_t, .int sn_t, .int dy_t, .int wg_t, .int pe_t, .int pn_t, .int br_t])), (q1_t, .inr (3, [.int (nI 14), .ref a1_t])), (a1_t, .inl (cy 0, 84, .inl ex_t)), (q2_t, .inr (3, [.int (nI 10), .ref a2_t])), (a2_t, .inl (cy 0, 60, .inl sc_t)), (q3_t, .inr (3, [.int (nI 1), .ref a3_t])), (a3_t, .inl (cy 0, 3, .inl se_t))]) res.1 [(h0, .inr (5, [.ref f0, .ref t0, .ref g0, .ref k1, .ref k2, .ref w0])), (f0, .inr (0, [.ref q1, .ref q2, .ref q3, .int ec, .int sn, .int dy, .int wg, .int pe, .int pn, .int br])), (q1, .inr (3, [.int (nI 14), .ref a1])), (a1, .inl (cy 0, 84, .inl ex)), (q2, .inr (3, [.int (nI 10), .ref a2])), (a2, .inl (cy 0, 60, .inl sc)), (q3, .inr (3, [.int (nI 1), .ref a3])), (a3, .inl (cy 0, 3, .inl se)), (t0, .inr (0, [.ref q1_t, .ref q2_t, .ref q3_t, .int res.2.1, .int res.2.2.1, .int res.2.2.2.1, .int res.2.2.2.2.1, .int res.2.2.2.2.2.1, .int res.2.2.2.2.2.2.1, .int res.2.2.2.2.2.2.2.1])), (q1_t, .inr (3, [.int (nI 14), .ref a1_t])), (a1_t, .inl (cy 0, 84, .inl res.2.2.2.2.2.2.2.2.1)), (q2_t, .inr (3, [.int (nI 10), .ref a2_t])), (a2_t, .inl (cy 0, 60, .inl res.2.2.2.2.2.2.2.2.2.1)), (q3_t, .inr (3, [.int (nI 1), .ref a3_t])), (a3_t, .inl (cy 0, 3, .inl res.2.2.2.2.2.2.2.2.2.2))]) 0 0 (wA [(h0, .inr (5, [.ref f0, .ref t0, .ref g0, .ref k1, .ref k2, .ref w0])), (f0, .inr (0, [.ref q1, .ref q2, .ref q3, .int ec, .int sn, .int dy, .int wg, .int pe, .int pn, .int br])), (q1, .inr (3, [.int (nI 14), .ref a1])), (a1, .inl (cy 0, 84, .inl ex)), (q2, .inr (3, [.int (nI 10), .ref a2])), (a2, .inl (cy 0, 60, .inl sc)), (q3, .inr (3, [.int (nI 1), .ref a3])), (a3, .inl (cy 0, 3, .inl se)), (t0, .inr (0, [.ref q1_t, .ref q2_t, .ref q3_t, .int ec_t, .int sn_t, .int dy_t, .int wg_t, .int pe_t, .int pn_t, .int br_t])), (q1_t, .inr (3, [.int (nI 14), .ref a1_t])), (a1_t, .inl (cy 0, 84, .inl ex_t)), (q2_t, .inr (3, [.int (nI 10), .ref a2_t])), (a2_t, .inl (cy 0, 60, .inl sc_t)), (q3_t, .inr (3, [.int (nI 1), .ref a3_t])), (a3_t, .inl (cy 0, 3, .inl se_t))]) := by
  refine m_ofV (cc := cX7_costInTurn) (nL := 3) (ret := (some .int)) (B := (wA [(h0, .inr (5, [.ref f0, .ref t0, .ref g0, .ref k1, .ref k2, .ref w0])), (f0, .inr (0, [.ref q1, .ref q2, .ref q3, .int ec, .int sn, .int dy, .int wg, .int pe, .int pn, .int br])), (q1, .inr (3, [.int (nI 14), .ref a1])), (a1, .inl (cy 0, 84, .inl ex)), (q2, .inr (3, [.int (nI 10), .ref a2])), (a2, .inl (cy 0, 60, .inl sc)), (q3, .inr (3, [.int (nI 1), .ref a3])), (a3, .inl (cy 0, 3, .inl se)), (t0, .inr (0, [.ref q1_t, .ref q2_t, .ref q3_t, .int ec_t, .int sn_t, .int dy_t, .int wg_t, .int pe_t, .int pn_t, .int br_t])), (q1_t, .inr (3, [.int (nI 14), .ref a1_t])), (a1_t, .inl (cy 0, 84, .inl ex_t)), (q2_t, .inr (3, [.int (nI 10), .ref a2_t])), (a2_t, .inl (cy 0, 60, .inl sc_t)), (q3_t, .inr (3, [.int (nI 1), .ref a3_t])), (a3_t, .inl (cy 0, 3, .inl se_t))])) RX7 rfl (by decide) rfl [(0, .ref h0), (1, .int x1), (2, .int x2)] rfl (Nat.le_of_ble_eq_true rfl) (wA.self) ?_
  intro p e s m args below meth c hC hr
  generalize (wA [(h0, .inr (5, [.ref f0, .ref t0, .ref g0, .ref k1, .ref k2, .ref w0])), (f0, .inr (0, [.ref q1, .ref q2, .ref q3, .int ec, .int sn, .int dy, .int wg, .int pe, .int pn, .int br])), (q1, .inr (3, [.int (nI 14), .ref a1])), (a1, .inl (cy 0, 84, .inl ex)), (q2, .inr (3, [.int (nI 10), .ref a2])), (a2, .inl (cy 0, 60, .inl sc)), (q3, .inr (3, [.int (nI 1), .ref a3])), (a3, .inl (cy 0, 3, .inl se)), (t0, .inr (0, [.ref q1_t, .ref q2_t, .ref q3_t, .int ec_t, .int sn_t, .int dy_t, .int wg_t, .int pe_t, .int pn_t, .int br_t])), (q1_t, .inr (3, [.int (nI 14), .ref a1_t])), (a1_t, .inl (cy 0, 84, .inl ex_t)), (q2_t, .inr (3, [.int (nI 10), .ref a2_t])), (a2_t, .inl (cy 0, 60, .inl sc_t)), (q3_t, .inr (3, [.int (nI 1), .ref a3_t])), (a3_t, .inl (cy 0, 3, .inl se_t))]) = A
  unfold pX7_costInTurn at h
  refine v_aload_n hC dX7_costInTurn_0 rfl 0 rfl rfl ?_
  refine v_get hC iX7_costInTurn_X7 0 rfl rfl 1 (by decide) kX7_costInTurn_16 rfl rfl dX7_costInTurn_1 rfl ?_
  refine v_aload_n hC dX7_costInTurn_4 rfl 0 rfl rfl ?_
  refine v_get hC iX7_costInTurn_X7 0 rfl rfl 0 (by decide) kX7_costInTurn_10 rfl rfl dX7_costInTurn_5 rfl ?_
  obtain ⟨v1, hv1, h⟩ := bind_g h
  refine v_callVwv hC (n := 1) (st := []) [(h0, .inr (5, [.ref f0, .ref t0, .ref g0, .ref k1, .ref k2, .ref w0])), (f0, .inr (0, [.ref q1, .ref q2, .ref q3, .int ec, .int sn, .int dy, .int wg, .int pe, .int pn, .int br])), (q1, .inr (3, [.int (nI 14), .ref a1])), (a1, .inl (cy 0, 84, .inl ex)), (q2, .inr (3, [.int (nI 10), .ref a2])), (a2, .inl (cy 0, 60, .inl sc)), (q3, .inr (3, [.int (nI 1), .ref a3])), (a3, .inl (cy 0, 3, .inl se)), (t0, .inr (0, [.ref q1_t, .ref q2_t, .ref q3_t, .int v1.1, .int v1.2.1, .int v1.2.2.1, .int v1.2.2.2.1, .int v1.2.2.2.2.1, .int v1.2.2.2.2.2.1, .int v1.2.2.2.2.2.2.1])), (q1_t, .inr (3, [.int (nI 14), .ref a1_t])), (a1_t, .inl (cy 0, 84, .inl v1.2.2.2.2.2.2.2.1)), (q2_t, .inr (3, [.int (nI 10), .ref a2_t])), (a2_t, .inl (cy 0, 60, .inl v1.2.2.2.2.2.2.2.2.1)), (q3_t, .inr (3, [.int (nI 1), .ref a3_t])), (a3_t, .inl (cy 0, 3, .inl v1.2.2.2.2.2.2.2.2.2))] _ (mX0_copy l g cy t0 q1_t a1_t q2_t a2_t q3_t a3_t f0 q1 a1 q2 a2 q3 a3 ec_t sn_t dy_t wg_t pe_t pn_t br_t ex_t sc_t se_t ec sn dy wg pe pn br ex sc se hv1) gX7_costInTurn_X0_copy rfl rfl rfl (by decide +kernel) ⟨Nat.le_of_ble_eq_true rfl, Nat.le_of_ble_eq_true rfl⟩ 8 rfl rfl [8, 9, 10, 11, 12, 13, 14, 1, 2, 3, 4, 5, 6, 7] [0] rfl rfl rfl rfl rfl rfl rfl rfl rfl (Nat.le_of_ble_eq_true rfl) rfl ⟨Nat.zero_le _, Nat.zero_le _⟩ dX7_costInTurn_8 rfl ?_
  refine v_aload_n hC dX7_costInTurn_11 rfl 0 rfl rfl ?_
  refine v_get hC iX7_costInTurn_X7 0 rfl rfl 1 (by decide) kX7_costInTurn_16 rfl rfl dX7_costInTurn_12 rfl ?_
  refine v_iload_n hC dX7_costInTurn_15 rfl 1 rfl rfl ?_
  obtain ⟨v2, hv2, h⟩ := bind_g h
  refine v_callVwi hC (n := 1) (st := []) [(h0, .inr (5, [.ref f0, .ref t0, .ref g0, .ref k1, .ref k2, .ref w0])), (f0, .inr (0, [.ref q1, .ref q2, .ref q3, .int ec, .int sn, .int dy, .int wg, .int pe, .int pn, .int br])), (q1, .inr (3, [.int (nI 14), .ref a1])), (a1, .inl (cy 0, 84, .inl ex)), (q2, .inr (3, [.int (nI 10), .ref a2])), (a2, .inl (cy 0, 60, .inl sc)), (q3, .inr (3, [.int (nI 1), .ref a3])), (a3, .inl (cy 0, 3, .inl se)), (t0, .inr (0, [.ref q1_t, .ref q2_t, .ref q3_t, .int v1.1, .int v1.2.1, .int v1.2.2.1, .int v2.2.1, .int v2.2.2.1, .int v2.2.2.2.1, .int v2.2.2.2.2.1])), (q1_t, .inr (3, [.int (nI 14), .ref a1_t])), (a1_t, .inl (cy 0, 84, .inl v2.2.2.2.2.2.1)), (q2_t, .inr (3, [.int (nI 10), .ref a2_t])), (a2_t, .inl (cy 0, 60, .inl v2.2.2.2.2.2.2)), (q3_t, .inr (3, [.int (nI 1), .ref a3_t])), (a3_t, .inl (cy 0, 3, .inl v1.2.2.2.2.2.2.2.2.2))] _ (mX0_shootIfPossible l g cy t0 q1_t a1_t q2_t a2_t q3_t a3_t v1.1 v1.2.1 v1.2.2.1 v1.2.2.2.1 v1.2.2.2.2.1 v1.2.2.2.2.2.1 v1.2.2.2.2.2.2.1 v1.2.2.2.2.2.2.2.1 v1.2.2.2.2.2.2.2.2.1 v1.2.2.2.2.2.2.2.2.2 x1 hv2) gX7_costInTurn_X0_shootIfPossible rfl rfl rfl (by decide +kernel) ⟨Nat.le_of_ble_eq_true rfl, Nat.le_of_ble_eq_true rfl⟩ 8 rfl rfl [8, 9, 10, 11, 12, 13, 14] [0, 1, 2, 3, 4, 5, 6, 7] rfl rfl rfl rfl rfl rfl rfl rfl rfl (Nat.le_of_ble_eq_true rfl) rfl ⟨Nat.zero_le _, Nat.zero_le _⟩ dX7_costInTurn_16 rfl ?_
  refine v_if_eq hC (tgt := 33) dX7_costInTurn_19 (by decide) rfl (fun c => ?_) (fun c => ?_)
  · have h := ite_t c h
    exact v_sub [] (lv' := []) rfl (bX7_costInTurn_33 hC hr _ _ _ _ _ _ _ _ _ _ _ _ _ _ _ _ _ _ _ _ h)
  · have h := ite_f c h
    refine v_aload_n hC dX7_costInTurn_22 rfl 0 rfl rfl ?_
    refine v_get hC iX7_costInTurn_X7 0 rfl rfl 1 (by decide) kX7_costInTurn_16 rfl rfl dX7_costInTurn_23 rfl ?_
    refine v_iload_n hC dX7_costInTurn_26 rfl 2 rfl rfl ?_
    obtain ⟨v3, hv3, h⟩ := bind_g h
    refine v_callVwi hC (n := 1) (st := []) [(h0, .inr (5, [.ref f0, .ref t0, .ref g0, .ref k1, .ref k2, .ref w0])), (f0, .inr (0, [.ref q1, .ref q2, .ref q3, .int ec, .int sn, .int dy, .int wg, .int pe, .int pn, .int br])), (q1, .inr (3, [.int (nI 14), .ref a1])), (a1, .inl (cy 0, 84, .inl ex)), (q2, .inr (3, [.int (nI 10), .ref a2])), (a2, .inl (cy 0, 60, .inl sc)), (q3, .inr (3, [.int (nI 1), .ref a3])), (a3, .inl (cy 0, 3, .inl se)), (t0, .inr (0, [.ref q1_t, .ref q2_t, .ref q3_t, .int v1.1, .int v1.2.1, .int v1.2.2.1, .int v3.2.1, .int v3.2.2.1, .int v3.2.2.2.1, .int v3.2.2.2.2.1])), (q1_t, .inr (3, [.int (nI 14), .ref a1_t])), (a1_t, .inl (cy 0, 84, .inl v3.2.2.2.2.2.1)), (q2_t, .inr (3, [.int (nI 10), .ref a2_t])), (a2_t, .inl (cy 0, 60, .inl v3.2.2.2.2.2.2)), (q3_t, .inr (3, [.int (nI 1), .ref a3_t])), (a3_t, .inl (cy 0, 3, .inl v1.2.2.2.2.2.2.2.2.2))] _ (mX0_shootIfPossible l g cy t0 q1_t a1_t q2_t a2_t q3_t a3_t v1.1 v1.2.1 v1.2.2.1 v2.2.1 v2.2.2.1 v2.2.2.2.1 v2.2.2.2.2.1 v2.2.2.2.2.2.1 v2.2.2.2.2.2.2 v1.2.2.2.2.2.2.2.2.2 x2 hv3) gX7_costInTurn_X0_shootIfPossible rfl rfl rfl (by decide +kernel) ⟨Nat.le_of_ble_eq_true rfl, Nat.le_of_ble_eq_true rfl⟩ 8 rfl rfl [8, 9, 10, 11, 12, 13, 14] [0, 1, 2, 3, 4, 5, 6, 7] rfl rfl rfl rfl rfl rfl rfl rfl rfl (Nat.le_of_ble_eq_true rfl) rfl ⟨Nat.zero_le _, Nat.zero_le _⟩ dX7_costInTurn_27 rfl ?_
    refine v_if_ne hC (tgt := 35) dX7_costInTurn_30 (by decide) rfl (fun c => ?_) (fun c => ?_)
    · have h := ite_f c h
      refine v_aload_n hC dX7_costInTurn_35 rfl 0 rfl rfl ?_
      refine v_get hC iX7_costInTurn_X7 0 rfl rfl 1 (by decide) kX7_costInTurn_16 rfl rfl dX7_costInTurn_36 rfl ?_
      obtain ⟨v4, hv4, h⟩ := bind_g h
      refine v_callVri hC (n := 0) (st := []) (mX0_allCosts l g cy t0 q1_t a1_t q2_t a2_t q3_t a3_t v1.1 v1.2.1 v1.2.2.1 v3.2.1 v3.2.2.1 v3.2.2.2.1 v3.2.2.2.2.1 v3.2.2.2.2.2.1 v3.2.2.2.2.2.2 v1.2.2.2.2.2.2.2.2.2 hv4) gX7_costInTurn_X0_allCosts rfl rfl rfl (by decide +kernel) ⟨Nat.le_of_ble_eq_true rfl, Nat.le_of_ble_eq_true rfl⟩ 8 rfl rfl [8, 9, 10, 11, 12, 13, 14] rfl rfl rfl rfl (Nat.le_of_ble_eq_true rfl) rfl ⟨Nat.zero_le _, Nat.zero_le _⟩ dX7_costInTurn_39 rfl ?_
      refine v_aload_n hC dX7_costInTurn_42 rfl 0 rfl rfl ?_
      refine v_get hC iX7_costInTurn_X7 0 rfl rfl 0 (by decide) kX7_costInTurn_10 rfl rfl dX7_costInTurn_43 rfl ?_
      obtain ⟨v5, hv5, h⟩ := bind_g h
      refine v_callVri hC (n := 0) (st := [.int v4]) (mX0_allCosts l g cy f0 q1 a1 q2 a2 q3 a3 ec sn dy wg pe pn br ex sc se hv5) gX7_costInTurn_X0_allCosts rfl rfl rfl (by decide +kernel) ⟨Nat.le_of_ble_eq_true rfl, Nat.le_of_ble_eq_true rfl⟩ 1 rfl rfl [1, 2, 3, 4, 5, 6, 7] rfl rfl rfl rfl (Nat.le_of_ble_eq_true rfl) rfl ⟨Nat.zero_le _, Nat.zero_le _⟩ dX7_costInTurn_46 rfl ?_
      refine v_isub hC dX7_costInTurn_49 rfl ?_
      obtain rfl := Option.some.inj h
      exact v_irw hC hr rfl rfl dX7_costInTurn_50
    · have h := ite_t c h
      exact v_sub [] (lv' := []) rfl (bX7_costInTurn_33 hC hr _ _ _ _ _ _ _ _ _ _ _ _ _ _ _ _ _ _ _ _ h)
theorem kX7_append_39 : Cond.fieldLink RX7 39 "CrowdFaces" "text" "LCrowdFaces$Text;" ∈ wsX7_append := by decide +kernel
theorem iX7_append_X7 : ∀ w ∈ wsX70, w ∈ wsX7_append := by decide +kernel
def pX7_append_28 (tl : Int32) (tc : Nat → Int32) (y1 : Int32) (s0 : Int32) : Option (Sum Nat (Int32 × Int32 × (Nat → Int32))) := (pX7_requireState s0).bind fun v1 => Sum.elim (fun k => some (.inl k)) (fun _ => (pX6_addCharacter tl tc y1).bind fun v2 => some (.inr (v2.1, v2.2.1, v2.2.2))) v1
def pX7_append (tl : Int32) (tc : Nat → Int32) (x1 : Int32) : Option (Sum Nat (Int32 × Int32 × (Nat → Int32))) := (pX7_isIn x1 (nI 0) (nI 255)).bind fun v1 => (pX7_requireArgument v1).bind fun v2 => Sum.elim (fun k => some (.inl k)) (fun _ => (pX6_size tl).bind fun v3 => if (nI 120) ≤ v3 then pX7_append_28 tl tc x1 (nI 0) else pX7_append_28 tl tc x1 (nI 1)) v2
abbrev rmX7_append : Room := { frames := 7, cells := 2, slots := 12, locals := 110 }
set_option maxHeartbeats 4000000 in
set_option maxRecDepth 100000 in
theorem bX7_append_28 {p : Program} {l : Launch} {e : Env} {s : State} {m : MethodId} {args : Array Value} {below : List Frame} {meth : Method} {c : Code} {g : va_G} {cy : Nat → ClassId} (hC : CX p s m args meth c g cy 2 cX7_append wsX7_append RX7) (hr : meth.sig.returnType = (some .int)) {h0 f0 t0 g0 k1 k2 w0 q4 a4 : Nat} {A : Nat → Prop} {tt sa : Nat → Nat} (hX : XE l s c tt sa A) {res : Sum Nat (Int32 × Int32 × (Nat → Int32))} : ∀ (tl : Int32) (tc : Nat → Int32) (y1 : Int32) (s0 : Int32)(h : pX7_append_28 tl tc y1 s0 = some res), V p l e (headSpec wsX7_append rmX7_append).room s m args below meth c g 2 1 6 (vx_MQ below (QXi g A res (fun u : Int32 × Int32 × (Nat → Int32) => u.1) (fun u : Int32 × Int32 × (Nat → Int32) => [(h0, .inr (5, [.ref f0, .ref t0, .ref g0, .ref k1, .ref k2, .ref w0])), (w0, .inr (4, [.ref q4, .int u.2.1])), (q4, .inr (3, [.int (nI 120), .ref a4])), (a4, .inl (cy 0, 120, .inl u.2.2))])) (XX g A res [(h0, .inr (5, [.ref f0, .ref t0, .ref g0, .ref k1, .ref k2, .ref w0])), (w0, .inr (4, [.ref q4, .int tl])), (q4, .inr (3, [.int (nI 120), .ref a4])), (a4, .inl (cy 0, 120, .inl tc))]) args s 2 12 A) A A [(h0, .inr (5, [.ref f0, .ref t0, .ref g0, .ref k1, .ref k2, .ref w0])), (w0, .inr (4, [.ref q4, .int tl])), (q4, .inr (3, [.int (nI 120), .ref a4])), (a4, .inl (cy 0, 120, .inl tc))] 28 [(0, .ref h0), (1, .int y1)] [.int s0] := by
  intro tl tc y1 s0 h
  unfold pX7_append_28 at h
  obtain ⟨v1, hv1, h⟩ := bind_g h
  refine v_callSx hC hX (n := 1) (st := []) (fun sz => mX7_requireState l hX.1 g cy tt sa sz s0 hv1) gX7_append_X7_requireState rfl rfl rfl (by decide +kernel) ⟨Nat.le_of_ble_eq_true rfl, Nat.le_of_ble_eq_true rfl⟩ [] [0, 1, 2, 3] rfl rfl rfl rfl rfl rfl (Nat.le_of_ble_eq_true rfl) rfl ⟨Nat.le_of_ble_eq_true rfl, Nat.le_of_ble_eq_true rfl⟩ dX7_append_28 (fun k e => by subst e; exact (Option.some.inj h).symm) ⟨Nat.le_of_ble_eq_true rfl, Nat.le_of_ble_eq_true rfl⟩ rfl (fun hu => ?_)
  obtain ⟨u, e⟩ := hu
  subst e
  rw [Sum.elim_inr] at h
  refine v_aload_n hC dX7_append_31 rfl 0 rfl rfl ?_
  refine v_get hC iX7_append_X7 0 rfl rfl 5 (by decide) kX7_append_39 rfl rfl dX7_append_32 rfl ?_
  refine v_iload_n hC dX7_append_35 rfl 1 rfl rfl ?_
  obtain ⟨v2, hv2, h⟩ := bind_g h
  refine v_callVwi hC (n := 1) (st := []) [(h0, .inr (5, [.ref f0, .ref t0, .ref g0, .ref k1, .ref k2, .ref w0])), (w0, .inr (4, [.ref q4, .int v2.2.1])), (q4, .inr (3, [.int (nI 120), .ref a4])), (a4, .inl (cy 0, 120, .inl v2.2.2))] _ (mX6_addCharacter l g cy w0 q4 a4 tl tc y1 hv2) gX7_append_X6_addCharacter rfl rfl rfl (by decide +kernel) ⟨Nat.le_of_ble_eq_true rfl, Nat.le_of_ble_eq_true rfl⟩ 1 rfl rfl [1, 2, 3] [0] rfl rfl rfl rfl rfl rfl rfl rfl rfl (Nat.le_of_ble_eq_true rfl) rfl ⟨Nat.le_of_ble_eq_true rfl, Nat.le_of_ble_eq_true rfl⟩ dX7_append_36 rfl ?_
  obtain rfl := Option.some.inj h
  exact v_irX hC hr rfl rfl rfl rfl ⟨Nat.le_of_ble_eq_true rfl, Nat.le_of_ble_eq_true rfl⟩ dX7_append_39
set_option maxHeartbeats 4000000 in
set_option maxRecDepth 100000 in
theorem mX7_append (l : Launch) (hlst : l.stackTraces = false) (g : va_G) (cy : Nat → ClassId) (tt sa : Nat → Nat) (sz : Nat) (h0 f0 t0 g0 k1 k2 w0 q4 a4 : Nat) (tl : Int32) (tc : Nat → Int32) (x1 : Int32) {res : Sum Nat (Int32 × Int32 × (Nat → Int32))} (h : pX7_append tl tc x1 = some res) : vx_Met l yX7_append wsX7_append rmX7_append (PE [.ref h0, .int x1] g cy tt sa sz [(h0, .inr (5, [.ref f0, .ref t0, .ref g0, .ref k1, .ref k2, .ref w0])), (w0, .inr (4, [.ref q4, .int tl])), (q4, .inr (3, [.int (nI 120), .ref a4])), (a4, .inl (cy 0, 120, .inl tc))]) (QXi g (va_A [(h0, .inr (5, [.ref f0, .ref t0, .ref g0, .ref k1, .ref k2, .ref w0])), (w0, .inr (4, [.ref q4, .int tl])), (q4, .inr (3, [.int (nI 120), .ref a4])), (a4, .inl (cy 0, 120, .inl tc))] sz) res (fun u : Int32 × Int32 × (Nat → Int32) => u.1) (fun u : Int32 × Int32 × (Nat → Int32) => [(h0, .inr (5, [.ref f0, .ref t0, .ref g0, .ref k1, .ref k2, .ref w0])), (w0, .inr (4, [.ref q4, .int u.2.1])), (q4, .inr (3, [.int (nI 120), .ref a4])), (a4, .inl (cy 0, 120, .inl u.2.2))])) (XX g (va_A [(h0, .inr (5, [.ref f0, .ref t0, .ref g0, .ref k1, .ref k2, .ref w0])), (w0, .inr (4, [.ref q4, .int tl])), (q4, .inr (3, [.int (nI 120), .ref a4])), (a4, .inl (cy 0, 120, .inl tc))] sz) res [(h0, .inr (5, [.ref f0, .ref t0, .ref g0, .ref k1, .ref k2, .ref w0])), (w0, .inr (4, [.ref q4, .int tl])), (q4, .inr (3, [.int (nI 120), .ref a4])), (a4, .inl (cy 0, 120, .inl tc))]) 2 12 (va_A [(h0, .inr (5, [.ref f0, .ref t0, .ref g0, .ref k1, .ref k2, .ref w0])), (w0, .inr (4, [.ref q4, .int tl])), (q4, .inr (3, [.int (nI 120), .ref a4])), (a4, .inl (cy 0, 120, .inl tc))] sz) := by
  refine m_ofVX (cc := cX7_append) (nL := 2) (ret := (some .int)) hlst RX7 rfl (by decide) rfl [(0, .ref h0), (1, .int x1)] rfl (Nat.le_of_ble_eq_true rfl) ?_
  intro p e s m args below meth c hC hr hX
  generalize (va_A [(h0, .inr (5, [.ref f0, .ref t0, .ref g0, .ref k1, .ref k2, .ref w0])), (w0, .inr (4, [.ref q4, .int tl])), (q4, .inr (3, [.int (nI 120), .ref a4])), (a4, .inl (cy 0, 120, .inl tc))] sz) = A at hX ⊢
  unfold pX7_append at h
  refine v_iload_n hC dX7_append_0 rfl 1 rfl rfl ?_
  refine v_iconst hC (v := (nI 0)) dX7_append_1 (by decide) rfl ?_
  refine v_sipush hC (v := (nI 255)) dX7_append_2 (by decide) rfl ?_
  obtain ⟨v1, hv1, h⟩ := bind_g h
  refine v_callSri hC (n := 3) (st := []) (mX7_isIn l g cy x1 (nI 0) (nI 255) hv1) gX7_append_X7_isIn rfl rfl rfl (by decide +kernel) ⟨Nat.le_of_ble_eq_true rfl, Nat.le_of_ble_eq_true rfl⟩ [] rfl rfl rfl rfl (Nat.le_of_ble_eq_true rfl) rfl ⟨Nat.le_of_ble_eq_true rfl, Nat.le_of_ble_eq_true rfl⟩ dX7_append_5 rfl ?_
  obtain ⟨v2, hv2, h⟩ := bind_g h
  refine v_callSx hC hX (n := 1) (st := []) (fun sz => mX7_requireArgument l hX.1 g cy tt sa sz v1 hv2) gX7_append_X7_requireArgument rfl rfl rfl (by decide +kernel) ⟨Nat.le_of_ble_eq_true rfl, Nat.le_of_ble_eq_true rfl⟩ [] [0, 1, 2, 3] rfl rfl rfl rfl rfl rfl (Nat.le_of_ble_eq_true rfl) rfl ⟨Nat.le_of_ble_eq_true rfl, Nat.le_of_ble_eq_true rfl⟩ dX7_append_8 (fun k e => by subst e; exact (Option.some.inj h).symm) ⟨Nat.le_of_ble_eq_true rfl, Nat.le_of_ble_eq_true rfl⟩ rfl (fun hu => ?_)
  obtain ⟨u, e⟩ := hu
  subst e
  rw [Sum.elim_inr] at h
  refine v_aload_n hC dX7_append_11 rfl 0 rfl rfl ?_
  refine v_get hC iX7_append_X7 0 rfl rfl 5 (by decide) kX7_append_39 rfl rfl dX7_append_12 rfl ?_
  obtain ⟨v3, hv3, h⟩ := bind_g h
  refine v_callVri hC (n := 0) (st := []) (mX6_size l g cy w0 q4 a4 tl tc hv3) gX7_append_X6_size rfl rfl rfl (by decide +kernel) ⟨Nat.le_of_ble_eq_true rfl, Nat.le_of_ble_eq_true rfl⟩ 1 rfl rfl [1, 2, 3] rfl rfl rfl rfl (Nat.le_of_ble_eq_true rfl) rfl ⟨Nat.le_of_ble_eq_true rfl, Nat.le_of_ble_eq_true rfl⟩ dX7_append_15 rfl ?_
  refine v_bipush hC (v := (nI 120)) dX7_append_18 (by decide) rfl ?_
  refine v_icmp_ge hC (tgt := 27) dX7_append_20 (by decide) rfl (fun c => ?_) (fun c => ?_)
  · have h := ite_t c h
    refine v_iconst hC (v := (nI 0)) dX7_append_27 (by decide) rfl ?_
    exact bX7_append_28 hC hr hX _ _ _ _ h
  · have h := ite_f c h
    refine v_iconst hC (v := (nI 1)) dX7_append_23 (by decide) rfl ?_
    refine v_goto hC (tgt := 28) dX7_append_24 (by decide) ?_
    exact bX7_append_28 hC hr hX _ _ _ _ h
theorem kX7_clearText_39 : Cond.fieldLink RX7 39 "CrowdFaces" "text" "LCrowdFaces$Text;" ∈ wsX7_clearText := by decide +kernel
theorem iX7_clearText_X7 : ∀ w ∈ wsX70, w ∈ wsX7_clearText := by decide +kernel
def pX7_clearText (tl : Int32) : Option (Int32 × Int32) := (pX6_empty tl).bind fun v1 => some (v1.1, v1.2)
abbrev rmX7_clearText : Room := { frames := 1, cells := 0, slots := 0, locals := 21 }
set_option maxHeartbeats 4000000 in
set_option maxRecDepth 100000 in
theorem mX7_clearText (l : Launch) (g : va_G) (cy : Nat → ClassId) (h0 f0 t0 g0 k1 k2 w0 q4 a4 : Nat) (tl : Int32) (tc : Nat → Int32)  {res : Int32 × Int32} (h : pX7_clearText tl = some res) : Met l yX7_clearText wsX7_clearText rmX7_clearText (PW [.ref h0] g cy [(h0, .inr (5, [.ref f0, .ref t0, .ref g0, .ref k1, .ref k2, .ref w0])), (w0, .inr (4, [.ref q4, .int tl])), (q4, .inr (3, [.int (nI 120), .ref a4])), (a4, .inl (cy 0, 120, .inl tc))]) (QWi g (wA [(h0, .inr (5, [.ref f0, .ref t0, .ref g0, .ref k1, .ref k2, .ref w0])), (w0, .inr (4, [.ref q4, .int tl])), (q4, .inr (3, [.int (nI 120), .ref a4])), (a4, .inl (cy 0, 120, .inl tc))]) res.1 [(h0, .inr (5, [.ref f0, .ref t0, .ref g0, .ref k1, .ref k2, .ref w0])), (w0, .inr (4, [.ref q4, .int res.2])), (q4, .inr (3, [.int (nI 120), .ref a4])), (a4, .inl (cy 0, 120, .inl tc))]) 0 0 (wA [(h0, .inr (5, [.ref f0, .ref t0, .ref g0, .ref k1, .ref k2, .ref w0])), (w0, .inr (4, [.ref q4, .int tl])), (q4, .inr (3, [.int (nI 120), .ref a4])), (a4, .inl (cy 0, 120, .inl tc))]) := by
  refine m_ofV (cc := cX7_clearText) (nL := 1) (ret := (some .int)) (B := (wA [(h0, .inr (5, [.ref f0, .ref t0, .ref g0, .ref k1, .ref k2, .ref w0])), (w0, .inr (4, [.ref q4, .int tl])), (q4, .inr (3, [.int (nI 120), .ref a4])), (a4, .inl (cy 0, 120, .inl tc))])) RX7 rfl (by decide) rfl [(0, .ref h0)] rfl (Nat.le_of_ble_eq_true rfl) (wA.self) ?_
  intro p e s m args below meth c hC hr
  generalize (wA [(h0, .inr (5, [.ref f0, .ref t0, .ref g0, .ref k1, .ref k2, .ref w0])), (w0, .inr (4, [.ref q4, .int tl])), (q4, .inr (3, [.int (nI 120), .ref a4])), (a4, .inl (cy 0, 120, .inl tc))]) = A
  unfold pX7_clearText at h
  refine v_aload_n hC dX7_clearText_0 rfl 0 rfl rfl ?_
  refine v_get hC iX7_clearText_X7 0 rfl rfl 5 (by decide) kX7_clearText_39 rfl rfl dX7_clearText_1 rfl ?_
  obtain ⟨v1, hv1, h⟩ := bind_g h
  refine v_callVwi hC (n := 0) (st := []) [(h0, .inr (5, [.ref f0, .ref t0, .ref g0, .ref k1, .ref k2, .ref w0])), (w0, .inr (4, [.ref q4, .int v1.2])), (q4, .inr (3, [.int (nI 120), .ref a4])), (a4, .inl (cy 0, 120, .inl tc))] _ (mX6_empty l g cy w0 q4 a4 tl tc hv1) gX7_clearText_X6_empty rfl rfl rfl (by decide +kernel) ⟨Nat.le_of_ble_eq_true rfl, Nat.le_of_ble_eq_true rfl⟩ 1 rfl rfl [1, 2, 3] [0] rfl rfl rfl rfl rfl rfl rfl rfl rfl (Nat.le_of_ble_eq_true rfl) rfl ⟨Nat.zero_le _, Nat.zero_le _⟩ dX7_clearText_4 rfl ?_
  obtain rfl := Option.some.inj h
  exact v_irw hC hr rfl rfl dX7_clearText_7
theorem kX7_errorPosition_39 : Cond.fieldLink RX7 39 "CrowdFaces" "text" "LCrowdFaces$Text;" ∈ wsX7_errorPosition := by decide +kernel
theorem iX7_errorPosition_X7 : ∀ w ∈ wsX70, w ∈ wsX7_errorPosition := by decide +kernel
def pX7_errorPosition (tl : Int32) (tc : Nat → Int32) : Option (Int32) := (pX6_firstError tl tc).bind fun v1 => some v1
abbrev rmX7_errorPosition : Room := { frames := 5, cells := 0, slots := 0, locals := 121 }
set_option maxHeartbeats 4000000 in
set_option maxRecDepth 100000 in
theorem mX7_errorPosition (l : Launch) (g : va_G) (cy : Nat → ClassId) (tt : Nat → Nat) (h0 f0 t0 g0 k1 k2 w0 q4 a4 : Nat) (tl : Int32) (tc : Nat → Int32)  {res : Int32} (h : pX7_errorPosition tl tc = some res) : Met l yX7_errorPosition wsX7_errorPosition rmX7_errorPosition (PWT [.ref h0] g cy tt [(h0, .inr (5, [.ref f0, .ref t0, .ref g0, .ref k1, .ref k2, .ref w0])), (w0, .inr (4, [.ref q4, .int tl])), (q4, .inr (3, [.int (nI 120), .ref a4])), (a4, .inl (cy 0, 120, .inl tc))]) (QRi res) 0 0 nF := by
  refine m_ofVT (cc := cX7_errorPosition) (nL := 1) (ret := (some .int)) (B := fun _ => True) RX7 rfl (by decide) rfl [(0, .ref h0)] rfl (Nat.le_of_ble_eq_true rfl) (fun h => h) ?_
  intro p e s m args below meth c hC hr hT
  unfold pX7_errorPosition at h
  refine v_aload_n hC dX7_errorPosition_0 rfl 0 rfl rfl ?_
  refine v_get hC iX7_errorPosition_X7 0 rfl rfl 5 (by decide) kX7_errorPosition_39 rfl rfl dX7_errorPosition_1 rfl ?_
  obtain ⟨v1, hv1, h⟩ := bind_g h
  refine v_callVriT hC hT (n := 0) (st := []) (mX6_firstError l g cy tt w0 q4 a4 tl tc hv1) gX7_errorPosition_X6_firstError rfl rfl rfl (by decide +kernel) ⟨Nat.le_of_ble_eq_true rfl, Nat.le_of_ble_eq_true rfl⟩ 1 rfl rfl [1, 2, 3] rfl rfl rfl rfl (Nat.le_of_ble_eq_true rfl) rfl ⟨Nat.zero_le _, Nat.zero_le _⟩ dX7_errorPosition_4 rfl ?_
  obtain rfl := Option.some.inj h
  exact v_irt hC hr rfl rfl dX7_errorPosition_7
theorem kX7_about_10 : Cond.fieldLink RX7 10 "CrowdFaces" "film" "LCrowdFaces$Film;" ∈ wsX7_about := by decide +kernel
theorem iX7_about_X7 : ∀ w ∈ wsX70, w ∈ wsX7_about := by decide +kernel
def pX7_about (ec : Int32) (sn : Int32) (dy : Int32) (wg : Int32) (pe : Int32) (pn : Int32) (br : Int32) (ex : Nat → Int32) (sc : Nat → Int32) (x1 : Int32) : Option (Sum Nat (Int32)) := (pX7_isIn x1 (nI 0) (nI 8)).bind fun v1 => (pX7_requireArgument v1).bind fun v2 => Sum.elim (fun k => some (.inl k)) (fun _ => (pX0_total ec sn dy wg pe pn br ex sc x1).bind fun v3 => some (.inr v3)) v2
abbrev rmX7_about : Room := { frames := 7, cells := 1, slots := 6, locals := 110 }
set_option maxHeartbeats 4000000 in
set_option maxRecDepth 100000 in
theorem mX7_about (l : Launch) (hlst : l.stackTraces = false) (g : va_G) (cy : Nat → ClassId) (tt sa : Nat → Nat) (sz : Nat) (h0 f0 t0 g0 k1 k2 w0 q1 a1 q2 a2 q3 a3 : Nat) (ec : Int32) (sn : Int32) (dy : Int32) (wg : Int32) (pe : Int32) (pn : Int32) (br : Int32) (ex : Nat → Int32) (sc : Nat → Int32) (se : Nat → Int32) (x1 : Int32) {res : Sum Nat (Int32)} (h : pX7_about ec sn dy wg pe pn br ex sc x1 = some res) : vx_Met l yX7_about wsX7_about rmX7_about (PE [.ref h0, .int x1] g cy tt sa sz [(h0, .inr (5, [.ref f0, .ref t0, .ref g0, .ref k1, .ref k2, .ref w0])), (f0, .inr (0, [.ref q1, .ref q2, .ref q3, .int ec, .int sn, .int dy, .int wg, .int pe, .int pn, .int br])), (q1, .inr (3, [.int (nI 14), .ref a1])), (a1, .inl (cy 0, 84, .inl ex)), (q2, .inr (3, [.int (nI 10), .ref a2])), (a2, .inl (cy 0, 60, .inl sc)), (q3, .inr (3, [.int (nI 1), .ref a3])), (a3, .inl (cy 0, 3, .inl se))]) (QXi g (va_A [(h0, .inr (5, [.ref f0, .ref t0, .ref g0, .ref k1, .ref k2, .ref w0])), (f0, .inr (0, [.ref q1, .ref q2, .ref q3, .int ec, .int sn, .int dy, .int wg, .int pe, .int pn, .int br])), (q1, .inr (3, [.int (nI 14), .ref a1])), (a1, .inl (cy 0, 84, .inl ex)), (q2, .inr (3, [.int (nI 10), .ref a2])), (a2, .inl (cy 0, 60, .inl sc)), (q3, .inr (3, [.int (nI 1), .ref a3])), (a3, .inl (cy 0, 3, .inl se))] sz) res (fun u : Int32 => u) (fun _ => [(h0, .inr (5, [.ref f0, .ref t0, .ref g0, .ref k1, .ref k2, .ref w0])), (f0, .inr (0, [.ref q1, .ref q2, .ref q3, .int ec, .int sn, .int dy, .int wg, .int pe, .int pn, .int br])), (q1, .inr (3, [.int (nI 14), .ref a1])), (a1, .inl (cy 0, 84, .inl ex)), (q2, .inr (3, [.int (nI 10), .ref a2])), (a2, .inl (cy 0, 60, .inl sc)), (q3, .inr (3, [.int (nI 1), .ref a3])), (a3, .inl (cy 0, 3, .inl se))])) (XX g (va_A [(h0, .inr (5, [.ref f0, .ref t0, .ref g0, .ref k1, .ref k2, .ref w0])), (f0, .inr (0, [.ref q1, .ref q2, .ref q3, .int ec, .int sn, .int dy, .int wg, .int pe, .int pn, .int br])), (q1, .inr (3, [.int (nI 14), .ref a1])), (a1, .inl (cy 0, 84, .inl ex)), (q2, .inr (3, [.int (nI 10), .ref a2])), (a2, .inl (cy 0, 60, .inl sc)), (q3, .inr (3, [.int (nI 1), .ref a3])), (a3, .inl (cy 0, 3, .inl se))] sz) res [(h0, .inr (5, [.ref f0, .ref t0, .ref g0, .ref k1, .ref k2, .ref w0])), (f0, .inr (0, [.ref q1, .ref q2, .ref q3, .int ec, .int sn, .int dy, .int wg, .int pe, .int pn, .int br])), (q1, .inr (3, [.int (nI 14), .ref a1])), (a1, .inl (cy 0, 84, .inl ex)), (q2, .inr (3, [.int (nI 10), .ref a2])), (a2, .inl (cy 0, 60, .inl sc)), (q3, .inr (3, [.int (nI 1), .ref a3])), (a3, .inl (cy 0, 3, .inl se))]) 1 6 (va_A [(h0, .inr (5, [.ref f0, .ref t0, .ref g0, .ref k1, .ref k2, .ref w0])), (f0, .inr (0, [.ref q1, .ref q2, .ref q3, .int ec, .int sn, .int dy, .int wg, .int pe, .int pn, .int br])), (q1, .inr (3, [.int (nI 14), .ref a1])), (a1, .inl (cy 0, 84, .inl ex)), (q2, .inr (3, [.int (nI 10), .ref a2])), (a2, .inl (cy 0, 60, .inl sc)), (q3, .inr (3, [.int (nI 1), .ref a3])), (a3, .inl (cy 0, 3, .inl se))] sz) := by
  refine m_ofVX (cc := cX7_about) (nL := 2) (ret := (some .int)) hlst RX7 rfl (by decide) rfl [(0, .ref h0), (1, .int x1)] rfl (Nat.le_of_ble_eq_true rfl) ?_
  intro p e s m args below meth c hC hr hX
  generalize (va_A [(h0, .inr (5, [.ref f0, .ref t0, .ref g0, .ref k1, .ref k2, .ref w0])), (f0, .inr (0, [.ref q1, .ref q2, .ref q3, .int ec, .int sn, .int dy, .int wg, .int pe, .int pn, .int br])), (q1, .inr (3, [.int (nI 14), .ref a1])), (a1, .inl (cy 0, 84, .inl ex)), (q2, .inr (3, [.int (nI 10), .ref a2])), (a2, .inl (cy 0, 60, .inl sc)), (q3, .inr (3, [.int (nI 1), .ref a3])), (a3, .inl (cy 0, 3, .inl se))] sz) = A at hX ⊢
  unfold pX7_about at h
  refine v_iload_n hC dX7_about_0 rfl 1 rfl rfl ?_
  refine v_iconst hC (v := (nI 0)) dX7_about_1 (by decide) rfl ?_
  refine v_bipush hC (v := (nI 8)) dX7_about_2 (by decide) rfl ?_
  obtain ⟨v1, hv1, h⟩ := bind_g h
  refine v_callSri hC (n := 3) (st := []) (mX7_isIn l g cy x1 (nI 0) (nI 8) hv1) gX7_about_X7_isIn rfl rfl rfl (by decide +kernel) ⟨Nat.le_of_ble_eq_true rfl, Nat.le_of_ble_eq_true rfl⟩ [] rfl rfl rfl rfl (Nat.le_of_ble_eq_true rfl) rfl ⟨Nat.le_of_ble_eq_true rfl, Nat.le_of_ble_eq_true rfl⟩ dX7_about_4 rfl ?_
  obtain ⟨v2, hv2, h⟩ := bind_g h
  refine v_callSx hC hX (n := 1) (st := []) (fun sz => mX7_requireArgument l hX.1 g cy tt sa sz v1 hv2) gX7_about_X7_requireArgument rfl rfl rfl (by decide +kernel) ⟨Nat.le_of_ble_eq_true rfl, Nat.le_of_ble_eq_true rfl⟩ [] [0, 1, 2, 3, 4, 5, 6, 7] rfl rfl rfl rfl rfl rfl (Nat.le_of_ble_eq_true rfl) rfl ⟨Nat.le_of_ble_eq_true rfl, Nat.le_of_ble_eq_true rfl⟩ dX7_about_7 (fun k e => by subst e; exact (Option.some.inj h).symm) ⟨Nat.le_of_ble_eq_true rfl, Nat.le_of_ble_eq_true rfl⟩ rfl (fun hu => ?_)
  obtain ⟨u, e⟩ := hu
  subst e
  rw [Sum.elim_inr] at h
  refine v_aload_n hC dX7_about_10 rfl 0 rfl rfl ?_
  refine v_get hC iX7_about_X7 0 rfl rfl 0 (by decide) kX7_about_10 rfl rfl dX7_about_11 rfl ?_
  refine v_iload_n hC dX7_about_14 rfl 1 rfl rfl ?_
  obtain ⟨v3, hv3, h⟩ := bind_g h
  refine v_callVri hC (n := 1) (st := []) (mX0_total l g cy f0 q1 a1 q2 a2 q3 a3 ec sn dy wg pe pn br ex sc se x1 hv3) gX7_about_X0_total rfl rfl rfl (by decide +kernel) ⟨Nat.le_of_ble_eq_true rfl, Nat.le_of_ble_eq_true rfl⟩ 1 rfl rfl [1, 2, 3, 4, 5, 6, 7] rfl rfl rfl rfl (Nat.le_of_ble_eq_true rfl) rfl ⟨Nat.le_of_ble_eq_true rfl, Nat.le_of_ble_eq_true rfl⟩ dX7_about_15 rfl ?_
  obtain rfl := Option.some.inj h
  exact v_irX hC hr rfl rfl rfl rfl ⟨Nat.le_of_ble_eq_true rfl, Nat.le_of_ble_eq_true rfl⟩ dX7_about_18
theorem kX7_setting_10 : Cond.fieldLink RX7 10 "CrowdFaces" "film" "LCrowdFaces$Film;" ∈ wsX7_setting := by decide +kernel
theorem iX7_setting_X7 : ∀ w ∈ wsX70, w ∈ wsX7_setting := by decide +kernel
def pX7_setting (se : Nat → Int32) (x1 : Int32) : Option (Sum Nat (Int32)) := (pX7_isIn x1 (nI 0) (nI 2)).bind fun v1 => (pX7_requireArgument v1).bind fun v2 => Sum.elim (fun k => some (.inl k)) (fun _ => (pX0_valueOf se x1).bind fun v3 => some (.inr v3)) v2
abbrev rmX7_setting : Room := { frames := 7, cells := 1, slots := 6, locals := 110 }
set_option maxHeartbeats 4000000 in
set_option maxRecDepth 100000 in
theorem mX7_setting (l : Launch) (hlst : l.stackTraces = false) (g : va_G) (cy : Nat → ClassId) (tt sa : Nat → Nat) (sz : Nat) (h0 f0 t0 g0 k1 k2 w0 q1 a1 q2 a2 q3 a3 : Nat) (ec : Int32) (sn : Int32) (dy : Int32) (wg : Int32) (pe : Int32) (pn : Int32) (br : Int32) (ex : Nat → Int32) (sc : Nat → Int32) (se : Nat → Int32) (x1 : Int32) {res : Sum Nat (Int32)} (h : pX7_setting se x1 = some res) : vx_Met l yX7_setting wsX7_setting rmX7_setting (PE [.ref h0, .int x1] g cy tt sa sz [(h0, .inr (5, [.ref f0, .ref t0, .ref g0, .ref k1, .ref k2, .ref w0])), (f0, .inr (0, [.ref q1, .ref q2, .ref q3, .int ec, .int sn, .int dy, .int wg, .int pe, .int pn, .int br])), (q1, .inr (3, [.int (nI 14), .ref a1])), (a1, .inl (cy 0, 84, .inl ex)), (q2, .inr (3, [.int (nI 10), .ref a2])), (a2, .inl (cy 0, 60, .inl sc)), (q3, .inr (3, [.int (nI 1), .ref a3])), (a3, .inl (cy 0, 3, .inl se))]) (QXi g (va_A [(h0, .inr (5, [.ref f0, .ref t0, .ref g0, .ref k1, .ref k2, .ref w0])), (f0, .inr (0, [.ref q1, .ref q2, .ref q3, .int ec, .int sn, .int dy, .int wg, .int pe, .int pn, .int br])), (q1, .inr (3, [.int (nI 14), .ref a1])), (a1, .inl (cy 0, 84, .inl ex)), (q2, .inr (3, [.int (nI 10), .ref a2])), (a2, .inl (cy 0, 60, .inl sc)), (q3, .inr (3, [.int (nI 1), .ref a3])), (a3, .inl (cy 0, 3, .inl se))] sz) res (fun u : Int32 => u) (fun _ => [(h0, .inr (5, [.ref f0, .ref t0, .ref g0, .ref k1, .ref k2, .ref w0])), (f0, .inr (0, [.ref q1, .ref q2, .ref q3, .int ec, .int sn, .int dy, .int wg, .int pe, .int pn, .int br])), (q1, .inr (3, [.int (nI 14), .ref a1])), (a1, .inl (cy 0, 84, .inl ex)), (q2, .inr (3, [.int (nI 10), .ref a2])), (a2, .inl (cy 0, 60, .inl sc)), (q3, .inr (3, [.int (nI 1), .ref a3])), (a3, .inl (cy 0, 3, .inl se))])) (XX g (va_A [(h0, .inr (5, [.ref f0, .ref t0, .ref g0, .ref k1, .ref k2, .ref w0])), (f0, .inr (0, [.ref q1, .ref q2, .ref q3, .int ec, .int sn, .int dy, .int wg, .int pe, .int pn, .int br])), (q1, .inr (3, [.int (nI 14), .ref a1])), (a1, .inl (cy 0, 84, .inl ex)), (q2, .inr (3, [.int (nI 10), .ref a2])), (a2, .inl (cy 0, 60, .inl sc)), (q3, .inr (3, [.int (nI 1), .ref a3])), (a3, .inl (cy 0, 3, .inl se))] sz) res [(h0, .inr (5, [.ref f0, .ref t0, .ref g0, .ref k1, .ref k2, .ref w0])), (f0, .inr (0, [.ref q1, .ref q2, .ref q3, .int ec, .int sn, .int dy, .int wg, .int pe, .int pn, .int br])), (q1, .inr (3, [.int (nI 14), .ref a1])), (a1, .inl (cy 0, 84, .inl ex)), (q2, .inr (3, [.int (nI 10), .ref a2])), (a2, .inl (cy 0, 60, .inl sc)), (q3, .inr (3, [.int (nI 1), .ref a3])), (a3, .inl (cy 0, 3, .inl se))]) 1 6 (va_A [(h0, .inr (5, [.ref f0, .ref t0, .ref g0, .ref k1, .ref k2, .ref w0])), (f0, .inr (0, [.ref q1, .ref q2, .ref q3, .int ec, .int sn, .int dy, .int wg, .int pe, .int pn, .int br])), (q1, .inr (3, [.int (nI 14), .ref a1])), (a1, .inl (cy 0, 84, .inl ex)), (q2, .inr (3, [.int (nI 10), .ref a2])), (a2, .inl (cy 0, 60, .inl sc)), (q3, .inr (3, [.int (nI 1), .ref a3])), (a3, .inl (cy 0, 3, .inl se))] sz) := by
  refine m_ofVX (cc := cX7_setting) (nL := 2) (ret := (some .int)) hlst RX7 rfl (by decide) rfl [(0, .ref h0), (1, .int x1)] rfl (Nat.le_of_ble_eq_true rfl) ?_
  intro p e s m args below meth c hC hr hX
  generalize (va_A [(h0, .inr (5, [.ref f0, .ref t0, .ref g0, .ref k1, .ref k2, .ref w0])), (f0, .inr (0, [.ref q1, .ref q2, .ref q3, .int ec, .int sn, .int dy, .int wg, .int pe, .int pn, .int br])), (q1, .inr (3, [.int (nI 14), .ref a1])), (a1, .inl (cy 0, 84, .inl ex)), (q2, .inr (3, [.int (nI 10), .ref a2])), (a2, .inl (cy 0, 60, .inl sc)), (q3, .inr (3, [.int (nI 1), .ref a3])), (a3, .inl (cy 0, 3, .inl se))] sz) = A at hX ⊢
  unfold pX7_setting at h
  refine v_iload_n hC dX7_setting_0 rfl 1 rfl rfl ?_
  refine v_iconst hC (v := (nI 0)) dX7_setting_1 (by decide) rfl ?_
  refine v_iconst hC (v := (nI 2)) dX7_setting_2 (by decide) rfl ?_
  obtain ⟨v1, hv1, h⟩ := bind_g h
  refine v_callSri hC (n := 3) (st := []) (mX7_isIn l g cy x1 (nI 0) (nI 2) hv1) gX7_setting_X7_isIn rfl rfl rfl (by decide +kernel) ⟨Nat.le_of_ble_eq_true rfl, Nat.le_of_ble_eq_true rfl⟩ [] rfl rfl rfl rfl (Nat.le_of_ble_eq_true rfl) rfl ⟨Nat.le_of_ble_eq_true rfl, Nat.le_of_ble_eq_true rfl⟩ dX7_setting_3 rfl ?_
  obtain ⟨v2, hv2, h⟩ := bind_g h
  refine v_callSx hC hX (n := 1) (st := []) (fun sz => mX7_requireArgument l hX.1 g cy tt sa sz v1 hv2) gX7_setting_X7_requireArgument rfl rfl rfl (by decide +kernel) ⟨Nat.le_of_ble_eq_true rfl, Nat.le_of_ble_eq_true rfl⟩ [] [0, 1, 2, 3, 4, 5, 6, 7] rfl rfl rfl rfl rfl rfl (Nat.le_of_ble_eq_true rfl) rfl ⟨Nat.le_of_ble_eq_true rfl, Nat.le_of_ble_eq_true rfl⟩ dX7_setting_6 (fun k e => by subst e; exact (Option.some.inj h).symm) ⟨Nat.le_of_ble_eq_true rfl, Nat.le_of_ble_eq_true rfl⟩ rfl (fun hu => ?_)
  obtain ⟨u, e⟩ := hu
  subst e
  rw [Sum.elim_inr] at h
  refine v_aload_n hC dX7_setting_9 rfl 0 rfl rfl ?_
  refine v_get hC iX7_setting_X7 0 rfl rfl 0 (by decide) kX7_setting_10 rfl rfl dX7_setting_10 rfl ?_
  refine v_iload_n hC dX7_setting_13 rfl 1 rfl rfl ?_
  obtain ⟨v3, hv3, h⟩ := bind_g h
  refine v_callVri hC (n := 1) (st := []) (mX0_valueOf l g cy f0 q1 a1 q2 a2 q3 a3 ec sn dy wg pe pn br ex sc se x1 hv3) gX7_setting_X0_valueOf rfl rfl rfl (by decide +kernel) ⟨Nat.le_of_ble_eq_true rfl, Nat.le_of_ble_eq_true rfl⟩ 1 rfl rfl [1, 2, 3, 4, 5, 6, 7] rfl rfl rfl rfl (Nat.le_of_ble_eq_true rfl) rfl ⟨Nat.le_of_ble_eq_true rfl, Nat.le_of_ble_eq_true rfl⟩ dX7_setting_14 rfl ?_
  obtain rfl := Option.some.inj h
  exact v_irX hC hr rfl rfl rfl rfl ⟨Nat.le_of_ble_eq_true rfl, Nat.le_of_ble_eq_true rfl⟩ dX7_setting_17

theorem kX0_startNew_14 : Cond.fieldLink RX0 14 "CrowdFaces$Film" "extras" "LCrowdFaces$Table;" ∈ wsX0_startNew := by decide +kernel
theorem kX0_startNew_20 : Cond.fieldLink RX0 20 "CrowdFaces$Film" "scenes" "LCrowdFaces$Table;" ∈ wsX0_startNew := by decide +kernel
theorem kX0_startNew_23 : Cond.fieldLink RX0 23 "CrowdFaces$Film" "settings" "LCrowdFaces$Table;" ∈ wsX0_startNew := by decide +kernel
theorem kX0_startNew_37 : Cond.fieldLink RX0 37 "CrowdFaces$Film" "extraCount" "I" ∈ wsX0_startNew := by decide +kernel
theorem kX0_startNew_41 : Cond.fieldLink RX0 41 "CrowdFaces$Film" "sceneCount" "I" ∈ wsX0_startNew := by decide +kernel
theorem kX0_startNew_44 : Cond.fieldLink RX0 44 "CrowdFaces$Film" "days" "I" ∈ wsX0_startNew := by decide +kernel
theorem kX0_startNew_47 : Cond.fieldLink RX0 47 "CrowdFaces$Film" "wages" "I" ∈ wsX0_startNew := by decide +kernel
theorem kX0_startNew_50 : Cond.fieldLink RX0 50 "CrowdFaces$Film" "penaltyCosts" "I" ∈ wsX0_startNew := by decide +kernel
theorem kX0_startNew_53 : Cond.fieldLink RX0 53 "CrowdFaces$Film" "penalties" "I" ∈ wsX0_startNew := by decide +kernel
theorem kX0_startNew_56 : Cond.fieldLink RX0 56 "CrowdFaces$Film" "breaks" "I" ∈ wsX0_startNew := by decide +kernel
theorem iX0_startNew_X0 : ∀ w ∈ wsX00, w ∈ wsX0_startNew := by decide +kernel
def pX0_startNew (ec : Int32) (sn : Int32) (dy : Int32) (wg : Int32) (pe : Int32) (pn : Int32) (br : Int32) (ex : Nat → Int32) (sc : Nat → Int32) (se : Nat → Int32) : Option (Int32 × Int32 × Int32 × Int32 × Int32 × Int32 × Int32 × (Nat → Int32) × (Nat → Int32) × (Nat → Int32)) := (pX5_fillAll 84 ex (nI 0)).bind fun v1 => (pX5_fillAll 60 sc (nI 0)).bind fun v2 => (pX5_put (nI 1) 3 se (nI 0) (nI 0) (nI 600)).bind fun v3 => (pX5_put (nI 1) 3 v3 (nI 1) (nI 0) (nI 10)).bind fun v4 => (pX5_put (nI 1) 3 v4 (nI 2) (nI 0) (nI 5)).bind fun v5 => some ((nI 0), (nI 0), (nI 0), (nI 0), (nI 0), (nI 0), (nI 0), v1, v2, v5)
abbrev rmX0_startNew : Room := { frames := 1, cells := 0, slots := 0, locals := 24 }
set_option maxHeartbeats 4000000 in
set_option maxRecDepth 100000 in
theorem mX0_startNew (l : Launch) (g : va_G) (cy : Nat → ClassId) (h0 q1 a1 q2 a2 q3 a3 : Nat) (ec : Int32) (sn : Int32) (dy : Int32) (wg : Int32) (pe : Int32) (pn : Int32) (br : Int32) (ex : Nat → Int32) (sc : Nat → Int32) (se : Nat → Int32)  {res : Int32 × Int32 × Int32 × Int32 × Int32 × Int32 × Int32 × (Nat → Int32) × (Nat → Int32) × (Nat → Int32)} (h : pX0_startNew ec sn dy wg pe pn br ex sc se = some res) : Met l yX0_startNew wsX0_startNew rmX0_startNew (PW [.ref h0] g cy [(h0, .inr (0, [.ref q1, .ref q2, .ref q3, .int ec, .int sn, .int dy, .int wg, .int pe, .int pn, .int br])), (q1, .inr (3, [.int (nI 14), .ref a1])), (a1, .inl (cy 0, 84, .inl ex)), (q2, .inr (3, [.int (nI 10), .ref a2])), (a2, .inl (cy 0, 60, .inl sc)), (q3, .inr (3, [.int (nI 1), .ref a3])), (a3, .inl (cy 0, 3, .inl se))]) (QWv g (wA [(h0, .inr (0, [.ref q1, .ref q2, .ref q3, .int ec, .int sn, .int dy, .int wg, .int pe, .int pn, .int br])), (q1, .inr (3, [.int (nI 14), .ref a1])), (a1, .inl (cy 0, 84, .inl ex)), (q2, .inr (3, [.int (nI 10), .ref a2])), (a2, .inl (cy 0, 60, .inl sc)), (q3, .inr (3, [.int (nI 1), .ref a3])), (a3, .inl (cy 0, 3, .inl se))]) [(h0, .inr (0, [.ref q1, .ref q2, .ref q3, .int res.1, .int res.2.1, .int res.2.2.1, .int res.2.2.2.1, .int res.2.2.2.2.1, .int res.2.2.2.2.2.1, .int res.2.2.2.2.2.2.1])), (q1, .inr (3, [.int (nI 14), .ref a1])), (a1, .inl (cy 0, 84, .inl res.2.2.2.2.2.2.2.1)), (q2, .inr (3, [.int (nI 10), .ref a2])), (a2, .inl (cy 0, 60, .inl res.2.2.2.2.2.2.2.2.1)), (q3, .inr (3, [.int (nI 1), .ref a3])), (a3, .inl (cy 0, 3, .inl res.2.2.2.2.2.2.2.2.2))]) 0 0 (wA [(h0, .inr (0, [.ref q1, .ref q2, .ref q3, .int ec, .int sn, .int dy, .int wg, .int pe, .int pn, .int br])), (q1, .inr (3, [.int (nI 14), .ref a1])), (a1, .inl (cy 0, 84, .inl ex)), (q2, .inr (3, [.int (nI 10), .ref a2])), (a2, .inl (cy 0, 60, .inl sc)), (q3, .inr (3, [.int (nI 1), .ref a3])), (a3, .inl (cy 0, 3, .inl se))]) := by
  refine m_ofV (cc := cX0_startNew) (nL := 1) (ret := none) (B := (wA [(h0, .inr (0, [.ref q1, .ref q2, .ref q3, .int ec, .int sn, .int dy, .int wg, .int pe, .int pn, .int br])), (q1, .inr (3, [.int (nI 14), .ref a1])), (a1, .inl (cy 0, 84, .inl ex)), (q2, .inr (3, [.int (nI 10), .ref a2])), (a2, .inl (cy 0, 60, .inl sc)), (q3, .inr (3, [.int (nI 1), .ref a3])), (a3, .inl (cy 0, 3, .inl se))])) RX0 rfl (by decide) rfl [(0, .ref h0)] rfl (Nat.le_of_ble_eq_true rfl) (wA.self) ?_
  intro p e s m args below meth c hC hr
  generalize (wA [(h0, .inr (0, [.ref q1, .ref q2, .ref q3, .int ec, .int sn, .int dy, .int wg, .int pe, .int pn, .int br])), (q1, .inr (3, [.int (nI 14), .ref a1])), (a1, .inl (cy 0, 84, .inl ex)), (q2, .inr (3, [.int (nI 10), .ref a2])), (a2, .inl (cy 0, 60, .inl sc)), (q3, .inr (3, [.int (nI 1), .ref a3])), (a3, .inl (cy 0, 3, .inl se))]) = A
  unfold pX0_startNew at h
  refine v_aload_n hC dX0_startNew_0 rfl 0 rfl rfl ?_
  refine v_get hC iX0_startNew_X0 0 rfl rfl 0 (by decide) kX0_startNew_14 rfl rfl dX0_startNew_1 rfl ?_
  refine v_iconst hC (v := (nI 0)) dX0_startNew_4 (by decide) rfl ?_
  obtain ⟨v1, hv1, h⟩ := bind_g h
  refine v_callVwv hC (n := 1) (st := []) [(h0, .inr (0, [.ref q1, .ref q2, .ref q3, .int ec, .int sn, .int dy, .int wg, .int pe, .int pn, .int br])), (q1, .inr (3, [.int (nI 14), .ref a1])), (a1, .inl (cy 0, 84, .inl v1)), (q2, .inr (3, [.int (nI 10), .ref a2])), (a2, .inl (cy 0, 60, .inl sc)), (q3, .inr (3, [.int (nI 1), .ref a3])), (a3, .inl (cy 0, 3, .inl se))] _ (mX5_fillAll l g cy q1 a1 (nI 14) 84 ex (nI 0) hv1) gX0_startNew_X5_fillAll rfl rfl rfl (by decide +kernel) ⟨Nat.le_of_ble_eq_true rfl, Nat.le_of_ble_eq_true rfl⟩ 1 rfl rfl [1, 2] [0, 3, 4, 5, 6] rfl rfl rfl rfl rfl rfl rfl rfl rfl (Nat.le_of_ble_eq_true rfl) rfl ⟨Nat.zero_le _, Nat.zero_le _⟩ dX0_startNew_5 rfl ?_
  refine v_aload_n hC dX0_startNew_8 rfl 0 rfl rfl ?_
  refine v_get hC iX0_startNew_X0 0 rfl rfl 1 (by decide) kX0_startNew_20 rfl rfl dX0_startNew_9 rfl ?_
  refine v_iconst hC (v := (nI 0)) dX0_startNew_12 (by decide) rfl ?_
  obtain ⟨v2, hv2, h⟩ := bind_g h
  refine v_callVwv hC (n := 1) (st := []) [(h0, .inr (0, [.ref q1, .ref q2, .ref q3, .int ec, .int sn, .int dy, .int wg, .int pe, .int pn, .int br])), (q1, .inr (3, [.int (nI 14), .ref a1])), (a1, .inl (cy 0, 84, .inl v1)), (q2, .inr (3, [.int (nI 10), .ref a2])), (a2, .inl (cy 0, 60, .inl v2)), (q3, .inr (3, [.int (nI 1), .ref a3])), (a3, .inl (cy 0, 3, .inl se))] _ (mX5_fillAll l g cy q2 a2 (nI 10) 60 sc (nI 0) hv2) gX0_startNew_X5_fillAll rfl rfl rfl (by decide +kernel) ⟨Nat.le_of_ble_eq_true rfl, Nat.le_of_ble_eq_true rfl⟩ 3 rfl rfl [3, 4] [0, 1, 2, 5, 6] rfl rfl rfl rfl rfl rfl rfl rfl rfl (Nat.le_of_ble_eq_true rfl) rfl ⟨Nat.zero_le _, Nat.zero_le _⟩ dX0_startNew_13 rfl ?_
  refine v_aload_n hC dX0_startNew_16 rfl 0 rfl rfl ?_
  refine v_get hC iX0_startNew_X0 0 rfl rfl 2 (by decide) kX0_startNew_23 rfl rfl dX0_startNew_17 rfl ?_
  refine v_iconst hC (v := (nI 0)) dX0_startNew_20 (by decide) rfl ?_
  refine v_iconst hC (v := (nI 0)) dX0_startNew_21 (by decide) rfl ?_
  refine v_sipush hC (v := (nI 600)) dX0_startNew_22 (by decide) rfl ?_
  obtain ⟨v3, hv3, h⟩ := bind_g h
  refine v_callVwv hC (n := 3) (st := []) [(h0, .inr (0, [.ref q1, .ref q2, .ref q3, .int ec, .int sn, .int dy, .int wg, .int pe, .int pn, .int br])), (q1, .inr (3, [.int (nI 14), .ref a1])), (a1, .inl (cy 0, 84, .inl v1)), (q2, .inr (3, [.int (nI 10), .ref a2])), (a2, .inl (cy 0, 60, .inl v2)), (q3, .inr (3, [.int (nI 1), .ref a3])), (a3, .inl (cy 0, 3, .inl v3))] _ (mX5_put l g cy q3 a3 (nI 1) 3 se (nI 0) (nI 0) (nI 600) hv3) gX0_startNew_X5_put rfl rfl rfl (by decide +kernel) ⟨Nat.le_of_ble_eq_true rfl, Nat.le_of_ble_eq_true rfl⟩ 5 rfl rfl [5, 6] [0, 1, 2, 3, 4] rfl rfl rfl rfl rfl rfl rfl rfl rfl (Nat.le_of_ble_eq_true rfl) rfl ⟨Nat.zero_le _, Nat.zero_le _⟩ dX0_startNew_25 rfl ?_
  refine v_aload_n hC dX0_startNew_28 rfl 0 rfl rfl ?_
  refine v_get hC iX0_startNew_X0 0 rfl rfl 2 (by decide) kX0_startNew_23 rfl rfl dX0_startNew_29 rfl ?_
  refine v_iconst hC (v := (nI 1)) dX0_startNew_32 (by decide) rfl ?_
  refine v_iconst hC (v := (nI 0)) dX0_startNew_33 (by decide) rfl ?_
  refine v_bipush hC (v := (nI 10)) dX0_startNew_34 (by decide) rfl ?_
  obtain ⟨v4, hv4, h⟩ := bind_g h
  refine v_callVwv hC (n := 3) (st := []) [(h0, .inr (0, [.ref q1, .ref q2, .ref q3, .int ec, .int sn, .int dy, .int wg, .int pe, .int pn, .int br])), (q1, .inr (3, [.int (nI 14), .ref a1])), (a1, .inl (cy 0, 84, .inl v1)), (q2, .inr (3, [.int (nI 10), .ref a2])), (a2, .inl (cy 0, 60, .inl v2)), (q3, .inr (3, [.int (nI 1), .ref a3])), (a3, .inl (cy 0, 3, .inl v4))] _ (mX5_put l g cy q3 a3 (nI 1) 3 v3 (nI 1) (nI 0) (nI 10) hv4) gX0_startNew_X5_put rfl rfl rfl (by decide +kernel) ⟨Nat.le_of_ble_eq_true rfl, Nat.le_of_ble_eq_true rfl⟩ 5 rfl rfl [5, 6] [0, 1, 2, 3, 4] rfl rfl rfl rfl rfl rfl rfl rfl rfl (Nat.le_of_ble_eq_true rfl) rfl ⟨Nat.zero_le _, Nat.zero_le _⟩ dX0_startNew_36 rfl ?_
  refine v_aload_n hC dX0_startNew_39 rfl 0 rfl rfl ?_
  refine v_get hC iX0_startNew_X0 0 rfl rfl 2 (by decide) kX0_startNew_23 rfl rfl dX0_startNew_40 rfl ?_
  refine v_iconst hC (v := (nI 2)) dX0_startNew_43 (by decide) rfl ?_
  refine v_iconst hC (v := (nI 0)) dX0_startNew_44 (by decide) rfl ?_
  refine v_iconst hC (v := (nI 5)) dX0_startNew_45 (by decide) rfl ?_
  obtain ⟨v5, hv5, h⟩ := bind_g h
  refine v_callVwv hC (n := 3) (st := []) [(h0, .inr (0, [.ref q1, .ref q2, .ref q3, .int ec, .int sn, .int dy, .int wg, .int pe, .int pn, .int br])), (q1, .inr (3, [.int (nI 14), .ref a1])), (a1, .inl (cy 0, 84, .inl v1)), (q2, .inr (3, [.int (nI 10), .ref a2])), (a2, .inl (cy 0, 60, .inl v2)), (q3, .inr (3, [.int (nI 1), .ref a3])), (a3, .inl (cy 0, 3, .inl v5))] _ (mX5_put l g cy q3 a3 (nI 1) 3 v4 (nI 2) (nI 0) (nI 5) hv5) gX0_startNew_X5_put rfl rfl rfl (by decide +kernel) ⟨Nat.le_of_ble_eq_true rfl, Nat.le_of_ble_eq_true rfl⟩ 5 rfl rfl [5, 6] [0, 1, 2, 3, 4] rfl rfl rfl rfl rfl rfl rfl rfl rfl (Nat.le_of_ble_eq_true rfl) rfl ⟨Nat.zero_le _, Nat.zero_le _⟩ dX0_startNew_46 rfl ?_
  refine v_aload_n hC dX0_startNew_49 rfl 0 rfl rfl ?_
  refine v_iconst hC (v := (nI 0)) dX0_startNew_50 (by decide) rfl ?_
  refine v_put hC iX0_startNew_X0 tyX0 tyX0_ok nmX0 0 rfl rfl 3 (by decide) kX0_startNew_37 rfl rfl (ty := .int) (by decide +kernel) rfl rfl (Nat.le_of_ble_eq_true rfl) dX0_startNew_51 [(h0, .inr (0, [.ref q1, .ref q2, .ref q3, .int (nI 0), .int sn, .int dy, .int wg, .int pe, .int pn, .int br])), (q1, .inr (3, [.int (nI 14), .ref a1])), (a1, .inl (cy 0, 84, .inl v1)), (q2, .inr (3, [.int (nI 10), .ref a2])), (a2, .inl (cy 0, 60, .inl v2)), (q3, .inr (3, [.int (nI 1), .ref a3])), (a3, .inl (cy 0, 3, .inl v5))] rfl rfl ?_
  refine v_aload_n hC dX0_startNew_54 rfl 0 rfl rfl ?_
  refine v_iconst hC (v := (nI 0)) dX0_startNew_55 (by decide) rfl ?_
  refine v_put hC iX0_startNew_X0 tyX0 tyX0_ok nmX0 0 rfl rfl 4 (by decide) kX0_startNew_41 rfl rfl (ty := .int) (by decide +kernel) rfl rfl (Nat.le_of_ble_eq_true rfl) dX0_startNew_56 [(h0, .inr (0, [.ref q1, .ref q2, .ref q3, .int (nI 0), .int (nI 0), .int dy, .int wg, .int pe, .int pn, .int br])), (q1, .inr (3, [.int (nI 14), .ref a1])), (a1, .inl (cy 0, 84, .inl v1)), (q2, .inr (3, [.int (nI 10), .ref a2])), (a2, .inl (cy 0, 60, .inl v2)), (q3, .inr (3, [.int (nI 1), .ref a3])), (a3, .inl (cy 0, 3, .inl v5))] rfl rfl ?_
  refine v_aload_n hC dX0_startNew_59 rfl 0 rfl rfl ?_
  refine v_iconst hC (v := (nI 0)) dX0_startNew_60 (by decide) rfl ?_
  refine v_put hC iX0_startNew_X0 tyX0 tyX0_ok nmX0 0 rfl rfl 5 (by decide) kX0_startNew_44 rfl rfl (ty := .int) (by decide +kernel) rfl rfl (Nat.le_of_ble_eq_true rfl) dX0_startNew_61 [(h0, .inr (0, [.ref q1, .ref q2, .ref q3, .int (nI 0), .int (nI 0), .int (nI 0), .int wg, .int pe, .int pn, .int br])), (q1, .inr (3, [.int (nI 14), .ref a1])), (a1, .inl (cy 0, 84, .inl v1)), (q2, .inr (3, [.int (nI 10), .ref a2])), (a2, .inl (cy 0, 60, .inl v2)), (q3, .inr (3, [.int (nI 1), .ref a3])), (a3, .inl (cy 0, 3, .inl v5))] rfl rfl ?_
  refine v_aload_n hC dX0_startNew_64 rfl 0 rfl rfl ?_
  refine v_iconst hC (v := (nI 0)) dX0_startNew_65 (by decide) rfl ?_
  refine v_put hC iX0_startNew_X0 tyX0 tyX0_ok nmX0 0 rfl rfl 6 (by decide) kX0_startNew_47 rfl rfl (ty := .int) (by decide +kernel) rfl rfl (Nat.le_of_ble_eq_true rfl) dX0_startNew_66 [(h0, .inr (0, [.ref q1, .ref q2, .ref q3, .int (nI 0), .int (nI 0), .int (nI 0), .int (nI 0), .int pe, .int pn, .int br])), (q1, .inr (3, [.int (nI 14), .ref a1])), (a1, .inl (cy 0, 84, .inl v1)), (q2, .inr (3, [.int (nI 10), .ref a2])), (a2, .inl (cy 0, 60, .inl v2)), (q3, .inr (3, [.int (nI 1), .ref a3])), (a3, .inl (cy 0, 3, .inl v5))] rfl rfl ?_
  refine v_aload_n hC dX0_startNew_69 rfl 0 rfl rfl ?_
  refine v_iconst hC (v := (nI 0)) dX0_startNew_70 (by decide) rfl ?_
  refine v_put hC iX0_startNew_X0 tyX0 tyX0_ok nmX0 0 rfl rfl 7 (by decide) kX0_startNew_50 rfl rfl (ty := .int) (by decide +kernel) rfl rfl (Nat.le_of_ble_eq_true rfl) dX0_startNew_71 [(h0, .inr (0, [.ref q1, .ref q2, .ref q3, .int (nI 0), .int (nI 0), .int (nI 0), .int (nI 0), .int (nI 0), .int pn, .int br])), (q1, .inr (3, [.int (nI 14), .ref a1])), (a1, .inl (cy 0, 84, .inl v1)), (q2, .inr (3, [.int (nI 10), .ref a2])), (a2, .inl (cy 0, 60, .inl v2)), (q3, .inr (3, [.int (nI 1), .ref a3])), (a3, .inl (cy 0, 3, .inl v5))] rfl rfl ?_
  refine v_aload_n hC dX0_startNew_74 rfl 0 rfl rfl ?_
  refine v_iconst hC (v := (nI 0)) dX0_startNew_75 (by decide) rfl ?_
  refine v_put hC iX0_startNew_X0 tyX0 tyX0_ok nmX0 0 rfl rfl 8 (by decide) kX0_startNew_53 rfl rfl (ty := .int) (by decide +kernel) rfl rfl (Nat.le_of_ble_eq_true rfl) dX0_startNew_76 [(h0, .inr (0, [.ref q1, .ref q2, .ref q3, .int (nI 0), .int (nI 0), .int (nI 0), .int (nI 0), .int (nI 0), .int (nI 0), .int br])), (q1, .inr (3, [.int (nI 14), .ref a1])), (a1, .inl (cy 0, 84, .inl v1)), (q2, .inr (3, [.int (nI 10), .ref a2])), (a2, .inl (cy 0, 60, .inl v2)), (q3, .inr (3, [.int (nI 1), .ref a3])), (a3, .inl (cy 0, 3, .inl v5))] rfl rfl ?_
  refine v_aload_n hC dX0_startNew_79 rfl 0 rfl rfl ?_
  refine v_iconst hC (v := (nI 0)) dX0_startNew_80 (by decide) rfl ?_
  refine v_put hC iX0_startNew_X0 tyX0 tyX0_ok nmX0 0 rfl rfl 9 (by decide) kX0_startNew_56 rfl rfl (ty := .int) (by decide +kernel) rfl rfl (Nat.le_of_ble_eq_true rfl) dX0_startNew_81 [(h0, .inr (0, [.ref q1, .ref q2, .ref q3, .int (nI 0), .int (nI 0), .int (nI 0), .int (nI 0), .int (nI 0), .int (nI 0), .int (nI 0)])), (q1, .inr (3, [.int (nI 14), .ref a1])), (a1, .inl (cy 0, 84, .inl v1)), (q2, .inr (3, [.int (nI 10), .ref a2])), (a2, .inl (cy 0, 60, .inl v2)), (q3, .inr (3, [.int (nI 1), .ref a3])), (a3, .inl (cy 0, 3, .inl v5))] rfl rfl ?_
  obtain rfl := Option.some.inj h
  exact v_vrw hC hr dX0_startNew_84
theorem kX0_copy_14 : Cond.fieldLink RX0 14 "CrowdFaces$Film" "extras" "LCrowdFaces$Table;" ∈ wsX0_copy := by decide +kernel
theorem kX0_copy_20 : Cond.fieldLink RX0 20 "CrowdFaces$Film" "scenes" "LCrowdFaces$Table;" ∈ wsX0_copy := by decide +kernel
theorem kX0_copy_23 : Cond.fieldLink RX0 23 "CrowdFaces$Film" "settings" "LCrowdFaces$Table;" ∈ wsX0_copy := by decide +kernel
theorem kX0_copy_37 : Cond.fieldLink RX0 37 "CrowdFaces$Film" "extraCount" "I" ∈ wsX0_copy := by decide +kernel
theorem kX0_copy_41 : Cond.fieldLink RX0 41 "CrowdFaces$Film" "sceneCount" "I" ∈ wsX0_copy := by decide +kernel
theorem kX0_copy_44 : Cond.fieldLink RX0 44 "CrowdFaces$Film" "days" "I" ∈ wsX0_copy := by decide +kernel
theorem kX0_copy_47 : Cond.fieldLink RX0 47 "CrowdFaces$Film" "wages" "I" ∈ wsX0_copy := by decide +kernel
theorem kX0_copy_50 : Cond.fieldLink RX0 50 "CrowdFaces$Film" "penaltyCosts" "I" ∈ wsX0_copy := by decide +kernel
theorem kX0_copy_53 : Cond.fieldLink RX0 53 "CrowdFaces$Film" "penalties" "I" ∈ wsX0_copy := by decide +kernel
theorem kX0_copy_56 : Cond.fieldLink RX0 56 "CrowdFaces$Film" "breaks" "I" ∈ wsX0_copy := by decide +kernel
theorem iX0_copy_X0 : ∀ w ∈ wsX00, w ∈ wsX0_copy := by decide +kernel
def pX0_copy (ec : Int32) (sn : Int32) (dy : Int32) (wg : Int32) (pe : Int32) (pn : Int32) (br : Int32) (ex : Nat → Int32) (sc : Nat → Int32) (se : Nat → Int32) (ec_b : Int32) (sn_b : Int32) (dy_b : Int32) (wg_b : Int32) (pe_b : Int32) (pn_b : Int32) (br_b : Int32) (ex_b : Nat → Int32) (sc_b : Nat → Int32) (se_b : Nat → Int32) : Option (Int32 × Int32 × Int32 × Int32 × Int32 × Int32 × Int32 × (Nat → Int32) × (Nat → Int32) × (Nat → Int32)) := (pX5_copy 84 ex 84 ex_b).bind fun v1 => (pX5_copy 60 sc 60 sc_b).bind fun v2 => (pX5_copy 3 se 3 se_b).bind fun v3 => some (ec_b, sn_b, dy_b, wg_b, pe_b, pn_b, br_b, v1, v2, v3)
abbrev rmX0_copy : Room := { frames := 1, cells := 0, slots := 0, locals := 22 }
set_option maxHeartbeats 4000000 in
set_option maxRecDepth 100000 in
theorem mX0_copy (l : Launch) (g : va_G) (cy : Nat → ClassId) (h0 q1 a1 q2 a2 q3 a3 h1 q1_b a1_b q2_b a2_b q3_b a3_b : Nat) (ec : Int32) (sn : Int32) (dy : Int32) (wg : Int32) (pe : Int32) (pn : Int32) (br : Int32) (ex : Nat → Int32) (sc : Nat → Int32) (se : Nat → Int32) (ec_b : Int32) (sn_b : Int32) (dy_b : Int32) (wg_b : Int32) (pe_b : Int32) (pn_b : Int32) (br_b : Int32) (ex_b : Nat → Int32) (sc_b : Nat → Int32) (se_b : Nat → Int32)  {res : Int32 × Int32 × Int32 × Int32 × Int32 × Int32 × Int32 × (Nat → Int32) × (Nat → Int32) × (Nat → Int32)} (h : pX0_copy ec sn dy wg pe pn br ex sc se ec_b sn_b dy_b wg_b pe_b pn_b br_b ex_b sc_b se_b = some res) : Met l yX0_copy wsX0_copy rmX0_copy (PW [.ref h0, .ref h1] g cy [(h0, .inr (0, [.ref q1, .ref q2, .ref q3, .int ec, .int sn, .int dy, .int wg, .int pe, .int pn, .int br])), (q1, .inr (3, [.int (nI 14), .ref a1])), (a1, .inl (cy 0, 84, .inl ex)), (q2, .inr (3, [.int (nI 10), .ref a2])), (a2, .inl (cy 0, 60, .inl sc)), (q3, .inr (3, [.int (nI 1), .ref a3])), (a3, .inl (cy 0, 3, .inl se)), (h1, .inr (0, [.ref q1_b, .ref q2_b, .ref q3_b, .int ec_b, .int sn_b, .int dy_b, .int wg_b, .int pe_b, .int pn_b, .int br_b])), (q1_b, .inr (3, [.int (nI 14), .ref a1_b])), (a1_b, .inl (cy 0, 84, .inl ex_b)), (q2_b, .inr (3, [.int (nI 10), .ref a2_b])), (a2_b, .inl (cy 0, 60, .inl sc_b)), (q3_b, .inr (3, [.int (nI 1), .ref a3_b])), (a3_b, .inl (cy 0, 3, .inl se_b))]) (QWv g (wA [(h0, .inr (0, [.ref q1, .ref q2, .ref q3, .int ec, .int sn, .int dy, .int wg, .int pe, .int pn, .int br])), (q1, .inr (3, [.int (nI 14), .ref a1])), (a1, .inl (cy 0, 84, .inl ex)), (q2, .inr (3, [.int (nI 10), .ref a2])), (a2, .inl (cy 0, 60, .inl sc)), (q3, .inr (3, [.int (nI 1), .ref a3])), (a3, .inl (cy 0, 3, .inl se)), (h1, .inr (0, [.ref q1_b, .ref q2_b, .ref q3_b, .int ec_b, .int sn_b, .int dy_b, .int wg_b, .int pe_b, .int pn_b, .int br_b])), (q1_b, .inr (3, [.int (nI 14), .ref a1_b])), (a1_b, .inl (cy 0, 84, .inl ex_b)), (q2_b, .inr (3, [.int (nI 10), .ref a2_b])), (a2_b, .inl (cy 0, 60, .inl sc_b)), (q3_b, .inr (3, [.int (nI 1), .ref a3_b])), (a3_b, .inl (cy 0, 3, .inl se_b))]) [(h0, .inr (0, [.ref q1, .ref q2, .ref q3, .int res.1, .int res.2.1, .int res.2.2.1, .int res.2.2.2.1, .int res.2.2.2.2.1, .int res.2.2.2.2.2.1, .int res.2.2.2.2.2.2.1])), (q1, .inr (3, [.int (nI 14), .ref a1])), (a1, .inl (cy 0, 84, .inl res.2.2.2.2.2.2.2.1)), (q2, .inr (3, [.int (nI 10), .ref a2])), (a2, .inl (cy 0, 60, .inl res.2.2.2.2.2.2.2.2.1)), (q3, .inr (3, [.int (nI 1), .ref a3])), (a3, .inl (cy 0, 3, .inl res.2.2.2.2.2.2.2.2.2)), (h1, .inr (0, [.ref q1_b, .ref q2_b, .ref q3_b, .int ec_b, .int sn_b, .int dy_b, .int wg_b, .int pe_b, .int pn_b, .int br_b])), (q1_b, .inr (3, [.int (nI 14), .ref a1_b])), (a1_b, .inl (cy 0, 84, .inl ex_b)), (q2_b, .inr (3, [.int (nI 10), .ref a2_b])), (a2_b, .inl (cy 0, 60, .inl sc_b)), (q3_b, .inr (3, [.int (nI 1), .ref a3_b])), (a3_b, .inl (cy 0, 3, .inl se_b))]) 0 0 (wA [(h0, .inr (0, [.ref q1, .ref q2, .ref q3, .int ec, .int sn, .int dy, .int wg, .int pe, .int pn, .int br])), (q1, .inr (3, [.int (nI 14), .ref a1])), (a1, .inl (cy 0, 84, .inl ex)), (q2, .inr (3, [.int (nI 10), .ref a2])), (a2, .inl (cy 0, 60, .inl sc)), (q3, .inr (3, [.int (nI 1), .ref a3])), (a3, .inl (cy 0, 3, .inl se)), (h1, .inr (0, [.ref q1_b, .ref q2_b, .ref q3_b, .int ec_b, .int sn_b, .int dy_b, .int wg_b, .int pe_b, .int pn_b, .int br_b])), (q1_b, .inr (3, [.int (nI 14), .ref a1_b])), (a1_b, .inl (cy 0, 84, .inl ex_b)), (q2_b, .inr (3, [.int (nI 10), .ref a2_b])), (a2_b, .inl (cy 0, 60, .inl sc_b)), (q3_b, .inr (3, [.int (nI 1), .ref a3_b])), (a3_b, .inl (cy 0, 3, .inl se_b))]) := by
  refine m_ofV (cc := cX0_copy) (nL := 2) (ret := none) (B := (wA [(h0, .inr (0, [.ref q1, .ref q2, .ref q3, .int ec, .int sn, .int dy, .int wg, .int pe, .int pn, .int br])), (q1, .inr (3, [.int (nI 14), .ref a1])), (a1, .inl (cy 0, 84, .inl ex)), (q2, .inr (3, [.int (nI 10), .ref a2])), (a2, .inl (cy 0, 60, .inl sc)), (q3, .inr (3, [.int (nI 1), .ref a3])), (a3, .inl (cy 0, 3, .inl se)), (h1, .inr (0, [.ref q1_b, .ref q2_b, .ref q3_b, .int ec_b, .int sn_b, .int dy_b, .int wg_b, .int pe_b, .int pn_b, .int br_b])), (q1_b, .inr (3, [.int (nI 14), .ref a1_b])), (a1_b, .inl (cy 0, 84, .inl ex_b)), (q2_b, .inr (3, [.int (nI 10), .ref a2_b])), (a2_b, .inl (cy 0, 60, .inl sc_b)), (q3_b, .inr (3, [.int (nI 1), .ref a3_b])), (a3_b, .inl (cy 0, 3, .inl se_b))])) RX0 rfl (by decide) rfl [(0, .ref h0), (1, .ref h1)] rfl (Nat.le_of_ble_eq_true rfl) (wA.self) ?_
  intro p e s m args below meth c hC hr
  generalize (wA [(h0, .inr (0, [.ref q1, .ref q2, .ref q3, .int ec, .int sn, .int dy, .int wg, .int pe, .int pn, .int br])), (q1, .inr (3, [.int (nI 14), .ref a1])), (a1, .inl (cy 0, 84, .inl ex)), (q2, .inr (3, [.int (nI 10), .ref a2])), (a2, .inl (cy 0, 60, .inl sc)), (q3, .inr (3, [.int (nI 1), .ref a3])), (a3, .inl (cy 0, 3, .inl se)), (h1, .inr (0, [.ref q1_b, .ref q2_b, .ref q3_b, .int ec_b, .int sn_b, .int dy_b, .int wg_b, .int pe_b, .int pn_b, .int br_b])), (q1_b, .inr (3, [.int (nI 14), .ref a1_b])), (a1_b, .inl (cy 0, 84, .inl ex_b)), (q2_b, .inr (3, [.int (nI 10), .ref a2_b])), (a2_b, .inl (cy 0, 60, .inl sc_b)), (q3_b, .inr (3, [.int (nI 1), .ref a3_b])), (a3_b, .inl (cy 0, 3, .inl se_b))]) = A
  unfold pX0_copy at h
  refine v_aload_n hC dX0_copy_0 rfl 0 rfl rfl ?_
  refine v_get hC iX0_copy_X0 0 rfl rfl 0 (by decide) kX0_copy_14 rfl rfl dX0_copy_1 rfl ?_
  refine v_aload_n hC dX0_copy_4 rfl 1 rfl rfl ?_
  refine v_get hC iX0_copy_X0 7 rfl rfl 0 (by decide) kX0_copy_14 rfl rfl dX0_copy_5 rfl ?_
  obtain ⟨v1, hv1, h⟩ := bind_g h
  refine v_callVwv hC (n := 1) (st := []) [(h0, .inr (0, [.ref q1, .ref q2, .ref q3, .int ec, .int sn, .int dy, .int wg, .int pe, .int pn, .int br])), (q1, .inr (3, [.int (nI 14), .ref a1])), (a1, .inl (cy 0, 84, .inl v1)), (q2, .inr (3, [.int (nI 10), .ref a2])), (a2, .inl (cy 0, 60, .inl sc)), (q3, .inr (3, [.int (nI 1), .ref a3])), (a3, .inl (cy 0, 3, .inl se)), (h1, .inr (0, [.ref q1_b, .ref q2_b, .ref q3_b, .int ec_b, .int sn_b, .int dy_b, .int wg_b, .int pe_b, .int pn_b, .int br_b])), (q1_b, .inr (3, [.int (nI 14), .ref a1_b])), (a1_b, .inl (cy 0, 84, .inl ex_b)), (q2_b, .inr (3, [.int (nI 10), .ref a2_b])), (a2_b, .inl (cy 0, 60, .inl sc_b)), (q3_b, .inr (3, [.int (nI 1), .ref a3_b])), (a3_b, .inl (cy 0, 3, .inl se_b))] _ (mX5_copy l g cy q1 a1 q1_b a1_b (nI 14) 84 ex (nI 14) 84 ex_b hv1) gX0_copy_X5_copy rfl rfl rfl (by decide +kernel) ⟨Nat.le_of_ble_eq_true rfl, Nat.le_of_ble_eq_true rfl⟩ 1 rfl rfl [1, 2, 8, 9] [0, 3, 4, 5, 6, 7, 10, 11, 12, 13] rfl rfl rfl rfl rfl rfl rfl rfl rfl (Nat.le_of_ble_eq_true rfl) rfl ⟨Nat.zero_le _, Nat.zero_le _⟩ dX0_copy_8 rfl ?_
  refine v_aload_n hC dX0_copy_11 rfl 0 rfl rfl ?_
  refine v_get hC iX0_copy_X0 0 rfl rfl 1 (by decide) kX0_copy_20 rfl rfl dX0_copy_12 rfl ?_
  refine v_aload_n hC dX0_copy_15 rfl 1 rfl rfl ?_
  refine v_get hC iX0_copy_X0 7 rfl rfl 1 (by decide) kX0_copy_20 rfl rfl dX0_copy_16 rfl ?_
  obtain ⟨v2, hv2, h⟩ := bind_g h
  refine v_callVwv hC (n := 1) (st := []) [(h0, .inr (0, [.ref q1, .ref q2, .ref q3, .int ec, .int sn, .int dy, .int wg, .int pe, .int pn, .int br])), (q1, .inr (3, [.int (nI 14), .ref a1])), (a1, .inl (cy 0, 84, .inl v1)), (q2, .inr (3, [.int (nI 10), .ref a2])), (a2, .inl (cy 0, 60, .inl v2)), (q3, .inr (3, [.int (nI 1), .ref a3])), (a3, .inl (cy 0, 3, .inl se)), (h1, .inr (0, [.ref q1_b, .ref q2_b, .ref q3_b, .int ec_b, .int sn_b, .int dy_b, .int wg_b, .int pe_b, .int pn_b, .int br_b])), (q1_b, .inr (3, [.int (nI 14), .ref a1_b])), (a1_b, .inl (cy 0, 84, .inl ex_b)), (q2_b, .inr (3, [.int (nI 10), .ref a2_b])), (a2_b, .inl (cy 0, 60, .inl sc_b)), (q3_b, .inr (3, [.int (nI 1), .ref a3_b])), (a3_b, .inl (cy 0, 3, .inl se_b))] _ (mX5_copy l g cy q2 a2 q2_b a2_b (nI 10) 60 sc (nI 10) 60 sc_b hv2) gX0_copy_X5_copy rfl rfl rfl (by decide +kernel) ⟨Nat.le_of_ble_eq_true rfl, Nat.le_of_ble_eq_true rfl⟩ 3 rfl rfl [3, 4, 10, 11] [0, 1, 2, 5, 6, 7, 8, 9, 12, 13] rfl rfl rfl rfl rfl rfl rfl rfl rfl (Nat.le_of_ble_eq_true rfl) rfl ⟨Nat.zero_le _, Nat.zero_le _⟩ dX0_copy_19 rfl ?_
  refine v_aload_n hC dX0_copy_22 rfl 0 rfl rfl ?_
  refine v_get hC iX0_copy_X0 0 rfl rfl 2 (by decide) kX0_copy_23 rfl rfl dX0_copy_23 rfl ?_
  refine v_aload_n hC dX0_copy_26 rfl 1 rfl rfl ?_
  refine v_get hC iX0_copy_X0 7 rfl rfl 2 (by decide) kX0_copy_23 rfl rfl dX0_copy_27 rfl ?_
  obtain ⟨v3, hv3, h⟩ := bind_g h
  refine v_callVwv hC (n := 1) (st := []) [(h0, .inr (0, [.ref q1, .ref q2, .ref q3, .int ec, .int sn, .int dy, .int wg, .int pe, .int pn, .int br])), (q1, .inr (3, [.int (nI 14), .ref a1])), (a1, .inl (cy 0, 84, .inl v1)), (q2, .inr (3, [.int (nI 10), .ref a2])), (a2, .inl (cy 0, 60, .inl v2)), (q3, .inr (3, [.int (nI 1), .ref a3])), (a3, .inl (cy 0, 3, .inl v3)), (h1, .inr (0, [.ref q1_b, .ref q2_b, .ref q3_b, .int ec_b, .int sn_b, .int dy_b, .int wg_b, .int pe_b, .int pn_b, .int br_b])), (q1_b, .inr (3, [.int (nI 14), .ref a1_b])), (a1_b, .inl (cy 0, 84, .inl ex_b)), (q2_b, .inr (3, [.int (nI 10), .ref a2_b])), (a2_b, .inl (cy 0, 60, .inl sc_b)), (q3_b, .inr (3, [.int (nI 1), .ref a3_b])), (a3_b, .inl (cy 0, 3, .inl se_b))] _ (mX5_copy l g cy q3 a3 q3_b a3_b (nI 1) 3 se (nI 1) 3 se_b hv3) gX0_copy_X5_copy rfl rfl rfl (by decide +kernel) ⟨Nat.le_of_ble_eq_true rfl, Nat.le_of_ble_eq_true rfl⟩ 5 rfl rfl [5, 6, 12, 13] [0, 1, 2, 3, 4, 7, 8, 9, 10, 11] rfl rfl rfl rfl rfl rfl rfl rfl rfl (Nat.le_of_ble_eq_true rfl) rfl ⟨Nat.zero_le _, Nat.zero_le _⟩ dX0_copy_30 rfl ?_
  refine v_aload_n hC dX0_copy_33 rfl 0 rfl rfl ?_
  refine v_aload_n hC dX0_copy_34 rfl 1 rfl rfl ?_
  refine v_get hC iX0_copy_X0 7 rfl rfl 3 (by decide) kX0_copy_37 rfl rfl dX0_copy_35 rfl ?_
  refine v_put hC iX0_copy_X0 tyX0 tyX0_ok nmX0 0 rfl rfl 3 (by decide) kX0_copy_37 rfl rfl (ty := .int) (by decide +kernel) rfl rfl (Nat.le_of_ble_eq_true rfl) dX0_copy_38 [(h0, .inr (0, [.ref q1, .ref q2, .ref q3, .int ec_b, .int sn, .int dy, .int wg, .int pe, .int pn, .int br])), (q1, .inr (3, [.int (nI 14), .ref a1])), (a1, .inl (cy 0, 84, .inl v1)), (q2, .inr (3, [.int (nI 10), .ref a2])), (a2, .inl (cy 0, 60, .inl v2)), (q3, .inr (3, [.int (nI 1), .ref a3])), (a3, .inl (cy 0, 3, .inl v3)), (h1, .inr (0, [.ref q1_b, .ref q2_b, .ref q3_b, .int ec_b, .int sn_b, .int dy_b, .int wg_b, .int pe_b, .int pn_b, .int br_b])), (q1_b, .inr (3, [.int (nI 14), .ref a1_b])), (a1_b, .inl (cy 0, 84, .inl ex_b)), (q2_b, .inr (3, [.int (nI 10), .ref a2_b])), (a2_b, .inl (cy 0, 60, .inl sc_b)), (q3_b, .inr (3, [.int (nI 1), .ref a3_b])), (a3_b, .inl (cy 0, 3, .inl se_b))] rfl rfl ?_
  refine v_aload_n hC dX0_copy_41 rfl 0 rfl rfl ?_
  refine v_aload_n hC dX0_copy_42 rfl 1 rfl rfl ?_
  refine v_get hC iX0_copy_X0 7 rfl rfl 4 (by decide) kX0_copy_41 rfl rfl dX0_copy_43 rfl ?_
  refine v_put hC iX0_copy_X0 tyX0 tyX0_ok nmX0 0 rfl rfl 4 (by decide) kX0_copy_41 rfl rfl (ty := .int) (by decide +kernel) rfl rfl (Nat.le_of_ble_eq_true rfl) dX0_copy_46 [(h0, .inr (0, [.ref q1, .ref q2, .ref q3, .int ec_b, .int sn_b, .int dy, .int wg, .int pe, .int pn, .int br])), (q1, .inr (3, [.int (nI 14), .ref a1])), (a1, .inl (cy 0, 84, .inl v1)), (q2, .inr (3, [.int (nI 10), .ref a2])), (a2, .inl (cy 0, 60, .inl v2)), (q3, .inr (3, [.int (nI 1), .ref a3])), (a3, .inl (cy 0, 3, .inl v3)), (h1, .inr (0, [.ref q1_b, .ref q2_b, .ref q3_b, .int ec_b, .int sn_b, .int dy_b, .int wg_b, .int pe_b, .int pn_b, .int br_b])), (q1_b, .inr (3, [.int (nI 14), .ref a1_b])), (a1_b, .inl (cy 0, 84, .inl ex_b)), (q2_b, .inr (3, [.int (nI 10), .ref a2_b])), (a2_b, .inl (cy 0, 60, .inl sc_b)), (q3_b, .inr (3, [.int (nI 1), .ref a3_b])), (a3_b, .inl (cy 0, 3, .inl se_b))] rfl rfl ?_
  refine v_aload_n hC dX0_copy_49 rfl 0 rfl rfl ?_
  refine v_aload_n hC dX0_copy_50 rfl 1 rfl rfl ?_
  refine v_get hC iX0_copy_X0 7 rfl rfl 5 (by decide) kX0_copy_44 rfl rfl dX0_copy_51 rfl ?_
  refine v_put hC iX0_copy_X0 tyX0 tyX0_ok nmX0 0 rfl rfl 5 (by decide) kX0_copy_44 rfl rfl (ty := .int) (by decide +kernel) rfl rfl (Nat.le_of_ble_eq_true rfl) dX0_copy_54 [(h0, .inr (0, [.ref q1, .ref q2, .ref q3, .int ec_b, .int sn_b, .int dy_b, .int wg, .int pe, .int pn, .int br])), (q1, .inr (3, [.int (nI 14), .ref a1])), (a1, .inl (cy 0, 84, .inl v1)), (q2, .inr (3, [.int (nI 10), .ref a2])), (a2, .inl (cy 0, 60, .inl v2)), (q3, .inr (3, [.int (nI 1), .ref a3])), (a3, .inl (cy 0, 3, .inl v3)), (h1, .inr (0, [.ref q1_b, .ref q2_b, .ref q3_b, .int ec_b, .int sn_b, .int dy_b, .int wg_b, .int pe_b, .int pn_b, .int br_b])), (q1_b, .inr (3, [.int (nI 14), .ref a1_b])), (a1_b, .inl (cy 0, 84, .inl ex_b)), (q2_b, .inr (3, [.int (nI 10), .ref a2_b])), (a2_b, .inl (cy 0, 60, .inl sc_b)), (q3_b, .inr (3, [.int (nI 1), .ref a3_b])), (a3_b, .inl (cy 0, 3, .inl se_b))] rfl rfl ?_
  refine v_aload_n hC dX0_copy_57 rfl 0 rfl rfl ?_
  refine v_aload_n hC dX0_copy_58 rfl 1 rfl rfl ?_
  refine v_get hC iX0_copy_X0 7 rfl rfl 6 (by decide) kX0_copy_47 rfl rfl dX0_copy_59 rfl ?_
  refine v_put hC iX0_copy_X0 tyX0 tyX0_ok nmX0 0 rfl rfl 6 (by decide) kX0_copy_47 rfl rfl (ty := .int) (by decide +kernel) rfl rfl (Nat.le_of_ble_eq_true rfl) dX0_copy_62 [(h0, .inr (0, [.ref q1, .ref q2, .ref q3, .int ec_b, .int sn_b, .int dy_b, .int wg_b, .int pe, .int pn, .int br])), (q1, .inr (3, [.int (nI 14), .ref a1])), (a1, .inl (cy 0, 84, .inl v1)), (q2, .inr (3, [.int (nI 10), .ref a2])), (a2, .inl (cy 0, 60, .inl v2)), (q3, .inr (3, [.int (nI 1), .ref a3])), (a3, .inl (cy 0, 3, .inl v3)), (h1, .inr (0, [.ref q1_b, .ref q2_b, .ref q3_b, .int ec_b, .int sn_b, .int dy_b, .int wg_b, .int pe_b, .int pn_b, .int br_b])), (q1_b, .inr (3, [.int (nI 14), .ref a1_b])), (a1_b, .inl (cy 0, 84, .inl ex_b)), (q2_b, .inr (3, [.int (nI 10), .ref a2_b])), (a2_b, .inl (cy 0, 60, .inl sc_b)), (q3_b, .inr (3, [.int (nI 1), .ref a3_b])), (a3_b, .inl (cy 0, 3, .inl se_b))] rfl rfl ?_
  refine v_aload_n hC dX0_copy_65 rfl 0 rfl rfl ?_
  refine v_aload_n hC dX0_copy_66 rfl 1 rfl rfl ?_
  refine v_get hC iX0_copy_X0 7 rfl rfl 7 (by decide) kX0_copy_50 rfl rfl dX0_copy_67 rfl ?_
  refine v_put hC iX0_copy_X0 tyX0 tyX0_ok nmX0 0 rfl rfl 7 (by decide) kX0_copy_50 rfl rfl (ty := .int) (by decide +kernel) rfl rfl (Nat.le_of_ble_eq_true rfl) dX0_copy_70 [(h0, .inr (0, [.ref q1, .ref q2, .ref q3, .int ec_b, .int sn_b, .int dy_b, .int wg_b, .int pe_b, .int pn, .int br])), (q1, .inr (3, [.int (nI 14), .ref a1])), (a1, .inl (cy 0, 84, .inl v1)), (q2, .inr (3, [.int (nI 10), .ref a2])), (a2, .inl (cy 0, 60, .inl v2)), (q3, .inr (3, [.int (nI 1), .ref a3])), (a3, .inl (cy 0, 3, .inl v3)), (h1, .inr (0, [.ref q1_b, .ref q2_b, .ref q3_b, .int ec_b, .int sn_b, .int dy_b, .int wg_b, .int pe_b, .int pn_b, .int br_b])), (q1_b, .inr (3, [.int (nI 14), .ref a1_b])), (a1_b, .inl (cy 0, 84, .inl ex_b)), (q2_b, .inr (3, [.int (nI 10), .ref a2_b])), (a2_b, .inl (cy 0, 60, .inl sc_b)), (q3_b, .inr (3, [.int (nI 1), .ref a3_b])), (a3_b, .inl (cy 0, 3, .inl se_b))] rfl rfl ?_
  refine v_aload_n hC dX0_copy_73 rfl 0 rfl rfl ?_
  refine v_aload_n hC dX0_copy_74 rfl 1 rfl rfl ?_
  refine v_get hC iX0_copy_X0 7 rfl rfl 8 (by decide) kX0_copy_53 rfl rfl dX0_copy_75 rfl ?_
  refine v_put hC iX0_copy_X0 tyX0 tyX0_ok nmX0 0 rfl rfl 8 (by decide) kX0_copy_53 rfl rfl (ty := .int) (by decide +kernel) rfl rfl (Nat.le_of_ble_eq_true rfl) dX0_copy_78 [(h0, .inr (0, [.ref q1, .ref q2, .ref q3, .int ec_b, .int sn_b, .int dy_b, .int wg_b, .int pe_b, .int pn_b, .int br])), (q1, .inr (3, [.int (nI 14), .ref a1])), (a1, .inl (cy 0, 84, .inl v1)), (q2, .inr (3, [.int (nI 10), .ref a2])), (a2, .inl (cy 0, 60, .inl v2)), (q3, .inr (3, [.int (nI 1), .ref a3])), (a3, .inl (cy 0, 3, .inl v3)), (h1, .inr (0, [.ref q1_b, .ref q2_b, .ref q3_b, .int ec_b, .int sn_b, .int dy_b, .int wg_b, .int pe_b, .int pn_b, .int br_b])), (q1_b, .inr (3, [.int (nI 14), .ref a1_b])), (a1_b, .inl (cy 0, 84, .inl ex_b)), (q2_b, .inr (3, [.int (nI 10), .ref a2_b])), (a2_b, .inl (cy 0, 60, .inl sc_b)), (q3_b, .inr (3, [.int (nI 1), .ref a3_b])), (a3_b, .inl (cy 0, 3, .inl se_b))] rfl rfl ?_
  refine v_aload_n hC dX0_copy_81 rfl 0 rfl rfl ?_
  refine v_aload_n hC dX0_copy_82 rfl 1 rfl rfl ?_
  refine v_get hC iX0_copy_X0 7 rfl rfl 9 (by decide) kX0_copy_56 rfl rfl dX0_copy_83 rfl ?_
  refine v_put hC iX0_copy_X0 tyX0 tyX0_ok nmX0 0 rfl rfl 9 (by decide) kX0_copy_56 rfl rfl (ty := .int) (by decide +kernel) rfl rfl (Nat.le_of_ble_eq_true rfl) dX0_copy_86 [(h0, .inr (0, [.ref q1, .ref q2, .ref q3, .int ec_b, .int sn_b, .int dy_b, .int wg_b, .int pe_b, .int pn_b, .int br_b])), (q1, .inr (3, [.int (nI 14), .ref a1])), (a1, .inl (cy 0, 84, .inl v1)), (q2, .inr (3, [.int (nI 10), .ref a2])), (a2, .inl (cy 0, 60, .inl v2)), (q3, .inr (3, [.int (nI 1), .ref a3])), (a3, .inl (cy 0, 3, .inl v3)), (h1, .inr (0, [.ref q1_b, .ref q2_b, .ref q3_b, .int ec_b, .int sn_b, .int dy_b, .int wg_b, .int pe_b, .int pn_b, .int br_b])), (q1_b, .inr (3, [.int (nI 14), .ref a1_b])), (a1_b, .inl (cy 0, 84, .inl ex_b)), (q2_b, .inr (3, [.int (nI 10), .ref a2_b])), (a2_b, .inl (cy 0, 60, .inl sc_b)), (q3_b, .inr (3, [.int (nI 1), .ref a3_b])), (a3_b, .inl (cy 0, 3, .inl se_b))] rfl rfl ?_
  obtain rfl := Option.some.inj h
  exact v_vrw hC hr dX0_copy_89
theorem kX0_isExtra_37 : Cond.fieldLink RX0 37 "CrowdFaces$Film" "extraCount" "I" ∈ wsX0_isExtra := by decide +kernel
theorem iX0_isExtra_X0 : ∀ w ∈ wsX00, w ∈ wsX0_isExtra := by decide +kernel
def pX0_isExtra_17 (ec : Int32) (s0 : Int32) : Option (Int32) := bz s0
def pX0_isExtra_16 (ec : Int32) : Option (Int32) := pX0_isExtra_17 ec (nI 0)
def pX0_isExtra (ec : Int32) (x1 : Int32) : Option (Int32) := if x1 < 0 then pX0_isExtra_16 ec else if ec ≤ x1 then pX0_isExtra_16 ec else pX0_isExtra_17 ec (nI 1)
abbrev rmX0_isExtra : Room := { frames := 0, cells := 0, slots := 0, locals := 0 }
set_option maxHeartbeats 4000000 in
set_option maxRecDepth 100000 in
theorem bX0_isExtra_17 {p : Program} {l : Launch} {e : Env} {s : State} {m : MethodId} {args : Array Value} {below : List Frame} {meth : Method} {c : Code} {g : va_G} {cy : Nat → ClassId} (hC : CX p s m args meth c g cy 2 cX0_isExtra wsX0_isExtra RX0) (hr : meth.sig.returnType = (some .boolean)) {h0 q1 a1 q2 a2 q3 a3 : Nat} {res : Int32} : ∀ (ec : Int32) (sn : Int32) (dy : Int32) (wg : Int32) (pe : Int32) (pn : Int32) (br : Int32) (ex : Nat → Int32) (sc : Nat → Int32) (se : Nat → Int32) (s0 : Int32)(h : pX0_isExtra_17 ec s0 = some res), V p l e (headSpec wsX0_isExtra rmX0_isExtra).room s m args below meth c g 2 0 0 (MQ below (QRi res) args s 0 0 nF) nF (fun _ => True) [(h0, .inr (0, [.ref q1, .ref q2, .ref q3, .int ec, .int sn, .int dy, .int wg, .int pe, .int pn, .int br])), (q1, .inr (3, [.int (nI 14), .ref a1])), (a1, .inl (cy 0, 84, .inl ex)), (q2, .inr (3, [.int (nI 10), .ref a2])), (a2, .inl (cy 0, 60, .inl sc)), (q3, .inr (3, [.int (nI 1), .ref a3])), (a3, .inl (cy 0, 3, .inl se))] 17 [] [.int s0] := by
  intro ec sn dy wg pe pn br ex sc se s0 h
  unfold pX0_isExtra_17 at h
  obtain ⟨e9, hn⟩ := bz_g h
  exact v_irt hC hr hn e9 dX0_isExtra_17
set_option maxHeartbeats 4000000 in
set_option maxRecDepth 100000 in
theorem bX0_isExtra_16 {p : Program} {l : Launch} {e : Env} {s : State} {m : MethodId} {args : Array Value} {below : List Frame} {meth : Method} {c : Code} {g : va_G} {cy : Nat → ClassId} (hC : CX p s m args meth c g cy 2 cX0_isExtra wsX0_isExtra RX0) (hr : meth.sig.returnType = (some .boolean)) {h0 q1 a1 q2 a2 q3 a3 : Nat} {res : Int32} : ∀ (ec : Int32) (sn : Int32) (dy : Int32) (wg : Int32) (pe : Int32) (pn : Int32) (br : Int32) (ex : Nat → Int32) (sc : Nat → Int32) (se : Nat → Int32) (h : pX0_isExtra_16 ec = some res), V p l e (headSpec wsX0_isExtra rmX0_isExtra).room s m args below meth c g 2 0 0 (MQ below (QRi res) args s 0 0 nF) nF (fun _ => True) [(h0, .inr (0, [.ref q1, .ref q2, .ref q3, .int ec, .int sn, .int dy, .int wg, .int pe, .int pn, .int br])), (q1, .inr (3, [.int (nI 14), .ref a1])), (a1, .inl (cy 0, 84, .inl ex)), (q2, .inr (3, [.int (nI 10), .ref a2])), (a2, .inl (cy 0, 60, .inl sc)), (q3, .inr (3, [.int (nI 1), .ref a3])), (a3, .inl (cy 0, 3, .inl se))] 16 [] [] := by
  intro ec sn dy wg pe pn br ex sc se  h
  unfold pX0_isExtra_16 at h
  refine v_iconst hC (v := (nI 0)) dX0_isExtra_16 (by decide) rfl ?_
  exact bX0_isExtra_17 hC hr _ _ _ _ _ _ _ _ _ _ _ h
set_option maxHeartbeats 4000000 in
set_option maxRecDepth 100000 in
theorem mX0_isExtra (l : Launch) (g : va_G) (cy : Nat → ClassId) (h0 q1 a1 q2 a2 q3 a3 : Nat) (ec : Int32) (sn : Int32) (dy : Int32) (wg : Int32) (pe : Int32) (pn : Int32) (br : Int32) (ex : Nat → Int32) (sc : Nat → Int32) (se : Nat → Int32) (x1 : Int32) {res : Int32} (h : pX0_isExtra ec x1 = some res) : Met l yX0_isExtra wsX0_isExtra rmX0_isExtra (PW [.ref h0, .int x1] g cy [(h0, .inr (0, [.ref q1, .ref q2, .ref q3, .int ec, .int sn, .int dy, .int wg, .int pe, .int pn, .int br])), (q1, .inr (3, [.int (nI 14), .ref a1])), (a1, .inl (cy 0, 84, .inl ex)), (q2, .inr (3, [.int (nI 10), .ref a2])), (a2, .inl (cy 0, 60, .inl sc)), (q3, .inr (3, [.int (nI 1), .ref a3])), (a3, .inl (cy 0, 3, .inl se))]) (QRi res) 0 0 nF := by
  refine m_ofV (cc := cX0_isExtra) (nL := 2) (ret := (some .boolean)) (B := fun _ => True) RX0 rfl (by decide) rfl [(0, .ref h0), (1, .int x1)] rfl (Nat.le_of_ble_eq_true rfl) (fun h => h) ?_
  intro p e s m args below meth c hC hr
  unfold pX0_isExtra at h
  refine v_iload_n hC dX0_isExtra_0 rfl 1 rfl rfl ?_
  refine v_if_lt hC (tgt := 16) dX0_isExtra_1 (by decide) rfl (fun c => ?_) (fun c => ?_)
  · have h := ite_t c h
    exact v_sub [] (lv' := []) rfl (bX0_isExtra_16 hC hr _ _ _ _ _ _ _ _ _ _ h)
  · have h := ite_f c h
    refine v_iload_n hC dX0_isExtra_4 rfl 1 rfl rfl ?_
    refine v_aload_n hC dX0_isExtra_5 rfl 0 rfl rfl ?_
    refine v_get hC iX0_isExtra_X0 0 rfl rfl 3 (by decide) kX0_isExtra_37 rfl rfl dX0_isExtra_6 rfl ?_
    refine v_icmp_ge hC (tgt := 16) dX0_isExtra_9 (by decide) rfl (fun c => ?_) (fun c => ?_)
    · have h := ite_t c h
      exact v_sub [] (lv' := []) rfl (bX0_isExtra_16 hC hr _ _ _ _ _ _ _ _ _ _ h)
    · have h := ite_f c h
      refine v_iconst hC (v := (nI 1)) dX0_isExtra_12 (by decide) rfl ?_
      refine v_goto hC (tgt := 17) dX0_isExtra_13 (by decide) ?_
      exact v_sub [] (lv' := []) rfl (bX0_isExtra_17 hC hr _ _ _ _ _ _ _ _ _ _ _ h)
theorem kX0_isScene_41 : Cond.fieldLink RX0 41 "CrowdFaces$Film" "sceneCount" "I" ∈ wsX0_isScene := by decide +kernel
theorem iX0_isScene_X0 : ∀ w ∈ wsX00, w ∈ wsX0_isScene := by decide +kernel
def pX0_isScene_17 (sn : Int32) (s0 : Int32) : Option (Int32) := bz s0
def pX0_isScene_16 (sn : Int32) : Option (Int32) := pX0_isScene_17 sn (nI 0)
def pX0_isScene (sn : Int32) (x1 : Int32) : Option (Int32) := if x1 < 0 then pX0_isScene_16 sn else if sn ≤ x1 then pX0_isScene_16 sn else pX0_isScene_17 sn (nI 1)
abbrev rmX0_isScene : Room := { frames := 0, cells := 0, slots := 0, locals := 0 }
set_option maxHeartbeats 4000000 in
set_option maxRecDepth 100000 in
theorem bX0_isScene_17 {p : Program} {l : Launch} {e : Env} {s : State} {m : MethodId} {args : Array Value} {below : List Frame} {meth : Method} {c : Code} {g : va_G} {cy : Nat → ClassId} (hC : CX p s m args meth c g cy 2 cX0_isScene wsX0_isScene RX0) (hr : meth.sig.returnType = (some .boolean)) {h0 q1 a1 q2 a2 q3 a3 : Nat} {res : Int32} : ∀ (ec : Int32) (sn : Int32) (dy : Int32) (wg : Int32) (pe : Int32) (pn : Int32) (br : Int32) (ex : Nat → Int32) (sc : Nat → Int32) (se : Nat → Int32) (s0 : Int32)(h : pX0_isScene_17 sn s0 = some res), V p l e (headSpec wsX0_isScene rmX0_isScene).room s m args below meth c g 2 0 0 (MQ below (QRi res) args s 0 0 nF) nF (fun _ => True) [(h0, .inr (0, [.ref q1, .ref q2, .ref q3, .int ec, .int sn, .int dy, .int wg, .int pe, .int pn, .int br])), (q1, .inr (3, [.int (nI 14), .ref a1])), (a1, .inl (cy 0, 84, .inl ex)), (q2, .inr (3, [.int (nI 10), .ref a2])), (a2, .inl (cy 0, 60, .inl sc)), (q3, .inr (3, [.int (nI 1), .ref a3])), (a3, .inl (cy 0, 3, .inl se))] 17 [] [.int s0] := by
  intro ec sn dy wg pe pn br ex sc se s0 h
  unfold pX0_isScene_17 at h
  obtain ⟨e9, hn⟩ := bz_g h
  exact v_irt hC hr hn e9 dX0_isScene_17
set_option maxHeartbeats 4000000 in
set_option maxRecDepth 100000 in
theorem bX0_isScene_16 {p : Program} {l : Launch} {e : Env} {s : State} {m : MethodId} {args : Array Value} {below : List Frame} {meth : Method} {c : Code} {g : va_G} {cy : Nat → ClassId} (hC : CX p s m args meth c g cy 2 cX0_isScene wsX0_isScene RX0) (hr : meth.sig.returnType = (some .boolean)) {h0 q1 a1 q2 a2 q3 a3 : Nat} {res : Int32} : ∀ (ec : Int32) (sn : Int32) (dy : Int32) (wg : Int32) (pe : Int32) (pn : Int32) (br : Int32) (ex : Nat → Int32) (sc : Nat → Int32) (se : Nat → Int32) (h : pX0_isScene_16 sn = some res), V p l e (headSpec wsX0_isScene rmX0_isScene).room s m args below meth c g 2 0 0 (MQ below (QRi res) args s 0 0 nF) nF (fun _ => True) [(h0, .inr (0, [.ref q1, .ref q2, .ref q3, .int ec, .int sn, .int dy, .int wg, .int pe, .int pn, .int br])), (q1, .inr (3, [.int (nI 14), .ref a1])), (a1, .inl (cy 0, 84, .inl ex)), (q2, .inr (3, [.int (nI 10), .ref a2])), (a2, .inl (cy 0, 60, .inl sc)), (q3, .inr (3, [.int (nI 1), .ref a3])), (a3, .inl (cy 0, 3, .inl se))] 16 [] [] := by
  intro ec sn dy wg pe pn br ex sc se  h
  unfold pX0_isScene_16 at h
  refine v_iconst hC (v := (nI 0)) dX0_isScene_16 (by decide) rfl ?_
  exact bX0_isScene_17 hC hr _ _ _ _ _ _ _ _ _ _ _ h
set_option maxHeartbeats 4000000 in
set_option maxRecDepth 100000 in
theorem mX0_isScene (l : Launch) (g : va_G) (cy : Nat → ClassId) (h0 q1 a1 q2 a2 q3 a3 : Nat) (ec : Int32) (sn : Int32) (dy : Int32) (wg : Int32) (pe : Int32) (pn : Int32) (br : Int32) (ex : Nat → Int32) (sc : Nat → Int32) (se : Nat → Int32) (x1 : Int32) {res : Int32} (h : pX0_isScene sn x1 = some res) : Met l yX0_isScene wsX0_isScene rmX0_isScene (PW [.ref h0, .int x1] g cy [(h0, .inr (0, [.ref q1, .ref q2, .ref q3, .int ec, .int sn, .int dy, .int wg, .int pe, .int pn, .int br])), (q1, .inr (3, [.int (nI 14), .ref a1])), (a1, .inl (cy 0, 84, .inl ex)), (q2, .inr (3, [.int (nI 10), .ref a2])), (a2, .inl (cy 0, 60, .inl sc)), (q3, .inr (3, [.int (nI 1), .ref a3])), (a3, .inl (cy 0, 3, .inl se))]) (QRi res) 0 0 nF := by
  refine m_ofV (cc := cX0_isScene) (nL := 2) (ret := (some .boolean)) (B := fun _ => True) RX0 rfl (by decide) rfl [(0, .ref h0), (1, .int x1)] rfl (Nat.le_of_ble_eq_true rfl) (fun h => h) ?_
  intro p e s m args below meth c hC hr
  unfold pX0_isScene at h
  refine v_iload_n hC dX0_isScene_0 rfl 1 rfl rfl ?_
  refine v_if_lt hC (tgt := 16) dX0_isScene_1 (by decide) rfl (fun c => ?_) (fun c => ?_)
  · have h := ite_t c h
    exact v_sub [] (lv' := []) rfl (bX0_isScene_16 hC hr _ _ _ _ _ _ _ _ _ _ h)
  · have h := ite_f c h
    refine v_iload_n hC dX0_isScene_4 rfl 1 rfl rfl ?_
    refine v_aload_n hC dX0_isScene_5 rfl 0 rfl rfl ?_
    refine v_get hC iX0_isScene_X0 0 rfl rfl 4 (by decide) kX0_isScene_41 rfl rfl dX0_isScene_6 rfl ?_
    refine v_icmp_ge hC (tgt := 16) dX0_isScene_9 (by decide) rfl (fun c => ?_) (fun c => ?_)
    · have h := ite_t c h
      exact v_sub [] (lv' := []) rfl (bX0_isScene_16 hC hr _ _ _ _ _ _ _ _ _ _ h)
    · have h := ite_f c h
      refine v_iconst hC (v := (nI 1)) dX0_isScene_12 (by decide) rfl ?_
      refine v_goto hC (tgt := 17) dX0_isScene_13 (by decide) ?_
      exact v_sub [] (lv' := []) rfl (bX0_isScene_17 hC hr _ _ _ _ _ _ _ _ _ _ _ h)
theorem kX0_hasRoomForExtra_37 : Cond.fieldLink RX0 37 "CrowdFaces$Film" "extraCount" "I" ∈ wsX0_hasRoomForExtra := by decide +kernel
theorem iX0_hasRoomForExtra_X0 : ∀ w ∈ wsX00, w ∈ wsX0_hasRoomForExtra := by decide +kernel
def pX0_hasRoomForExtra_14 (ec : Int32) (s0 : Int32) : Option (Int32) := bz s0
def pX0_hasRoomForExtra (ec : Int32) : Option (Int32) := if (nI 14) ≤ ec then pX0_hasRoomForExtra_14 ec (nI 0) else pX0_hasRoomForExtra_14 ec (nI 1)
abbrev rmX0_hasRoomForExtra : Room := { frames := 0, cells := 0, slots := 0, locals := 0 }
set_option maxHeartbeats 4000000 in
set_option maxRecDepth 100000 in
theorem bX0_hasRoomForExtra_14 {p : Program} {l : Launch} {e : Env} {s : State} {m : MethodId} {args : Array Value} {below : List Frame} {meth : Method} {c : Code} {g : va_G} {cy : Nat → ClassId} (hC : CX p s m args meth c g cy 1 cX0_hasRoomForExtra wsX0_hasRoomForExtra RX0) (hr : meth.sig.returnType = (some .boolean)) {h0 q1 a1 q2 a2 q3 a3 : Nat} {res : Int32} : ∀ (ec : Int32) (sn : Int32) (dy : Int32) (wg : Int32) (pe : Int32) (pn : Int32) (br : Int32) (ex : Nat → Int32) (sc : Nat → Int32) (se : Nat → Int32) (s0 : Int32)(h : pX0_hasRoomForExtra_14 ec s0 = some res), V p l e (headSpec wsX0_hasRoomForExtra rmX0_hasRoomForExtra).room s m args below meth c g 1 0 0 (MQ below (QRi res) args s 0 0 nF) nF (fun _ => True) [(h0, .inr (0, [.ref q1, .ref q2, .ref q3, .int ec, .int sn, .int dy, .int wg, .int pe, .int pn, .int br])), (q1, .inr (3, [.int (nI 14), .ref a1])), (a1, .inl (cy 0, 84, .inl ex)), (q2, .inr (3, [.int (nI 10), .ref a2])), (a2, .inl (cy 0, 60, .inl sc)), (q3, .inr (3, [.int (nI 1), .ref a3])), (a3, .inl (cy 0, 3, .inl se))] 14 [] [.int s0] := by
  intro ec sn dy wg pe pn br ex sc se s0 h
  unfold pX0_hasRoomForExtra_14 at h
  obtain ⟨e9, hn⟩ := bz_g h
  exact v_irt hC hr hn e9 dX0_hasRoomForExtra_14
set_option maxHeartbeats 4000000 in
set_option maxRecDepth 100000 in
theorem mX0_hasRoomForExtra (l : Launch) (g : va_G) (cy : Nat → ClassId) (h0 q1 a1 q2 a2 q3 a3 : Nat) (ec : Int32) (sn : Int32) (dy : Int32) (wg : Int32) (pe : Int32) (pn : Int32) (br : Int32) (ex : Nat → Int32) (sc : Nat → Int32) (se : Nat → Int32)  {res : Int32} (h : pX0_hasRoomForExtra ec = some res) : Met l yX0_hasRoomForExtra wsX0_hasRoomForExtra rmX0_hasRoomForExtra (PW [.ref h0] g cy [(h0, .inr (0, [.ref q1, .ref q2, .ref q3, .int ec, .int sn, .int dy, .int wg, .int pe, .int pn, .int br])), (q1, .inr (3, [.int (nI 14), .ref a1])), (a1, .inl (cy 0, 84, .inl ex)), (q2, .inr (3, [.int (nI 10), .ref a2])), (a2, .inl (cy 0, 60, .inl sc)), (q3, .inr (3, [.int (nI 1), .ref a3])), (a3, .inl (cy 0, 3, .inl se))]) (QRi res) 0 0 nF := by
  refine m_ofV (cc := cX0_hasRoomForExtra) (nL := 1) (ret := (some .boolean)) (B := fun _ => True) RX0 rfl (by decide) rfl [(0, .ref h0)] rfl (Nat.le_of_ble_eq_true rfl) (fun h => h) ?_
  intro p e s m args below meth c hC hr
  unfold pX0_hasRoomForExtra at h
  refine v_aload_n hC dX0_hasRoomForExtra_0 rfl 0 rfl rfl ?_
  refine v_get hC iX0_hasRoomForExtra_X0 0 rfl rfl 3 (by decide) kX0_hasRoomForExtra_37 rfl rfl dX0_hasRoomForExtra_1 rfl ?_
  refine v_bipush hC (v := (nI 14)) dX0_hasRoomForExtra_4 (by decide) rfl ?_
  refine v_icmp_ge hC (tgt := 13) dX0_hasRoomForExtra_6 (by decide) rfl (fun c => ?_) (fun c => ?_)
  · have h := ite_t c h
    refine v_iconst hC (v := (nI 0)) dX0_hasRoomForExtra_13 (by decide) rfl ?_
    exact v_sub [] (lv' := []) rfl (bX0_hasRoomForExtra_14 hC hr _ _ _ _ _ _ _ _ _ _ _ h)
  · have h := ite_f c h
    refine v_iconst hC (v := (nI 1)) dX0_hasRoomForExtra_9 (by decide) rfl ?_
    refine v_goto hC (tgt := 14) dX0_hasRoomForExtra_10 (by decide) ?_
    exact v_sub [] (lv' := []) rfl (bX0_hasRoomForExtra_14 hC hr _ _ _ _ _ _ _ _ _ _ _ h)
theorem kX0_hasRoomForScene_41 : Cond.fieldLink RX0 41 "CrowdFaces$Film" "sceneCount" "I" ∈ wsX0_hasRoomForScene := by decide +kernel
theorem iX0_hasRoomForScene_X0 : ∀ w ∈ wsX00, w ∈ wsX0_hasRoomForScene := by decide +kernel
def pX0_hasRoomForScene_14 (sn : Int32) (s0 : Int32) : Option (Int32) := bz s0
def pX0_hasRoomForScene (sn : Int32) : Option (Int32) := if (nI 10) ≤ sn then pX0_hasRoomForScene_14 sn (nI 0) else pX0_hasRoomForScene_14 sn (nI 1)
abbrev rmX0_hasRoomForScene : Room := { frames := 0, cells := 0, slots := 0, locals := 0 }
set_option maxHeartbeats 4000000 in
set_option maxRecDepth 100000 in
theorem bX0_hasRoomForScene_14 {p : Program} {l : Launch} {e : Env} {s : State} {m : MethodId} {args : Array Value} {below : List Frame} {meth : Method} {c : Code} {g : va_G} {cy : Nat → ClassId} (hC : CX p s m args meth c g cy 1 cX0_hasRoomForScene wsX0_hasRoomForScene RX0) (hr : meth.sig.returnType = (some .boolean)) {h0 q1 a1 q2 a2 q3 a3 : Nat} {res : Int32} : ∀ (ec : Int32) (sn : Int32) (dy : Int32) (wg : Int32) (pe : Int32) (pn : Int32) (br : Int32) (ex : Nat → Int32) (sc : Nat → Int32) (se : Nat → Int32) (s0 : Int32)(h : pX0_hasRoomForScene_14 sn s0 = some res), V p l e (headSpec wsX0_hasRoomForScene rmX0_hasRoomForScene).room s m args below meth c g 1 0 0 (MQ below (QRi res) args s 0 0 nF) nF (fun _ => True) [(h0, .inr (0, [.ref q1, .ref q2, .ref q3, .int ec, .int sn, .int dy, .int wg, .int pe, .int pn, .int br])), (q1, .inr (3, [.int (nI 14), .ref a1])), (a1, .inl (cy 0, 84, .inl ex)), (q2, .inr (3, [.int (nI 10), .ref a2])), (a2, .inl (cy 0, 60, .inl sc)), (q3, .inr (3, [.int (nI 1), .ref a3])), (a3, .inl (cy 0, 3, .inl se))] 14 [] [.int s0] := by
  intro ec sn dy wg pe pn br ex sc se s0 h
  unfold pX0_hasRoomForScene_14 at h
  obtain ⟨e9, hn⟩ := bz_g h
  exact v_irt hC hr hn e9 dX0_hasRoomForScene_14
set_option maxHeartbeats 4000000 in
set_option maxRecDepth 100000 in
theorem mX0_hasRoomForScene (l : Launch) (g : va_G) (cy : Nat → ClassId) (h0 q1 a1 q2 a2 q3 a3 : Nat) (ec : Int32) (sn : Int32) (dy : Int32) (wg : Int32) (pe : Int32) (pn : Int32) (br : Int32) (ex : Nat → Int32) (sc : Nat → Int32) (se : Nat → Int32)  {res : Int32} (h : pX0_hasRoomForScene sn = some res) : Met l yX0_hasRoomForScene wsX0_hasRoomForScene rmX0_hasRoomForScene (PW [.ref h0] g cy [(h0, .inr (0, [.ref q1, .ref q2, .ref q3, .int ec, .int sn, .int dy, .int wg, .int pe, .int pn, .int br])), (q1, .inr (3, [.int (nI 14), .ref a1])), (a1, .inl (cy 0, 84, .inl ex)), (q2, .inr (3, [.int (nI 10), .ref a2])), (a2, .inl (cy 0, 60, .inl sc)), (q3, .inr (3, [.int (nI 1), .ref a3])), (a3, .inl (cy 0, 3, .inl se))]) (QRi res) 0 0 nF := by
  refine m_ofV (cc := cX0_hasRoomForScene) (nL := 1) (ret := (some .boolean)) (B := fun _ => True) RX0 rfl (by decide) rfl [(0, .ref h0)] rfl (Nat.le_of_ble_eq_true rfl) (fun h => h) ?_
  intro p e s m args below meth c hC hr
  unfold pX0_hasRoomForScene at h
  refine v_aload_n hC dX0_hasRoomForScene_0 rfl 0 rfl rfl ?_
  refine v_get hC iX0_hasRoomForScene_X0 0 rfl rfl 4 (by decide) kX0_hasRoomForScene_41 rfl rfl dX0_hasRoomForScene_1 rfl ?_
  refine v_bipush hC (v := (nI 10)) dX0_hasRoomForScene_4 (by decide) rfl ?_
  refine v_icmp_ge hC (tgt := 13) dX0_hasRoomForScene_6 (by decide) rfl (fun c => ?_) (fun c => ?_)
  · have h := ite_t c h
    refine v_iconst hC (v := (nI 0)) dX0_hasRoomForScene_13 (by decide) rfl ?_
    exact v_sub [] (lv' := []) rfl (bX0_hasRoomForScene_14 hC hr _ _ _ _ _ _ _ _ _ _ _ h)
  · have h := ite_f c h
    refine v_iconst hC (v := (nI 1)) dX0_hasRoomForScene_9 (by decide) rfl ?_
    refine v_goto hC (tgt := 14) dX0_hasRoomForScene_10 (by decide) ?_
    exact v_sub [] (lv' := []) rfl (bX0_hasRoomForScene_14 hC hr _ _ _ _ _ _ _ _ _ _ _ h)
theorem kX0_valueOf_23 : Cond.fieldLink RX0 23 "CrowdFaces$Film" "settings" "LCrowdFaces$Table;" ∈ wsX0_valueOf := by decide +kernel
theorem iX0_valueOf_X0 : ∀ w ∈ wsX00, w ∈ wsX0_valueOf := by decide +kernel
def pX0_valueOf (se : Nat → Int32) (x1 : Int32) : Option (Int32) := (pX5_get (nI 1) 3 se x1 (nI 0)).bind fun v1 => some v1
abbrev rmX0_valueOf : Room := { frames := 1, cells := 0, slots := 0, locals := 23 }
set_option maxHeartbeats 4000000 in
set_option maxRecDepth 100000 in
theorem mX0_valueOf (l : Launch) (g : va_G) (cy : Nat → ClassId) (h0 q1 a1 q2 a2 q3 a3 : Nat) (ec : Int32) (sn : Int32) (dy : Int32) (wg : Int32) (pe : Int32) (pn : Int32) (br : Int32) (ex : Nat → Int32) (sc : Nat → Int32) (se : Nat → Int32) (x1 : Int32) {res : Int32} (h : pX0_valueOf se x1 = some res) : Met l yX0_valueOf wsX0_valueOf rmX0_valueOf (PW [.ref h0, .int x1] g cy [(h0, .inr (0, [.ref q1, .ref q2, .ref q3, .int ec, .int sn, .int dy, .int wg, .int pe, .int pn, .int br])), (q1, .inr (3, [.int (nI 14), .ref a1])), (a1, .inl (cy 0, 84, .inl ex)), (q2, .inr (3, [.int (nI 10), .ref a2])), (a2, .inl (cy 0, 60, .inl sc)), (q3, .inr (3, [.int (nI 1), .ref a3])), (a3, .inl (cy 0, 3, .inl se))]) (QRi res) 0 0 nF := by
  refine m_ofV (cc := cX0_valueOf) (nL := 2) (ret := (some .int)) (B := fun _ => True) RX0 rfl (by decide) rfl [(0, .ref h0), (1, .int x1)] rfl (Nat.le_of_ble_eq_true rfl) (fun h => h) ?_
  intro p e s m args below meth c hC hr
  unfold pX0_valueOf at h
  refine v_aload_n hC dX0_valueOf_0 rfl 0 rfl rfl ?_
  refine v_get hC iX0_valueOf_X0 0 rfl rfl 2 (by decide) kX0_valueOf_23 rfl rfl dX0_valueOf_1 rfl ?_
  refine v_iload_n hC dX0_valueOf_4 rfl 1 rfl rfl ?_
  refine v_iconst hC (v := (nI 0)) dX0_valueOf_5 (by decide) rfl ?_
  obtain ⟨v1, hv1, h⟩ := bind_g h
  refine v_callVri hC (n := 2) (st := []) (mX5_get l g cy q3 a3 (nI 1) 3 se x1 (nI 0) hv1) gX0_valueOf_X5_get rfl rfl rfl (by decide +kernel) ⟨Nat.le_of_ble_eq_true rfl, Nat.le_of_ble_eq_true rfl⟩ 5 rfl rfl [5, 6] rfl rfl rfl rfl (Nat.le_of_ble_eq_true rfl) rfl ⟨Nat.zero_le _, Nat.zero_le _⟩ dX0_valueOf_6 rfl ?_
  obtain rfl := Option.some.inj h
  exact v_irt hC hr rfl rfl dX0_valueOf_9
theorem kX0_crowdOf_20 : Cond.fieldLink RX0 20 "CrowdFaces$Film" "scenes" "LCrowdFaces$Table;" ∈ wsX0_crowdOf := by decide +kernel
theorem iX0_crowdOf_X0 : ∀ w ∈ wsX00, w ∈ wsX0_crowdOf := by decide +kernel
def pX0_crowdOf (sc : Nat → Int32) (x1 : Int32) : Option (Int32) := (pX5_get (nI 10) 60 sc (nI 5) x1).bind fun v1 => some v1
abbrev rmX0_crowdOf : Room := { frames := 1, cells := 0, slots := 0, locals := 23 }
set_option maxHeartbeats 4000000 in
set_option maxRecDepth 100000 in
theorem mX0_crowdOf (l : Launch) (g : va_G) (cy : Nat → ClassId) (h0 q1 a1 q2 a2 q3 a3 : Nat) (ec : Int32) (sn : Int32) (dy : Int32) (wg : Int32) (pe : Int32) (pn : Int32) (br : Int32) (ex : Nat → Int32) (sc : Nat → Int32) (se : Nat → Int32) (x1 : Int32) {res : Int32} (h : pX0_crowdOf sc x1 = some res) : Met l yX0_crowdOf wsX0_crowdOf rmX0_crowdOf (PW [.ref h0, .int x1] g cy [(h0, .inr (0, [.ref q1, .ref q2, .ref q3, .int ec, .int sn, .int dy, .int wg, .int pe, .int pn, .int br])), (q1, .inr (3, [.int (nI 14), .ref a1])), (a1, .inl (cy 0, 84, .inl ex)), (q2, .inr (3, [.int (nI 10), .ref a2])), (a2, .inl (cy 0, 60, .inl sc)), (q3, .inr (3, [.int (nI 1), .ref a3])), (a3, .inl (cy 0, 3, .inl se))]) (QRi res) 0 0 nF := by
  refine m_ofV (cc := cX0_crowdOf) (nL := 2) (ret := (some .int)) (B := fun _ => True) RX0 rfl (by decide) rfl [(0, .ref h0), (1, .int x1)] rfl (Nat.le_of_ble_eq_true rfl) (fun h => h) ?_
  intro p e s m args below meth c hC hr
  unfold pX0_crowdOf at h
  refine v_aload_n hC dX0_crowdOf_0 rfl 0 rfl rfl ?_
  refine v_get hC iX0_crowdOf_X0 0 rfl rfl 1 (by decide) kX0_crowdOf_20 rfl rfl dX0_crowdOf_1 rfl ?_
  refine v_iconst hC (v := (nI 5)) dX0_crowdOf_4 (by decide) rfl ?_
  refine v_iload_n hC dX0_crowdOf_5 rfl 1 rfl rfl ?_
  obtain ⟨v1, hv1, h⟩ := bind_g h
  refine v_callVri hC (n := 2) (st := []) (mX5_get l g cy q2 a2 (nI 10) 60 sc (nI 5) x1 hv1) gX0_crowdOf_X5_get rfl rfl rfl (by decide +kernel) ⟨Nat.le_of_ble_eq_true rfl, Nat.le_of_ble_eq_true rfl⟩ 3 rfl rfl [3, 4] rfl rfl rfl rfl (Nat.le_of_ble_eq_true rfl) rfl ⟨Nat.zero_le _, Nat.zero_le _⟩ dX0_crowdOf_6 rfl ?_
  obtain rfl := Option.some.inj h
  exact v_irt hC hr rfl rfl dX0_crowdOf_9
theorem kX0_hasWorked_14 : Cond.fieldLink RX0 14 "CrowdFaces$Film" "extras" "LCrowdFaces$Table;" ∈ wsX0_hasWorked := by decide +kernel
theorem iX0_hasWorked_X0 : ∀ w ∈ wsX00, w ∈ wsX0_hasWorked := by decide +kernel
def pX0_hasWorked_17 (ex : Nat → Int32) (s0 : Int32) : Option (Int32) := bz s0
def pX0_hasWorked (ex : Nat → Int32) (x1 : Int32) : Option (Int32) := (pX5_get (nI 14) 84 ex (nI 2) x1).bind fun v1 => if v1 ≤ 0 then pX0_hasWorked_17 ex (nI 0) else pX0_hasWorked_17 ex (nI 1)
abbrev rmX0_hasWorked : Room := { frames := 1, cells := 0, slots := 0, locals := 23 }
set_option maxHeartbeats 4000000 in
set_option maxRecDepth 100000 in
theorem bX0_hasWorked_17 {p : Program} {l : Launch} {e : Env} {s : State} {m : MethodId} {args : Array Value} {below : List Frame} {meth : Method} {c : Code} {g : va_G} {cy : Nat → ClassId} (hC : CX p s m args meth c g cy 2 cX0_hasWorked wsX0_hasWorked RX0) (hr : meth.sig.returnType = (some .boolean)) {h0 q1 a1 q2 a2 q3 a3 : Nat} {res : Int32} : ∀ (ec : Int32) (sn : Int32) (dy : Int32) (wg : Int32) (pe : Int32) (pn : Int32) (br : Int32) (ex : Nat → Int32) (sc : Nat → Int32) (se : Nat → Int32) (s0 : Int32)(h : pX0_hasWorked_17 ex s0 = some res), V p l e (headSpec wsX0_hasWorked rmX0_hasWorked).room s m args below meth c g 2 0 0 (MQ below (QRi res) args s 0 0 nF) nF (fun _ => True) [(h0, .inr (0, [.ref q1, .ref q2, .ref q3, .int ec, .int sn, .int dy, .int wg, .int pe, .int pn, .int br])), (q1, .inr (3, [.int (nI 14), .ref a1])), (a1, .inl (cy 0, 84, .inl ex)), (q2, .inr (3, [.int (nI 10), .ref a2])), (a2, .inl (cy 0, 60, .inl sc)), (q3, .inr (3, [.int (nI 1), .ref a3])), (a3, .inl (cy 0, 3, .inl se))] 17 [] [.int s0] := by
  intro ec sn dy wg pe pn br ex sc se s0 h
  unfold pX0_hasWorked_17 at h
  obtain ⟨e9, hn⟩ := bz_g h
  exact v_irt hC hr hn e9 dX0_hasWorked_17
set_option maxHeartbeats 4000000 in
set_option maxRecDepth 100000 in
theorem mX0_hasWorked (l : Launch) (g : va_G) (cy : Nat → ClassId) (h0 q1 a1 q2 a2 q3 a3 : Nat) (ec : Int32) (sn : Int32) (dy : Int32) (wg : Int32) (pe : Int32) (pn : Int32) (br : Int32) (ex : Nat → Int32) (sc : Nat → Int32) (se : Nat → Int32) (x1 : Int32) {res : Int32} (h : pX0_hasWorked ex x1 = some res) : Met l yX0_hasWorked wsX0_hasWorked rmX0_hasWorked (PW [.ref h0, .int x1] g cy [(h0, .inr (0, [.ref q1, .ref q2, .ref q3, .int ec, .int sn, .int dy, .int wg, .int pe, .int pn, .int br])), (q1, .inr (3, [.int (nI 14), .ref a1])), (a1, .inl (cy 0, 84, .inl ex)), (q2, .inr (3, [.int (nI 10), .ref a2])), (a2, .inl (cy 0, 60, .inl sc)), (q3, .inr (3, [.int (nI 1), .ref a3])), (a3, .inl (cy 0, 3, .inl se))]) (QRi res) 0 0 nF := by
  refine m_ofV (cc := cX0_hasWorked) (nL := 2) (ret := (some .boolean)) (B := fun _ => True) RX0 rfl (by decide) rfl [(0, .ref h0), (1, .int x1)] rfl (Nat.le_of_ble_eq_true rfl) (fun h => h) ?_
  intro p e s m args below meth c hC hr
  unfold pX0_hasWorked at h
  refine v_aload_n hC dX0_hasWorked_0 rfl 0 rfl rfl ?_
  refine v_get hC iX0_hasWorked_X0 0 rfl rfl 0 (by decide) kX0_hasWorked_14 rfl rfl dX0_hasWorked_1 rfl ?_
  refine v_iconst hC (v := (nI 2)) dX0_hasWorked_4 (by decide) rfl ?_
  refine v_iload_n hC dX0_hasWorked_5 rfl 1 rfl rfl ?_
  obtain ⟨v1, hv1, h⟩ := bind_g h
  refine v_callVri hC (n := 2) (st := []) (mX5_get l g cy q1 a1 (nI 14) 84 ex (nI 2) x1 hv1) gX0_hasWorked_X5_get rfl rfl rfl (by decide +kernel) ⟨Nat.le_of_ble_eq_true rfl, Nat.le_of_ble_eq_true rfl⟩ 1 rfl rfl [1, 2] rfl rfl rfl rfl (Nat.le_of_ble_eq_true rfl) rfl ⟨Nat.zero_le _, Nat.zero_le _⟩ dX0_hasWorked_6 rfl ?_
  refine v_if_le hC (tgt := 16) dX0_hasWorked_9 (by decide) rfl (fun c => ?_) (fun c => ?_)
  · have h := ite_t c h
    refine v_iconst hC (v := (nI 0)) dX0_hasWorked_16 (by decide) rfl ?_
    exact v_sub [] (lv' := []) rfl (bX0_hasWorked_17 hC hr _ _ _ _ _ _ _ _ _ _ _ h)
  · have h := ite_f c h
    refine v_iconst hC (v := (nI 1)) dX0_hasWorked_12 (by decide) rfl ?_
    refine v_goto hC (tgt := 17) dX0_hasWorked_13 (by decide) ?_
    exact v_sub [] (lv' := []) rfl (bX0_hasWorked_17 hC hr _ _ _ _ _ _ _ _ _ _ _ h)
theorem kX0_allPenalties_53 : Cond.fieldLink RX0 53 "CrowdFaces$Film" "penalties" "I" ∈ wsX0_allPenalties := by decide +kernel
theorem iX0_allPenalties_X0 : ∀ w ∈ wsX00, w ∈ wsX0_allPenalties := by decide +kernel
def pX0_allPenalties (pn : Int32) : Option (Int32) := some pn
abbrev rmX0_allPenalties : Room := { frames := 0, cells := 0, slots := 0, locals := 0 }
set_option maxHeartbeats 4000000 in
set_option maxRecDepth 100000 in
theorem mX0_allPenalties (l : Launch) (g : va_G) (cy : Nat → ClassId) (h0 q1 a1 q2 a2 q3 a3 : Nat) (ec : Int32) (sn : Int32) (dy : Int32) (wg : Int32) (pe : Int32) (pn : Int32) (br : Int32) (ex : Nat → Int32) (sc : Nat → Int32) (se : Nat → Int32)  {res : Int32} (h : pX0_allPenalties pn = some res) : Met l yX0_allPenalties wsX0_allPenalties rmX0_allPenalties (PW [.ref h0] g cy [(h0, .inr (0, [.ref q1, .ref q2, .ref q3, .int ec, .int sn, .int dy, .int wg, .int pe, .int pn, .int br])), (q1, .inr (3, [.int (nI 14), .ref a1])), (a1, .inl (cy 0, 84, .inl ex)), (q2, .inr (3, [.int (nI 10), .ref a2])), (a2, .inl (cy 0, 60, .inl sc)), (q3, .inr (3, [.int (nI 1), .ref a3])), (a3, .inl (cy 0, 3, .inl se))]) (QRi res) 0 0 nF := by
  refine m_ofV (cc := cX0_allPenalties) (nL := 1) (ret := (some .int)) (B := fun _ => True) RX0 rfl (by decide) rfl [(0, .ref h0)] rfl (Nat.le_of_ble_eq_true rfl) (fun h => h) ?_
  intro p e s m args below meth c hC hr
  unfold pX0_allPenalties at h
  refine v_aload_n hC dX0_allPenalties_0 rfl 0 rfl rfl ?_
  refine v_get hC iX0_allPenalties_X0 0 rfl rfl 8 (by decide) kX0_allPenalties_53 rfl rfl dX0_allPenalties_1 rfl ?_
  obtain rfl := Option.some.inj h
  exact v_irt hC hr rfl rfl dX0_allPenalties_4
theorem kX0_allBreaks_56 : Cond.fieldLink RX0 56 "CrowdFaces$Film" "breaks" "I" ∈ wsX0_allBreaks := by decide +kernel
theorem iX0_allBreaks_X0 : ∀ w ∈ wsX00, w ∈ wsX0_allBreaks := by decide +kernel
def pX0_allBreaks (br : Int32) : Option (Int32) := some br
abbrev rmX0_allBreaks : Room := { frames := 0, cells := 0, slots := 0, locals := 0 }
set_option maxHeartbeats 4000000 in
set_option maxRecDepth 100000 in
theorem mX0_allBreaks (l : Launch) (g : va_G) (cy : Nat → ClassId) (h0 q1 a1 q2 a2 q3 a3 : Nat) (ec : Int32) (sn : Int32) (dy : Int32) (wg : Int32) (pe : Int32) (pn : Int32) (br : Int32) (ex : Nat → Int32) (sc : Nat → Int32) (se : Nat → Int32)  {res : Int32} (h : pX0_allBreaks br = some res) : Met l yX0_allBreaks wsX0_allBreaks rmX0_allBreaks (PW [.ref h0] g cy [(h0, .inr (0, [.ref q1, .ref q2, .ref q3, .int ec, .int sn, .int dy, .int wg, .int pe, .int pn, .int br])), (q1, .inr (3, [.int (nI 14), .ref a1])), (a1, .inl (cy 0, 84, .inl ex)), (q2, .inr (3, [.int (nI 10), .ref a2])), (a2, .inl (cy 0, 60, .inl sc)), (q3, .inr (3, [.int (nI 1), .ref a3])), (a3, .inl (cy 0, 3, .inl se))]) (QRi res) 0 0 nF := by
  refine m_ofV (cc := cX0_allBreaks) (nL := 1) (ret := (some .int)) (B := fun _ => True) RX0 rfl (by decide) rfl [(0, .ref h0)] rfl (Nat.le_of_ble_eq_true rfl) (fun h => h) ?_
  intro p e s m args below meth c hC hr
  unfold pX0_allBreaks at h
  refine v_aload_n hC dX0_allBreaks_0 rfl 0 rfl rfl ?_
  refine v_get hC iX0_allBreaks_X0 0 rfl rfl 9 (by decide) kX0_allBreaks_56 rfl rfl dX0_allBreaks_1 rfl ?_
  obtain rfl := Option.some.inj h
  exact v_irt hC hr rfl rfl dX0_allBreaks_4
theorem kX0_allCosts_47 : Cond.fieldLink RX0 47 "CrowdFaces$Film" "wages" "I" ∈ wsX0_allCosts := by decide +kernel
theorem kX0_allCosts_50 : Cond.fieldLink RX0 50 "CrowdFaces$Film" "penaltyCosts" "I" ∈ wsX0_allCosts := by decide +kernel
theorem iX0_allCosts_X0 : ∀ w ∈ wsX00, w ∈ wsX0_allCosts := by decide +kernel
def pX0_allCosts (wg : Int32) (pe : Int32) : Option (Int32) := some (wg + pe)
abbrev rmX0_allCosts : Room := { frames := 0, cells := 0, slots := 0, locals := 0 }
set_option maxHeartbeats 4000000 in
set_option maxRecDepth 100000 in
theorem mX0_allCosts (l : Launch) (g : va_G) (cy : Nat → ClassId) (h0 q1 a1 q2 a2 q3 a3 : Nat) (ec : Int32) (sn : Int32) (dy : Int32) (wg : Int32) (pe : Int32) (pn : Int32) (br : Int32) (ex : Nat → Int32) (sc : Nat → Int32) (se : Nat → Int32)  {res : Int32} (h : pX0_allCosts wg pe = some res) : Met l yX0_allCosts wsX0_allCosts rmX0_allCosts (PW [.ref h0] g cy [(h0, .inr (0, [.ref q1, .ref q2, .ref q3, .int ec, .int sn, .int dy, .int wg, .int pe, .int pn, .int br])), (q1, .inr (3, [.int (nI 14), .ref a1])), (a1, .inl (cy 0, 84, .inl ex)), (q2, .inr (3, [.int (nI 10), .ref a2])), (a2, .inl (cy 0, 60, .inl sc)), (q3, .inr (3, [.int (nI 1), .ref a3])), (a3, .inl (cy 0, 3, .inl se))]) (QRi res) 0 0 nF := by
  refine m_ofV (cc := cX0_allCosts) (nL := 1) (ret := (some .int)) (B := fun _ => True) RX0 rfl (by decide) rfl [(0, .ref h0)] rfl (Nat.le_of_ble_eq_true rfl) (fun h => h) ?_
  intro p e s m args below meth c hC hr
  unfold pX0_allCosts at h
  refine v_aload_n hC dX0_allCosts_0 rfl 0 rfl rfl ?_
  refine v_get hC iX0_allCosts_X0 0 rfl rfl 6 (by decide) kX0_allCosts_47 rfl rfl dX0_allCosts_1 rfl ?_
  refine v_aload_n hC dX0_allCosts_4 rfl 0 rfl rfl ?_
  refine v_get hC iX0_allCosts_X0 0 rfl rfl 7 (by decide) kX0_allCosts_50 rfl rfl dX0_allCosts_5 rfl ?_
  refine v_iadd hC dX0_allCosts_8 rfl ?_
  obtain rfl := Option.some.inj h
  exact v_irt hC hr rfl rfl dX0_allCosts_9
theorem kX0_shotScenes_41 : Cond.fieldLink RX0 41 "CrowdFaces$Film" "sceneCount" "I" ∈ wsX0_shotScenes := by decide +kernel
theorem iX0_shotScenes_X0 : ∀ w ∈ wsX00, w ∈ wsX0_shotScenes := by decide +kernel
def pX0_shotScenes_23 (kk : Int32 → (Nat → Int32) → Int32 → Int32 → Option (Int32)) (sn : Int32) (sc : Nat → Int32) (y1 : Int32) (y2 : Int32) : Option (Int32) := kk sn sc y1 (y2 + (nI 1))
def pX0_shotScenes_4 : Nat → Int32 → (Nat → Int32) → Int32 → Int32 → Option (Int32)
  | 0, _, _, _, _ => none
  | k + 1, sn, sc, y1, y2 => if sn ≤ y2 then some y1 else (pX0_crowdOf sc y2).bind fun v1 => if v1 = 0 then pX0_shotScenes_23 (fun u0 u1 u2 u3 => pX0_shotScenes_4 k u0 u1 u2 u3) sn sc y1 y2 else pX0_shotScenes_23 (fun u0 u1 u2 u3 => pX0_shotScenes_4 k u0 u1 u2 u3) sn sc (y1 + (nI 1)) y2
theorem pX0_shotScenes_4_s {k : Nat} (sn : Int32) (sc : Nat → Int32) (y1 : Int32) (y2 : Int32) : pX0_shotScenes_4 (k + 1) sn sc y1 y2 = if sn ≤ y2 then some y1 else (pX0_crowdOf sc y2).bind fun v1 => if v1 = 0 then pX0_shotScenes_23 (fun u0 u1 u2 u3 => pX0_shotScenes_4 k u0 u1 u2 u3) sn sc y1 y2 else pX0_shotScenes_23 (fun u0 u1 u2 u3 => pX0_shotScenes_4 k u0 u1 u2 u3) sn sc (y1 + (nI 1)) y2 := rfl
def pX0_shotScenes (sn : Int32) (sc : Nat → Int32) : Option (Int32) := pX0_shotScenes_4 FU sn sc (nI 0) (nI 0)
abbrev rmX0_shotScenes : Room := { frames := 2, cells := 0, slots := 0, locals := 44 }
set_option maxHeartbeats 4000000 in
set_option maxRecDepth 100000 in
theorem bX0_shotScenes_23 {p : Program} {l : Launch} {e : Env} {s : State} {m : MethodId} {args : Array Value} {below : List Frame} {meth : Method} {c : Code} {g : va_G} {cy : Nat → ClassId} (hC : CX p s m args meth c g cy 3 cX0_shotScenes wsX0_shotScenes RX0) (hr : meth.sig.returnType = (some .int)) {h0 q1 a1 q2 a2 q3 a3 : Nat} {res : Int32} : ∀ (ec : Int32) (sn : Int32) (dy : Int32) (wg : Int32) (pe : Int32) (pn : Int32) (br : Int32) (ex : Nat → Int32) (sc : Nat → Int32) (se : Nat → Int32) (y1 : Int32) (y2 : Int32) {kk : Int32 → (Nat → Int32) → Int32 → Int32 → Option (Int32)} (hk : ∀ (ec : Int32) (sn : Int32) (dy : Int32) (wg : Int32) (pe : Int32) (pn : Int32) (br : Int32) (ex : Nat → Int32) (sc : Nat → Int32) (se : Nat → Int32) (y1 : Int32) (y2 : Int32), kk sn sc y1 y2 = some res → V p l e (headSpec wsX0_shotScenes rmX0_shotScenes).room s m args below meth c g 3 0 0 (MQ below (QRi res) args s 0 0 nF) nF (fun _ => True) [(h0, .inr (0, [.ref q1, .ref q2, .ref q3, .int ec, .int sn, .int dy, .int wg, .int pe, .int pn, .int br])), (q1, .inr (3, [.int (nI 14), .ref a1])), (a1, .inl (cy 0, 84, .inl ex)), (q2, .inr (3, [.int (nI 10), .ref a2])), (a2, .inl (cy 0, 60, .inl sc)), (q3, .inr (3, [.int (nI 1), .ref a3])), (a3, .inl (cy 0, 3, .inl se))] 4 [(0, .ref h0), (1, .int y1), (2, .int y2)] []) (h : pX0_shotScenes_23 kk sn sc y1 y2 = some res), V p l e (headSpec wsX0_shotScenes rmX0_shotScenes).room s m args below meth c g 3 0 0 (MQ below (QRi res) args s 0 0 nF) nF (fun _ => True) [(h0, .inr (0, [.ref q1, .ref q2, .ref q3, .int ec, .int sn, .int dy, .int wg, .int pe, .int pn, .int br])), (q1, .inr (3, [.int (nI 14), .ref a1])), (a1, .inl (cy 0, 84, .inl ex)), (q2, .inr (3, [.int (nI 10), .ref a2])), (a2, .inl (cy 0, 60, .inl sc)), (q3, .inr (3, [.int (nI 1), .ref a3])), (a3, .inl (cy 0, 3, .inl se))] 23 [(0, .ref h0), (1, .int y1), (2, .int y2)] [] := by
  intro ec sn dy wg pe pn br ex sc se y1 y2 kk hk h
  unfold pX0_shotScenes_23 at h
  refine v_iinc hC dX0_shotScenes_23 2 rfl (v := (y2 + (nI 1))) rfl (by decide) [(2, .int (y2 + (nI 1))), (0, .ref h0), (1, .int y1)] rfl rfl ?_
  refine v_goto hC (tgt := 4) dX0_shotScenes_26 (by decide) ?_
  exact v_sub [1, 2, 0] (lv' := [(0, .ref h0), (1, .int y1), (2, .int (y2 + (nI 1)))]) rfl (hk _ _ _ _ _ _ _ _ _ _ _ _ h)
set_option maxHeartbeats 4000000 in
set_option maxRecDepth 100000 in
theorem bX0_shotScenes_4 {p : Program} {l : Launch} {e : Env} {s : State} {m : MethodId} {args : Array Value} {below : List Frame} {meth : Method} {c : Code} {g : va_G} {cy : Nat → ClassId} (hC : CX p s m args meth c g cy 3 cX0_shotScenes wsX0_shotScenes RX0) (hr : meth.sig.returnType = (some .int)) {h0 q1 a1 q2 a2 q3 a3 : Nat} {res : Int32} : ∀ (k : Nat) (ec : Int32) (sn : Int32) (dy : Int32) (wg : Int32) (pe : Int32) (pn : Int32) (br : Int32) (ex : Nat → Int32) (sc : Nat → Int32) (se : Nat → Int32) (y1 : Int32) (y2 : Int32) (h : pX0_shotScenes_4 k sn sc y1 y2 = some res), V p l e (headSpec wsX0_shotScenes rmX0_shotScenes).room s m args below meth c g 3 0 0 (MQ below (QRi res) args s 0 0 nF) nF (fun _ => True) [(h0, .inr (0, [.ref q1, .ref q2, .ref q3, .int ec, .int sn, .int dy, .int wg, .int pe, .int pn, .int br])), (q1, .inr (3, [.int (nI 14), .ref a1])), (a1, .inl (cy 0, 84, .inl ex)), (q2, .inr (3, [.int (nI 10), .ref a2])), (a2, .inl (cy 0, 60, .inl sc)), (q3, .inr (3, [.int (nI 1), .ref a3])), (a3, .inl (cy 0, 3, .inl se))] 4 [(0, .ref h0), (1, .int y1), (2, .int y2)] [] := by
  intro k
  induction k with
  | zero =>
    intro ec sn dy wg pe pn br ex sc se y1 y2 h
    have h : (none : Option _) = some res := h
    cases h
  | succ k ih =>
    intro ec sn dy wg pe pn br ex sc se y1 y2 h
    rw [pX0_shotScenes_4_s] at h
    refine v_iload_n hC dX0_shotScenes_4 rfl 2 rfl rfl ?_
    refine v_aload_n hC dX0_shotScenes_5 rfl 0 rfl rfl ?_
    refine v_get hC iX0_shotScenes_X0 0 rfl rfl 4 (by decide) kX0_shotScenes_41 rfl rfl dX0_shotScenes_6 rfl ?_
    refine v_icmp_ge hC (tgt := 29) dX0_shotScenes_9 (by decide) rfl (fun c => ?_) (fun c => ?_)
    · have h := ite_t c h
      refine v_iload_n hC dX0_shotScenes_29 rfl 1 rfl rfl ?_
      obtain rfl := Option.some.inj h
      exact v_irt hC hr rfl rfl dX0_shotScenes_30
    · have h := ite_f c h
      refine v_aload_n hC dX0_shotScenes_12 rfl 0 rfl rfl ?_
      refine v_iload_n hC dX0_shotScenes_13 rfl 2 rfl rfl ?_
      obtain ⟨v1, hv1, h⟩ := bind_g h
      refine v_callVri hC (n := 1) (st := []) (mX0_crowdOf l g cy h0 q1 a1 q2 a2 q3 a3 ec sn dy wg pe pn br ex sc se y2 hv1) gX0_shotScenes_X0_crowdOf rfl rfl rfl (by decide +kernel) ⟨Nat.le_of_ble_eq_true rfl, Nat.le_of_ble_eq_true rfl⟩ 0 rfl rfl [0, 1, 2, 3, 4, 5, 6] rfl rfl rfl rfl (Nat.le_of_ble_eq_true rfl) rfl ⟨Nat.zero_le _, Nat.zero_le _⟩ dX0_shotScenes_14 rfl ?_
      refine v_if_eq hC (tgt := 23) dX0_shotScenes_17 (by decide) rfl (fun c => ?_) (fun c => ?_)
      · have h := ite_t c h
        exact bX0_shotScenes_23 hC hr _ _ _ _ _ _ _ _ _ _ _ _ ih h
      · have h := ite_f c h
        refine v_iinc hC dX0_shotScenes_20 1 rfl (v := (y1 + (nI 1))) rfl (by decide) [(1, .int (y1 + (nI 1))), (0, .ref h0), (2, .int y2)] rfl rfl ?_
        exact v_sub [1, 0, 2] (lv' := [(0, .ref h0), (1, .int (y1 + (nI 1))), (2, .int y2)]) rfl (bX0_shotScenes_23 hC hr _ _ _ _ _ _ _ _ _ _ _ _ ih h)
set_option maxHeartbeats 4000000 in
set_option maxRecDepth 100000 in
theorem mX0_shotScenes (l : Launch) (g : va_G) (cy : Nat → ClassId) (h0 q1 a1 q2 a2 q3 a3 : Nat) (ec : Int32) (sn : Int32) (dy : Int32) (wg : Int32) (pe : Int32) (pn : Int32) (br : Int32) (ex : Nat → Int32) (sc : Nat → Int32) (se : Nat → Int32)  {res : Int32} (h : pX0_shotScenes sn sc = some res) : Met l yX0_shotScenes wsX0_shotScenes rmX0_shotScenes (PW [.ref h0] g cy [(h0, .inr (0, [.ref q1, .ref q2, .ref q3, .int ec, .int sn, .int dy, .int wg, .int pe, .int pn, .int br])), (q1, .inr (3, [.int (nI 14), .ref a1])), (a1, .inl (cy 0, 84, .inl ex)), (q2, .inr (3, [.int (nI 10), .ref a2])), (a2, .inl (cy 0, 60, .inl sc)), (q3, .inr (3, [.int (nI 1), .ref a3])), (a3, .inl (cy 0, 3, .inl se))]) (QRi res) 0 0 nF := by
  refine m_ofV (cc := cX0_shotScenes) (nL := 3) (ret := (some .int)) (B := fun _ => True) RX0 rfl (by decide) rfl [(0, .ref h0)] rfl (Nat.le_of_ble_eq_true rfl) (fun h => h) ?_
  intro p e s m args below meth c hC hr
  unfold pX0_shotScenes at h
  refine v_iconst hC (v := (nI 0)) dX0_shotScenes_0 (by decide) rfl ?_
  refine v_istore_n hC dX0_shotScenes_1 rfl (by decide) [(1, .int (nI 0)), (0, .ref h0)] rfl rfl ?_
  refine v_iconst hC (v := (nI 0)) dX0_shotScenes_2 (by decide) rfl ?_
  refine v_istore_n hC dX0_shotScenes_3 rfl (by decide) [(2, .int (nI 0)), (1, .int (nI 0)), (0, .ref h0)] rfl rfl ?_
  exact v_sub [2, 1, 0] (lv' := [(0, .ref h0), (1, .int (nI 0)), (2, .int (nI 0))]) rfl (bX0_shotScenes_4 hC hr FU _ _ _ _ _ _ _ _ _ _ _ _ h)
theorem kX0_facesOf_14 : Cond.fieldLink RX0 14 "CrowdFaces$Film" "extras" "LCrowdFaces$Table;" ∈ wsX0_facesOf := by decide +kernel
theorem kX0_facesOf_37 : Cond.fieldLink RX0 37 "CrowdFaces$Film" "extraCount" "I" ∈ wsX0_facesOf := by decide +kernel
theorem iX0_facesOf_X0 : ∀ w ∈ wsX00, w ∈ wsX0_facesOf := by decide +kernel
def pX0_facesOf_34 (kk : Int32 → (Nat → Int32) → Int32 → Int32 → Int32 → Option (Int32)) (ec : Int32) (ex : Nat → Int32) (y1 : Int32) (y2 : Int32) (y3 : Int32) : Option (Int32) := kk ec ex y1 y2 (y3 + (nI 1))
def pX0_facesOf_4 : Nat → Int32 → (Nat → Int32) → Int32 → Int32 → Int32 → Option (Int32)
  | 0, _, _, _, _, _ => none
  | k + 1, ec, ex, y1, y2, y3 => if ec ≤ y3 then some y2 else (pX7_has y1 y3).bind fun v1 => if v1 = 0 then pX0_facesOf_34 (fun u0 u1 u2 u3 u4 => pX0_facesOf_4 k u0 u1 u2 u3 u4) ec ex y1 y2 y3 else (pX5_get (nI 14) 84 ex (nI 1) y3).bind fun v2 => pX0_facesOf_34 (fun u0 u1 u2 u3 u4 => pX0_facesOf_4 k u0 u1 u2 u3 u4) ec ex y1 (y2 ||| ((nI 1) <<< (v2 &&& 31))) y3
theorem pX0_facesOf_4_s {k : Nat} (ec : Int32) (ex : Nat → Int32) (y1 : Int32) (y2 : Int32) (y3 : Int32) : pX0_facesOf_4 (k + 1) ec ex y1 y2 y3 = if ec ≤ y3 then some y2 else (pX7_has y1 y3).bind fun v1 => if v1 = 0 then pX0_facesOf_34 (fun u0 u1 u2 u3 u4 => pX0_facesOf_4 k u0 u1 u2 u3 u4) ec ex y1 y2 y3 else (pX5_get (nI 14) 84 ex (nI 1) y3).bind fun v2 => pX0_facesOf_34 (fun u0 u1 u2 u3 u4 => pX0_facesOf_4 k u0 u1 u2 u3 u4) ec ex y1 (y2 ||| ((nI 1) <<< (v2 &&& 31))) y3 := rfl
def pX0_facesOf (ec : Int32) (ex : Nat → Int32) (x1 : Int32) : Option (Int32) := pX0_facesOf_4 FU ec ex x1 (nI 0) (nI 0)
abbrev rmX0_facesOf : Room := { frames := 1, cells := 0, slots := 0, locals := 23 }
set_option maxHeartbeats 4000000 in
set_option maxRecDepth 100000 in
theorem bX0_facesOf_34 {p : Program} {l : Launch} {e : Env} {s : State} {m : MethodId} {args : Array Value} {below : List Frame} {meth : Method} {c : Code} {g : va_G} {cy : Nat → ClassId} (hC : CX p s m args meth c g cy 4 cX0_facesOf wsX0_facesOf RX0) (hr : meth.sig.returnType = (some .int)) {h0 q1 a1 q2 a2 q3 a3 : Nat} {res : Int32} : ∀ (ec : Int32) (sn : Int32) (dy : Int32) (wg : Int32) (pe : Int32) (pn : Int32) (br : Int32) (ex : Nat → Int32) (sc : Nat → Int32) (se : Nat → Int32) (y1 : Int32) (y2 : Int32) (y3 : Int32) {kk : Int32 → (Nat → Int32) → Int32 → Int32 → Int32 → Option (Int32)} (hk : ∀ (ec : Int32) (sn : Int32) (dy : Int32) (wg : Int32) (pe : Int32) (pn : Int32) (br : Int32) (ex : Nat → Int32) (sc : Nat → Int32) (se : Nat → Int32) (y1 : Int32) (y2 : Int32) (y3 : Int32), kk ec ex y1 y2 y3 = some res → V p l e (headSpec wsX0_facesOf rmX0_facesOf).room s m args below meth c g 4 0 0 (MQ below (QRi res) args s 0 0 nF) nF (fun _ => True) [(h0, .inr (0, [.ref q1, .ref q2, .ref q3, .int ec, .int sn, .int dy, .int wg, .int pe, .int pn, .int br])), (q1, .inr (3, [.int (nI 14), .ref a1])), (a1, .inl (cy 0, 84, .inl ex)), (q2, .inr (3, [.int (nI 10), .ref a2])), (a2, .inl (cy 0, 60, .inl sc)), (q3, .inr (3, [.int (nI 1), .ref a3])), (a3, .inl (cy 0, 3, .inl se))] 4 [(0, .ref h0), (1, .int y1), (2, .int y2), (3, .int y3)] []) (h : pX0_facesOf_34 kk ec ex y1 y2 y3 = some res), V p l e (headSpec wsX0_facesOf rmX0_facesOf).room s m args below meth c g 4 0 0 (MQ below (QRi res) args s 0 0 nF) nF (fun _ => True) [(h0, .inr (0, [.ref q1, .ref q2, .ref q3, .int ec, .int sn, .int dy, .int wg, .int pe, .int pn, .int br])), (q1, .inr (3, [.int (nI 14), .ref a1])), (a1, .inl (cy 0, 84, .inl ex)), (q2, .inr (3, [.int (nI 10), .ref a2])), (a2, .inl (cy 0, 60, .inl sc)), (q3, .inr (3, [.int (nI 1), .ref a3])), (a3, .inl (cy 0, 3, .inl se))] 34 [(0, .ref h0), (1, .int y1), (2, .int y2), (3, .int y3)] [] := by
  intro ec sn dy wg pe pn br ex sc se y1 y2 y3 kk hk h
  unfold pX0_facesOf_34 at h
  refine v_iinc hC dX0_facesOf_34 3 rfl (v := (y3 + (nI 1))) rfl (by decide) [(3, .int (y3 + (nI 1))), (0, .ref h0), (1, .int y1), (2, .int y2)] rfl rfl ?_
  refine v_goto hC (tgt := 4) dX0_facesOf_37 (by decide) ?_
  exact v_sub [1, 2, 3, 0] (lv' := [(0, .ref h0), (1, .int y1), (2, .int y2), (3, .int (y3 + (nI 1)))]) rfl (hk _ _ _ _ _ _ _ _ _ _ _ _ _ h)
set_option maxHeartbeats 4000000 in
set_option maxRecDepth 100000 in
theorem bX0_facesOf_4 {p : Program} {l : Launch} {e : Env} {s : State} {m : MethodId} {args : Array Value} {below : List Frame} {meth : Method} {c : Code} {g : va_G} {cy : Nat → ClassId} (hC : CX p s m args meth c g cy 4 cX0_facesOf wsX0_facesOf RX0) (hr : meth.sig.returnType = (some .int)) {h0 q1 a1 q2 a2 q3 a3 : Nat} {res : Int32} : ∀ (k : Nat) (ec : Int32) (sn : Int32) (dy : Int32) (wg : Int32) (pe : Int32) (pn : Int32) (br : Int32) (ex : Nat → Int32) (sc : Nat → Int32) (se : Nat → Int32) (y1 : Int32) (y2 : Int32) (y3 : Int32) (h : pX0_facesOf_4 k ec ex y1 y2 y3 = some res), V p l e (headSpec wsX0_facesOf rmX0_facesOf).room s m args below meth c g 4 0 0 (MQ below (QRi res) args s 0 0 nF) nF (fun _ => True) [(h0, .inr (0, [.ref q1, .ref q2, .ref q3, .int ec, .int sn, .int dy, .int wg, .int pe, .int pn, .int br])), (q1, .inr (3, [.int (nI 14), .ref a1])), (a1, .inl (cy 0, 84, .inl ex)), (q2, .inr (3, [.int (nI 10), .ref a2])), (a2, .inl (cy 0, 60, .inl sc)), (q3, .inr (3, [.int (nI 1), .ref a3])), (a3, .inl (cy 0, 3, .inl se))] 4 [(0, .ref h0), (1, .int y1), (2, .int y2), (3, .int y3)] [] := by
  intro k
  induction k with
  | zero =>
    intro ec sn dy wg pe pn br ex sc se y1 y2 y3 h
    have h : (none : Option _) = some res := h
    cases h
  | succ k ih =>
    intro ec sn dy wg pe pn br ex sc se y1 y2 y3 h
    rw [pX0_facesOf_4_s] at h
    refine v_iload_n hC dX0_facesOf_4 rfl 3 rfl rfl ?_
    refine v_aload_n hC dX0_facesOf_5 rfl 0 rfl rfl ?_
    refine v_get hC iX0_facesOf_X0 0 rfl rfl 3 (by decide) kX0_facesOf_37 rfl rfl dX0_facesOf_6 rfl ?_
    refine v_icmp_ge hC (tgt := 40) dX0_facesOf_9 (by decide) rfl (fun c => ?_) (fun c => ?_)
    · have h := ite_t c h
      refine v_iload_n hC dX0_facesOf_40 rfl 2 rfl rfl ?_
      obtain rfl := Option.some.inj h
      exact v_irt hC hr rfl rfl dX0_facesOf_41
    · have h := ite_f c h
      refine v_iload_n hC dX0_facesOf_12 rfl 1 rfl rfl ?_
      refine v_iload_n hC dX0_facesOf_13 rfl 3 rfl rfl ?_
      obtain ⟨v1, hv1, h⟩ := bind_g h
      refine v_callNri hC (n := 2) (st := []) (mX7_has l g cy y1 y3 hv1) gX0_facesOf_X7_has_n93 0 rfl ⟨by decide +kernel, by decide +kernel⟩ rfl rfl rfl (by decide +kernel) ⟨Nat.le_of_ble_eq_true rfl, Nat.le_of_ble_eq_true rfl⟩ [] rfl rfl rfl rfl (Nat.le_of_ble_eq_true rfl) rfl ⟨Nat.zero_le _, Nat.zero_le _⟩ dX0_facesOf_14 rfl ?_
      refine v_if_eq hC (tgt := 34) dX0_facesOf_17 (by decide) rfl (fun c => ?_) (fun c => ?_)
      · have h := ite_t c h
        exact bX0_facesOf_34 hC hr _ _ _ _ _ _ _ _ _ _ _ _ _ ih h
      · have h := ite_f c h
        refine v_iload_n hC dX0_facesOf_20 rfl 2 rfl rfl ?_
        refine v_iconst hC (v := (nI 1)) dX0_facesOf_21 (by decide) rfl ?_
        refine v_aload_n hC dX0_facesOf_22 rfl 0 rfl rfl ?_
        refine v_get hC iX0_facesOf_X0 0 rfl rfl 0 (by decide) kX0_facesOf_14 rfl rfl dX0_facesOf_23 rfl ?_
        refine v_iconst hC (v := (nI 1)) dX0_facesOf_26 (by decide) rfl ?_
        refine v_iload_n hC dX0_facesOf_27 rfl 3 rfl rfl ?_
        obtain ⟨v2, hv2, h⟩ := bind_g h
        refine v_callVri hC (n := 2) (st := [.int (nI 1), .int y2]) (mX5_get l g cy q1 a1 (nI 14) 84 ex (nI 1) y3 hv2) gX0_facesOf_X5_get rfl rfl rfl (by decide +kernel) ⟨Nat.le_of_ble_eq_true rfl, Nat.le_of_ble_eq_true rfl⟩ 1 rfl rfl [1, 2] rfl rfl rfl rfl (Nat.le_of_ble_eq_true rfl) rfl ⟨Nat.zero_le _, Nat.zero_le _⟩ dX0_facesOf_28 rfl ?_
        refine v_ishl hC dX0_facesOf_31 rfl ?_
        refine v_ior hC dX0_facesOf_32 rfl ?_
        refine v_istore_n hC dX0_facesOf_33 rfl (by decide) [(2, .int (y2 ||| ((nI 1) <<< (v2 &&& 31)))), (0, .ref h0), (1, .int y1), (3, .int y3)] rfl rfl ?_
        exact v_sub [1, 2, 0, 3] (lv' := [(0, .ref h0), (1, .int y1), (2, .int (y2 ||| ((nI 1) <<< (v2 &&& 31)))), (3, .int y3)]) rfl (bX0_facesOf_34 hC hr _ _ _ _ _ _ _ _ _ _ _ _ _ ih h)
set_option maxHeartbeats 4000000 in
set_option maxRecDepth 100000 in
theorem mX0_facesOf (l : Launch) (g : va_G) (cy : Nat → ClassId) (h0 q1 a1 q2 a2 q3 a3 : Nat) (ec : Int32) (sn : Int32) (dy : Int32) (wg : Int32) (pe : Int32) (pn : Int32) (br : Int32) (ex : Nat → Int32) (sc : Nat → Int32) (se : Nat → Int32) (x1 : Int32) {res : Int32} (h : pX0_facesOf ec ex x1 = some res) : Met l yX0_facesOf wsX0_facesOf rmX0_facesOf (PW [.ref h0, .int x1] g cy [(h0, .inr (0, [.ref q1, .ref q2, .ref q3, .int ec, .int sn, .int dy, .int wg, .int pe, .int pn, .int br])), (q1, .inr (3, [.int (nI 14), .ref a1])), (a1, .inl (cy 0, 84, .inl ex)), (q2, .inr (3, [.int (nI 10), .ref a2])), (a2, .inl (cy 0, 60, .inl sc)), (q3, .inr (3, [.int (nI 1), .ref a3])), (a3, .inl (cy 0, 3, .inl se))]) (QRi res) 0 0 nF := by
  refine m_ofV (cc := cX0_facesOf) (nL := 4) (ret := (some .int)) (B := fun _ => True) RX0 rfl (by decide) rfl [(0, .ref h0), (1, .int x1)] rfl (Nat.le_of_ble_eq_true rfl) (fun h => h) ?_
  intro p e s m args below meth c hC hr
  unfold pX0_facesOf at h
  refine v_iconst hC (v := (nI 0)) dX0_facesOf_0 (by decide) rfl ?_
  refine v_istore_n hC dX0_facesOf_1 rfl (by decide) [(2, .int (nI 0)), (0, .ref h0), (1, .int x1)] rfl rfl ?_
  refine v_iconst hC (v := (nI 0)) dX0_facesOf_2 (by decide) rfl ?_
  refine v_istore_n hC dX0_facesOf_3 rfl (by decide) [(3, .int (nI 0)), (2, .int (nI 0)), (0, .ref h0), (1, .int x1)] rfl rfl ?_
  exact v_sub [2, 3, 1, 0] (lv' := [(0, .ref h0), (1, .int x1), (2, .int (nI 0)), (3, .int (nI 0))]) rfl (bX0_facesOf_4 hC hr FU _ _ _ _ _ _ _ _ _ _ _ _ _ h)
theorem kX0_total_37 : Cond.fieldLink RX0 37 "CrowdFaces$Film" "extraCount" "I" ∈ wsX0_total := by decide +kernel
theorem kX0_total_41 : Cond.fieldLink RX0 41 "CrowdFaces$Film" "sceneCount" "I" ∈ wsX0_total := by decide +kernel
theorem kX0_total_44 : Cond.fieldLink RX0 44 "CrowdFaces$Film" "days" "I" ∈ wsX0_total := by decide +kernel
theorem kX0_total_47 : Cond.fieldLink RX0 47 "CrowdFaces$Film" "wages" "I" ∈ wsX0_total := by decide +kernel
theorem kX0_total_50 : Cond.fieldLink RX0 50 "CrowdFaces$Film" "penaltyCosts" "I" ∈ wsX0_total := by decide +kernel
theorem kX0_total_53 : Cond.fieldLink RX0 53 "CrowdFaces$Film" "penalties" "I" ∈ wsX0_total := by decide +kernel
theorem kX0_total_56 : Cond.fieldLink RX0 56 "CrowdFaces$Film" "breaks" "I" ∈ wsX0_total := by decide +kernel
theorem iX0_total_X0 : ∀ w ∈ wsX00, w ∈ wsX0_total := by decide +kernel
def pX0_total (ec : Int32) (sn : Int32) (dy : Int32) (wg : Int32) (pe : Int32) (pn : Int32) (br : Int32) (ex : Nat → Int32) (sc : Nat → Int32) (x1 : Int32) : Option (Int32) := if x1 = (nI 0) then some ec else if x1 = (nI 1) then some sn else if x1 = (nI 2) then (pX0_shotScenes sn sc).bind fun v1 => some v1 else if x1 = (nI 3) then some dy else if x1 = (nI 4) then some wg else if x1 = (nI 5) then some pe else if x1 = (nI 6) then some pn else if x1 = (nI 7) then some br else (pX0_facesOf ec ex (-1)).bind fun v2 => (pJ6_bitCount_0f7a4 v2).bind fun v3 => some v3
abbrev rmX0_total : Room := { frames := 3, cells := 0, slots := 0, locals := 66 }
set_option maxHeartbeats 4000000 in
set_option maxRecDepth 100000 in
theorem mX0_total (l : Launch) (g : va_G) (cy : Nat → ClassId) (h0 q1 a1 q2 a2 q3 a3 : Nat) (ec : Int32) (sn : Int32) (dy : Int32) (wg : Int32) (pe : Int32) (pn : Int32) (br : Int32) (ex : Nat → Int32) (sc : Nat → Int32) (se : Nat → Int32) (x1 : Int32) {res : Int32} (h : pX0_total ec sn dy wg pe pn br ex sc x1 = some res) : Met l yX0_total wsX0_total rmX0_total (PW [.ref h0, .int x1] g cy [(h0, .inr (0, [.ref q1, .ref q2, .ref q3, .int ec, .int sn, .int dy, .int wg, .int pe, .int pn, .int br])), (q1, .inr (3, [.int (nI 14), .ref a1])), (a1, .inl (cy 0, 84, .inl ex)), (q2, .inr (3, [.int (nI 10), .ref a2])), (a2, .inl (cy 0, 60, .inl sc)), (q3, .inr (3, [.int (nI 1), .ref a3])), (a3, .inl (cy 0, 3, .inl se))]) (QRi res) 0 0 nF := by
  refine m_ofV (cc := cX0_total) (nL := 2) (ret := (some .int)) (B := fun _ => True) RX0 rfl (by decide) rfl [(0, .ref h0), (1, .int x1)] rfl (Nat.le_of_ble_eq_true rfl) (fun h => h) ?_
  intro p e s m args below meth c hC hr
  unfold pX0_total at h
  refine v_iload_n hC dX0_total_0 rfl 1 rfl rfl ?_
  by_cases c0 : x1 = (nI 0)
  · have h := ite_t c0 h
    refine v_tswI hC (v := (nI 0)) (tgt := 48) dX0_total_1 c0 (by decide) (by decide) rfl (by decide) ?_
    refine v_aload_n hC dX0_total_48 rfl 0 rfl rfl ?_
    refine v_get hC iX0_total_X0 0 rfl rfl 3 (by decide) kX0_total_37 rfl rfl dX0_total_49 rfl ?_
    obtain rfl := Option.some.inj h
    exact v_irt hC hr rfl rfl dX0_total_52
  · have h := ite_f c0 h
    by_cases c1 : x1 = (nI 1)
    · have h := ite_t c1 h
      refine v_tswI hC (v := (nI 1)) (tgt := 53) dX0_total_1 c1 (by decide) (by decide) rfl (by decide) ?_
      refine v_aload_n hC dX0_total_53 rfl 0 rfl rfl ?_
      refine v_get hC iX0_total_X0 0 rfl rfl 4 (by decide) kX0_total_41 rfl rfl dX0_total_54 rfl ?_
      obtain rfl := Option.some.inj h
      exact v_irt hC hr rfl rfl dX0_total_57
    · have h := ite_f c1 h
      by_cases c2 : x1 = (nI 2)
      · have h := ite_t c2 h
        refine v_tswI hC (v := (nI 2)) (tgt := 58) dX0_total_1 c2 (by decide) (by decide) rfl (by decide) ?_
        refine v_aload_n hC dX0_total_58 rfl 0 rfl rfl ?_
        obtain ⟨v1, hv1, h⟩ := bind_g h
        refine v_callVri hC (n := 0) (st := []) (mX0_shotScenes l g cy h0 q1 a1 q2 a2 q3 a3 ec sn dy wg pe pn br ex sc se hv1) gX0_total_X0_shotScenes rfl rfl rfl (by decide +kernel) ⟨Nat.le_of_ble_eq_true rfl, Nat.le_of_ble_eq_true rfl⟩ 0 rfl rfl [0, 1, 2, 3, 4, 5, 6] rfl rfl rfl rfl (Nat.le_of_ble_eq_true rfl) rfl ⟨Nat.zero_le _, Nat.zero_le _⟩ dX0_total_59 rfl ?_
        obtain rfl := Option.some.inj h
        exact v_irt hC hr rfl rfl dX0_total_62
      · have h := ite_f c2 h
        by_cases c3 : x1 = (nI 3)
        · have h := ite_t c3 h
          refine v_tswI hC (v := (nI 3)) (tgt := 63) dX0_total_1 c3 (by decide) (by decide) rfl (by decide) ?_
          refine v_aload_n hC dX0_total_63 rfl 0 rfl rfl ?_
          refine v_get hC iX0_total_X0 0 rfl rfl 5 (by decide) kX0_total_44 rfl rfl dX0_total_64 rfl ?_
          obtain rfl := Option.some.inj h
          exact v_irt hC hr rfl rfl dX0_total_67
        · have h := ite_f c3 h
          by_cases c4 : x1 = (nI 4)
          · have h := ite_t c4 h
            refine v_tswI hC (v := (nI 4)) (tgt := 68) dX0_total_1 c4 (by decide) (by decide) rfl (by decide) ?_
            refine v_aload_n hC dX0_total_68 rfl 0 rfl rfl ?_
            refine v_get hC iX0_total_X0 0 rfl rfl 6 (by decide) kX0_total_47 rfl rfl dX0_total_69 rfl ?_
            obtain rfl := Option.some.inj h
            exact v_irt hC hr rfl rfl dX0_total_72
          · have h := ite_f c4 h
            by_cases c5 : x1 = (nI 5)
            · have h := ite_t c5 h
              refine v_tswI hC (v := (nI 5)) (tgt := 73) dX0_total_1 c5 (by decide) (by decide) rfl (by decide) ?_
              refine v_aload_n hC dX0_total_73 rfl 0 rfl rfl ?_
              refine v_get hC iX0_total_X0 0 rfl rfl 7 (by decide) kX0_total_50 rfl rfl dX0_total_74 rfl ?_
              obtain rfl := Option.some.inj h
              exact v_irt hC hr rfl rfl dX0_total_77
            · have h := ite_f c5 h
              by_cases c6 : x1 = (nI 6)
              · have h := ite_t c6 h
                refine v_tswI hC (v := (nI 6)) (tgt := 78) dX0_total_1 c6 (by decide) (by decide) rfl (by decide) ?_
                refine v_aload_n hC dX0_total_78 rfl 0 rfl rfl ?_
                refine v_get hC iX0_total_X0 0 rfl rfl 8 (by decide) kX0_total_53 rfl rfl dX0_total_79 rfl ?_
                obtain rfl := Option.some.inj h
                exact v_irt hC hr rfl rfl dX0_total_82
              · have h := ite_f c6 h
                by_cases c7 : x1 = (nI 7)
                · have h := ite_t c7 h
                  refine v_tswI hC (v := (nI 7)) (tgt := 83) dX0_total_1 c7 (by decide) (by decide) rfl (by decide) ?_
                  refine v_aload_n hC dX0_total_83 rfl 0 rfl rfl ?_
                  refine v_get hC iX0_total_X0 0 rfl rfl 9 (by decide) kX0_total_56 rfl rfl dX0_total_84 rfl ?_
                  obtain rfl := Option.some.inj h
                  exact v_irt hC hr rfl rfl dX0_total_87
                · have h := ite_f c7 h
                  refine v_tswO hC (tgt := 88) dX0_total_1 (by have e0 := ne_I (z := 0) (by decide) c0; have e1 := ne_I (z := 1) (by decide) c1; have e2 := ne_I (z := 2) (by decide) c2; have e3 := ne_I (z := 3) (by decide) c3; have e4 := ne_I (z := 4) (by decide) c4; have e5 := ne_I (z := 5) (by decide) c5; have e6 := ne_I (z := 6) (by decide) c6; have e7 := ne_I (z := 7) (by decide) c7; omega) (by decide) ?_
                  refine v_aload_n hC dX0_total_88 rfl 0 rfl rfl ?_
                  refine v_iconst hC (v := (-1)) dX0_total_89 (by decide) rfl ?_
                  obtain ⟨v2, hv2, h⟩ := bind_g h
                  refine v_callVri hC (n := 1) (st := []) (mX0_facesOf l g cy h0 q1 a1 q2 a2 q3 a3 ec sn dy wg pe pn br ex sc se (-1) hv2) gX0_total_X0_facesOf rfl rfl rfl (by decide +kernel) ⟨Nat.le_of_ble_eq_true rfl, Nat.le_of_ble_eq_true rfl⟩ 0 rfl rfl [0, 1, 2, 3, 4, 5, 6] rfl rfl rfl rfl (Nat.le_of_ble_eq_true rfl) rfl ⟨Nat.zero_le _, Nat.zero_le _⟩ dX0_total_90 rfl ?_
                  obtain ⟨v3, hv3, h⟩ := bind_g h
                  refine v_callSri hC (n := 1) (st := []) (mJ6_bitCount_0f7a4 l g cy v2 hv3) gX0_total_J6_bitCount_0f7a4 rfl rfl rfl (by decide +kernel) ⟨Nat.le_of_ble_eq_true rfl, Nat.le_of_ble_eq_true rfl⟩ [] rfl rfl rfl rfl (Nat.le_of_ble_eq_true rfl) rfl ⟨Nat.zero_le _, Nat.zero_le _⟩ dX0_total_93 rfl ?_
                  obtain rfl := Option.some.inj h
                  exact v_irt hC hr rfl rfl dX0_total_96
theorem kX0_scenesWith_41 : Cond.fieldLink RX0 41 "CrowdFaces$Film" "sceneCount" "I" ∈ wsX0_scenesWith := by decide +kernel
theorem iX0_scenesWith_X0 : ∀ w ∈ wsX00, w ∈ wsX0_scenesWith := by decide +kernel
def pX0_scenesWith_27 (kk : Int32 → (Nat → Int32) → Int32 → Int32 → Int32 → Option (Int32)) (sn : Int32) (sc : Nat → Int32) (y1 : Int32) (y2 : Int32) (y3 : Int32) : Option (Int32) := kk sn sc y1 y2 (y3 + (nI 1))
def pX0_scenesWith_4 : Nat → Int32 → (Nat → Int32) → Int32 → Int32 → Int32 → Option (Int32)
  | 0, _, _, _, _, _ => none
  | k + 1, sn, sc, y1, y2, y3 => if sn ≤ y3 then some y2 else (pX0_crowdOf sc y3).bind fun v1 => (pX7_has v1 y1).bind fun v2 => if v2 = 0 then pX0_scenesWith_27 (fun u0 u1 u2 u3 u4 => pX0_scenesWith_4 k u0 u1 u2 u3 u4) sn sc y1 y2 y3 else pX0_scenesWith_27 (fun u0 u1 u2 u3 u4 => pX0_scenesWith_4 k u0 u1 u2 u3 u4) sn sc y1 (y2 + (nI 1)) y3
theorem pX0_scenesWith_4_s {k : Nat} (sn : Int32) (sc : Nat → Int32) (y1 : Int32) (y2 : Int32) (y3 : Int32) : pX0_scenesWith_4 (k + 1) sn sc y1 y2 y3 = if sn ≤ y3 then some y2 else (pX0_crowdOf sc y3).bind fun v1 => (pX7_has v1 y1).bind fun v2 => if v2 = 0 then pX0_scenesWith_27 (fun u0 u1 u2 u3 u4 => pX0_scenesWith_4 k u0 u1 u2 u3 u4) sn sc y1 y2 y3 else pX0_scenesWith_27 (fun u0 u1 u2 u3 u4 => pX0_scenesWith_4 k u0 u1 u2 u3 u4) sn sc y1 (y2 + (nI 1)) y3 := rfl
def pX0_scenesWith (sn : Int32) (sc : Nat → Int32) (x1 : Int32) : Option (Int32) := pX0_scenesWith_4 FU sn sc x1 (nI 0) (nI 0)
abbrev rmX0_scenesWith : Room := { frames := 2, cells := 0, slots := 0, locals := 44 }
set_option maxHeartbeats 4000000 in
set_option maxRecDepth 100000 in
theorem bX0_scenesWith_27 {p : Program} {l : Launch} {e : Env} {s : State} {m : MethodId} {args : Array Value} {below : List Frame} {meth : Method} {c : Code} {g : va_G} {cy : Nat → ClassId} (hC : CX p s m args meth c g cy 4 cX0_scenesWith wsX0_scenesWith RX0) (hr : meth.sig.returnType = (some .int)) {h0 q1 a1 q2 a2 q3 a3 : Nat} {res : Int32} : ∀ (ec : Int32) (sn : Int32) (dy : Int32) (wg : Int32) (pe : Int32) (pn : Int32) (br : Int32) (ex : Nat → Int32) (sc : Nat → Int32) (se : Nat → Int32) (y1 : Int32) (y2 : Int32) (y3 : Int32) {kk : Int32 → (Nat → Int32) → Int32 → Int32 → Int32 → Option (Int32)} (hk : ∀ (ec : Int32) (sn : Int32) (dy : Int32) (wg : Int32) (pe : Int32) (pn : Int32) (br : Int32) (ex : Nat → Int32) (sc : Nat → Int32) (se : Nat → Int32) (y1 : Int32) (y2 : Int32) (y3 : Int32), kk sn sc y1 y2 y3 = some res → V p l e (headSpec wsX0_scenesWith rmX0_scenesWith).room s m args below meth c g 4 0 0 (MQ below (QRi res) args s 0 0 nF) nF (fun _ => True) [(h0, .inr (0, [.ref q1, .ref q2, .ref q3, .int ec, .int sn, .int dy, .int wg, .int pe, .int pn, .int br])), (q1, .inr (3, [.int (nI 14), .ref a1])), (a1, .inl (cy 0, 84, .inl ex)), (q2, .inr (3, [.int (nI 10), .ref a2])), (a2, .inl (cy 0, 60, .inl sc)), (q3, .inr (3, [.int (nI 1), .ref a3])), (a3, .inl (cy 0, 3, .inl se))] 4 [(0, .ref h0), (1, .int y1), (2, .int y2), (3, .int y3)] []) (h : pX0_scenesWith_27 kk sn sc y1 y2 y3 = some res), V p l e (headSpec wsX0_scenesWith rmX0_scenesWith).room s m args below meth c g 4 0 0 (MQ below (QRi res) args s 0 0 nF) nF (fun _ => True) [(h0, .inr (0, [.ref q1, .ref q2, .ref q3, .int ec, .int sn, .int dy, .int wg, .int pe, .int pn, .int br])), (q1, .inr (3, [.int (nI 14), .ref a1])), (a1, .inl (cy 0, 84, .inl ex)), (q2, .inr (3, [.int (nI 10), .ref a2])), (a2, .inl (cy 0, 60, .inl sc)), (q3, .inr (3, [.int (nI 1), .ref a3])), (a3, .inl (cy 0, 3, .inl se))] 27 [(0, .ref h0), (1, .int y1), (2, .int y2), (3, .int y3)] [] := by
  intro ec sn dy wg pe pn br ex sc se y1 y2 y3 kk hk h
  unfold pX0_scenesWith_27 at h
  refine v_iinc hC dX0_scenesWith_27 3 rfl (v := (y3 + (nI 1))) rfl (by decide) [(3, .int (y3 + (nI 1))), (0, .ref h0), (1, .int y1), (2, .int y2)] rfl rfl ?_
  refine v_goto hC (tgt := 4) dX0_scenesWith_30 (by decide) ?_
  exact v_sub [1, 2, 3, 0] (lv' := [(0, .ref h0), (1, .int y1), (2, .int y2), (3, .int (y3 + (nI 1)))]) rfl (hk _ _ _ _ _ _ _ _ _ _ _ _ _ h)
set_option maxHeartbeats 4000000 in
set_option maxRecDepth 100000 in
theorem bX0_scenesWith_4 {p : Program} {l : Launch} {e : Env} {s : State} {m : MethodId} {args : Array Value} {below : List Frame} {meth : Method} {c : Code} {g : va_G} {cy : Nat → ClassId} (hC : CX p s m args meth c g cy 4 cX0_scenesWith wsX0_scenesWith RX0) (hr : meth.sig.returnType = (some .int)) {h0 q1 a1 q2 a2 q3 a3 : Nat} {res : Int32} : ∀ (k : Nat) (ec : Int32) (sn : Int32) (dy : Int32) (wg : Int32) (pe : Int32) (pn : Int32) (br : Int32) (ex : Nat → Int32) (sc : Nat → Int32) (se : Nat → Int32) (y1 : Int32) (y2 : Int32) (y3 : Int32) (h : pX0_scenesWith_4 k sn sc y1 y2 y3 = some res), V p l e (headSpec wsX0_scenesWith rmX0_scenesWith).room s m args below meth c g 4 0 0 (MQ below (QRi res) args s 0 0 nF) nF (fun _ => True) [(h0, .inr (0, [.ref q1, .ref q2, .ref q3, .int ec, .int sn, .int dy, .int wg, .int pe, .int pn, .int br])), (q1, .inr (3, [.int (nI 14), .ref a1])), (a1, .inl (cy 0, 84, .inl ex)), (q2, .inr (3, [.int (nI 10), .ref a2])), (a2, .inl (cy 0, 60, .inl sc)), (q3, .inr (3, [.int (nI 1), .ref a3])), (a3, .inl (cy 0, 3, .inl se))] 4 [(0, .ref h0), (1, .int y1), (2, .int y2), (3, .int y3)] [] := by
  intro k
  induction k with
  | zero =>
    intro ec sn dy wg pe pn br ex sc se y1 y2 y3 h
    have h : (none : Option _) = some res := h
    cases h
  | succ k ih =>
    intro ec sn dy wg pe pn br ex sc se y1 y2 y3 h
    rw [pX0_scenesWith_4_s] at h
    refine v_iload_n hC dX0_scenesWith_4 rfl 3 rfl rfl ?_
    refine v_aload_n hC dX0_scenesWith_5 rfl 0 rfl rfl ?_
    refine v_get hC iX0_scenesWith_X0 0 rfl rfl 4 (by decide) kX0_scenesWith_41 rfl rfl dX0_scenesWith_6 rfl ?_
    refine v_icmp_ge hC (tgt := 33) dX0_scenesWith_9 (by decide) rfl (fun c => ?_) (fun c => ?_)
    · have h := ite_t c h
      refine v_iload_n hC dX0_scenesWith_33 rfl 2 rfl rfl ?_
      obtain rfl := Option.some.inj h
      exact v_irt hC hr rfl rfl dX0_scenesWith_34
    · have h := ite_f c h
      refine v_aload_n hC dX0_scenesWith_12 rfl 0 rfl rfl ?_
      refine v_iload_n hC dX0_scenesWith_13 rfl 3 rfl rfl ?_
      obtain ⟨v1, hv1, h⟩ := bind_g h
      refine v_callVri hC (n := 1) (st := []) (mX0_crowdOf l g cy h0 q1 a1 q2 a2 q3 a3 ec sn dy wg pe pn br ex sc se y3 hv1) gX0_scenesWith_X0_crowdOf rfl rfl rfl (by decide +kernel) ⟨Nat.le_of_ble_eq_true rfl, Nat.le_of_ble_eq_true rfl⟩ 0 rfl rfl [0, 1, 2, 3, 4, 5, 6] rfl rfl rfl rfl (Nat.le_of_ble_eq_true rfl) rfl ⟨Nat.zero_le _, Nat.zero_le _⟩ dX0_scenesWith_14 rfl ?_
      refine v_iload_n hC dX0_scenesWith_17 rfl 1 rfl rfl ?_
      obtain ⟨v2, hv2, h⟩ := bind_g h
      refine v_callNri hC (n := 2) (st := []) (mX7_has l g cy v1 y1 hv2) gX0_scenesWith_X7_has_n93 0 rfl ⟨by decide +kernel, by decide +kernel⟩ rfl rfl rfl (by decide +kernel) ⟨Nat.le_of_ble_eq_true rfl, Nat.le_of_ble_eq_true rfl⟩ [] rfl rfl rfl rfl (Nat.le_of_ble_eq_true rfl) rfl ⟨Nat.zero_le _, Nat.zero_le _⟩ dX0_scenesWith_18 rfl ?_
      refine v_if_eq hC (tgt := 27) dX0_scenesWith_21 (by decide) rfl (fun c => ?_) (fun c => ?_)
      · have h := ite_t c h
        exact bX0_scenesWith_27 hC hr _ _ _ _ _ _ _ _ _ _ _ _ _ ih h
      · have h := ite_f c h
        refine v_iinc hC dX0_scenesWith_24 2 rfl (v := (y2 + (nI 1))) rfl (by decide) [(2, .int (y2 + (nI 1))), (0, .ref h0), (1, .int y1), (3, .int y3)] rfl rfl ?_
        exact v_sub [1, 2, 0, 3] (lv' := [(0, .ref h0), (1, .int y1), (2, .int (y2 + (nI 1))), (3, .int y3)]) rfl (bX0_scenesWith_27 hC hr _ _ _ _ _ _ _ _ _ _ _ _ _ ih h)
set_option maxHeartbeats 4000000 in
set_option maxRecDepth 100000 in
theorem mX0_scenesWith (l : Launch) (g : va_G) (cy : Nat → ClassId) (h0 q1 a1 q2 a2 q3 a3 : Nat) (ec : Int32) (sn : Int32) (dy : Int32) (wg : Int32) (pe : Int32) (pn : Int32) (br : Int32) (ex : Nat → Int32) (sc : Nat → Int32) (se : Nat → Int32) (x1 : Int32) {res : Int32} (h : pX0_scenesWith sn sc x1 = some res) : Met l yX0_scenesWith wsX0_scenesWith rmX0_scenesWith (PW [.ref h0, .int x1] g cy [(h0, .inr (0, [.ref q1, .ref q2, .ref q3, .int ec, .int sn, .int dy, .int wg, .int pe, .int pn, .int br])), (q1, .inr (3, [.int (nI 14), .ref a1])), (a1, .inl (cy 0, 84, .inl ex)), (q2, .inr (3, [.int (nI 10), .ref a2])), (a2, .inl (cy 0, 60, .inl sc)), (q3, .inr (3, [.int (nI 1), .ref a3])), (a3, .inl (cy 0, 3, .inl se))]) (QRi res) 0 0 nF := by
  refine m_ofV (cc := cX0_scenesWith) (nL := 4) (ret := (some .int)) (B := fun _ => True) RX0 rfl (by decide) rfl [(0, .ref h0), (1, .int x1)] rfl (Nat.le_of_ble_eq_true rfl) (fun h => h) ?_
  intro p e s m args below meth c hC hr
  unfold pX0_scenesWith at h
  refine v_iconst hC (v := (nI 0)) dX0_scenesWith_0 (by decide) rfl ?_
  refine v_istore_n hC dX0_scenesWith_1 rfl (by decide) [(2, .int (nI 0)), (0, .ref h0), (1, .int x1)] rfl rfl ?_
  refine v_iconst hC (v := (nI 0)) dX0_scenesWith_2 (by decide) rfl ?_
  refine v_istore_n hC dX0_scenesWith_3 rfl (by decide) [(3, .int (nI 0)), (2, .int (nI 0)), (0, .ref h0), (1, .int x1)] rfl rfl ?_
  exact v_sub [2, 3, 1, 0] (lv' := [(0, .ref h0), (1, .int x1), (2, .int (nI 0)), (3, .int (nI 0))]) rfl (bX0_scenesWith_4 hC hr FU _ _ _ _ _ _ _ _ _ _ _ _ _ h)
theorem kX0_withFaces_14 : Cond.fieldLink RX0 14 "CrowdFaces$Film" "extras" "LCrowdFaces$Table;" ∈ wsX0_withFaces := by decide +kernel
theorem kX0_withFaces_37 : Cond.fieldLink RX0 37 "CrowdFaces$Film" "extraCount" "I" ∈ wsX0_withFaces := by decide +kernel
theorem iX0_withFaces_X0 : ∀ w ∈ wsX00, w ∈ wsX0_withFaces := by decide +kernel
def pX0_withFaces_47 (kk : Int32 → (Nat → Int32) → Int32 → Int32 → Int32 → Int32 → Option (Int32)) (ec : Int32) (ex : Nat → Int32) (y1 : Int32) (y2 : Int32) (y3 : Int32) (y4 : Int32) : Option (Int32) := kk ec ex y1 y2 y3 (y4 + (nI 1))
def pX0_withFaces_5 : Nat → Int32 → (Nat → Int32) → Int32 → Int32 → Int32 → Int32 → Option (Int32)
  | 0, _, _, _, _, _, _ => none
  | k + 1, ec, ex, y1, y2, y3, y4 => if ec ≤ y4 then some y3 else (pX7_has y1 y4).bind fun v1 => if v1 = 0 then pX0_withFaces_47 (fun u0 u1 u2 u3 u4 u5 => pX0_withFaces_5 k u0 u1 u2 u3 u4 u5) ec ex y1 y2 y3 y4 else (pX5_get (nI 14) 84 ex (nI 1) y4).bind fun v2 => (pX7_has y2 v2).bind fun v3 => if v3 = 0 then pX0_withFaces_47 (fun u0 u1 u2 u3 u4 u5 => pX0_withFaces_5 k u0 u1 u2 u3 u4 u5) ec ex y1 y2 y3 y4 else pX0_withFaces_47 (fun u0 u1 u2 u3 u4 u5 => pX0_withFaces_5 k u0 u1 u2 u3 u4 u5) ec ex y1 y2 (y3 ||| ((nI 1) <<< (y4 &&& 31))) y4
theorem pX0_withFaces_5_s {k : Nat} (ec : Int32) (ex : Nat → Int32) (y1 : Int32) (y2 : Int32) (y3 : Int32) (y4 : Int32) : pX0_withFaces_5 (k + 1) ec ex y1 y2 y3 y4 = if ec ≤ y4 then some y3 else (pX7_has y1 y4).bind fun v1 => if v1 = 0 then pX0_withFaces_47 (fun u0 u1 u2 u3 u4 u5 => pX0_withFaces_5 k u0 u1 u2 u3 u4 u5) ec ex y1 y2 y3 y4 else (pX5_get (nI 14) 84 ex (nI 1) y4).bind fun v2 => (pX7_has y2 v2).bind fun v3 => if v3 = 0 then pX0_withFaces_47 (fun u0 u1 u2 u3 u4 u5 => pX0_withFaces_5 k u0 u1 u2 u3 u4 u5) ec ex y1 y2 y3 y4 else pX0_withFaces_47 (fun u0 u1 u2 u3 u4 u5 => pX0_withFaces_5 k u0 u1 u2 u3 u4 u5) ec ex y1 y2 (y3 ||| ((nI 1) <<< (y4 &&& 31))) y4 := rfl
def pX0_withFaces (ec : Int32) (ex : Nat → Int32) (x1 : Int32) (x2 : Int32) : Option (Int32) := pX0_withFaces_5 FU ec ex x1 x2 (nI 0) (nI 0)
abbrev rmX0_withFaces : Room := { frames := 1, cells := 0, slots := 0, locals := 23 }
set_option maxHeartbeats 4000000 in
set_option maxRecDepth 100000 in
theorem bX0_withFaces_47 {p : Program} {l : Launch} {e : Env} {s : State} {m : MethodId} {args : Array Value} {below : List Frame} {meth : Method} {c : Code} {g : va_G} {cy : Nat → ClassId} (hC : CX p s m args meth c g cy 5 cX0_withFaces wsX0_withFaces RX0) (hr : meth.sig.returnType = (some .int)) {h0 q1 a1 q2 a2 q3 a3 : Nat} {res : Int32} : ∀ (ec : Int32) (sn : Int32) (dy : Int32) (wg : Int32) (pe : Int32) (pn : Int32) (br : Int32) (ex : Nat → Int32) (sc : Nat → Int32) (se : Nat → Int32) (y1 : Int32) (y2 : Int32) (y3 : Int32) (y4 : Int32) {kk : Int32 → (Nat → Int32) → Int32 → Int32 → Int32 → Int32 → Option (Int32)} (hk : ∀ (ec : Int32) (sn : Int32) (dy : Int32) (wg : Int32) (pe : Int32) (pn : Int32) (br : Int32) (ex : Nat → Int32) (sc : Nat → Int32) (se : Nat → Int32) (y1 : Int32) (y2 : Int32) (y3 : Int32) (y4 : Int32), kk ec ex y1 y2 y3 y4 = some res → V p l e (headSpec wsX0_withFaces rmX0_withFaces).room s m args below meth c g 5 0 0 (MQ below (QRi res) args s 0 0 nF) nF (fun _ => True) [(h0, .inr (0, [.ref q1, .ref q2, .ref q3, .int ec, .int sn, .int dy, .int wg, .int pe, .int pn, .int br])), (q1, .inr (3, [.int (nI 14), .ref a1])), (a1, .inl (cy 0, 84, .inl ex)), (q2, .inr (3, [.int (nI 10), .ref a2])), (a2, .inl (cy 0, 60, .inl sc)), (q3, .inr (3, [.int (nI 1), .ref a3])), (a3, .inl (cy 0, 3, .inl se))] 5 [(0, .ref h0), (1, .int y1), (2, .int y2), (3, .int y3), (4, .int y4)] []) (h : pX0_withFaces_47 kk ec ex y1 y2 y3 y4 = some res), V p l e (headSpec wsX0_withFaces rmX0_withFaces).room s m args below meth c g 5 0 0 (MQ below (QRi res) args s 0 0 nF) nF (fun _ => True) [(h0, .inr (0, [.ref q1, .ref q2, .ref q3, .int ec, .int sn, .int dy, .int wg, .int pe, .int pn, .int br])), (q1, .inr (3, [.int (nI 14), .ref a1])), (a1, .inl (cy 0, 84, .inl ex)), (q2, .inr (3, [.int (nI 10), .ref a2])), (a2, .inl (cy 0, 60, .inl sc)), (q3, .inr (3, [.int (nI 1), .ref a3])), (a3, .inl (cy 0, 3, .inl se))] 47 [(0, .ref h0), (1, .int y1), (2, .int y2), (3, .int y3), (4, .int y4)] [] := by
  intro ec sn dy wg pe pn br ex sc se y1 y2 y3 y4 kk hk h
  unfold pX0_withFaces_47 at h
  refine v_iinc hC dX0_withFaces_47 4 rfl (v := (y4 + (nI 1))) rfl (by decide) [(4, .int (y4 + (nI 1))), (0, .ref h0), (1, .int y1), (2, .int y2), (3, .int y3)] rfl rfl ?_
  refine v_goto hC (tgt := 5) dX0_withFaces_50 (by decide) ?_
  exact v_sub [1, 2, 3, 4, 0] (lv' := [(0, .ref h0), (1, .int y1), (2, .int y2), (3, .int y3), (4, .int (y4 + (nI 1)))]) rfl (hk _ _ _ _ _ _ _ _ _ _ _ _ _ _ h)
set_option maxHeartbeats 4000000 in
set_option maxRecDepth 100000 in
theorem bX0_withFaces_5 {p : Program} {l : Launch} {e : Env} {s : State} {m : MethodId} {args : Array Value} {below : List Frame} {meth : Method} {c : Code} {g : va_G} {cy : Nat → ClassId} (hC : CX p s m args meth c g cy 5 cX0_withFaces wsX0_withFaces RX0) (hr : meth.sig.returnType = (some .int)) {h0 q1 a1 q2 a2 q3 a3 : Nat} {res : Int32} : ∀ (k : Nat) (ec : Int32) (sn : Int32) (dy : Int32) (wg : Int32) (pe : Int32) (pn : Int32) (br : Int32) (ex : Nat → Int32) (sc : Nat → Int32) (se : Nat → Int32) (y1 : Int32) (y2 : Int32) (y3 : Int32) (y4 : Int32) (h : pX0_withFaces_5 k ec ex y1 y2 y3 y4 = some res), V p l e (headSpec wsX0_withFaces rmX0_withFaces).room s m args below meth c g 5 0 0 (MQ below (QRi res) args s 0 0 nF) nF (fun _ => True) [(h0, .inr (0, [.ref q1, .ref q2, .ref q3, .int ec, .int sn, .int dy, .int wg, .int pe, .int pn, .int br])), (q1, .inr (3, [.int (nI 14), .ref a1])), (a1, .inl (cy 0, 84, .inl ex)), (q2, .inr (3, [.int (nI 10), .ref a2])), (a2, .inl (cy 0, 60, .inl sc)), (q3, .inr (3, [.int (nI 1), .ref a3])), (a3, .inl (cy 0, 3, .inl se))] 5 [(0, .ref h0), (1, .int y1), (2, .int y2), (3, .int y3), (4, .int y4)] [] := by
  intro k
  induction k with
  | zero =>
    intro ec sn dy wg pe pn br ex sc se y1 y2 y3 y4 h
    have h : (none : Option _) = some res := h
    cases h
  | succ k ih =>
    intro ec sn dy wg pe pn br ex sc se y1 y2 y3 y4 h
    rw [pX0_withFaces_5_s] at h
    refine v_iload hC dX0_withFaces_5 4 rfl rfl ?_
    refine v_aload_n hC dX0_withFaces_7 rfl 0 rfl rfl ?_
    refine v_get hC iX0_withFaces_X0 0 rfl rfl 3 (by decide) kX0_withFaces_37 rfl rfl dX0_withFaces_8 rfl ?_
    refine v_icmp_ge hC (tgt := 53) dX0_withFaces_11 (by decide) rfl (fun c => ?_) (fun c => ?_)
    · have h := ite_t c h
      refine v_iload_n hC dX0_withFaces_53 rfl 3 rfl rfl ?_
      obtain rfl := Option.some.inj h
      exact v_irt hC hr rfl rfl dX0_withFaces_54
    · have h := ite_f c h
      refine v_iload_n hC dX0_withFaces_14 rfl 1 rfl rfl ?_
      refine v_iload hC dX0_withFaces_15 4 rfl rfl ?_
      obtain ⟨v1, hv1, h⟩ := bind_g h
      refine v_callNri hC (n := 2) (st := []) (mX7_has l g cy y1 y4 hv1) gX0_withFaces_X7_has_n93 0 rfl ⟨by decide +kernel, by decide +kernel⟩ rfl rfl rfl (by decide +kernel) ⟨Nat.le_of_ble_eq_true rfl, Nat.le_of_ble_eq_true rfl⟩ [] rfl rfl rfl rfl (Nat.le_of_ble_eq_true rfl) rfl ⟨Nat.zero_le _, Nat.zero_le _⟩ dX0_withFaces_17 rfl ?_
      refine v_if_eq hC (tgt := 47) dX0_withFaces_20 (by decide) rfl (fun c => ?_) (fun c => ?_)
      · have h := ite_t c h
        exact bX0_withFaces_47 hC hr _ _ _ _ _ _ _ _ _ _ _ _ _ _ ih h
      · have h := ite_f c h
        refine v_iload_n hC dX0_withFaces_23 rfl 2 rfl rfl ?_
        refine v_aload_n hC dX0_withFaces_24 rfl 0 rfl rfl ?_
        refine v_get hC iX0_withFaces_X0 0 rfl rfl 0 (by decide) kX0_withFaces_14 rfl rfl dX0_withFaces_25 rfl ?_
        refine v_iconst hC (v := (nI 1)) dX0_withFaces_28 (by decide) rfl ?_
        refine v_iload hC dX0_withFaces_29 4 rfl rfl ?_
        obtain ⟨v2, hv2, h⟩ := bind_g h
        refine v_callVri hC (n := 2) (st := [.int y2]) (mX5_get l g cy q1 a1 (nI 14) 84 ex (nI 1) y4 hv2) gX0_withFaces_X5_get rfl rfl rfl (by decide +kernel) ⟨Nat.le_of_ble_eq_true rfl, Nat.le_of_ble_eq_true rfl⟩ 1 rfl rfl [1, 2] rfl rfl rfl rfl (Nat.le_of_ble_eq_true rfl) rfl ⟨Nat.zero_le _, Nat.zero_le _⟩ dX0_withFaces_31 rfl ?_
        obtain ⟨v3, hv3, h⟩ := bind_g h
        refine v_callNri hC (n := 2) (st := []) (mX7_has l g cy y2 v2 hv3) gX0_withFaces_X7_has_n93 0 rfl ⟨by decide +kernel, by decide +kernel⟩ rfl rfl rfl (by decide +kernel) ⟨Nat.le_of_ble_eq_true rfl, Nat.le_of_ble_eq_true rfl⟩ [] rfl rfl rfl rfl (Nat.le_of_ble_eq_true rfl) rfl ⟨Nat.zero_le _, Nat.zero_le _⟩ dX0_withFaces_34 rfl ?_
        refine v_if_eq hC (tgt := 47) dX0_withFaces_37 (by decide) rfl (fun c => ?_) (fun c => ?_)
        · have h := ite_t c h
          exact bX0_withFaces_47 hC hr _ _ _ _ _ _ _ _ _ _ _ _ _ _ ih h
        · have h := ite_f c h
          refine v_iload_n hC dX0_withFaces_40 rfl 3 rfl rfl ?_
          refine v_iconst hC (v := (nI 1)) dX0_withFaces_41 (by decide) rfl ?_
          refine v_iload hC dX0_withFaces_42 4 rfl rfl ?_
          refine v_ishl hC dX0_withFaces_44 rfl ?_
          refine v_ior hC dX0_withFaces_45 rfl ?_
          refine v_istore_n hC dX0_withFaces_46 rfl (by decide) [(3, .int (y3 ||| ((nI 1) <<< (y4 &&& 31)))), (0, .ref h0), (1, .int y1), (2, .int y2), (4, .int y4)] rfl rfl ?_
          exact v_sub [1, 2, 3, 0, 4] (lv' := [(0, .ref h0), (1, .int y1), (2, .int y2), (3, .int (y3 ||| ((nI 1) <<< (y4 &&& 31)))), (4, .int y4)]) rfl (bX0_withFaces_47 hC hr _ _ _ _ _ _ _ _ _ _ _ _ _ _ ih h)
set_option maxHeartbeats 4000000 in
set_option maxRecDepth 100000 in
theorem mX0_withFaces (l : Launch) (g : va_G) (cy : Nat → ClassId) (h0 q1 a1 q2 a2 q3 a3 : Nat) (ec : Int32) (sn : Int32) (dy : Int32) (wg : Int32) (pe : Int32) (pn : Int32) (br : Int32) (ex : Nat → Int32) (sc : Nat → Int32) (se : Nat → Int32) (x1 : Int32) (x2 : Int32) {res : Int32} (h : pX0_withFaces ec ex x1 x2 = some res) : Met l yX0_withFaces wsX0_withFaces rmX0_withFaces (PW [.ref h0, .int x1, .int x2] g cy [(h0, .inr (0, [.ref q1, .ref q2, .ref q3, .int ec, .int sn, .int dy, .int wg, .int pe, .int pn, .int br])), (q1, .inr (3, [.int (nI 14), .ref a1])), (a1, .inl (cy 0, 84, .inl ex)), (q2, .inr (3, [.int (nI 10), .ref a2])), (a2, .inl (cy 0, 60, .inl sc)), (q3, .inr (3, [.int (nI 1), .ref a3])), (a3, .inl (cy 0, 3, .inl se))]) (QRi res) 0 0 nF := by
  refine m_ofV (cc := cX0_withFaces) (nL := 5) (ret := (some .int)) (B := fun _ => True) RX0 rfl (by decide) rfl [(0, .ref h0), (1, .int x1), (2, .int x2)] rfl (Nat.le_of_ble_eq_true rfl) (fun h => h) ?_
  intro p e s m args below meth c hC hr
  unfold pX0_withFaces at h
  refine v_iconst hC (v := (nI 0)) dX0_withFaces_0 (by decide) rfl ?_
  refine v_istore_n hC dX0_withFaces_1 rfl (by decide) [(3, .int (nI 0)), (0, .ref h0), (1, .int x1), (2, .int x2)] rfl rfl ?_
  refine v_iconst hC (v := (nI 0)) dX0_withFaces_2 (by decide) rfl ?_
  refine v_istore hC dX0_withFaces_3 (by decide) [(4, .int (nI 0)), (3, .int (nI 0)), (0, .ref h0), (1, .int x1), (2, .int x2)] rfl rfl ?_
  exact v_sub [2, 3, 4, 1, 0] (lv' := [(0, .ref h0), (1, .int x1), (2, .int x2), (3, .int (nI 0)), (4, .int (nI 0))]) rfl (bX0_withFaces_5 hC hr FU _ _ _ _ _ _ _ _ _ _ _ _ _ _ h)
theorem kX0_numberOfExtra_14 : Cond.fieldLink RX0 14 "CrowdFaces$Film" "extras" "LCrowdFaces$Table;" ∈ wsX0_numberOfExtra := by decide +kernel
theorem iX0_numberOfExtra_X0 : ∀ w ∈ wsX00, w ∈ wsX0_numberOfExtra := by decide +kernel
def pX0_numberOfExtra (ec : Int32) (sn : Int32) (ex : Nat → Int32) (sc : Nat → Int32) (x1 : Int32) (x2 : Int32) : Option (Int32) := if x2 = (nI 4) then (pX0_scenesWith sn sc x1).bind fun v1 => some v1 else if x2 = (nI 5) then (pX5_get (nI 14) 84 ex (nI 1) x1).bind fun v2 => (pX0_withFaces ec ex (((nI 1) <<< (x1 &&& 31)) ^^^ (-1)) ((nI 1) <<< (v2 &&& 31))).bind fun v3 => some v3 else if x2 = (nI 6) then (pX5_get (nI 14) 84 ex (nI 5) x1).bind fun v4 => some v4 else (pX5_get (nI 14) 84 ex x2 x1).bind fun v5 => some v5
abbrev rmX0_numberOfExtra : Room := { frames := 3, cells := 0, slots := 0, locals := 67 }
set_option maxHeartbeats 4000000 in
set_option maxRecDepth 100000 in
theorem mX0_numberOfExtra (l : Launch) (g : va_G) (cy : Nat → ClassId) (h0 q1 a1 q2 a2 q3 a3 : Nat) (ec : Int32) (sn : Int32) (dy : Int32) (wg : Int32) (pe : Int32) (pn : Int32) (br : Int32) (ex : Nat → Int32) (sc : Nat → Int32) (se : Nat → Int32) (x1 : Int32) (x2 : Int32) {res : Int32} (h : pX0_numberOfExtra ec sn ex sc x1 x2 = some res) : Met l yX0_numberOfExtra wsX0_numberOfExtra rmX0_numberOfExtra (PW [.ref h0, .int x1, .int x2] g cy [(h0, .inr (0, [.ref q1, .ref q2, .ref q3, .int ec, .int sn, .int dy, .int wg, .int pe, .int pn, .int br])), (q1, .inr (3, [.int (nI 14), .ref a1])), (a1, .inl (cy 0, 84, .inl ex)), (q2, .inr (3, [.int (nI 10), .ref a2])), (a2, .inl (cy 0, 60, .inl sc)), (q3, .inr (3, [.int (nI 1), .ref a3])), (a3, .inl (cy 0, 3, .inl se))]) (QRi res) 0 0 nF := by
  refine m_ofV (cc := cX0_numberOfExtra) (nL := 3) (ret := (some .int)) (B := fun _ => True) RX0 rfl (by decide) rfl [(0, .ref h0), (1, .int x1), (2, .int x2)] rfl (Nat.le_of_ble_eq_true rfl) (fun h => h) ?_
  intro p e s m args below meth c hC hr
  unfold pX0_numberOfExtra at h
  refine v_iload_n hC dX0_numberOfExtra_0 rfl 2 rfl rfl ?_
  by_cases c4 : x2 = (nI 4)
  · have h := ite_t c4 h
    refine v_tswI hC (v := (nI 4)) (tgt := 28) dX0_numberOfExtra_1 c4 (by decide) (by decide) rfl (by decide) ?_
    refine v_aload_n hC dX0_numberOfExtra_28 rfl 0 rfl rfl ?_
    refine v_iload_n hC dX0_numberOfExtra_29 rfl 1 rfl rfl ?_
    obtain ⟨v1, hv1, h⟩ := bind_g h
    refine v_callVri hC (n := 1) (st := []) (mX0_scenesWith l g cy h0 q1 a1 q2 a2 q3 a3 ec sn dy wg pe pn br ex sc se x1 hv1) gX0_numberOfExtra_X0_scenesWith rfl rfl rfl (by decide +kernel) ⟨Nat.le_of_ble_eq_true rfl, Nat.le_of_ble_eq_true rfl⟩ 0 rfl rfl [0, 1, 2, 3, 4, 5, 6] rfl rfl rfl rfl (Nat.le_of_ble_eq_true rfl) rfl ⟨Nat.zero_le _, Nat.zero_le _⟩ dX0_numberOfExtra_30 rfl ?_
    obtain rfl := Option.some.inj h
    exact v_irt hC hr rfl rfl dX0_numberOfExtra_33
  · have h := ite_f c4 h
    by_cases c5 : x2 = (nI 5)
    · have h := ite_t c5 h
      refine v_tswI hC (v := (nI 5)) (tgt := 34) dX0_numberOfExtra_1 c5 (by decide) (by decide) rfl (by decide) ?_
      refine v_aload_n hC dX0_numberOfExtra_34 rfl 0 rfl rfl ?_
      refine v_iconst hC (v := (nI 1)) dX0_numberOfExtra_35 (by decide) rfl ?_
      refine v_iload_n hC dX0_numberOfExtra_36 rfl 1 rfl rfl ?_
      refine v_ishl hC dX0_numberOfExtra_37 rfl ?_
      refine v_iconst hC (v := (-1)) dX0_numberOfExtra_38 (by decide) rfl ?_
      refine v_ixor hC dX0_numberOfExtra_39 rfl ?_
      refine v_iconst hC (v := (nI 1)) dX0_numberOfExtra_40 (by decide) rfl ?_
      refine v_aload_n hC dX0_numberOfExtra_41 rfl 0 rfl rfl ?_
      refine v_get hC iX0_numberOfExtra_X0 0 rfl rfl 0 (by decide) kX0_numberOfExtra_14 rfl rfl dX0_numberOfExtra_42 rfl ?_
      refine v_iconst hC (v := (nI 1)) dX0_numberOfExtra_45 (by decide) rfl ?_
      refine v_iload_n hC dX0_numberOfExtra_46 rfl 1 rfl rfl ?_
      obtain ⟨v2, hv2, h⟩ := bind_g h
      refine v_callVri hC (n := 2) (st := [.int (nI 1), .int (((nI 1) <<< (x1 &&& 31)) ^^^ (-1)), .ref h0]) (mX5_get l g cy q1 a1 (nI 14) 84 ex (nI 1) x1 hv2) gX0_numberOfExtra_X5_get rfl rfl rfl (by decide +kernel) ⟨Nat.le_of_ble_eq_true rfl, Nat.le_of_ble_eq_true rfl⟩ 1 rfl rfl [1, 2] rfl rfl rfl rfl (Nat.le_of_ble_eq_true rfl) rfl ⟨Nat.zero_le _, Nat.zero_le _⟩ dX0_numberOfExtra_47 rfl ?_
      refine v_ishl hC dX0_numberOfExtra_50 rfl ?_
      obtain ⟨v3, hv3, h⟩ := bind_g h
      refine v_callVri hC (n := 2) (st := []) (mX0_withFaces l g cy h0 q1 a1 q2 a2 q3 a3 ec sn dy wg pe pn br ex sc se (((nI 1) <<< (x1 &&& 31)) ^^^ (-1)) ((nI 1) <<< (v2 &&& 31)) hv3) gX0_numberOfExtra_X0_withFaces rfl rfl rfl (by decide +kernel) ⟨Nat.le_of_ble_eq_true rfl, Nat.le_of_ble_eq_true rfl⟩ 0 rfl rfl [0, 1, 2, 3, 4, 5, 6] rfl rfl rfl rfl (Nat.le_of_ble_eq_true rfl) rfl ⟨Nat.zero_le _, Nat.zero_le _⟩ dX0_numberOfExtra_51 rfl ?_
      obtain rfl := Option.some.inj h
      exact v_irt hC hr rfl rfl dX0_numberOfExtra_54
    · have h := ite_f c5 h
      by_cases c6 : x2 = (nI 6)
      · have h := ite_t c6 h
        refine v_tswI hC (v := (nI 6)) (tgt := 55) dX0_numberOfExtra_1 c6 (by decide) (by decide) rfl (by decide) ?_
        refine v_aload_n hC dX0_numberOfExtra_55 rfl 0 rfl rfl ?_
        refine v_get hC iX0_numberOfExtra_X0 0 rfl rfl 0 (by decide) kX0_numberOfExtra_14 rfl rfl dX0_numberOfExtra_56 rfl ?_
        refine v_iconst hC (v := (nI 5)) dX0_numberOfExtra_59 (by decide) rfl ?_
        refine v_iload_n hC dX0_numberOfExtra_60 rfl 1 rfl rfl ?_
        obtain ⟨v4, hv4, h⟩ := bind_g h
        refine v_callVri hC (n := 2) (st := []) (mX5_get l g cy q1 a1 (nI 14) 84 ex (nI 5) x1 hv4) gX0_numberOfExtra_X5_get rfl rfl rfl (by decide +kernel) ⟨Nat.le_of_ble_eq_true rfl, Nat.le_of_ble_eq_true rfl⟩ 1 rfl rfl [1, 2] rfl rfl rfl rfl (Nat.le_of_ble_eq_true rfl) rfl ⟨Nat.zero_le _, Nat.zero_le _⟩ dX0_numberOfExtra_61 rfl ?_
        obtain rfl := Option.some.inj h
        exact v_irt hC hr rfl rfl dX0_numberOfExtra_64
      · have h := ite_f c6 h
        refine v_tswO hC (tgt := 65) dX0_numberOfExtra_1 (by have e4 := ne_I (z := 4) (by decide) c4; have e5 := ne_I (z := 5) (by decide) c5; have e6 := ne_I (z := 6) (by decide) c6; omega) (by decide) ?_
        refine v_aload_n hC dX0_numberOfExtra_65 rfl 0 rfl rfl ?_
        refine v_get hC iX0_numberOfExtra_X0 0 rfl rfl 0 (by decide) kX0_numberOfExtra_14 rfl rfl dX0_numberOfExtra_66 rfl ?_
        refine v_iload_n hC dX0_numberOfExtra_69 rfl 2 rfl rfl ?_
        refine v_iload_n hC dX0_numberOfExtra_70 rfl 1 rfl rfl ?_
        obtain ⟨v5, hv5, h⟩ := bind_g h
        refine v_callVri hC (n := 2) (st := []) (mX5_get l g cy q1 a1 (nI 14) 84 ex x2 x1 hv5) gX0_numberOfExtra_X5_get rfl rfl rfl (by decide +kernel) ⟨Nat.le_of_ble_eq_true rfl, Nat.le_of_ble_eq_true rfl⟩ 1 rfl rfl [1, 2] rfl rfl rfl rfl (Nat.le_of_ble_eq_true rfl) rfl ⟨Nat.zero_le _, Nat.zero_le _⟩ dX0_numberOfExtra_71 rfl ?_
        obtain rfl := Option.some.inj h
        exact v_irt hC hr rfl rfl dX0_numberOfExtra_74
theorem kX0_castOf_20 : Cond.fieldLink RX0 20 "CrowdFaces$Film" "scenes" "LCrowdFaces$Table;" ∈ wsX0_castOf := by decide +kernel
theorem kX0_castOf_41 : Cond.fieldLink RX0 41 "CrowdFaces$Film" "sceneCount" "I" ∈ wsX0_castOf := by decide +kernel
theorem iX0_castOf_X0 : ∀ w ∈ wsX00, w ∈ wsX0_castOf := by decide +kernel
def pX0_castOf_99 (kk : Int32 → (Nat → Int32) → Int32 → Int32 → Int32 → Int32 → Int32 → Int32 → Option (Int32)) (sn : Int32) (sc : Nat → Int32) (y1 : Int32) (y2 : Int32) (y3 : Int32) (y4 : Int32) (y5 : Int32) (y6 : Int32) : Option (Int32) := kk sn sc y1 y2 y3 y4 y5 (y6 + (nI 1))
def pX0_castOf_56 (kk : Int32 → (Nat → Int32) → Int32 → Int32 → Int32 → Int32 → Int32 → Int32 → Option (Int32)) (sn : Int32) (sc : Nat → Int32) (y1 : Int32) (y2 : Int32) (y3 : Int32) (y4 : Int32) (y5 : Int32) (y6 : Int32) (s0 : Int32) : Option (Int32) := if y6 = y1 then pX0_castOf_99 kk sn sc y1 y2 y3 y4 y5 y6 else (pX5_get (nI 10) 60 sc (nI 2) y6).bind fun v1 => if v1 = y3 then if s0 = y2 then (pX5_get (nI 10) 60 sc (nI 5) y6).bind fun v2 => pX0_castOf_99 kk sn sc y1 y2 y3 y4 (y5 ||| v2) y6 else pX0_castOf_99 kk sn sc y1 y2 y3 y4 y5 y6 else pX0_castOf_99 kk sn sc y1 y2 y3 y4 y5 y6
def pX0_castOf_27 : Nat → Int32 → (Nat → Int32) → Int32 → Int32 → Int32 → Int32 → Int32 → Int32 → Option (Int32)
  | 0, _, _, _, _, _, _, _, _ => none
  | k + 1, sn, sc, y1, y2, y3, y4, y5, y6 => if sn ≤ y6 then some y5 else (pX5_get (nI 10) 60 sc (nI 3) y6).bind fun v1 => if v1 = y4 then pX0_castOf_56 (fun u0 u1 u2 u3 u4 u5 u6 u7 => pX0_castOf_27 k u0 u1 u2 u3 u4 u5 u6 u7) sn sc y1 y2 y3 y4 y5 y6 (nI 1) else pX0_castOf_56 (fun u0 u1 u2 u3 u4 u5 u6 u7 => pX0_castOf_27 k u0 u1 u2 u3 u4 u5 u6 u7) sn sc y1 y2 y3 y4 y5 y6 (nI 0)
theorem pX0_castOf_27_s {k : Nat} (sn : Int32) (sc : Nat → Int32) (y1 : Int32) (y2 : Int32) (y3 : Int32) (y4 : Int32) (y5 : Int32) (y6 : Int32) : pX0_castOf_27 (k + 1) sn sc y1 y2 y3 y4 y5 y6 = if sn ≤ y6 then some y5 else (pX5_get (nI 10) 60 sc (nI 3) y6).bind fun v1 => if v1 = y4 then pX0_castOf_56 (fun u0 u1 u2 u3 u4 u5 u6 u7 => pX0_castOf_27 k u0 u1 u2 u3 u4 u5 u6 u7) sn sc y1 y2 y3 y4 y5 y6 (nI 1) else pX0_castOf_56 (fun u0 u1 u2 u3 u4 u5 u6 u7 => pX0_castOf_27 k u0 u1 u2 u3 u4 u5 u6 u7) sn sc y1 y2 y3 y4 y5 y6 (nI 0) := rfl
def pX0_castOf (sn : Int32) (sc : Nat → Int32) (x1 : Int32) (x2 : Int32) : Option (Int32) := (pX5_get (nI 10) 60 sc (nI 2) x1).bind fun v1 => (pX5_get (nI 10) 60 sc (nI 3) x1).bind fun v2 => pX0_castOf_27 FU sn sc x1 x2 v1 v2 (nI 0) (nI 0)
abbrev rmX0_castOf : Room := { frames := 1, cells := 0, slots := 0, locals := 23 }
set_option maxHeartbeats 4000000 in
set_option maxRecDepth 100000 in
theorem bX0_castOf_99 {p : Program} {l : Launch} {e : Env} {s : State} {m : MethodId} {args : Array Value} {below : List Frame} {meth : Method} {c : Code} {g : va_G} {cy : Nat → ClassId} (hC : CX p s m args meth c g cy 8 cX0_castOf wsX0_castOf RX0) (hr : meth.sig.returnType = (some .int)) {h0 q1 a1 q2 a2 q3 a3 : Nat} {res : Int32} : ∀ (ec : Int32) (sn : Int32) (dy : Int32) (wg : Int32) (pe : Int32) (pn : Int32) (br : Int32) (ex : Nat → Int32) (sc : Nat → Int32) (se : Nat → Int32) (y1 : Int32) (y2 : Int32) (y3 : Int32) (y4 : Int32) (y5 : Int32) (y6 : Int32) {kk : Int32 → (Nat → Int32) → Int32 → Int32 → Int32 → Int32 → Int32 → Int32 → Option (Int32)} (hk : ∀ (ec : Int32) (sn : Int32) (dy : Int32) (wg : Int32) (pe : Int32) (pn : Int32) (br : Int32) (ex : Nat → Int32) (sc : Nat → Int32) (se : Nat → Int32) (y1 : Int32) (y2 : Int32) (y3 : Int32) (y4 : Int32) (y5 : Int32) (y6 : Int32), kk sn sc y1 y2 y3 y4 y5 y6 = some res → V p l e (headSpec wsX0_castOf rmX0_castOf).room s m args below meth c g 8 0 0 (MQ below (QRi res) args s 0 0 nF) nF (fun _ => True) [(h0, .inr (0, [.ref q1, .ref q2, .ref q3, .int ec, .int sn, .int dy, .int wg, .int pe, .int pn, .int br])), (q1, .inr (3, [.int (nI 14), .ref a1])), (a1, .inl (cy 0, 84, .inl ex)), (q2, .inr (3, [.int (nI 10), .ref a2])), (a2, .inl (cy 0, 60, .inl sc)), (q3, .inr (3, [.int (nI 1), .ref a3])), (a3, .inl (cy 0, 3, .inl se))] 27 [(0, .ref h0), (1, .int y1), (2, .int y2), (3, .int y3), (4, .int y4), (5, .int y5), (6, .int y6)] []) (h : pX0_castOf_99 kk sn sc y1 y2 y3 y4 y5 y6 = some res), V p l e (headSpec wsX0_castOf rmX0_castOf).room s m args below meth c g 8 0 0 (MQ below (QRi res) args s 0 0 nF) nF (fun _ => True) [(h0, .inr (0, [.ref q1, .ref q2, .ref q3, .int ec, .int sn, .int dy, .int wg, .int pe, .int pn, .int br])), (q1, .inr (3, [.int (nI 14), .ref a1])), (a1, .inl (cy 0, 84, .inl ex)), (q2, .inr (3, [.int (nI 10), .ref a2])), (a2, .inl (cy 0, 60, .inl sc)), (q3, .inr (3, [.int (nI 1), .ref a3])), (a3, .inl (cy 0, 3, .inl se))] 99 [(0, .ref h0), (1, .int y1), (2, .int y2), (3, .int y3), (4, .int y4), (5, .int y5), (6, .int y6)] [] := by
  intro ec sn dy wg pe pn br ex sc se y1 y2 y3 y4 y5 y6 kk hk h
  unfold pX0_castOf_99 at h
  refine v_iinc hC dX0_castOf_99 6 rfl (v := (y6 + (nI 1))) rfl (by decide) [(6, .int (y6 + (nI 1))), (0, .ref h0), (1, .int y1), (2, .int y2), (3, .int y3), (4, .int y4), (5, .int y5)] rfl rfl ?_
  refine v_goto hC (tgt := 27) dX0_castOf_102 (by decide) ?_
  exact v_sub [1, 2, 3, 4, 5, 6, 0] (lv' := [(0, .ref h0), (1, .int y1), (2, .int y2), (3, .int y3), (4, .int y4), (5, .int y5), (6, .int (y6 + (nI 1)))]) rfl (hk _ _ _ _ _ _ _ _ _ _ _ _ _ _ _ _ h)
set_option maxHeartbeats 4000000 in
set_option maxRecDepth 100000 in
theorem bX0_castOf_56 {p : Program} {l : Launch} {e : Env} {s : State} {m : MethodId} {args : Array Value} {below : List Frame} {meth : Method} {c : Code} {g : va_G} {cy : Nat → ClassId} (hC : CX p s m args meth c g cy 8 cX0_castOf wsX0_castOf RX0) (hr : meth.sig.returnType = (some .int)) {h0 q1 a1 q2 a2 q3 a3 : Nat} {res : Int32} : ∀ (ec : Int32) (sn : Int32) (dy : Int32) (wg : Int32) (pe : Int32) (pn : Int32) (br : Int32) (ex : Nat → Int32) (sc : Nat → Int32) (se : Nat → Int32) (y1 : Int32) (y2 : Int32) (y3 : Int32) (y4 : Int32) (y5 : Int32) (y6 : Int32) (s0 : Int32) {kk : Int32 → (Nat → Int32) → Int32 → Int32 → Int32 → Int32 → Int32 → Int32 → Option (Int32)} (hk : ∀ (ec : Int32) (sn : Int32) (dy : Int32) (wg : Int32) (pe : Int32) (pn : Int32) (br : Int32) (ex : Nat → Int32) (sc : Nat → Int32) (se : Nat → Int32) (y1 : Int32) (y2 : Int32) (y3 : Int32) (y4 : Int32) (y5 : Int32) (y6 : Int32), kk sn sc y1 y2 y3 y4 y5 y6 = some res → V p l e (headSpec wsX0_castOf rmX0_castOf).room s m args below meth c g 8 0 0 (MQ below (QRi res) args s 0 0 nF) nF (fun _ => True) [(h0, .inr (0, [.ref q1, .ref q2, .ref q3, .int ec, .int sn, .int dy, .int wg, .int pe, .int pn, .int br])), (q1, .inr (3, [.int (nI 14), .ref a1])), (a1, .inl (cy 0, 84, .inl ex)), (q2, .inr (3, [.int (nI 10), .ref a2])), (a2, .inl (cy 0, 60, .inl sc)), (q3, .inr (3, [.int (nI 1), .ref a3])), (a3, .inl (cy 0, 3, .inl se))] 27 [(0, .ref h0), (1, .int y1), (2, .int y2), (3, .int y3), (4, .int y4), (5, .int y5), (6, .int y6)] []) (h : pX0_castOf_56 kk sn sc y1 y2 y3 y4 y5 y6 s0 = some res), V p l e (headSpec wsX0_castOf rmX0_castOf).room s m args below meth c g 8 0 0 (MQ below (QRi res) args s 0 0 nF) nF (fun _ => True) [(h0, .inr (0, [.ref q1, .ref q2, .ref q3, .int ec, .int sn, .int dy, .int wg, .int pe, .int pn, .int br])), (q1, .inr (3, [.int (nI 14), .ref a1])), (a1, .inl (cy 0, 84, .inl ex)), (q2, .inr (3, [.int (nI 10), .ref a2])), (a2, .inl (cy 0, 60, .inl sc)), (q3, .inr (3, [.int (nI 1), .ref a3])), (a3, .inl (cy 0, 3, .inl se))] 56 [(0, .ref h0), (1, .int y1), (2, .int y2), (3, .int y3), (4, .int y4), (5, .int y5), (6, .int y6)] [.int s0] := by
  intro ec sn dy wg pe pn br ex sc se y1 y2 y3 y4 y5 y6 s0 kk hk h
  unfold pX0_castOf_56 at h
  refine v_istore hC dX0_castOf_56 (by decide) [(7, .int s0), (0, .ref h0), (1, .int y1), (2, .int y2), (3, .int y3), (4, .int y4), (5, .int y5), (6, .int y6)] rfl rfl ?_
  refine v_iload hC dX0_castOf_58 7 rfl rfl ?_
  refine v_iload_n hC dX0_castOf_60 rfl 2 rfl rfl ?_
  refine v_icmp_eq hC (tgt := 99) dX0_castOf_61 (by decide) rfl (fun c => ?_) (fun c => ?_)
  · have h := ite_t c h
    exact v_sub [1, 2, 3, 4, 5, 6, 7] (lv' := [(0, .ref h0), (1, .int y1), (2, .int y2), (3, .int y3), (4, .int y4), (5, .int y5), (6, .int y6)]) rfl (bX0_castOf_99 hC hr _ _ _ _ _ _ _ _ _ _ _ _ _ _ _ _ hk h)
  · have h := ite_f c h
    refine v_aload_n hC dX0_castOf_64 rfl 1 rfl rfl ?_
    refine v_get hC iX0_castOf_X0 0 rfl rfl 1 (by decide) kX0_castOf_20 rfl rfl dX0_castOf_65 rfl ?_
    refine v_iconst hC (v := (nI 2)) dX0_castOf_68 (by decide) rfl ?_
    refine v_iload hC dX0_castOf_69 7 rfl rfl ?_
    obtain ⟨v1, hv1, h⟩ := bind_g h
    refine v_callVri hC (n := 2) (st := []) (mX5_get l g cy q2 a2 (nI 10) 60 sc (nI 2) y6 hv1) gX0_castOf_X5_get rfl rfl rfl (by decide +kernel) ⟨Nat.le_of_ble_eq_true rfl, Nat.le_of_ble_eq_true rfl⟩ 3 rfl rfl [3, 4] rfl rfl rfl rfl (Nat.le_of_ble_eq_true rfl) rfl ⟨Nat.zero_le _, Nat.zero_le _⟩ dX0_castOf_71 rfl ?_
    refine v_iload_n hC dX0_castOf_74 rfl 4 rfl rfl ?_
    refine v_icmp_ne hC (tgt := 99) dX0_castOf_75 (by decide) rfl (fun c => ?_) (fun c => ?_)
    · have h := ite_f c h
      exact v_sub [1, 2, 3, 4, 5, 6, 7] (lv' := [(0, .ref h0), (1, .int y1), (2, .int y2), (3, .int y3), (4, .int y4), (5, .int y5), (6, .int y6)]) rfl (bX0_castOf_99 hC hr _ _ _ _ _ _ _ _ _ _ _ _ _ _ _ _ hk h)
    · have h := ite_t c h
      refine v_iload hC dX0_castOf_78 0 rfl rfl ?_
      refine v_iload_n hC dX0_castOf_80 rfl 3 rfl rfl ?_
      refine v_icmp_ne hC (tgt := 99) dX0_castOf_81 (by decide) rfl (fun c => ?_) (fun c => ?_)
      · have h := ite_f c h
        exact v_sub [1, 2, 3, 4, 5, 6, 7] (lv' := [(0, .ref h0), (1, .int y1), (2, .int y2), (3, .int y3), (4, .int y4), (5, .int y5), (6, .int y6)]) rfl (bX0_castOf_99 hC hr _ _ _ _ _ _ _ _ _ _ _ _ _ _ _ _ hk h)
      · have h := ite_t c h
        refine v_iload hC dX0_castOf_84 6 rfl rfl ?_
        refine v_aload_n hC dX0_castOf_86 rfl 1 rfl rfl ?_
        refine v_get hC iX0_castOf_X0 0 rfl rfl 1 (by decide) kX0_castOf_20 rfl rfl dX0_castOf_87 rfl ?_
        refine v_iconst hC (v := (nI 5)) dX0_castOf_90 (by decide) rfl ?_
        refine v_iload hC dX0_castOf_91 7 rfl rfl ?_
        obtain ⟨v2, hv2, h⟩ := bind_g h
        refine v_callVri hC (n := 2) (st := [.int y5]) (mX5_get l g cy q2 a2 (nI 10) 60 sc (nI 5) y6 hv2) gX0_castOf_X5_get rfl rfl rfl (by decide +kernel) ⟨Nat.le_of_ble_eq_true rfl, Nat.le_of_ble_eq_true rfl⟩ 3 rfl rfl [3, 4] rfl rfl rfl rfl (Nat.le_of_ble_eq_true rfl) rfl ⟨Nat.zero_le _, Nat.zero_le _⟩ dX0_castOf_93 rfl ?_
        refine v_ior hC dX0_castOf_96 rfl ?_
        refine v_istore hC dX0_castOf_97 (by decide) [(5, .int (y5 ||| v2)), (7, .int s0), (0, .ref h0), (1, .int y1), (2, .int y2), (3, .int y3), (4, .int y4), (6, .int y6)] rfl rfl ?_
        exact v_sub [2, 3, 4, 5, 6, 0, 7] (lv' := [(0, .ref h0), (1, .int y1), (2, .int y2), (3, .int y3), (4, .int y4), (5, .int (y5 ||| v2)), (6, .int y6)]) rfl (bX0_castOf_99 hC hr _ _ _ _ _ _ _ _ _ _ _ _ _ _ _ _ hk h)
set_option maxHeartbeats 4000000 in
set_option maxRecDepth 100000 in
theorem bX0_castOf_27 {p : Program} {l : Launch} {e : Env} {s : State} {m : MethodId} {args : Array Value} {below : List Frame} {meth : Method} {c : Code} {g : va_G} {cy : Nat → ClassId} (hC : CX p s m args meth c g cy 8 cX0_castOf wsX0_castOf RX0) (hr : meth.sig.returnType = (some .int)) {h0 q1 a1 q2 a2 q3 a3 : Nat} {res : Int32} : ∀ (k : Nat) (ec : Int32) (sn : Int32) (dy : Int32) (wg : Int32) (pe : Int32) (pn : Int32) (br : Int32) (ex : Nat → Int32) (sc : Nat → Int32) (se : Nat → Int32) (y1 : Int32) (y2 : Int32) (y3 : Int32) (y4 : Int32) (y5 : Int32) (y6 : Int32) (h : pX0_castOf_27 k sn sc y1 y2 y3 y4 y5 y6 = some res), V p l e (headSpec wsX0_castOf rmX0_castOf).room s m args below meth c g 8 0 0 (MQ below (QRi res) args s 0 0 nF) nF (fun _ => True) [(h0, .inr (0, [.ref q1, .ref q2, .ref q3, .int ec, .int sn, .int dy, .int wg, .int pe, .int pn, .int br])), (q1, .inr (3, [.int (nI 14), .ref a1])), (a1, .inl (cy 0, 84, .inl ex)), (q2, .inr (3, [.int (nI 10), .ref a2])), (a2, .inl (cy 0, 60, .inl sc)), (q3, .inr (3, [.int (nI 1), .ref a3])), (a3, .inl (cy 0, 3, .inl se))] 27 [(0, .ref h0), (1, .int y1), (2, .int y2), (3, .int y3), (4, .int y4), (5, .int y5), (6, .int y6)] [] := by
  intro k
  induction k with
  | zero =>
    intro ec sn dy wg pe pn br ex sc se y1 y2 y3 y4 y5 y6 h
    have h : (none : Option _) = some res := h
    cases h
  | succ k ih =>
    intro ec sn dy wg pe pn br ex sc se y1 y2 y3 y4 y5 y6 h
    rw [pX0_castOf_27_s] at h
    refine v_iload hC dX0_castOf_27 6 rfl rfl ?_
    refine v_aload_n hC dX0_castOf_29 rfl 0 rfl rfl ?_
    refine v_get hC iX0_castOf_X0 0 rfl rfl 4 (by decide) kX0_castOf_41 rfl rfl dX0_castOf_30 rfl ?_
    refine v_icmp_ge hC (tgt := 105) dX0_castOf_33 (by decide) rfl (fun c => ?_) (fun c => ?_)
    · have h := ite_t c h
      refine v_iload hC dX0_castOf_105 5 rfl rfl ?_
      obtain rfl := Option.some.inj h
      exact v_irt hC hr rfl rfl dX0_castOf_107
    · have h := ite_f c h
      refine v_aload_n hC dX0_castOf_36 rfl 0 rfl rfl ?_
      refine v_get hC iX0_castOf_X0 0 rfl rfl 1 (by decide) kX0_castOf_20 rfl rfl dX0_castOf_37 rfl ?_
      refine v_iconst hC (v := (nI 3)) dX0_castOf_40 (by decide) rfl ?_
      refine v_iload hC dX0_castOf_41 6 rfl rfl ?_
      obtain ⟨v1, hv1, h⟩ := bind_g h
      refine v_callVri hC (n := 2) (st := []) (mX5_get l g cy q2 a2 (nI 10) 60 sc (nI 3) y6 hv1) gX0_castOf_X5_get rfl rfl rfl (by decide +kernel) ⟨Nat.le_of_ble_eq_true rfl, Nat.le_of_ble_eq_true rfl⟩ 3 rfl rfl [3, 4] rfl rfl rfl rfl (Nat.le_of_ble_eq_true rfl) rfl ⟨Nat.zero_le _, Nat.zero_le _⟩ dX0_castOf_43 rfl ?_
      refine v_iload hC dX0_castOf_46 4 rfl rfl ?_
      refine v_icmp_ne hC (tgt := 55) dX0_castOf_48 (by decide) rfl (fun c => ?_) (fun c => ?_)
      · have h := ite_f c h
        refine v_iconst hC (v := (nI 0)) dX0_castOf_55 (by decide) rfl ?_
        exact bX0_castOf_56 hC hr _ _ _ _ _ _ _ _ _ _ _ _ _ _ _ _ _ ih h
      · have h := ite_t c h
        refine v_iconst hC (v := (nI 1)) dX0_castOf_51 (by decide) rfl ?_
        refine v_goto hC (tgt := 56) dX0_castOf_52 (by decide) ?_
        exact bX0_castOf_56 hC hr _ _ _ _ _ _ _ _ _ _ _ _ _ _ _ _ _ ih h
set_option maxHeartbeats 4000000 in
set_option maxRecDepth 100000 in
theorem mX0_castOf (l : Launch) (g : va_G) (cy : Nat → ClassId) (h0 q1 a1 q2 a2 q3 a3 : Nat) (ec : Int32) (sn : Int32) (dy : Int32) (wg : Int32) (pe : Int32) (pn : Int32) (br : Int32) (ex : Nat → Int32) (sc : Nat → Int32) (se : Nat → Int32) (x1 : Int32) (x2 : Int32) {res : Int32} (h : pX0_castOf sn sc x1 x2 = some res) : Met l yX0_castOf wsX0_castOf rmX0_castOf (PW [.ref h0, .int x1, .int x2] g cy [(h0, .inr (0, [.ref q1, .ref q2, .ref q3, .int ec, .int sn, .int dy, .int wg, .int pe, .int pn, .int br])), (q1, .inr (3, [.int (nI 14), .ref a1])), (a1, .inl (cy 0, 84, .inl ex)), (q2, .inr (3, [.int (nI 10), .ref a2])), (a2, .inl (cy 0, 60, .inl sc)), (q3, .inr (3, [.int (nI 1), .ref a3])), (a3, .inl (cy 0, 3, .inl se))]) (QRi res) 0 0 nF := by
  refine m_ofV (cc := cX0_castOf) (nL := 8) (ret := (some .int)) (B := fun _ => True) RX0 rfl (by decide) rfl [(0, .ref h0), (1, .int x1), (2, .int x2)] rfl (Nat.le_of_ble_eq_true rfl) (fun h => h) ?_
  intro p e s m args below meth c hC hr
  unfold pX0_castOf at h
  refine v_aload_n hC dX0_castOf_0 rfl 0 rfl rfl ?_
  refine v_get hC iX0_castOf_X0 0 rfl rfl 1 (by decide) kX0_castOf_20 rfl rfl dX0_castOf_1 rfl ?_
  refine v_iconst hC (v := (nI 2)) dX0_castOf_4 (by decide) rfl ?_
  refine v_iload_n hC dX0_castOf_5 rfl 1 rfl rfl ?_
  obtain ⟨v1, hv1, h⟩ := bind_g h
  refine v_callVri hC (n := 2) (st := []) (mX5_get l g cy q2 a2 (nI 10) 60 sc (nI 2) x1 hv1) gX0_castOf_X5_get rfl rfl rfl (by decide +kernel) ⟨Nat.le_of_ble_eq_true rfl, Nat.le_of_ble_eq_true rfl⟩ 3 rfl rfl [3, 4] rfl rfl rfl rfl (Nat.le_of_ble_eq_true rfl) rfl ⟨Nat.zero_le _, Nat.zero_le _⟩ dX0_castOf_6 rfl ?_
  refine v_istore_n hC dX0_castOf_9 rfl (by decide) [(3, .int v1), (0, .ref h0), (1, .int x1), (2, .int x2)] rfl rfl ?_
  refine v_aload_n hC dX0_castOf_10 rfl 1 rfl rfl ?_
  refine v_get hC iX0_castOf_X0 0 rfl rfl 1 (by decide) kX0_castOf_20 rfl rfl dX0_castOf_11 rfl ?_
  refine v_iconst hC (v := (nI 3)) dX0_castOf_14 (by decide) rfl ?_
  refine v_iload_n hC dX0_castOf_15 rfl 2 rfl rfl ?_
  obtain ⟨v2, hv2, h⟩ := bind_g h
  refine v_callVri hC (n := 2) (st := []) (mX5_get l g cy q2 a2 (nI 10) 60 sc (nI 3) x1 hv2) gX0_castOf_X5_get rfl rfl rfl (by decide +kernel) ⟨Nat.le_of_ble_eq_true rfl, Nat.le_of_ble_eq_true rfl⟩ 3 rfl rfl [3, 4] rfl rfl rfl rfl (Nat.le_of_ble_eq_true rfl) rfl ⟨Nat.zero_le _, Nat.zero_le _⟩ dX0_castOf_16 rfl ?_
  refine v_istore hC dX0_castOf_19 (by decide) [(4, .int v2), (3, .int v1), (0, .ref h0), (1, .int x1), (2, .int x2)] rfl rfl ?_
  refine v_iconst hC (v := (nI 0)) dX0_castOf_21 (by decide) rfl ?_
  refine v_istore hC dX0_castOf_22 (by decide) [(5, .int (nI 0)), (4, .int v2), (3, .int v1), (0, .ref h0), (1, .int x1), (2, .int x2)] rfl rfl ?_
  refine v_iconst hC (v := (nI 0)) dX0_castOf_24 (by decide) rfl ?_
  refine v_istore hC dX0_castOf_25 (by decide) [(6, .int (nI 0)), (5, .int (nI 0)), (4, .int v2), (3, .int v1), (0, .ref h0), (1, .int x1), (2, .int x2)] rfl rfl ?_
  exact v_sub [4, 5, 6, 3, 2, 1, 0] (lv' := [(0, .ref h0), (1, .int x1), (2, .int x2), (3, .int v1), (4, .int v2), (5, .int (nI 0)), (6, .int (nI 0))]) rfl (bX0_castOf_27 hC hr FU _ _ _ _ _ _ _ _ _ _ _ _ _ _ _ _ h)
theorem kX0_numberOfScene_20 : Cond.fieldLink RX0 20 "CrowdFaces$Film" "scenes" "LCrowdFaces$Table;" ∈ wsX0_numberOfScene := by decide +kernel
theorem iX0_numberOfScene_X0 : ∀ w ∈ wsX00, w ∈ wsX0_numberOfScene := by decide +kernel
def pX0_numberOfScene_45 (ec : Int32) (sn : Int32) (ex : Nat → Int32) (sc : Nat → Int32) (s0 : Int32) : Option (Int32) := some s0
def pX0_numberOfScene (ec : Int32) (sn : Int32) (ex : Nat → Int32) (sc : Nat → Int32) (x1 : Int32) (x2 : Int32) : Option (Int32) := if x2 = (nI 5) then (pX0_crowdOf sc x1).bind fun v1 => if v1 = 0 then pX0_numberOfScene_45 ec sn ex sc (nI 0) else pX0_numberOfScene_45 ec sn ex sc (nI 1) else if x2 = (nI 6) then (pX0_crowdOf sc x1).bind fun v2 => some v2 else if x2 = (nI 7) then (pX0_castOf sn sc x1 (nI 1)).bind fun v3 => (pX0_facesOf ec ex v3).bind fun v4 => some v4 else if x2 = (nI 8) then (pX0_castOf sn sc x1 (nI 0)).bind fun v5 => (pX0_facesOf ec ex v5).bind fun v6 => some v6 else (pX5_get (nI 10) 60 sc x2 x1).bind fun v7 => some v7
abbrev rmX0_numberOfScene : Room := { frames := 2, cells := 0, slots := 0, locals := 50 }
set_option maxHeartbeats 4000000 in
set_option maxRecDepth 100000 in
theorem bX0_numberOfScene_45 {p : Program} {l : Launch} {e : Env} {s : State} {m : MethodId} {args : Array Value} {below : List Frame} {meth : Method} {c : Code} {g : va_G} {cy : Nat → ClassId} (hC : CX p s m args meth c g cy 3 cX0_numberOfScene wsX0_numberOfScene RX0) (hr : meth.sig.returnType = (some .int)) {h0 q1 a1 q2 a2 q3 a3 : Nat} {res : Int32} : ∀ (ec : Int32) (sn : Int32) (dy : Int32) (wg : Int32) (pe : Int32) (pn : Int32) (br : Int32) (ex : Nat → Int32) (sc : Nat → Int32) (se : Nat → Int32) (s0 : Int32)(h : pX0_numberOfScene_45 ec sn ex sc s0 = some res), V p l e (headSpec wsX0_numberOfScene rmX0_numberOfScene).room s m args below meth c g 3 0 0 (MQ below (QRi res) args s 0 0 nF) nF (fun _ => True) [(h0, .inr (0, [.ref q1, .ref q2, .ref q3, .int ec, .int sn, .int dy, .int wg, .int pe, .int pn, .int br])), (q1, .inr (3, [.int (nI 14), .ref a1])), (a1, .inl (cy 0, 84, .inl ex)), (q2, .inr (3, [.int (nI 10), .ref a2])), (a2, .inl (cy 0, 60, .inl sc)), (q3, .inr (3, [.int (nI 1), .ref a3])), (a3, .inl (cy 0, 3, .inl se))] 45 [] [.int s0] := by
  intro ec sn dy wg pe pn br ex sc se s0 h
  unfold pX0_numberOfScene_45 at h
  obtain rfl := Option.some.inj h
  exact v_irt hC hr rfl rfl dX0_numberOfScene_45
set_option maxHeartbeats 4000000 in
set_option maxRecDepth 100000 in
theorem mX0_numberOfScene (l : Launch) (g : va_G) (cy : Nat → ClassId) (h0 q1 a1 q2 a2 q3 a3 : Nat) (ec : Int32) (sn : Int32) (dy : Int32) (wg : Int32) (pe : Int32) (pn : Int32) (br : Int32) (ex : Nat → Int32) (sc : Nat → Int32) (se : Nat → Int32) (x1 : Int32) (x2 : Int32) {res : Int32} (h : pX0_numberOfScene ec sn ex sc x1 x2 = some res) : Met l yX0_numberOfScene wsX0_numberOfScene rmX0_numberOfScene (PW [.ref h0, .int x1, .int x2] g cy [(h0, .inr (0, [.ref q1, .ref q2, .ref q3, .int ec, .int sn, .int dy, .int wg, .int pe, .int pn, .int br])), (q1, .inr (3, [.int (nI 14), .ref a1])), (a1, .inl (cy 0, 84, .inl ex)), (q2, .inr (3, [.int (nI 10), .ref a2])), (a2, .inl (cy 0, 60, .inl sc)), (q3, .inr (3, [.int (nI 1), .ref a3])), (a3, .inl (cy 0, 3, .inl se))]) (QRi res) 0 0 nF := by
  refine m_ofV (cc := cX0_numberOfScene) (nL := 3) (ret := (some .int)) (B := fun _ => True) RX0 rfl (by decide) rfl [(0, .ref h0), (1, .int x1), (2, .int x2)] rfl (Nat.le_of_ble_eq_true rfl) (fun h => h) ?_
  intro p e s m args below meth c hC hr
  unfold pX0_numberOfScene at h
  refine v_iload_n hC dX0_numberOfScene_0 rfl 2 rfl rfl ?_
  by_cases c5 : x2 = (nI 5)
  · have h := ite_t c5 h
    refine v_tswI hC (v := (nI 5)) (tgt := 32) dX0_numberOfScene_1 c5 (by decide) (by decide) rfl (by decide) ?_
    refine v_aload_n hC dX0_numberOfScene_32 rfl 0 rfl rfl ?_
    refine v_iload_n hC dX0_numberOfScene_33 rfl 1 rfl rfl ?_
    obtain ⟨v1, hv1, h⟩ := bind_g h
    refine v_callVri hC (n := 1) (st := []) (mX0_crowdOf l g cy h0 q1 a1 q2 a2 q3 a3 ec sn dy wg pe pn br ex sc se x1 hv1) gX0_numberOfScene_X0_crowdOf rfl rfl rfl (by decide +kernel) ⟨Nat.le_of_ble_eq_true rfl, Nat.le_of_ble_eq_true rfl⟩ 0 rfl rfl [0, 1, 2, 3, 4, 5, 6] rfl rfl rfl rfl (Nat.le_of_ble_eq_true rfl) rfl ⟨Nat.zero_le _, Nat.zero_le _⟩ dX0_numberOfScene_34 rfl ?_
    refine v_if_eq hC (tgt := 44) dX0_numberOfScene_37 (by decide) rfl (fun c => ?_) (fun c => ?_)
    · have h := ite_t c h
      refine v_iconst hC (v := (nI 0)) dX0_numberOfScene_44 (by decide) rfl ?_
      exact v_sub [] (lv' := []) rfl (bX0_numberOfScene_45 hC hr _ _ _ _ _ _ _ _ _ _ _ h)
    · have h := ite_f c h
      refine v_iconst hC (v := (nI 1)) dX0_numberOfScene_40 (by decide) rfl ?_
      refine v_goto hC (tgt := 45) dX0_numberOfScene_41 (by decide) ?_
      exact v_sub [] (lv' := []) rfl (bX0_numberOfScene_45 hC hr _ _ _ _ _ _ _ _ _ _ _ h)
  · have h := ite_f c5 h
    by_cases c6 : x2 = (nI 6)
    · have h := ite_t c6 h
      refine v_tswI hC (v := (nI 6)) (tgt := 46) dX0_numberOfScene_1 c6 (by decide) (by decide) rfl (by decide) ?_
      refine v_aload_n hC dX0_numberOfScene_46 rfl 0 rfl rfl ?_
      refine v_iload_n hC dX0_numberOfScene_47 rfl 1 rfl rfl ?_
      obtain ⟨v2, hv2, h⟩ := bind_g h
      refine v_callVri hC (n := 1) (st := []) (mX0_crowdOf l g cy h0 q1 a1 q2 a2 q3 a3 ec sn dy wg pe pn br ex sc se x1 hv2) gX0_numberOfScene_X0_crowdOf rfl rfl rfl (by decide +kernel) ⟨Nat.le_of_ble_eq_true rfl, Nat.le_of_ble_eq_true rfl⟩ 0 rfl rfl [0, 1, 2, 3, 4, 5, 6] rfl rfl rfl rfl (Nat.le_of_ble_eq_true rfl) rfl ⟨Nat.zero_le _, Nat.zero_le _⟩ dX0_numberOfScene_48 rfl ?_
      obtain rfl := Option.some.inj h
      exact v_irt hC hr rfl rfl dX0_numberOfScene_51
    · have h := ite_f c6 h
      by_cases c7 : x2 = (nI 7)
      · have h := ite_t c7 h
        refine v_tswI hC (v := (nI 7)) (tgt := 52) dX0_numberOfScene_1 c7 (by decide) (by decide) rfl (by decide) ?_
        refine v_aload_n hC dX0_numberOfScene_52 rfl 0 rfl rfl ?_
        refine v_aload_n hC dX0_numberOfScene_53 rfl 0 rfl rfl ?_
        refine v_iload_n hC dX0_numberOfScene_54 rfl 1 rfl rfl ?_
        refine v_iconst hC (v := (nI 1)) dX0_numberOfScene_55 (by decide) rfl ?_
        obtain ⟨v3, hv3, h⟩ := bind_g h
        refine v_callVri hC (n := 2) (st := [.ref h0]) (mX0_castOf l g cy h0 q1 a1 q2 a2 q3 a3 ec sn dy wg pe pn br ex sc se x1 (nI 1) hv3) gX0_numberOfScene_X0_castOf rfl rfl rfl (by decide +kernel) ⟨Nat.le_of_ble_eq_true rfl, Nat.le_of_ble_eq_true rfl⟩ 0 rfl rfl [0, 1, 2, 3, 4, 5, 6] rfl rfl rfl rfl (Nat.le_of_ble_eq_true rfl) rfl ⟨Nat.zero_le _, Nat.zero_le _⟩ dX0_numberOfScene_56 rfl ?_
        obtain ⟨v4, hv4, h⟩ := bind_g h
        refine v_callVri hC (n := 1) (st := []) (mX0_facesOf l g cy h0 q1 a1 q2 a2 q3 a3 ec sn dy wg pe pn br ex sc se v3 hv4) gX0_numberOfScene_X0_facesOf rfl rfl rfl (by decide +kernel) ⟨Nat.le_of_ble_eq_true rfl, Nat.le_of_ble_eq_true rfl⟩ 0 rfl rfl [0, 1, 2, 3, 4, 5, 6] rfl rfl rfl rfl (Nat.le_of_ble_eq_true rfl) rfl ⟨Nat.zero_le _, Nat.zero_le _⟩ dX0_numberOfScene_59 rfl ?_
        obtain rfl := Option.some.inj h
        exact v_irt hC hr rfl rfl dX0_numberOfScene_62
      · have h := ite_f c7 h
        by_cases c8 : x2 = (nI 8)
        · have h := ite_t c8 h
          refine v_tswI hC (v := (nI 8)) (tgt := 63) dX0_numberOfScene_1 c8 (by decide) (by decide) rfl (by decide) ?_
          refine v_aload_n hC dX0_numberOfScene_63 rfl 0 rfl rfl ?_
          refine v_aload_n hC dX0_numberOfScene_64 rfl 0 rfl rfl ?_
          refine v_iload_n hC dX0_numberOfScene_65 rfl 1 rfl rfl ?_
          refine v_iconst hC (v := (nI 0)) dX0_numberOfScene_66 (by decide) rfl ?_
          obtain ⟨v5, hv5, h⟩ := bind_g h
          refine v_callVri hC (n := 2) (st := [.ref h0]) (mX0_castOf l g cy h0 q1 a1 q2 a2 q3 a3 ec sn dy wg pe pn br ex sc se x1 (nI 0) hv5) gX0_numberOfScene_X0_castOf rfl rfl rfl (by decide +kernel) ⟨Nat.le_of_ble_eq_true rfl, Nat.le_of_ble_eq_true rfl⟩ 0 rfl rfl [0, 1, 2, 3, 4, 5, 6] rfl rfl rfl rfl (Nat.le_of_ble_eq_true rfl) rfl ⟨Nat.zero_le _, Nat.zero_le _⟩ dX0_numberOfScene_67 rfl ?_
          obtain ⟨v6, hv6, h⟩ := bind_g h
          refine v_callVri hC (n := 1) (st := []) (mX0_facesOf l g cy h0 q1 a1 q2 a2 q3 a3 ec sn dy wg pe pn br ex sc se v5 hv6) gX0_numberOfScene_X0_facesOf rfl rfl rfl (by decide +kernel) ⟨Nat.le_of_ble_eq_true rfl, Nat.le_of_ble_eq_true rfl⟩ 0 rfl rfl [0, 1, 2, 3, 4, 5, 6] rfl rfl rfl rfl (Nat.le_of_ble_eq_true rfl) rfl ⟨Nat.zero_le _, Nat.zero_le _⟩ dX0_numberOfScene_70 rfl ?_
          obtain rfl := Option.some.inj h
          exact v_irt hC hr rfl rfl dX0_numberOfScene_73
        · have h := ite_f c8 h
          refine v_tswO hC (tgt := 74) dX0_numberOfScene_1 (by have e5 := ne_I (z := 5) (by decide) c5; have e6 := ne_I (z := 6) (by decide) c6; have e7 := ne_I (z := 7) (by decide) c7; have e8 := ne_I (z := 8) (by decide) c8; omega) (by decide) ?_
          refine v_aload_n hC dX0_numberOfScene_74 rfl 0 rfl rfl ?_
          refine v_get hC iX0_numberOfScene_X0 0 rfl rfl 1 (by decide) kX0_numberOfScene_20 rfl rfl dX0_numberOfScene_75 rfl ?_
          refine v_iload_n hC dX0_numberOfScene_78 rfl 2 rfl rfl ?_
          refine v_iload_n hC dX0_numberOfScene_79 rfl 1 rfl rfl ?_
          obtain ⟨v7, hv7, h⟩ := bind_g h
          refine v_callVri hC (n := 2) (st := []) (mX5_get l g cy q2 a2 (nI 10) 60 sc x2 x1 hv7) gX0_numberOfScene_X5_get rfl rfl rfl (by decide +kernel) ⟨Nat.le_of_ble_eq_true rfl, Nat.le_of_ble_eq_true rfl⟩ 3 rfl rfl [3, 4] rfl rfl rfl rfl (Nat.le_of_ble_eq_true rfl) rfl ⟨Nat.zero_le _, Nat.zero_le _⟩ dX0_numberOfScene_80 rfl ?_
          obtain rfl := Option.some.inj h
          exact v_irt hC hr rfl rfl dX0_numberOfScene_83
theorem kX0_withRightLook_14 : Cond.fieldLink RX0 14 "CrowdFaces$Film" "extras" "LCrowdFaces$Table;" ∈ wsX0_withRightLook := by decide +kernel
theorem kX0_withRightLook_20 : Cond.fieldLink RX0 20 "CrowdFaces$Film" "scenes" "LCrowdFaces$Table;" ∈ wsX0_withRightLook := by decide +kernel
theorem kX0_withRightLook_37 : Cond.fieldLink RX0 37 "CrowdFaces$Film" "extraCount" "I" ∈ wsX0_withRightLook := by decide +kernel
theorem iX0_withRightLook_X0 : ∀ w ∈ wsX00, w ∈ wsX0_withRightLook := by decide +kernel
def pX0_withRightLook_45 (kk : Int32 → (Nat → Int32) → (Nat → Int32) → Int32 → Int32 → Int32 → Option (Int32)) (ec : Int32) (ex : Nat → Int32) (sc : Nat → Int32) (y2 : Int32) (y3 : Int32) (y4 : Int32) : Option (Int32) := kk ec ex sc y2 y3 (y4 + (nI 1))
def pX0_withRightLook_15 : Nat → Int32 → (Nat → Int32) → (Nat → Int32) → Int32 → Int32 → Int32 → Option (Int32)
  | 0, _, _, _, _, _, _ => none
  | k + 1, ec, ex, sc, y2, y3, y4 => if ec ≤ y4 then some y3 else (pX5_get (nI 14) 84 ex (nI 0) y4).bind fun v1 => if v1 = y2 then pX0_withRightLook_45 (fun u0 u1 u2 u3 u4 u5 => pX0_withRightLook_15 k u0 u1 u2 u3 u4 u5) ec ex sc y2 (y3 ||| ((nI 1) <<< (y4 &&& 31))) y4 else pX0_withRightLook_45 (fun u0 u1 u2 u3 u4 u5 => pX0_withRightLook_15 k u0 u1 u2 u3 u4 u5) ec ex sc y2 y3 y4
theorem pX0_withRightLook_15_s {k : Nat} (ec : Int32) (ex : Nat → Int32) (sc : Nat → Int32) (y2 : Int32) (y3 : Int32) (y4 : Int32) : pX0_withRightLook_15 (k + 1) ec ex sc y2 y3 y4 = if ec ≤ y4 then some y3 else (pX5_get (nI 14) 84 ex (nI 0) y4).bind fun v1 => if v1 = y2 then pX0_withRightLook_45 (fun u0 u1 u2 u3 u4 u5 => pX0_withRightLook_15 k u0 u1 u2 u3 u4 u5) ec ex sc y2 (y3 ||| ((nI 1) <<< (y4 &&& 31))) y4 else pX0_withRightLook_45 (fun u0 u1 u2 u3 u4 u5 => pX0_withRightLook_15 k u0 u1 u2 u3 u4 u5) ec ex sc y2 y3 y4 := rfl
def pX0_withRightLook (ec : Int32) (ex : Nat → Int32) (sc : Nat → Int32) (x1 : Int32) : Option (Int32) := (pX5_get (nI 10) 60 sc (nI 0) x1).bind fun v1 => pX0_withRightLook_15 FU ec ex sc v1 (nI 0) (nI 0)
abbrev rmX0_withRightLook : Room := { frames := 1, cells := 0, slots := 0, locals := 23 }
set_option maxHeartbeats 4000000 in
set_option maxRecDepth 100000 in
theorem bX0_withRightLook_45 {p : Program} {l : Launch} {e : Env} {s : State} {m : MethodId} {args : Array Value} {below : List Frame} {meth : Method} {c : Code} {g : va_G} {cy : Nat → ClassId} (hC : CX p s m args meth c g cy 5 cX0_withRightLook wsX0_withRightLook RX0) (hr : meth.sig.returnType = (some .int)) {h0 q1 a1 q2 a2 q3 a3 : Nat} {res : Int32} : ∀ (ec : Int32) (sn : Int32) (dy : Int32) (wg : Int32) (pe : Int32) (pn : Int32) (br : Int32) (ex : Nat → Int32) (sc : Nat → Int32) (se : Nat → Int32) (y2 : Int32) (y3 : Int32) (y4 : Int32) {kk : Int32 → (Nat → Int32) → (Nat → Int32) → Int32 → Int32 → Int32 → Option (Int32)} (hk : ∀ (ec : Int32) (sn : Int32) (dy : Int32) (wg : Int32) (pe : Int32) (pn : Int32) (br : Int32) (ex : Nat → Int32) (sc : Nat → Int32) (se : Nat → Int32) (y2 : Int32) (y3 : Int32) (y4 : Int32), kk ec ex sc y2 y3 y4 = some res → V p l e (headSpec wsX0_withRightLook rmX0_withRightLook).room s m args below meth c g 5 0 0 (MQ below (QRi res) args s 0 0 nF) nF (fun _ => True) [(h0, .inr (0, [.ref q1, .ref q2, .ref q3, .int ec, .int sn, .int dy, .int wg, .int pe, .int pn, .int br])), (q1, .inr (3, [.int (nI 14), .ref a1])), (a1, .inl (cy 0, 84, .inl ex)), (q2, .inr (3, [.int (nI 10), .ref a2])), (a2, .inl (cy 0, 60, .inl sc)), (q3, .inr (3, [.int (nI 1), .ref a3])), (a3, .inl (cy 0, 3, .inl se))] 15 [(0, .ref h0), (2, .int y2), (3, .int y3), (4, .int y4)] []) (h : pX0_withRightLook_45 kk ec ex sc y2 y3 y4 = some res), V p l e (headSpec wsX0_withRightLook rmX0_withRightLook).room s m args below meth c g 5 0 0 (MQ below (QRi res) args s 0 0 nF) nF (fun _ => True) [(h0, .inr (0, [.ref q1, .ref q2, .ref q3, .int ec, .int sn, .int dy, .int wg, .int pe, .int pn, .int br])), (q1, .inr (3, [.int (nI 14), .ref a1])), (a1, .inl (cy 0, 84, .inl ex)), (q2, .inr (3, [.int (nI 10), .ref a2])), (a2, .inl (cy 0, 60, .inl sc)), (q3, .inr (3, [.int (nI 1), .ref a3])), (a3, .inl (cy 0, 3, .inl se))] 45 [(0, .ref h0), (2, .int y2), (3, .int y3), (4, .int y4)] [] := by
  intro ec sn dy wg pe pn br ex sc se y2 y3 y4 kk hk h
  unfold pX0_withRightLook_45 at h
  refine v_iinc hC dX0_withRightLook_45 3 rfl (v := (y4 + (nI 1))) rfl (by decide) [(4, .int (y4 + (nI 1))), (0, .ref h0), (2, .int y2), (3, .int y3)] rfl rfl ?_
  refine v_goto hC (tgt := 15) dX0_withRightLook_48 (by decide) ?_
  exact v_sub [1, 2, 3, 0] (lv' := [(0, .ref h0), (2, .int y2), (3, .int y3), (4, .int (y4 + (nI 1)))]) rfl (hk _ _ _ _ _ _ _ _ _ _ _ _ _ h)
set_option maxHeartbeats 4000000 in
set_option maxRecDepth 100000 in
theorem bX0_withRightLook_15 {p : Program} {l : Launch} {e : Env} {s : State} {m : MethodId} {args : Array Value} {below : List Frame} {meth : Method} {c : Code} {g : va_G} {cy : Nat → ClassId} (hC : CX p s m args meth c g cy 5 cX0_withRightLook wsX0_withRightLook RX0) (hr : meth.sig.returnType = (some .int)) {h0 q1 a1 q2 a2 q3 a3 : Nat} {res : Int32} : ∀ (k : Nat) (ec : Int32) (sn : Int32) (dy : Int32) (wg : Int32) (pe : Int32) (pn : Int32) (br : Int32) (ex : Nat → Int32) (sc : Nat → Int32) (se : Nat → Int32) (y2 : Int32) (y3 : Int32) (y4 : Int32) (h : pX0_withRightLook_15 k ec ex sc y2 y3 y4 = some res), V p l e (headSpec wsX0_withRightLook rmX0_withRightLook).room s m args below meth c g 5 0 0 (MQ below (QRi res) args s 0 0 nF) nF (fun _ => True) [(h0, .inr (0, [.ref q1, .ref q2, .ref q3, .int ec, .int sn, .int dy, .int wg, .int pe, .int pn, .int br])), (q1, .inr (3, [.int (nI 14), .ref a1])), (a1, .inl (cy 0, 84, .inl ex)), (q2, .inr (3, [.int (nI 10), .ref a2])), (a2, .inl (cy 0, 60, .inl sc)), (q3, .inr (3, [.int (nI 1), .ref a3])), (a3, .inl (cy 0, 3, .inl se))] 15 [(0, .ref h0), (2, .int y2), (3, .int y3), (4, .int y4)] [] := by
  intro k
  induction k with
  | zero =>
    intro ec sn dy wg pe pn br ex sc se y2 y3 y4 h
    have h : (none : Option _) = some res := h
    cases h
  | succ k ih =>
    intro ec sn dy wg pe pn br ex sc se y2 y3 y4 h
    rw [pX0_withRightLook_15_s] at h
    refine v_iload hC dX0_withRightLook_15 3 rfl rfl ?_
    refine v_aload_n hC dX0_withRightLook_17 rfl 0 rfl rfl ?_
    refine v_get hC iX0_withRightLook_X0 0 rfl rfl 3 (by decide) kX0_withRightLook_37 rfl rfl dX0_withRightLook_18 rfl ?_
    refine v_icmp_ge hC (tgt := 51) dX0_withRightLook_21 (by decide) rfl (fun c => ?_) (fun c => ?_)
    · have h := ite_t c h
      refine v_iload_n hC dX0_withRightLook_51 rfl 2 rfl rfl ?_
      obtain rfl := Option.some.inj h
      exact v_irt hC hr rfl rfl dX0_withRightLook_52
    · have h := ite_f c h
      refine v_aload_n hC dX0_withRightLook_24 rfl 0 rfl rfl ?_
      refine v_get hC iX0_withRightLook_X0 0 rfl rfl 0 (by decide) kX0_withRightLook_14 rfl rfl dX0_withRightLook_25 rfl ?_
      refine v_iconst hC (v := (nI 0)) dX0_withRightLook_28 (by decide) rfl ?_
      refine v_iload hC dX0_withRightLook_29 3 rfl rfl ?_
      obtain ⟨v1, hv1, h⟩ := bind_g h
      refine v_callVri hC (n := 2) (st := []) (mX5_get l g cy q1 a1 (nI 14) 84 ex (nI 0) y4 hv1) gX0_withRightLook_X5_get rfl rfl rfl (by decide +kernel) ⟨Nat.le_of_ble_eq_true rfl, Nat.le_of_ble_eq_true rfl⟩ 1 rfl rfl [1, 2] rfl rfl rfl rfl (Nat.le_of_ble_eq_true rfl) rfl ⟨Nat.zero_le _, Nat.zero_le _⟩ dX0_withRightLook_31 rfl ?_
      refine v_iload_n hC dX0_withRightLook_34 rfl 1 rfl rfl ?_
      refine v_icmp_ne hC (tgt := 45) dX0_withRightLook_35 (by decide) rfl (fun c => ?_) (fun c => ?_)
      · have h := ite_f c h
        exact bX0_withRightLook_45 hC hr _ _ _ _ _ _ _ _ _ _ _ _ _ ih h
      · have h := ite_t c h
        refine v_iload_n hC dX0_withRightLook_38 rfl 2 rfl rfl ?_
        refine v_iconst hC (v := (nI 1)) dX0_withRightLook_39 (by decide) rfl ?_
        refine v_iload hC dX0_withRightLook_40 3 rfl rfl ?_
        refine v_ishl hC dX0_withRightLook_42 rfl ?_
        refine v_ior hC dX0_withRightLook_43 rfl ?_
        refine v_istore_n hC dX0_withRightLook_44 rfl (by decide) [(3, .int (y3 ||| ((nI 1) <<< (y4 &&& 31)))), (0, .ref h0), (2, .int y2), (4, .int y4)] rfl rfl ?_
        exact v_sub [1, 2, 0, 3] (lv' := [(0, .ref h0), (2, .int y2), (3, .int (y3 ||| ((nI 1) <<< (y4 &&& 31)))), (4, .int y4)]) rfl (bX0_withRightLook_45 hC hr _ _ _ _ _ _ _ _ _ _ _ _ _ ih h)
set_option maxHeartbeats 4000000 in
set_option maxRecDepth 100000 in
theorem mX0_withRightLook (l : Launch) (g : va_G) (cy : Nat → ClassId) (h0 q1 a1 q2 a2 q3 a3 : Nat) (ec : Int32) (sn : Int32) (dy : Int32) (wg : Int32) (pe : Int32) (pn : Int32) (br : Int32) (ex : Nat → Int32) (sc : Nat → Int32) (se : Nat → Int32) (x1 : Int32) {res : Int32} (h : pX0_withRightLook ec ex sc x1 = some res) : Met l yX0_withRightLook wsX0_withRightLook rmX0_withRightLook (PW [.ref h0, .int x1] g cy [(h0, .inr (0, [.ref q1, .ref q2, .ref q3, .int ec, .int sn, .int dy, .int wg, .int pe, .int pn, .int br])), (q1, .inr (3, [.int (nI 14), .ref a1])), (a1, .inl (cy 0, 84, .inl ex)), (q2, .inr (3, [.int (nI 10), .ref a2])), (a2, .inl (cy 0, 60, .inl sc)), (q3, .inr (3, [.int (nI 1), .ref a3])), (a3, .inl (cy 0, 3, .inl se))]) (QRi res) 0 0 nF := by
  refine m_ofV (cc := cX0_withRightLook) (nL := 5) (ret := (some .int)) (B := fun _ => True) RX0 rfl (by decide) rfl [(0, .ref h0), (1, .int x1)] rfl (Nat.le_of_ble_eq_true rfl) (fun h => h) ?_
  intro p e s m args below meth c hC hr
  unfold pX0_withRightLook at h
  refine v_aload_n hC dX0_withRightLook_0 rfl 0 rfl rfl ?_
  refine v_get hC iX0_withRightLook_X0 0 rfl rfl 1 (by decide) kX0_withRightLook_20 rfl rfl dX0_withRightLook_1 rfl ?_
  refine v_iconst hC (v := (nI 0)) dX0_withRightLook_4 (by decide) rfl ?_
  refine v_iload_n hC dX0_withRightLook_5 rfl 1 rfl rfl ?_
  obtain ⟨v1, hv1, h⟩ := bind_g h
  refine v_callVri hC (n := 2) (st := []) (mX5_get l g cy q2 a2 (nI 10) 60 sc (nI 0) x1 hv1) gX0_withRightLook_X5_get rfl rfl rfl (by decide +kernel) ⟨Nat.le_of_ble_eq_true rfl, Nat.le_of_ble_eq_true rfl⟩ 3 rfl rfl [3, 4] rfl rfl rfl rfl (Nat.le_of_ble_eq_true rfl) rfl ⟨Nat.zero_le _, Nat.zero_le _⟩ dX0_withRightLook_6 rfl ?_
  refine v_istore_n hC dX0_withRightLook_9 rfl (by decide) [(2, .int v1), (0, .ref h0), (1, .int x1)] rfl rfl ?_
  refine v_iconst hC (v := (nI 0)) dX0_withRightLook_10 (by decide) rfl ?_
  refine v_istore_n hC dX0_withRightLook_11 rfl (by decide) [(3, .int (nI 0)), (2, .int v1), (0, .ref h0), (1, .int x1)] rfl rfl ?_
  refine v_iconst hC (v := (nI 0)) dX0_withRightLook_12 (by decide) rfl ?_
  refine v_istore hC dX0_withRightLook_13 (by decide) [(4, .int (nI 0)), (3, .int (nI 0)), (2, .int v1), (0, .ref h0), (1, .int x1)] rfl rfl ?_
  exact v_sub [3, 2, 1, 0] (lv' := [(0, .ref h0), (2, .int v1), (3, .int (nI 0)), (4, .int (nI 0))]) rfl (bX0_withRightLook_15 hC hr FU _ _ _ _ _ _ _ _ _ _ _ _ _ h)
theorem kX0_withTime_14 : Cond.fieldLink RX0 14 "CrowdFaces$Film" "extras" "LCrowdFaces$Table;" ∈ wsX0_withTime := by decide +kernel
theorem kX0_withTime_20 : Cond.fieldLink RX0 20 "CrowdFaces$Film" "scenes" "LCrowdFaces$Table;" ∈ wsX0_withTime := by decide +kernel
theorem kX0_withTime_23 : Cond.fieldLink RX0 23 "CrowdFaces$Film" "settings" "LCrowdFaces$Table;" ∈ wsX0_withTime := by decide +kernel
theorem kX0_withTime_37 : Cond.fieldLink RX0 37 "CrowdFaces$Film" "extraCount" "I" ∈ wsX0_withTime := by decide +kernel
theorem iX0_withTime_X0 : ∀ w ∈ wsX00, w ∈ wsX0_withTime := by decide +kernel
def pX0_withTime_55 (kk : Int32 → (Nat → Int32) → (Nat → Int32) → (Nat → Int32) → Int32 → Int32 → Int32 → Option (Int32)) (ec : Int32) (ex : Nat → Int32) (sc : Nat → Int32) (se : Nat → Int32) (y2 : Int32) (y3 : Int32) (y4 : Int32) : Option (Int32) := kk ec ex sc se y2 y3 (y4 + (nI 1))
def pX0_withTime_25 : Nat → Int32 → (Nat → Int32) → (Nat → Int32) → (Nat → Int32) → Int32 → Int32 → Int32 → Option (Int32)
  | 0, _, _, _, _, _, _, _ => none
  | k + 1, ec, ex, sc, se, y2, y3, y4 => if ec ≤ y4 then some y3 else (pX5_get (nI 14) 84 ex (nI 2) y4).bind fun v1 => if y2 < v1 then pX0_withTime_55 (fun u0 u1 u2 u3 u4 u5 u6 => pX0_withTime_25 k u0 u1 u2 u3 u4 u5 u6) ec ex sc se y2 y3 y4 else pX0_withTime_55 (fun u0 u1 u2 u3 u4 u5 u6 => pX0_withTime_25 k u0 u1 u2 u3 u4 u5 u6) ec ex sc se y2 (y3 ||| ((nI 1) <<< (y4 &&& 31))) y4
theorem pX0_withTime_25_s {k : Nat} (ec : Int32) (ex : Nat → Int32) (sc : Nat → Int32) (se : Nat → Int32) (y2 : Int32) (y3 : Int32) (y4 : Int32) : pX0_withTime_25 (k + 1) ec ex sc se y2 y3 y4 = if ec ≤ y4 then some y3 else (pX5_get (nI 14) 84 ex (nI 2) y4).bind fun v1 => if y2 < v1 then pX0_withTime_55 (fun u0 u1 u2 u3 u4 u5 u6 => pX0_withTime_25 k u0 u1 u2 u3 u4 u5 u6) ec ex sc se y2 y3 y4 else pX0_withTime_55 (fun u0 u1 u2 u3 u4 u5 u6 => pX0_withTime_25 k u0 u1 u2 u3 u4 u5 u6) ec ex sc se y2 (y3 ||| ((nI 1) <<< (y4 &&& 31))) y4 := rfl
def pX0_withTime (ec : Int32) (ex : Nat → Int32) (sc : Nat → Int32) (se : Nat → Int32) (x1 : Int32) : Option (Int32) := (pX5_get (nI 1) 3 se (nI 0) (nI 0)).bind fun v1 => (pX5_get (nI 10) 60 sc (nI 4) x1).bind fun v2 => pX0_withTime_25 FU ec ex sc se (v1 - v2) (nI 0) (nI 0)
abbrev rmX0_withTime : Room := { frames := 1, cells := 0, slots := 0, locals := 23 }
set_option maxHeartbeats 4000000 in
set_option maxRecDepth 100000 in
theorem bX0_withTime_55 {p : Program} {l : Launch} {e : Env} {s : State} {m : MethodId} {args : Array Value} {below : List Frame} {meth : Method} {c : Code} {g : va_G} {cy : Nat → ClassId} (hC : CX p s m args meth c g cy 5 cX0_withTime wsX0_withTime RX0) (hr : meth.sig.returnType = (some .int)) {h0 q1 a1 q2 a2 q3 a3 : Nat} {res : Int32} : ∀ (ec : Int32) (sn : Int32) (dy : Int32) (wg : Int32) (pe : Int32) (pn : Int32) (br : Int32) (ex : Nat → Int32) (sc : Nat → Int32) (se : Nat → Int32) (y2 : Int32) (y3 : Int32) (y4 : Int32) {kk : Int32 → (Nat → Int32) → (Nat → Int32) → (Nat → Int32) → Int32 → Int32 → Int32 → Option (Int32)} (hk : ∀ (ec : Int32) (sn : Int32) (dy : Int32) (wg : Int32) (pe : Int32) (pn : Int32) (br : Int32) (ex : Nat → Int32) (sc : Nat → Int32) (se : Nat → Int32) (y2 : Int32) (y3 : Int32) (y4 : Int32), kk ec ex sc se y2 y3 y4 = some res → V p l e (headSpec wsX0_withTime rmX0_withTime).room s m args below meth c g 5 0 0 (MQ below (QRi res) args s 0 0 nF) nF (fun _ => True) [(h0, .inr (0, [.ref q1, .ref q2, .ref q3, .int ec, .int sn, .int dy, .int wg, .int pe, .int pn, .int br])), (q1, .inr (3, [.int (nI 14), .ref a1])), (a1, .inl (cy 0, 84, .inl ex)), (q2, .inr (3, [.int (nI 10), .ref a2])), (a2, .inl (cy 0, 60, .inl sc)), (q3, .inr (3, [.int (nI 1), .ref a3])), (a3, .inl (cy 0, 3, .inl se))] 25 [(0, .ref h0), (2, .int y2), (3, .int y3), (4, .int y4)] []) (h : pX0_withTime_55 kk ec ex sc se y2 y3 y4 = some res), V p l e (headSpec wsX0_withTime rmX0_withTime).room s m args below meth c g 5 0 0 (MQ below (QRi res) args s 0 0 nF) nF (fun _ => True) [(h0, .inr (0, [.ref q1, .ref q2, .ref q3, .int ec, .int sn, .int dy, .int wg, .int pe, .int pn, .int br])), (q1, .inr (3, [.int (nI 14), .ref a1])), (a1, .inl (cy 0, 84, .inl ex)), (q2, .inr (3, [.int (nI 10), .ref a2])), (a2, .inl (cy 0, 60, .inl sc)), (q3, .inr (3, [.int (nI 1), .ref a3])), (a3, .inl (cy 0, 3, .inl se))] 55 [(0, .ref h0), (2, .int y2), (3, .int y3), (4, .int y4)] [] := by
  intro ec sn dy wg pe pn br ex sc se y2 y3 y4 kk hk h
  unfold pX0_withTime_55 at h
  refine v_iinc hC dX0_withTime_55 3 rfl (v := (y4 + (nI 1))) rfl (by decide) [(4, .int (y4 + (nI 1))), (0, .ref h0), (2, .int y2), (3, .int y3)] rfl rfl ?_
  refine v_goto hC (tgt := 25) dX0_withTime_58 (by decide) ?_
  exact v_sub [1, 2, 3, 0] (lv' := [(0, .ref h0), (2, .int y2), (3, .int y3), (4, .int (y4 + (nI 1)))]) rfl (hk _ _ _ _ _ _ _ _ _ _ _ _ _ h)
set_option maxHeartbeats 4000000 in
set_option maxRecDepth 100000 in
theorem bX0_withTime_25 {p : Program} {l : Launch} {e : Env} {s : State} {m : MethodId} {args : Array Value} {below : List Frame} {meth : Method} {c : Code} {g : va_G} {cy : Nat → ClassId} (hC : CX p s m args meth c g cy 5 cX0_withTime wsX0_withTime RX0) (hr : meth.sig.returnType = (some .int)) {h0 q1 a1 q2 a2 q3 a3 : Nat} {res : Int32} : ∀ (k : Nat) (ec : Int32) (sn : Int32) (dy : Int32) (wg : Int32) (pe : Int32) (pn : Int32) (br : Int32) (ex : Nat → Int32) (sc : Nat → Int32) (se : Nat → Int32) (y2 : Int32) (y3 : Int32) (y4 : Int32) (h : pX0_withTime_25 k ec ex sc se y2 y3 y4 = some res), V p l e (headSpec wsX0_withTime rmX0_withTime).room s m args below meth c g 5 0 0 (MQ below (QRi res) args s 0 0 nF) nF (fun _ => True) [(h0, .inr (0, [.ref q1, .ref q2, .ref q3, .int ec, .int sn, .int dy, .int wg, .int pe, .int pn, .int br])), (q1, .inr (3, [.int (nI 14), .ref a1])), (a1, .inl (cy 0, 84, .inl ex)), (q2, .inr (3, [.int (nI 10), .ref a2])), (a2, .inl (cy 0, 60, .inl sc)), (q3, .inr (3, [.int (nI 1), .ref a3])), (a3, .inl (cy 0, 3, .inl se))] 25 [(0, .ref h0), (2, .int y2), (3, .int y3), (4, .int y4)] [] := by
  intro k
  induction k with
  | zero =>
    intro ec sn dy wg pe pn br ex sc se y2 y3 y4 h
    have h : (none : Option _) = some res := h
    cases h
  | succ k ih =>
    intro ec sn dy wg pe pn br ex sc se y2 y3 y4 h
    rw [pX0_withTime_25_s] at h
    refine v_iload hC dX0_withTime_25 3 rfl rfl ?_
    refine v_aload_n hC dX0_withTime_27 rfl 0 rfl rfl ?_
    refine v_get hC iX0_withTime_X0 0 rfl rfl 3 (by decide) kX0_withTime_37 rfl rfl dX0_withTime_28 rfl ?_
    refine v_icmp_ge hC (tgt := 61) dX0_withTime_31 (by decide) rfl (fun c => ?_) (fun c => ?_)
    · have h := ite_t c h
      refine v_iload_n hC dX0_withTime_61 rfl 2 rfl rfl ?_
      obtain rfl := Option.some.inj h
      exact v_irt hC hr rfl rfl dX0_withTime_62
    · have h := ite_f c h
      refine v_aload_n hC dX0_withTime_34 rfl 0 rfl rfl ?_
      refine v_get hC iX0_withTime_X0 0 rfl rfl 0 (by decide) kX0_withTime_14 rfl rfl dX0_withTime_35 rfl ?_
      refine v_iconst hC (v := (nI 2)) dX0_withTime_38 (by decide) rfl ?_
      refine v_iload hC dX0_withTime_39 3 rfl rfl ?_
      obtain ⟨v1, hv1, h⟩ := bind_g h
      refine v_callVri hC (n := 2) (st := []) (mX5_get l g cy q1 a1 (nI 14) 84 ex (nI 2) y4 hv1) gX0_withTime_X5_get rfl rfl rfl (by decide +kernel) ⟨Nat.le_of_ble_eq_true rfl, Nat.le_of_ble_eq_true rfl⟩ 1 rfl rfl [1, 2] rfl rfl rfl rfl (Nat.le_of_ble_eq_true rfl) rfl ⟨Nat.zero_le _, Nat.zero_le _⟩ dX0_withTime_41 rfl ?_
      refine v_iload_n hC dX0_withTime_44 rfl 1 rfl rfl ?_
      refine v_icmp_gt hC (tgt := 55) dX0_withTime_45 (by decide) rfl (fun c => ?_) (fun c => ?_)
      · have h := ite_t c h
        exact bX0_withTime_55 hC hr _ _ _ _ _ _ _ _ _ _ _ _ _ ih h
      · have h := ite_f c h
        refine v_iload_n hC dX0_withTime_48 rfl 2 rfl rfl ?_
        refine v_iconst hC (v := (nI 1)) dX0_withTime_49 (by decide) rfl ?_
        refine v_iload hC dX0_withTime_50 3 rfl rfl ?_
        refine v_ishl hC dX0_withTime_52 rfl ?_
        refine v_ior hC dX0_withTime_53 rfl ?_
        refine v_istore_n hC dX0_withTime_54 rfl (by decide) [(3, .int (y3 ||| ((nI 1) <<< (y4 &&& 31)))), (0, .ref h0), (2, .int y2), (4, .int y4)] rfl rfl ?_
        exact v_sub [1, 2, 0, 3] (lv' := [(0, .ref h0), (2, .int y2), (3, .int (y3 ||| ((nI 1) <<< (y4 &&& 31)))), (4, .int y4)]) rfl (bX0_withTime_55 hC hr _ _ _ _ _ _ _ _ _ _ _ _ _ ih h)
set_option maxHeartbeats 4000000 in
set_option maxRecDepth 100000 in
theorem mX0_withTime (l : Launch) (g : va_G) (cy : Nat → ClassId) (h0 q1 a1 q2 a2 q3 a3 : Nat) (ec : Int32) (sn : Int32) (dy : Int32) (wg : Int32) (pe : Int32) (pn : Int32) (br : Int32) (ex : Nat → Int32) (sc : Nat → Int32) (se : Nat → Int32) (x1 : Int32) {res : Int32} (h : pX0_withTime ec ex sc se x1 = some res) : Met l yX0_withTime wsX0_withTime rmX0_withTime (PW [.ref h0, .int x1] g cy [(h0, .inr (0, [.ref q1, .ref q2, .ref q3, .int ec, .int sn, .int dy, .int wg, .int pe, .int pn, .int br])), (q1, .inr (3, [.int (nI 14), .ref a1])), (a1, .inl (cy 0, 84, .inl ex)), (q2, .inr (3, [.int (nI 10), .ref a2])), (a2, .inl (cy 0, 60, .inl sc)), (q3, .inr (3, [.int (nI 1), .ref a3])), (a3, .inl (cy 0, 3, .inl se))]) (QRi res) 0 0 nF := by
  refine m_ofV (cc := cX0_withTime) (nL := 5) (ret := (some .int)) (B := fun _ => True) RX0 rfl (by decide) rfl [(0, .ref h0), (1, .int x1)] rfl (Nat.le_of_ble_eq_true rfl) (fun h => h) ?_
  intro p e s m args below meth c hC hr
  unfold pX0_withTime at h
  refine v_aload_n hC dX0_withTime_0 rfl 0 rfl rfl ?_
  refine v_get hC iX0_withTime_X0 0 rfl rfl 2 (by decide) kX0_withTime_23 rfl rfl dX0_withTime_1 rfl ?_
  refine v_iconst hC (v := (nI 0)) dX0_withTime_4 (by decide) rfl ?_
  refine v_iconst hC (v := (nI 0)) dX0_withTime_5 (by decide) rfl ?_
  obtain ⟨v1, hv1, h⟩ := bind_g h
  refine v_callVri hC (n := 2) (st := []) (mX5_get l g cy q3 a3 (nI 1) 3 se (nI 0) (nI 0) hv1) gX0_withTime_X5_get rfl rfl rfl (by decide +kernel) ⟨Nat.le_of_ble_eq_true rfl, Nat.le_of_ble_eq_true rfl⟩ 5 rfl rfl [5, 6] rfl rfl rfl rfl (Nat.le_of_ble_eq_true rfl) rfl ⟨Nat.zero_le _, Nat.zero_le _⟩ dX0_withTime_6 rfl ?_
  refine v_aload_n hC dX0_withTime_9 rfl 0 rfl rfl ?_
  refine v_get hC iX0_withTime_X0 0 rfl rfl 1 (by decide) kX0_withTime_20 rfl rfl dX0_withTime_10 rfl ?_
  refine v_iconst hC (v := (nI 4)) dX0_withTime_13 (by decide) rfl ?_
  refine v_iload_n hC dX0_withTime_14 rfl 1 rfl rfl ?_
  obtain ⟨v2, hv2, h⟩ := bind_g h
  refine v_callVri hC (n := 2) (st := [.int v1]) (mX5_get l g cy q2 a2 (nI 10) 60 sc (nI 4) x1 hv2) gX0_withTime_X5_get rfl rfl rfl (by decide +kernel) ⟨Nat.le_of_ble_eq_true rfl, Nat.le_of_ble_eq_true rfl⟩ 3 rfl rfl [3, 4] rfl rfl rfl rfl (Nat.le_of_ble_eq_true rfl) rfl ⟨Nat.zero_le _, Nat.zero_le _⟩ dX0_withTime_15 rfl ?_
  refine v_isub hC dX0_withTime_18 rfl ?_
  refine v_istore_n hC dX0_withTime_19 rfl (by decide) [(2, .int (v1 - v2)), (0, .ref h0), (1, .int x1)] rfl rfl ?_
  refine v_iconst hC (v := (nI 0)) dX0_withTime_20 (by decide) rfl ?_
  refine v_istore_n hC dX0_withTime_21 rfl (by decide) [(3, .int (nI 0)), (2, .int (v1 - v2)), (0, .ref h0), (1, .int x1)] rfl rfl ?_
  refine v_iconst hC (v := (nI 0)) dX0_withTime_22 (by decide) rfl ?_
  refine v_istore hC dX0_withTime_23 (by decide) [(4, .int (nI 0)), (3, .int (nI 0)), (2, .int (v1 - v2)), (0, .ref h0), (1, .int x1)] rfl rfl ?_
  exact v_sub [3, 2, 1, 0] (lv' := [(0, .ref h0), (2, .int (v1 - v2)), (3, .int (nI 0)), (4, .int (nI 0))]) rfl (bX0_withTime_25 hC hr FU _ _ _ _ _ _ _ _ _ _ _ _ _ h)
theorem kX0_leastWorked_14 : Cond.fieldLink RX0 14 "CrowdFaces$Film" "extras" "LCrowdFaces$Table;" ∈ wsX0_leastWorked := by decide +kernel
theorem kX0_leastWorked_37 : Cond.fieldLink RX0 37 "CrowdFaces$Film" "extraCount" "I" ∈ wsX0_leastWorked := by decide +kernel
theorem iX0_leastWorked_X0 : ∀ w ∈ wsX00, w ∈ wsX0_leastWorked := by decide +kernel
def pX0_leastWorked_48 (kk : Int32 → (Nat → Int32) → Int32 → Int32 → Int32 → Option (Int32)) (ec : Int32) (ex : Nat → Int32) (y1 : Int32) (y2 : Int32) (y3 : Int32) : Option (Int32) := kk ec ex y1 y2 (y3 + (nI 1))
def pX0_leastWorked_46 (kk : Int32 → (Nat → Int32) → Int32 → Int32 → Int32 → Option (Int32)) (ec : Int32) (ex : Nat → Int32) (y1 : Int32) (y3 : Int32) : Option (Int32) := pX0_leastWorked_48 kk ec ex y1 y3 y3
def pX0_leastWorked_66 (ec : Int32) (ex : Nat → Int32) (s0 : Int32) : Option (Int32) := some s0
def pX0_leastWorked_4 : Nat → Int32 → (Nat → Int32) → Int32 → Int32 → Int32 → Option (Int32)
  | 0, _, _, _, _, _ => none
  | k + 1, ec, ex, y1, y2, y3 => if ec ≤ y3 then if y2 = (-1) then pX0_leastWorked_66 ec ex (nI 0) else pX0_leastWorked_66 ec ex ((nI 1) <<< (y2 &&& 31)) else (pX7_has y1 y3).bind fun v1 => if v1 = 0 then pX0_leastWorked_48 (fun u0 u1 u2 u3 u4 => pX0_leastWorked_4 k u0 u1 u2 u3 u4) ec ex y1 y2 y3 else if y2 = (-1) then pX0_leastWorked_46 (fun u0 u1 u2 u3 u4 => pX0_leastWorked_4 k u0 u1 u2 u3 u4) ec ex y1 y3 else (pX5_get (nI 14) 84 ex (nI 2) y3).bind fun v2 => (pX5_get (nI 14) 84 ex (nI 2) y2).bind fun v3 => if v3 ≤ v2 then pX0_leastWorked_48 (fun u0 u1 u2 u3 u4 => pX0_leastWorked_4 k u0 u1 u2 u3 u4) ec ex y1 y2 y3 else pX0_leastWorked_46 (fun u0 u1 u2 u3 u4 => pX0_leastWorked_4 k u0 u1 u2 u3 u4) ec ex y1 y3
theorem pX0_leastWorked_4_s {k : Nat} (ec : Int32) (ex : Nat → Int32) (y1 : Int32) (y2 : Int32) (y3 : Int32) : pX0_leastWorked_4 (k + 1) ec ex y1 y2 y3 = if ec ≤ y3 then if y2 = (-1) then pX0_leastWorked_66 ec ex (nI 0) else pX0_leastWorked_66 ec ex ((nI 1) <<< (y2 &&& 31)) else (pX7_has y1 y3).bind fun v1 => if v1 = 0 then pX0_leastWorked_48 (fun u0 u1 u2 u3 u4 => pX0_leastWorked_4 k u0 u1 u2 u3 u4) ec ex y1 y2 y3 else if y2 = (-1) then pX0_leastWorked_46 (fun u0 u1 u2 u3 u4 => pX0_leastWorked_4 k u0 u1 u2 u3 u4) ec ex y1 y3 else (pX5_get (nI 14) 84 ex (nI 2) y3).bind fun v2 => (pX5_get (nI 14) 84 ex (nI 2) y2).bind fun v3 => if v3 ≤ v2 then pX0_leastWorked_48 (fun u0 u1 u2 u3 u4 => pX0_leastWorked_4 k u0 u1 u2 u3 u4) ec ex y1 y2 y3 else pX0_leastWorked_46 (fun u0 u1 u2 u3 u4 => pX0_leastWorked_4 k u0 u1 u2 u3 u4) ec ex y1 y3 := rfl
def pX0_leastWorked (ec : Int32) (ex : Nat → Int32) (x1 : Int32) : Option (Int32) := pX0_leastWorked_4 FU ec ex x1 (-1) (nI 0)
abbrev rmX0_leastWorked : Room := { frames := 1, cells := 0, slots := 0, locals := 23 }
set_option maxHeartbeats 4000000 in
set_option maxRecDepth 100000 in
theorem bX0_leastWorked_48 {p : Program} {l : Launch} {e : Env} {s : State} {m : MethodId} {args : Array Value} {below : List Frame} {meth : Method} {c : Code} {g : va_G} {cy : Nat → ClassId} (hC : CX p s m args meth c g cy 4 cX0_leastWorked wsX0_leastWorked RX0) (hr : meth.sig.returnType = (some .int)) {h0 q1 a1 q2 a2 q3 a3 : Nat} {res : Int32} : ∀ (ec : Int32) (sn : Int32) (dy : Int32) (wg : Int32) (pe : Int32) (pn : Int32) (br : Int32) (ex : Nat → Int32) (sc : Nat → Int32) (se : Nat → Int32) (y1 : Int32) (y2 : Int32) (y3 : Int32) {kk : Int32 → (Nat → Int32) → Int32 → Int32 → Int32 → Option (Int32)} (hk : ∀ (ec : Int32) (sn : Int32) (dy : Int32) (wg : Int32) (pe : Int32) (pn : Int32) (br : Int32) (ex : Nat → Int32) (sc : Nat → Int32) (se : Nat → Int32) (y1 : Int32) (y2 : Int32) (y3 : Int32), kk ec ex y1 y2 y3 = some res → V p l e (headSpec wsX0_leastWorked rmX0_leastWorked).room s m args below meth c g 4 0 0 (MQ below (QRi res) args s 0 0 nF) nF (fun _ => True) [(h0, .inr (0, [.ref q1, .ref q2, .ref q3, .int ec, .int sn, .int dy, .int wg, .int pe, .int pn, .int br])), (q1, .inr (3, [.int (nI 14), .ref a1])), (a1, .inl (cy 0, 84, .inl ex)), (q2, .inr (3, [.int (nI 10), .ref a2])), (a2, .inl (cy 0, 60, .inl sc)), (q3, .inr (3, [.int (nI 1), .ref a3])), (a3, .inl (cy 0, 3, .inl se))] 4 [(0, .ref h0), (1, .int y1), (2, .int y2), (3, .int y3)] []) (h : pX0_leastWorked_48 kk ec ex y1 y2 y3 = some res), V p l e (headSpec wsX0_leastWorked rmX0_leastWorked).room s m args below meth c g 4 0 0 (MQ below (QRi res) args s 0 0 nF) nF (fun _ => True) [(h0, .inr (0, [.ref q1, .ref q2, .ref q3, .int ec, .int sn, .int dy, .int wg, .int pe, .int pn, .int br])), (q1, .inr (3, [.int (nI 14), .ref a1])), (a1, .inl (cy 0, 84, .inl ex)), (q2, .inr (3, [.int (nI 10), .ref a2])), (a2, .inl (cy 0, 60, .inl sc)), (q3, .inr (3, [.int (nI 1), .ref a3])), (a3, .inl (cy 0, 3, .inl se))] 48 [(0, .ref h0), (1, .int y1), (2, .int y2), (3, .int y3)] [] := by
  intro ec sn dy wg pe pn br ex sc se y1 y2 y3 kk hk h
  unfold pX0_leastWorked_48 at h
  refine v_iinc hC dX0_leastWorked_48 3 rfl (v := (y3 + (nI 1))) rfl (by decide) [(3, .int (y3 + (nI 1))), (0, .ref h0), (1, .int y1), (2, .int y2)] rfl rfl ?_
  refine v_goto hC (tgt := 4) dX0_leastWorked_51 (by decide) ?_
  exact v_sub [1, 2, 3, 0] (lv' := [(0, .ref h0), (1, .int y1), (2, .int y2), (3, .int (y3 + (nI 1)))]) rfl (hk _ _ _ _ _ _ _ _ _ _ _ _ _ h)
set_option maxHeartbeats 4000000 in
set_option maxRecDepth 100000 in
theorem bX0_leastWorked_46 {p : Program} {l : Launch} {e : Env} {s : State} {m : MethodId} {args : Array Value} {below : List Frame} {meth : Method} {c : Code} {g : va_G} {cy : Nat → ClassId} (hC : CX p s m args meth c g cy 4 cX0_leastWorked wsX0_leastWorked RX0) (hr : meth.sig.returnType = (some .int)) {h0 q1 a1 q2 a2 q3 a3 : Nat} {res : Int32} : ∀ (ec : Int32) (sn : Int32) (dy : Int32) (wg : Int32) (pe : Int32) (pn : Int32) (br : Int32) (ex : Nat → Int32) (sc : Nat → Int32) (se : Nat → Int32) (y1 : Int32) (y3 : Int32) {kk : Int32 → (Nat → Int32) → Int32 → Int32 → Int32 → Option (Int32)} (hk : ∀ (ec : Int32) (sn : Int32) (dy : Int32) (wg : Int32) (pe : Int32) (pn : Int32) (br : Int32) (ex : Nat → Int32) (sc : Nat → Int32) (se : Nat → Int32) (y1 : Int32) (y2 : Int32) (y3 : Int32), kk ec ex y1 y2 y3 = some res → V p l e (headSpec wsX0_leastWorked rmX0_leastWorked).room s m args below meth c g 4 0 0 (MQ below (QRi res) args s 0 0 nF) nF (fun _ => True) [(h0, .inr (0, [.ref q1, .ref q2, .ref q3, .int ec, .int sn, .int dy, .int wg, .int pe, .int pn, .int br])), (q1, .inr (3, [.int (nI 14), .ref a1])), (a1, .inl (cy 0, 84, .inl ex)), (q2, .inr (3, [.int (nI 10), .ref a2])), (a2, .inl (cy 0, 60, .inl sc)), (q3, .inr (3, [.int (nI 1), .ref a3])), (a3, .inl (cy 0, 3, .inl se))] 4 [(0, .ref h0), (1, .int y1), (2, .int y2), (3, .int y3)] []) (h : pX0_leastWorked_46 kk ec ex y1 y3 = some res), V p l e (headSpec wsX0_leastWorked rmX0_leastWorked).room s m args below meth c g 4 0 0 (MQ below (QRi res) args s 0 0 nF) nF (fun _ => True) [(h0, .inr (0, [.ref q1, .ref q2, .ref q3, .int ec, .int sn, .int dy, .int wg, .int pe, .int pn, .int br])), (q1, .inr (3, [.int (nI 14), .ref a1])), (a1, .inl (cy 0, 84, .inl ex)), (q2, .inr (3, [.int (nI 10), .ref a2])), (a2, .inl (cy 0, 60, .inl sc)), (q3, .inr (3, [.int (nI 1), .ref a3])), (a3, .inl (cy 0, 3, .inl se))] 46 [(0, .ref h0), (1, .int y1), (3, .int y3)] [] := by
  intro ec sn dy wg pe pn br ex sc se y1 y3 kk hk h
  unfold pX0_leastWorked_46 at h
  refine v_iload_n hC dX0_leastWorked_46 rfl 2 rfl rfl ?_
  refine v_istore_n hC dX0_leastWorked_47 rfl (by decide) [(2, .int y3), (0, .ref h0), (1, .int y1), (3, .int y3)] rfl rfl ?_
  exact v_sub [1, 2, 0, 3] (lv' := [(0, .ref h0), (1, .int y1), (2, .int y3), (3, .int y3)]) rfl (bX0_leastWorked_48 hC hr _ _ _ _ _ _ _ _ _ _ _ _ _ hk h)
set_option maxHeartbeats 4000000 in
set_option maxRecDepth 100000 in
theorem bX0_leastWorked_66 {p : Program} {l : Launch} {e : Env} {s : State} {m : MethodId} {args : Array Value} {below : List Frame} {meth : Method} {c : Code} {g : va_G} {cy : Nat → ClassId} (hC : CX p s m args meth c g cy 4 cX0_leastWorked wsX0_leastWorked RX0) (hr : meth.sig.returnType = (some .int)) {h0 q1 a1 q2 a2 q3 a3 : Nat} {res : Int32} : ∀ (ec : Int32) (sn : Int32) (dy : Int32) (wg : Int32) (pe : Int32) (pn : Int32) (br : Int32) (ex : Nat → Int32) (sc : Nat → Int32) (se : Nat → Int32) (s0 : Int32)(h : pX0_leastWorked_66 ec ex s0 = some res), V p l e (headSpec wsX0_leastWorked rmX0_leastWorked).room s m args below meth c g 4 0 0 (MQ below (QRi res) args s 0 0 nF) nF (fun _ => True) [(h0, .inr (0, [.ref q1, .ref q2, .ref q3, .int ec, .int sn, .int dy, .int wg, .int pe, .int pn, .int br])), (q1, .inr (3, [.int (nI 14), .ref a1])), (a1, .inl (cy 0, 84, .inl ex)), (q2, .inr (3, [.int (nI 10), .ref a2])), (a2, .inl (cy 0, 60, .inl sc)), (q3, .inr (3, [.int (nI 1), .ref a3])), (a3, .inl (cy 0, 3, .inl se))] 66 [] [.int s0] := by
  intro ec sn dy wg pe pn br ex sc se s0 h
  unfold pX0_leastWorked_66 at h
  obtain rfl := Option.some.inj h
  exact v_irt hC hr rfl rfl dX0_leastWorked_66
set_option maxHeartbeats 4000000 in
set_option maxRecDepth 100000 in
theorem bX0_leastWorked_4 {p : Program} {l : Launch} {e : Env} {s : State} {m : MethodId} {args : Array Value} {below : List Frame} {meth : Method} {c : Code} {g : va_G} {cy : Nat → ClassId} (hC : CX p s m args meth c g cy 4 cX0_leastWorked wsX0_leastWorked RX0) (hr : meth.sig.returnType = (some .int)) {h0 q1 a1 q2 a2 q3 a3 : Nat} {res : Int32} : ∀ (k : Nat) (ec : Int32) (sn : Int32) (dy : Int32) (wg : Int32) (pe : Int32) (pn : Int32) (br : Int32) (ex : Nat → Int32) (sc : Nat → Int32) (se : Nat → Int32) (y1 : Int32) (y2 : Int32) (y3 : Int32) (h : pX0_leastWorked_4 k ec ex y1 y2 y3 = some res), V p l e (headSpec wsX0_leastWorked rmX0_leastWorked).room s m args below meth c g 4 0 0 (MQ below (QRi res) args s 0 0 nF) nF (fun _ => True) [(h0, .inr (0, [.ref q1, .ref q2, .ref q3, .int ec, .int sn, .int dy, .int wg, .int pe, .int pn, .int br])), (q1, .inr (3, [.int (nI 14), .ref a1])), (a1, .inl (cy 0, 84, .inl ex)), (q2, .inr (3, [.int (nI 10), .ref a2])), (a2, .inl (cy 0, 60, .inl sc)), (q3, .inr (3, [.int (nI 1), .ref a3])), (a3, .inl (cy 0, 3, .inl se))] 4 [(0, .ref h0), (1, .int y1), (2, .int y2), (3, .int y3)] [] := by
  intro k
  induction k with
  | zero =>
    intro ec sn dy wg pe pn br ex sc se y1 y2 y3 h
    have h : (none : Option _) = some res := h
    cases h
  | succ k ih =>
    intro ec sn dy wg pe pn br ex sc se y1 y2 y3 h
    rw [pX0_leastWorked_4_s] at h
    refine v_iload_n hC dX0_leastWorked_4 rfl 3 rfl rfl ?_
    refine v_aload_n hC dX0_leastWorked_5 rfl 0 rfl rfl ?_
    refine v_get hC iX0_leastWorked_X0 0 rfl rfl 3 (by decide) kX0_leastWorked_37 rfl rfl dX0_leastWorked_6 rfl ?_
    refine v_icmp_ge hC (tgt := 54) dX0_leastWorked_9 (by decide) rfl (fun c => ?_) (fun c => ?_)
    · have h := ite_t c h
      refine v_iload_n hC dX0_leastWorked_54 rfl 2 rfl rfl ?_
      refine v_iconst hC (v := (-1)) dX0_leastWorked_55 (by decide) rfl ?_
      refine v_icmp_ne hC (tgt := 63) dX0_leastWorked_56 (by decide) rfl (fun c => ?_) (fun c => ?_)
      · have h := ite_f c h
        refine v_iconst hC (v := (nI 1)) dX0_leastWorked_63 (by decide) rfl ?_
        refine v_iload_n hC dX0_leastWorked_64 rfl 2 rfl rfl ?_
        refine v_ishl hC dX0_leastWorked_65 rfl ?_
        exact v_sub [] (lv' := []) rfl (bX0_leastWorked_66 hC hr _ _ _ _ _ _ _ _ _ _ _ h)
      · have h := ite_t c h
        refine v_iconst hC (v := (nI 0)) dX0_leastWorked_59 (by decide) rfl ?_
        refine v_goto hC (tgt := 66) dX0_leastWorked_60 (by decide) ?_
        exact v_sub [] (lv' := []) rfl (bX0_leastWorked_66 hC hr _ _ _ _ _ _ _ _ _ _ _ h)
    · have h := ite_f c h
      refine v_iload_n hC dX0_leastWorked_12 rfl 1 rfl rfl ?_
      refine v_iload_n hC dX0_leastWorked_13 rfl 3 rfl rfl ?_
      obtain ⟨v1, hv1, h⟩ := bind_g h
      refine v_callNri hC (n := 2) (st := []) (mX7_has l g cy y1 y3 hv1) gX0_leastWorked_X7_has_n93 0 rfl ⟨by decide +kernel, by decide +kernel⟩ rfl rfl rfl (by decide +kernel) ⟨Nat.le_of_ble_eq_true rfl, Nat.le_of_ble_eq_true rfl⟩ [] rfl rfl rfl rfl (Nat.le_of_ble_eq_true rfl) rfl ⟨Nat.zero_le _, Nat.zero_le _⟩ dX0_leastWorked_14 rfl ?_
      refine v_if_eq hC (tgt := 48) dX0_leastWorked_17 (by decide) rfl (fun c => ?_) (fun c => ?_)
      · have h := ite_t c h
        exact bX0_leastWorked_48 hC hr _ _ _ _ _ _ _ _ _ _ _ _ _ ih h
      · have h := ite_f c h
        refine v_iload_n hC dX0_leastWorked_20 rfl 2 rfl rfl ?_
        refine v_iconst hC (v := (-1)) dX0_leastWorked_21 (by decide) rfl ?_
        refine v_icmp_eq hC (tgt := 46) dX0_leastWorked_22 (by decide) rfl (fun c => ?_) (fun c => ?_)
        · have h := ite_t c h
          exact v_sub [0, 1, 3] (lv' := [(0, .ref h0), (1, .int y1), (3, .int y3)]) rfl (bX0_leastWorked_46 hC hr _ _ _ _ _ _ _ _ _ _ _ _ ih h)
        · have h := ite_f c h
          refine v_aload_n hC dX0_leastWorked_25 rfl 0 rfl rfl ?_
          refine v_get hC iX0_leastWorked_X0 0 rfl rfl 0 (by decide) kX0_leastWorked_14 rfl rfl dX0_leastWorked_26 rfl ?_
          refine v_iconst hC (v := (nI 2)) dX0_leastWorked_29 (by decide) rfl ?_
          refine v_iload_n hC dX0_leastWorked_30 rfl 3 rfl rfl ?_
          obtain ⟨v2, hv2, h⟩ := bind_g h
          refine v_callVri hC (n := 2) (st := []) (mX5_get l g cy q1 a1 (nI 14) 84 ex (nI 2) y3 hv2) gX0_leastWorked_X5_get rfl rfl rfl (by decide +kernel) ⟨Nat.le_of_ble_eq_true rfl, Nat.le_of_ble_eq_true rfl⟩ 1 rfl rfl [1, 2] rfl rfl rfl rfl (Nat.le_of_ble_eq_true rfl) rfl ⟨Nat.zero_le _, Nat.zero_le _⟩ dX0_leastWorked_31 rfl ?_
          refine v_aload_n hC dX0_leastWorked_34 rfl 0 rfl rfl ?_
          refine v_get hC iX0_leastWorked_X0 0 rfl rfl 0 (by decide) kX0_leastWorked_14 rfl rfl dX0_leastWorked_35 rfl ?_
          refine v_iconst hC (v := (nI 2)) dX0_leastWorked_38 (by decide) rfl ?_
          refine v_iload_n hC dX0_leastWorked_39 rfl 2 rfl rfl ?_
          obtain ⟨v3, hv3, h⟩ := bind_g h
          refine v_callVri hC (n := 2) (st := [.int v2]) (mX5_get l g cy q1 a1 (nI 14) 84 ex (nI 2) y2 hv3) gX0_leastWorked_X5_get rfl rfl rfl (by decide +kernel) ⟨Nat.le_of_ble_eq_true rfl, Nat.le_of_ble_eq_true rfl⟩ 1 rfl rfl [1, 2] rfl rfl rfl rfl (Nat.le_of_ble_eq_true rfl) rfl ⟨Nat.zero_le _, Nat.zero_le _⟩ dX0_leastWorked_40 rfl ?_
          refine v_icmp_ge hC (tgt := 48) dX0_leastWorked_43 (by decide) rfl (fun c => ?_) (fun c => ?_)
          · have h := ite_t c h
            exact bX0_leastWorked_48 hC hr _ _ _ _ _ _ _ _ _ _ _ _ _ ih h
          · have h := ite_f c h
            exact v_sub [0, 1, 3] (lv' := [(0, .ref h0), (1, .int y1), (3, .int y3)]) rfl (bX0_leastWorked_46 hC hr _ _ _ _ _ _ _ _ _ _ _ _ ih h)
set_option maxHeartbeats 4000000 in
set_option maxRecDepth 100000 in
theorem mX0_leastWorked (l : Launch) (g : va_G) (cy : Nat → ClassId) (h0 q1 a1 q2 a2 q3 a3 : Nat) (ec : Int32) (sn : Int32) (dy : Int32) (wg : Int32) (pe : Int32) (pn : Int32) (br : Int32) (ex : Nat → Int32) (sc : Nat → Int32) (se : Nat → Int32) (x1 : Int32) {res : Int32} (h : pX0_leastWorked ec ex x1 = some res) : Met l yX0_leastWorked wsX0_leastWorked rmX0_leastWorked (PW [.ref h0, .int x1] g cy [(h0, .inr (0, [.ref q1, .ref q2, .ref q3, .int ec, .int sn, .int dy, .int wg, .int pe, .int pn, .int br])), (q1, .inr (3, [.int (nI 14), .ref a1])), (a1, .inl (cy 0, 84, .inl ex)), (q2, .inr (3, [.int (nI 10), .ref a2])), (a2, .inl (cy 0, 60, .inl sc)), (q3, .inr (3, [.int (nI 1), .ref a3])), (a3, .inl (cy 0, 3, .inl se))]) (QRi res) 0 0 nF := by
  refine m_ofV (cc := cX0_leastWorked) (nL := 4) (ret := (some .int)) (B := fun _ => True) RX0 rfl (by decide) rfl [(0, .ref h0), (1, .int x1)] rfl (Nat.le_of_ble_eq_true rfl) (fun h => h) ?_
  intro p e s m args below meth c hC hr
  unfold pX0_leastWorked at h
  refine v_iconst hC (v := (-1)) dX0_leastWorked_0 (by decide) rfl ?_
  refine v_istore_n hC dX0_leastWorked_1 rfl (by decide) [(2, .int (-1)), (0, .ref h0), (1, .int x1)] rfl rfl ?_
  refine v_iconst hC (v := (nI 0)) dX0_leastWorked_2 (by decide) rfl ?_
  refine v_istore_n hC dX0_leastWorked_3 rfl (by decide) [(3, .int (nI 0)), (2, .int (-1)), (0, .ref h0), (1, .int x1)] rfl rfl ?_
  exact v_sub [2, 3, 1, 0] (lv' := [(0, .ref h0), (1, .int x1), (2, .int (-1)), (3, .int (nI 0))]) rfl (bX0_leastWorked_4 hC hr FU _ _ _ _ _ _ _ _ _ _ _ _ _ h)
theorem kX0_chosenCrowd_20 : Cond.fieldLink RX0 20 "CrowdFaces$Film" "scenes" "LCrowdFaces$Table;" ∈ wsX0_chosenCrowd := by decide +kernel
theorem iX0_chosenCrowd_X0 : ∀ w ∈ wsX00, w ∈ wsX0_chosenCrowd := by decide +kernel
def pX0_chosenCrowd_179 (ec : Int32) (sn : Int32) (ex : Nat → Int32) (sc : Nat → Int32) (se : Nat → Int32) (y6 : Int32) : Option (Int32) := some y6
def pX0_chosenCrowd_121 : Nat → Int32 → Int32 → (Nat → Int32) → (Nat → Int32) → (Nat → Int32) → Int32 → Int32 → Int32 → Int32 → Option (Int32)
  | 0, _, _, _, _, _, _, _, _, _ => none
  | k + 1, ec, sn, ex, sc, se, y2, y6, y7, y8 => if (nI 14) ≤ y8 then pX0_chosenCrowd_179 ec sn ex sc se y6 else if y7 = 0 then pX0_chosenCrowd_179 ec sn ex sc se y6 else (pJ6_bitCount_0f7a4 y6).bind fun v1 => if y2 ≤ v1 then pX0_chosenCrowd_179 ec sn ex sc se y6 else (pX0_leastWorked ec ex y7).bind fun v2 => (pX0_facesOf ec ex v2).bind fun v3 => (pX0_withFaces ec ex y7 (v3 ^^^ (-1))).bind fun v4 => pX0_chosenCrowd_121 k ec sn ex sc se y2 (y6 ||| v2) v4 (y8 + (nI 1))
theorem pX0_chosenCrowd_121_s {k : Nat} (ec : Int32) (sn : Int32) (ex : Nat → Int32) (sc : Nat → Int32) (se : Nat → Int32) (y2 : Int32) (y6 : Int32) (y7 : Int32) (y8 : Int32) : pX0_chosenCrowd_121 (k + 1) ec sn ex sc se y2 y6 y7 y8 = if (nI 14) ≤ y8 then pX0_chosenCrowd_179 ec sn ex sc se y6 else if y7 = 0 then pX0_chosenCrowd_179 ec sn ex sc se y6 else (pJ6_bitCount_0f7a4 y6).bind fun v1 => if y2 ≤ v1 then pX0_chosenCrowd_179 ec sn ex sc se y6 else (pX0_leastWorked ec ex y7).bind fun v2 => (pX0_facesOf ec ex v2).bind fun v3 => (pX0_withFaces ec ex y7 (v3 ^^^ (-1))).bind fun v4 => pX0_chosenCrowd_121 k ec sn ex sc se y2 (y6 ||| v2) v4 (y8 + (nI 1)) := rfl
def pX0_chosenCrowd_104 (ec : Int32) (sn : Int32) (ex : Nat → Int32) (sc : Nat → Int32) (se : Nat → Int32) (y2 : Int32) (y3 : Int32) (y4 : Int32) (y5 : Int32) (y6 : Int32) : Option (Int32) := (pX0_withFaces ec ex y3 ((y4 ||| y5) ^^^ (-1))).bind fun v1 => pX0_chosenCrowd_121 FU ec sn ex sc se y2 y6 v1 (nI 0)
def pX0_chosenCrowd_52 : Nat → Int32 → Int32 → (Nat → Int32) → (Nat → Int32) → (Nat → Int32) → Int32 → Int32 → Int32 → Int32 → Int32 → Int32 → Option (Int32)
  | 0, _, _, _, _, _, _, _, _, _, _, _ => none
  | k + 1, ec, sn, ex, sc, se, y2, y3, y4, y5, y6, y7 => if (nI 13) < y7 then pX0_chosenCrowd_104 ec sn ex sc se y2 y3 y4 y5 y6 else (pJ6_bitCount_0f7a4 y6).bind fun v1 => if y2 ≤ v1 then pX0_chosenCrowd_104 ec sn ex sc se y2 y3 y4 y5 y6 else (pX0_withFaces ec ex y3 ((y4 &&& (y5 ^^^ (-1))) &&& ((nI 1) <<< (y7 &&& 31)))).bind fun v2 => pX0_chosenCrowd_52 k ec sn ex sc se y2 y3 y4 y5 (y6 ||| (v2 &&& (-v2))) (y7 + (nI 1))
theorem pX0_chosenCrowd_52_s {k : Nat} (ec : Int32) (sn : Int32) (ex : Nat → Int32) (sc : Nat → Int32) (se : Nat → Int32) (y2 : Int32) (y3 : Int32) (y4 : Int32) (y5 : Int32) (y6 : Int32) (y7 : Int32) : pX0_chosenCrowd_52 (k + 1) ec sn ex sc se y2 y3 y4 y5 y6 y7 = if (nI 13) < y7 then pX0_chosenCrowd_104 ec sn ex sc se y2 y3 y4 y5 y6 else (pJ6_bitCount_0f7a4 y6).bind fun v1 => if y2 ≤ v1 then pX0_chosenCrowd_104 ec sn ex sc se y2 y3 y4 y5 y6 else (pX0_withFaces ec ex y3 ((y4 &&& (y5 ^^^ (-1))) &&& ((nI 1) <<< (y7 &&& 31)))).bind fun v2 => pX0_chosenCrowd_52 k ec sn ex sc se y2 y3 y4 y5 (y6 ||| (v2 &&& (-v2))) (y7 + (nI 1)) := rfl
def pX0_chosenCrowd (ec : Int32) (sn : Int32) (ex : Nat → Int32) (sc : Nat → Int32) (se : Nat → Int32) (x1 : Int32) : Option (Int32) := (pX5_get (nI 10) 60 sc (nI 1) x1).bind fun v1 => (pX0_withRightLook ec ex sc x1).bind fun v2 => (pX0_withTime ec ex sc se x1).bind fun v3 => (pX0_castOf sn sc x1 (nI 1)).bind fun v4 => (pX0_facesOf ec ex v4).bind fun v5 => (pX0_castOf sn sc x1 (nI 0)).bind fun v6 => (pX0_facesOf ec ex v6).bind fun v7 => pX0_chosenCrowd_52 FU ec sn ex sc se v1 (v2 &&& v3) v5 v7 (nI 0) (nI 0)
abbrev rmX0_chosenCrowd : Room := { frames := 2, cells := 0, slots := 0, locals := 50 }
set_option maxHeartbeats 4000000 in
set_option maxRecDepth 100000 in
theorem bX0_chosenCrowd_179 {p : Program} {l : Launch} {e : Env} {s : State} {m : MethodId} {args : Array Value} {below : List Frame} {meth : Method} {c : Code} {g : va_G} {cy : Nat → ClassId} (hC : CX p s m args meth c g cy 10 cX0_chosenCrowd wsX0_chosenCrowd RX0) (hr : meth.sig.returnType = (some .int)) {h0 q1 a1 q2 a2 q3 a3 : Nat} {res : Int32} : ∀ (ec : Int32) (sn : Int32) (dy : Int32) (wg : Int32) (pe : Int32) (pn : Int32) (br : Int32) (ex : Nat → Int32) (sc : Nat → Int32) (se : Nat → Int32) (y6 : Int32)(h : pX0_chosenCrowd_179 ec sn ex sc se y6 = some res), V p l e (headSpec wsX0_chosenCrowd rmX0_chosenCrowd).room s m args below meth c g 10 0 0 (MQ below (QRi res) args s 0 0 nF) nF (fun _ => True) [(h0, .inr (0, [.ref q1, .ref q2, .ref q3, .int ec, .int sn, .int dy, .int wg, .int pe, .int pn, .int br])), (q1, .inr (3, [.int (nI 14), .ref a1])), (a1, .inl (cy 0, 84, .inl ex)), (q2, .inr (3, [.int (nI 10), .ref a2])), (a2, .inl (cy 0, 60, .inl sc)), (q3, .inr (3, [.int (nI 1), .ref a3])), (a3, .inl (cy 0, 3, .inl se))] 179 [(6, .int y6)] [] := by
  intro ec sn dy wg pe pn br ex sc se y6 h
  unfold pX0_chosenCrowd_179 at h
  refine v_iload hC dX0_chosenCrowd_179 0 rfl rfl ?_
  obtain rfl := Option.some.inj h
  exact v_irt hC hr rfl rfl dX0_chosenCrowd_181
set_option maxHeartbeats 4000000 in
set_option maxRecDepth 100000 in
theorem bX0_chosenCrowd_121 {p : Program} {l : Launch} {e : Env} {s : State} {m : MethodId} {args : Array Value} {below : List Frame} {meth : Method} {c : Code} {g : va_G} {cy : Nat → ClassId} (hC : CX p s m args meth c g cy 10 cX0_chosenCrowd wsX0_chosenCrowd RX0) (hr : meth.sig.returnType = (some .int)) {h0 q1 a1 q2 a2 q3 a3 : Nat} {res : Int32} : ∀ (k : Nat) (ec : Int32) (sn : Int32) (dy : Int32) (wg : Int32) (pe : Int32) (pn : Int32) (br : Int32) (ex : Nat → Int32) (sc : Nat → Int32) (se : Nat → Int32) (y2 : Int32) (y6 : Int32) (y7 : Int32) (y8 : Int32) (h : pX0_chosenCrowd_121 k ec sn ex sc se y2 y6 y7 y8 = some res), V p l e (headSpec wsX0_chosenCrowd rmX0_chosenCrowd).room s m args below meth c g 10 0 0 (MQ below (QRi res) args s 0 0 nF) nF (fun _ => True) [(h0, .inr (0, [.ref q1, .ref q2, .ref q3, .int ec, .int sn, .int dy, .int wg, .int pe, .int pn, .int br])), (q1, .inr (3, [.int (nI 14), .ref a1])), (a1, .inl (cy 0, 84, .inl ex)), (q2, .inr (3, [.int (nI 10), .ref a2])), (a2, .inl (cy 0, 60, .inl sc)), (q3, .inr (3, [.int (nI 1), .ref a3])), (a3, .inl (cy 0, 3, .inl se))] 121 [(0, .ref h0), (2, .int y2), (6, .int y6), (7, .int y7), (8, .int y8)] [] := by
  intro k
  induction k with
  | zero =>
    intro ec sn dy wg pe pn br ex sc se y2 y6 y7 y8 h
    have h : (none : Option _) = some res := h
    cases h
  | succ k ih =>
    intro ec sn dy wg pe pn br ex sc se y2 y6 y7 y8 h
    rw [pX0_chosenCrowd_121_s] at h
    refine v_iload hC dX0_chosenCrowd_121 4 rfl rfl ?_
    refine v_bipush hC (v := (nI 14)) dX0_chosenCrowd_123 (by decide) rfl ?_
    refine v_icmp_ge hC (tgt := 179) dX0_chosenCrowd_125 (by decide) rfl (fun c => ?_) (fun c => ?_)
    · have h := ite_t c h
      exact v_sub [2] (lv' := [(6, .int y6)]) rfl (bX0_chosenCrowd_179 hC hr _ _ _ _ _ _ _ _ _ _ _ h)
    · have h := ite_f c h
      refine v_iload hC dX0_chosenCrowd_128 3 rfl rfl ?_
      refine v_if_eq hC (tgt := 179) dX0_chosenCrowd_130 (by decide) rfl (fun c => ?_) (fun c => ?_)
      · have h := ite_t c h
        exact v_sub [2] (lv' := [(6, .int y6)]) rfl (bX0_chosenCrowd_179 hC hr _ _ _ _ _ _ _ _ _ _ _ h)
      · have h := ite_f c h
        refine v_iload hC dX0_chosenCrowd_133 2 rfl rfl ?_
        obtain ⟨v1, hv1, h⟩ := bind_g h
        refine v_callSri hC (n := 1) (st := []) (mJ6_bitCount_0f7a4 l g cy y6 hv1) gX0_chosenCrowd_J6_bitCount_0f7a4 rfl rfl rfl (by decide +kernel) ⟨Nat.le_of_ble_eq_true rfl, Nat.le_of_ble_eq_true rfl⟩ [] rfl rfl rfl rfl (Nat.le_of_ble_eq_true rfl) rfl ⟨Nat.zero_le _, Nat.zero_le _⟩ dX0_chosenCrowd_135 rfl ?_
        refine v_iload_n hC dX0_chosenCrowd_138 rfl 1 rfl rfl ?_
        refine v_icmp_ge hC (tgt := 179) dX0_chosenCrowd_139 (by decide) rfl (fun c => ?_) (fun c => ?_)
        · have h := ite_t c h
          exact v_sub [2] (lv' := [(6, .int y6)]) rfl (bX0_chosenCrowd_179 hC hr _ _ _ _ _ _ _ _ _ _ _ h)
        · have h := ite_f c h
          refine v_aload_n hC dX0_chosenCrowd_142 rfl 0 rfl rfl ?_
          refine v_iload hC dX0_chosenCrowd_143 3 rfl rfl ?_
          obtain ⟨v2, hv2, h⟩ := bind_g h
          refine v_callVri hC (n := 1) (st := []) (mX0_leastWorked l g cy h0 q1 a1 q2 a2 q3 a3 ec sn dy wg pe pn br ex sc se y7 hv2) gX0_chosenCrowd_X0_leastWorked rfl rfl rfl (by decide +kernel) ⟨Nat.le_of_ble_eq_true rfl, Nat.le_of_ble_eq_true rfl⟩ 0 rfl rfl [0, 1, 2, 3, 4, 5, 6] rfl rfl rfl rfl (Nat.le_of_ble_eq_true rfl) rfl ⟨Nat.zero_le _, Nat.zero_le _⟩ dX0_chosenCrowd_145 rfl ?_
          refine v_istore hC dX0_chosenCrowd_148 (by decide) [(9, .int v2), (0, .ref h0), (2, .int y2), (6, .int y6), (7, .int y7), (8, .int y8)] rfl rfl ?_
          refine v_iload hC dX0_chosenCrowd_150 3 rfl rfl ?_
          refine v_iload hC dX0_chosenCrowd_152 0 rfl rfl ?_
          refine v_ior hC dX0_chosenCrowd_154 rfl ?_
          refine v_istore hC dX0_chosenCrowd_155 (by decide) [(6, .int (y6 ||| v2)), (9, .int v2), (0, .ref h0), (2, .int y2), (7, .int y7), (8, .int y8)] rfl rfl ?_
          refine v_aload_n hC dX0_chosenCrowd_157 rfl 2 rfl rfl ?_
          refine v_iload hC dX0_chosenCrowd_158 4 rfl rfl ?_
          refine v_aload_n hC dX0_chosenCrowd_160 rfl 2 rfl rfl ?_
          refine v_iload hC dX0_chosenCrowd_161 1 rfl rfl ?_
          obtain ⟨v3, hv3, h⟩ := bind_g h
          refine v_callVri hC (n := 1) (st := [.int y7, .ref h0]) (mX0_facesOf l g cy h0 q1 a1 q2 a2 q3 a3 ec sn dy wg pe pn br ex sc se v2 hv3) gX0_chosenCrowd_X0_facesOf rfl rfl rfl (by decide +kernel) ⟨Nat.le_of_ble_eq_true rfl, Nat.le_of_ble_eq_true rfl⟩ 0 rfl rfl [0, 1, 2, 3, 4, 5, 6] rfl rfl rfl rfl (Nat.le_of_ble_eq_true rfl) rfl ⟨Nat.zero_le _, Nat.zero_le _⟩ dX0_chosenCrowd_163 rfl ?_
          refine v_iconst hC (v := (-1)) dX0_chosenCrowd_166 (by decide) rfl ?_
          refine v_ixor hC dX0_chosenCrowd_167 rfl ?_
          obtain ⟨v4, hv4, h⟩ := bind_g h
          refine v_callVri hC (n := 2) (st := []) (mX0_withFaces l g cy h0 q1 a1 q2 a2 q3 a3 ec sn dy wg pe pn br ex sc se y7 (v3 ^^^ (-1)) hv4) gX0_chosenCrowd_X0_withFaces rfl rfl rfl (by decide +kernel) ⟨Nat.le_of_ble_eq_true rfl, Nat.le_of_ble_eq_true rfl⟩ 0 rfl rfl [0, 1, 2, 3, 4, 5, 6] rfl rfl rfl rfl (Nat.le_of_ble_eq_true rfl) rfl ⟨Nat.zero_le _, Nat.zero_le _⟩ dX0_chosenCrowd_168 rfl ?_
          refine v_istore hC dX0_chosenCrowd_171 (by decide) [(7, .int v4), (6, .int (y6 ||| v2)), (9, .int v2), (0, .ref h0), (2, .int y2), (8, .int y8)] rfl rfl ?_
          refine v_iinc hC dX0_chosenCrowd_173 5 rfl (v := (y8 + (nI 1))) rfl (by decide) [(8, .int (y8 + (nI 1))), (7, .int v4), (6, .int (y6 ||| v2)), (9, .int v2), (0, .ref h0), (2, .int y2)] rfl rfl ?_
          refine v_goto hC (tgt := 121) dX0_chosenCrowd_176 (by decide) ?_
          exact v_sub [4, 5, 2, 1, 0] (lv' := [(0, .ref h0), (2, .int y2), (6, .int (y6 ||| v2)), (7, .int v4), (8, .int (y8 + (nI 1)))]) rfl (ih _ _ _ _ _ _ _ _ _ _ _ _ _ _ h)
set_option maxHeartbeats 4000000 in
set_option maxRecDepth 100000 in
theorem bX0_chosenCrowd_104 {p : Program} {l : Launch} {e : Env} {s : State} {m : MethodId} {args : Array Value} {below : List Frame} {meth : Method} {c : Code} {g : va_G} {cy : Nat → ClassId} (hC : CX p s m args meth c g cy 10 cX0_chosenCrowd wsX0_chosenCrowd RX0) (hr : meth.sig.returnType = (some .int)) {h0 q1 a1 q2 a2 q3 a3 : Nat} {res : Int32} : ∀ (ec : Int32) (sn : Int32) (dy : Int32) (wg : Int32) (pe : Int32) (pn : Int32) (br : Int32) (ex : Nat → Int32) (sc : Nat → Int32) (se : Nat → Int32) (y2 : Int32) (y3 : Int32) (y4 : Int32) (y5 : Int32) (y6 : Int32)(h : pX0_chosenCrowd_104 ec sn ex sc se y2 y3 y4 y5 y6 = some res), V p l e (headSpec wsX0_chosenCrowd rmX0_chosenCrowd).room s m args below meth c g 10 0 0 (MQ below (QRi res) args s 0 0 nF) nF (fun _ => True) [(h0, .inr (0, [.ref q1, .ref q2, .ref q3, .int ec, .int sn, .int dy, .int wg, .int pe, .int pn, .int br])), (q1, .inr (3, [.int (nI 14), .ref a1])), (a1, .inl (cy 0, 84, .inl ex)), (q2, .inr (3, [.int (nI 10), .ref a2])), (a2, .inl (cy 0, 60, .inl sc)), (q3, .inr (3, [.int (nI 1), .ref a3])), (a3, .inl (cy 0, 3, .inl se))] 104 [(0, .ref h0), (2, .int y2), (3, .int y3), (4, .int y4), (5, .int y5), (6, .int y6)] [] := by
  intro ec sn dy wg pe pn br ex sc se y2 y3 y4 y5 y6 h
  unfold pX0_chosenCrowd_104 at h
  refine v_aload_n hC dX0_chosenCrowd_104 rfl 0 rfl rfl ?_
  refine v_iload_n hC dX0_chosenCrowd_105 rfl 2 rfl rfl ?_
  refine v_iload hC dX0_chosenCrowd_106 3 rfl rfl ?_
  refine v_iload hC dX0_chosenCrowd_108 4 rfl rfl ?_
  refine v_ior hC dX0_chosenCrowd_110 rfl ?_
  refine v_iconst hC (v := (-1)) dX0_chosenCrowd_111 (by decide) rfl ?_
  refine v_ixor hC dX0_chosenCrowd_112 rfl ?_
  obtain ⟨v1, hv1, h⟩ := bind_g h
  refine v_callVri hC (n := 2) (st := []) (mX0_withFaces l g cy h0 q1 a1 q2 a2 q3 a3 ec sn dy wg pe pn br ex sc se y3 ((y4 ||| y5) ^^^ (-1)) hv1) gX0_chosenCrowd_X0_withFaces rfl rfl rfl (by decide +kernel) ⟨Nat.le_of_ble_eq_true rfl, Nat.le_of_ble_eq_true rfl⟩ 0 rfl rfl [0, 1, 2, 3, 4, 5, 6] rfl rfl rfl rfl (Nat.le_of_ble_eq_true rfl) rfl ⟨Nat.zero_le _, Nat.zero_le _⟩ dX0_chosenCrowd_113 rfl ?_
  refine v_istore hC dX0_chosenCrowd_116 (by decide) [(7, .int v1), (0, .ref h0), (2, .int y2), (3, .int y3), (4, .int y4), (5, .int y5), (6, .int y6)] rfl rfl ?_
  refine v_iconst hC (v := (nI 0)) dX0_chosenCrowd_118 (by decide) rfl ?_
  refine v_istore hC dX0_chosenCrowd_119 (by decide) [(8, .int (nI 0)), (7, .int v1), (0, .ref h0), (2, .int y2), (3, .int y3), (4, .int y4), (5, .int y5), (6, .int y6)] rfl rfl ?_
  exact v_sub [2, 3, 7, 1, 0] (lv' := [(0, .ref h0), (2, .int y2), (6, .int y6), (7, .int v1), (8, .int (nI 0))]) rfl (bX0_chosenCrowd_121 hC hr FU _ _ _ _ _ _ _ _ _ _ _ _ _ _ h)
set_option maxHeartbeats 4000000 in
set_option maxRecDepth 100000 in
theorem bX0_chosenCrowd_52 {p : Program} {l : Launch} {e : Env} {s : State} {m : MethodId} {args : Array Value} {below : List Frame} {meth : Method} {c : Code} {g : va_G} {cy : Nat → ClassId} (hC : CX p s m args meth c g cy 10 cX0_chosenCrowd wsX0_chosenCrowd RX0) (hr : meth.sig.returnType = (some .int)) {h0 q1 a1 q2 a2 q3 a3 : Nat} {res : Int32} : ∀ (k : Nat) (ec : Int32) (sn : Int32) (dy : Int32) (wg : Int32) (pe : Int32) (pn : Int32) (br : Int32) (ex : Nat → Int32) (sc : Nat → Int32) (se : Nat → Int32) (y2 : Int32) (y3 : Int32) (y4 : Int32) (y5 : Int32) (y6 : Int32) (y7 : Int32) (h : pX0_chosenCrowd_52 k ec sn ex sc se y2 y3 y4 y5 y6 y7 = some res), V p l e (headSpec wsX0_chosenCrowd rmX0_chosenCrowd).room s m args below meth c g 10 0 0 (MQ below (QRi res) args s 0 0 nF) nF (fun _ => True) [(h0, .inr (0, [.ref q1, .ref q2, .ref q3, .int ec, .int sn, .int dy, .int wg, .int pe, .int pn, .int br])), (q1, .inr (3, [.int (nI 14), .ref a1])), (a1, .inl (cy 0, 84, .inl ex)), (q2, .inr (3, [.int (nI 10), .ref a2])), (a2, .inl (cy 0, 60, .inl sc)), (q3, .inr (3, [.int (nI 1), .ref a3])), (a3, .inl (cy 0, 3, .inl se))] 52 [(0, .ref h0), (2, .int y2), (3, .int y3), (4, .int y4), (5, .int y5), (6, .int y6), (7, .int y7)] [] := by
  intro k
  induction k with
  | zero =>
    intro ec sn dy wg pe pn br ex sc se y2 y3 y4 y5 y6 y7 h
    have h : (none : Option _) = some res := h
    cases h
  | succ k ih =>
    intro ec sn dy wg pe pn br ex sc se y2 y3 y4 y5 y6 y7 h
    rw [pX0_chosenCrowd_52_s] at h
    refine v_iload hC dX0_chosenCrowd_52 6 rfl rfl ?_
    refine v_bipush hC (v := (nI 13)) dX0_chosenCrowd_54 (by decide) rfl ?_
    refine v_icmp_gt hC (tgt := 104) dX0_chosenCrowd_56 (by decide) rfl (fun c => ?_) (fun c => ?_)
    · have h := ite_t c h
      exact v_sub [0, 1, 2, 3, 4, 5] (lv' := [(0, .ref h0), (2, .int y2), (3, .int y3), (4, .int y4), (5, .int y5), (6, .int y6)]) rfl (bX0_chosenCrowd_104 hC hr _ _ _ _ _ _ _ _ _ _ _ _ _ _ _ h)
    · have h := ite_f c h
      refine v_iload hC dX0_chosenCrowd_59 5 rfl rfl ?_
      obtain ⟨v1, hv1, h⟩ := bind_g h
      refine v_callSri hC (n := 1) (st := []) (mJ6_bitCount_0f7a4 l g cy y6 hv1) gX0_chosenCrowd_J6_bitCount_0f7a4 rfl rfl rfl (by decide +kernel) ⟨Nat.le_of_ble_eq_true rfl, Nat.le_of_ble_eq_true rfl⟩ [] rfl rfl rfl rfl (Nat.le_of_ble_eq_true rfl) rfl ⟨Nat.zero_le _, Nat.zero_le _⟩ dX0_chosenCrowd_61 rfl ?_
      refine v_iload_n hC dX0_chosenCrowd_64 rfl 1 rfl rfl ?_
      refine v_icmp_ge hC (tgt := 104) dX0_chosenCrowd_65 (by decide) rfl (fun c => ?_) (fun c => ?_)
      · have h := ite_t c h
        exact v_sub [0, 1, 2, 3, 4, 5] (lv' := [(0, .ref h0), (2, .int y2), (3, .int y3), (4, .int y4), (5, .int y5), (6, .int y6)]) rfl (bX0_chosenCrowd_104 hC hr _ _ _ _ _ _ _ _ _ _ _ _ _ _ _ h)
      · have h := ite_f c h
        refine v_aload_n hC dX0_chosenCrowd_68 rfl 0 rfl rfl ?_
        refine v_iload_n hC dX0_chosenCrowd_69 rfl 2 rfl rfl ?_
        refine v_iload hC dX0_chosenCrowd_70 3 rfl rfl ?_
        refine v_iload hC dX0_chosenCrowd_72 4 rfl rfl ?_
        refine v_iconst hC (v := (-1)) dX0_chosenCrowd_74 (by decide) rfl ?_
        refine v_ixor hC dX0_chosenCrowd_75 rfl ?_
        refine v_iand hC dX0_chosenCrowd_76 rfl ?_
        refine v_iconst hC (v := (nI 1)) dX0_chosenCrowd_77 (by decide) rfl ?_
        refine v_iload hC dX0_chosenCrowd_78 6 rfl rfl ?_
        refine v_ishl hC dX0_chosenCrowd_80 rfl ?_
        refine v_iand hC dX0_chosenCrowd_81 rfl ?_
        obtain ⟨v2, hv2, h⟩ := bind_g h
        refine v_callVri hC (n := 2) (st := []) (mX0_withFaces l g cy h0 q1 a1 q2 a2 q3 a3 ec sn dy wg pe pn br ex sc se y3 ((y4 &&& (y5 ^^^ (-1))) &&& ((nI 1) <<< (y7 &&& 31))) hv2) gX0_chosenCrowd_X0_withFaces rfl rfl rfl (by decide +kernel) ⟨Nat.le_of_ble_eq_true rfl, Nat.le_of_ble_eq_true rfl⟩ 0 rfl rfl [0, 1, 2, 3, 4, 5, 6] rfl rfl rfl rfl (Nat.le_of_ble_eq_true rfl) rfl ⟨Nat.zero_le _, Nat.zero_le _⟩ dX0_chosenCrowd_82 rfl ?_
        refine v_istore hC dX0_chosenCrowd_85 (by decide) [(8, .int v2), (0, .ref h0), (2, .int y2), (3, .int y3), (4, .int y4), (5, .int y5), (6, .int y6), (7, .int y7)] rfl rfl ?_
        refine v_iload hC dX0_chosenCrowd_87 6 rfl rfl ?_
        refine v_iload hC dX0_chosenCrowd_89 0 rfl rfl ?_
        refine v_iload hC dX0_chosenCrowd_91 0 rfl rfl ?_
        refine v_ineg hC dX0_chosenCrowd_93 rfl ?_
        refine v_iand hC dX0_chosenCrowd_94 rfl ?_
        refine v_ior hC dX0_chosenCrowd_95 rfl ?_
        refine v_istore hC dX0_chosenCrowd_96 (by decide) [(6, .int (y6 ||| (v2 &&& (-v2)))), (8, .int v2), (0, .ref h0), (2, .int y2), (3, .int y3), (4, .int y4), (5, .int y5), (7, .int y7)] rfl rfl ?_
        refine v_iinc hC dX0_chosenCrowd_98 7 rfl (v := (y7 + (nI 1))) rfl (by decide) [(7, .int (y7 + (nI 1))), (6, .int (y6 ||| (v2 &&& (-v2)))), (8, .int v2), (0, .ref h0), (2, .int y2), (3, .int y3), (4, .int y4), (5, .int y5)] rfl rfl ?_
        refine v_goto hC (tgt := 52) dX0_chosenCrowd_101 (by decide) ?_
        exact v_sub [3, 4, 5, 6, 7, 1, 0] (lv' := [(0, .ref h0), (2, .int y2), (3, .int y3), (4, .int y4), (5, .int y5), (6, .int (y6 ||| (v2 &&& (-v2)))), (7, .int (y7 + (nI 1)))]) rfl (ih _ _ _ _ _ _ _ _ _ _ _ _ _ _ _ _ h)
set_option maxHeartbeats 4000000 in
set_option maxRecDepth 100000 in
theorem mX0_chosenCrowd (l : Launch) (g : va_G) (cy : Nat → ClassId) (h0 q1 a1 q2 a2 q3 a3 : Nat) (ec : Int32) (sn : Int32) (dy : Int32) (wg : Int32) (pe : Int32) (pn : Int32) (br : Int32) (ex : Nat → Int32) (sc : Nat → Int32) (se : Nat → Int32) (x1 : Int32) {res : Int32} (h : pX0_chosenCrowd ec sn ex sc se x1 = some res) : Met l yX0_chosenCrowd wsX0_chosenCrowd rmX0_chosenCrowd (PW [.ref h0, .int x1] g cy [(h0, .inr (0, [.ref q1, .ref q2, .ref q3, .int ec, .int sn, .int dy, .int wg, .int pe, .int pn, .int br])), (q1, .inr (3, [.int (nI 14), .ref a1])), (a1, .inl (cy 0, 84, .inl ex)), (q2, .inr (3, [.int (nI 10), .ref a2])), (a2, .inl (cy 0, 60, .inl sc)), (q3, .inr (3, [.int (nI 1), .ref a3])), (a3, .inl (cy 0, 3, .inl se))]) (QRi res) 0 0 nF := by
  refine m_ofV (cc := cX0_chosenCrowd) (nL := 10) (ret := (some .int)) (B := fun _ => True) RX0 rfl (by decide) rfl [(0, .ref h0), (1, .int x1)] rfl (Nat.le_of_ble_eq_true rfl) (fun h => h) ?_
  intro p e s m args below meth c hC hr
  unfold pX0_chosenCrowd at h
  refine v_aload_n hC dX0_chosenCrowd_0 rfl 0 rfl rfl ?_
  refine v_get hC iX0_chosenCrowd_X0 0 rfl rfl 1 (by decide) kX0_chosenCrowd_20 rfl rfl dX0_chosenCrowd_1 rfl ?_
  refine v_iconst hC (v := (nI 1)) dX0_chosenCrowd_4 (by decide) rfl ?_
  refine v_iload_n hC dX0_chosenCrowd_5 rfl 1 rfl rfl ?_
  obtain ⟨v1, hv1, h⟩ := bind_g h
  refine v_callVri hC (n := 2) (st := []) (mX5_get l g cy q2 a2 (nI 10) 60 sc (nI 1) x1 hv1) gX0_chosenCrowd_X5_get rfl rfl rfl (by decide +kernel) ⟨Nat.le_of_ble_eq_true rfl, Nat.le_of_ble_eq_true rfl⟩ 3 rfl rfl [3, 4] rfl rfl rfl rfl (Nat.le_of_ble_eq_true rfl) rfl ⟨Nat.zero_le _, Nat.zero_le _⟩ dX0_chosenCrowd_6 rfl ?_
  refine v_istore_n hC dX0_chosenCrowd_9 rfl (by decide) [(2, .int v1), (0, .ref h0), (1, .int x1)] rfl rfl ?_
  refine v_aload_n hC dX0_chosenCrowd_10 rfl 1 rfl rfl ?_
  refine v_iload_n hC dX0_chosenCrowd_11 rfl 2 rfl rfl ?_
  obtain ⟨v2, hv2, h⟩ := bind_g h
  refine v_callVri hC (n := 1) (st := []) (mX0_withRightLook l g cy h0 q1 a1 q2 a2 q3 a3 ec sn dy wg pe pn br ex sc se x1 hv2) gX0_chosenCrowd_X0_withRightLook rfl rfl rfl (by decide +kernel) ⟨Nat.le_of_ble_eq_true rfl, Nat.le_of_ble_eq_true rfl⟩ 0 rfl rfl [0, 1, 2, 3, 4, 5, 6] rfl rfl rfl rfl (Nat.le_of_ble_eq_true rfl) rfl ⟨Nat.zero_le _, Nat.zero_le _⟩ dX0_chosenCrowd_12 rfl ?_
  refine v_aload_n hC dX0_chosenCrowd_15 rfl 1 rfl rfl ?_
  refine v_iload_n hC dX0_chosenCrowd_16 rfl 2 rfl rfl ?_
  obtain ⟨v3, hv3, h⟩ := bind_g h
  refine v_callVri hC (n := 1) (st := [.int v2]) (mX0_withTime l g cy h0 q1 a1 q2 a2 q3 a3 ec sn dy wg pe pn br ex sc se x1 hv3) gX0_chosenCrowd_X0_withTime rfl rfl rfl (by decide +kernel) ⟨Nat.le_of_ble_eq_true rfl, Nat.le_of_ble_eq_true rfl⟩ 0 rfl rfl [0, 1, 2, 3, 4, 5, 6] rfl rfl rfl rfl (Nat.le_of_ble_eq_true rfl) rfl ⟨Nat.zero_le _, Nat.zero_le _⟩ dX0_chosenCrowd_17 rfl ?_
  refine v_iand hC dX0_chosenCrowd_20 rfl ?_
  refine v_istore_n hC dX0_chosenCrowd_21 rfl (by decide) [(3, .int (v2 &&& v3)), (2, .int v1), (0, .ref h0), (1, .int x1)] rfl rfl ?_
  refine v_aload_n hC dX0_chosenCrowd_22 rfl 2 rfl rfl ?_
  refine v_aload_n hC dX0_chosenCrowd_23 rfl 2 rfl rfl ?_
  refine v_iload_n hC dX0_chosenCrowd_24 rfl 3 rfl rfl ?_
  refine v_iconst hC (v := (nI 1)) dX0_chosenCrowd_25 (by decide) rfl ?_
  obtain ⟨v4, hv4, h⟩ := bind_g h
  refine v_callVri hC (n := 2) (st := [.ref h0]) (mX0_castOf l g cy h0 q1 a1 q2 a2 q3 a3 ec sn dy wg pe pn br ex sc se x1 (nI 1) hv4) gX0_chosenCrowd_X0_castOf rfl rfl rfl (by decide +kernel) ⟨Nat.le_of_ble_eq_true rfl, Nat.le_of_ble_eq_true rfl⟩ 0 rfl rfl [0, 1, 2, 3, 4, 5, 6] rfl rfl rfl rfl (Nat.le_of_ble_eq_true rfl) rfl ⟨Nat.zero_le _, Nat.zero_le _⟩ dX0_chosenCrowd_26 rfl ?_
  obtain ⟨v5, hv5, h⟩ := bind_g h
  refine v_callVri hC (n := 1) (st := []) (mX0_facesOf l g cy h0 q1 a1 q2 a2 q3 a3 ec sn dy wg pe pn br ex sc se v4 hv5) gX0_chosenCrowd_X0_facesOf rfl rfl rfl (by decide +kernel) ⟨Nat.le_of_ble_eq_true rfl, Nat.le_of_ble_eq_true rfl⟩ 0 rfl rfl [0, 1, 2, 3, 4, 5, 6] rfl rfl rfl rfl (Nat.le_of_ble_eq_true rfl) rfl ⟨Nat.zero_le _, Nat.zero_le _⟩ dX0_chosenCrowd_29 rfl ?_
  refine v_istore hC dX0_chosenCrowd_32 (by decide) [(4, .int v5), (3, .int (v2 &&& v3)), (2, .int v1), (0, .ref h0), (1, .int x1)] rfl rfl ?_
  refine v_aload_n hC dX0_chosenCrowd_34 rfl 3 rfl rfl ?_
  refine v_aload_n hC dX0_chosenCrowd_35 rfl 3 rfl rfl ?_
  refine v_iload_n hC dX0_chosenCrowd_36 rfl 4 rfl rfl ?_
  refine v_iconst hC (v := (nI 0)) dX0_chosenCrowd_37 (by decide) rfl ?_
  obtain ⟨v6, hv6, h⟩ := bind_g h
  refine v_callVri hC (n := 2) (st := [.ref h0]) (mX0_castOf l g cy h0 q1 a1 q2 a2 q3 a3 ec sn dy wg pe pn br ex sc se x1 (nI 0) hv6) gX0_chosenCrowd_X0_castOf rfl rfl rfl (by decide +kernel) ⟨Nat.le_of_ble_eq_true rfl, Nat.le_of_ble_eq_true rfl⟩ 0 rfl rfl [0, 1, 2, 3, 4, 5, 6] rfl rfl rfl rfl (Nat.le_of_ble_eq_true rfl) rfl ⟨Nat.zero_le _, Nat.zero_le _⟩ dX0_chosenCrowd_38 rfl ?_
  obtain ⟨v7, hv7, h⟩ := bind_g h
  refine v_callVri hC (n := 1) (st := []) (mX0_facesOf l g cy h0 q1 a1 q2 a2 q3 a3 ec sn dy wg pe pn br ex sc se v6 hv7) gX0_chosenCrowd_X0_facesOf rfl rfl rfl (by decide +kernel) ⟨Nat.le_of_ble_eq_true rfl, Nat.le_of_ble_eq_true rfl⟩ 0 rfl rfl [0, 1, 2, 3, 4, 5, 6] rfl rfl rfl rfl (Nat.le_of_ble_eq_true rfl) rfl ⟨Nat.zero_le _, Nat.zero_le _⟩ dX0_chosenCrowd_41 rfl ?_
  refine v_istore hC dX0_chosenCrowd_44 (by decide) [(5, .int v7), (4, .int v5), (3, .int (v2 &&& v3)), (2, .int v1), (0, .ref h0), (1, .int x1)] rfl rfl ?_
  refine v_iconst hC (v := (nI 0)) dX0_chosenCrowd_46 (by decide) rfl ?_
  refine v_istore hC dX0_chosenCrowd_47 (by decide) [(6, .int (nI 0)), (5, .int v7), (4, .int v5), (3, .int (v2 &&& v3)), (2, .int v1), (0, .ref h0), (1, .int x1)] rfl rfl ?_
  refine v_iconst hC (v := (nI 0)) dX0_chosenCrowd_49 (by decide) rfl ?_
  refine v_istore hC dX0_chosenCrowd_50 (by decide) [(7, .int (nI 0)), (6, .int (nI 0)), (5, .int v7), (4, .int v5), (3, .int (v2 &&& v3)), (2, .int v1), (0, .ref h0), (1, .int x1)] rfl rfl ?_
  exact v_sub [6, 5, 4, 3, 2, 1, 0] (lv' := [(0, .ref h0), (2, .int v1), (3, .int (v2 &&& v3)), (4, .int v5), (5, .int v7), (6, .int (nI 0)), (7, .int (nI 0))]) rfl (bX0_chosenCrowd_52 hC hr FU _ _ _ _ _ _ _ _ _ _ _ _ _ _ _ _ h)
theorem kX0_lackOf_20 : Cond.fieldLink RX0 20 "CrowdFaces$Film" "scenes" "LCrowdFaces$Table;" ∈ wsX0_lackOf := by decide +kernel
theorem iX0_lackOf_X0 : ∀ w ∈ wsX00, w ∈ wsX0_lackOf := by decide +kernel
def pX0_lackOf (ec : Int32) (sn : Int32) (ex : Nat → Int32) (sc : Nat → Int32) (se : Nat → Int32) (x1 : Int32) : Option (Int32) := (pX5_get (nI 10) 60 sc (nI 1) x1).bind fun v1 => (pX0_chosenCrowd ec sn ex sc se x1).bind fun v2 => (pJ6_bitCount_0f7a4 v2).bind fun v3 => some (v1 - v3)
abbrev rmX0_lackOf : Room := { frames := 3, cells := 0, slots := 0, locals := 79 }
set_option maxHeartbeats 4000000 in
set_option maxRecDepth 100000 in
theorem mX0_lackOf (l : Launch) (g : va_G) (cy : Nat → ClassId) (h0 q1 a1 q2 a2 q3 a3 : Nat) (ec : Int32) (sn : Int32) (dy : Int32) (wg : Int32) (pe : Int32) (pn : Int32) (br : Int32) (ex : Nat → Int32) (sc : Nat → Int32) (se : Nat → Int32) (x1 : Int32) {res : Int32} (h : pX0_lackOf ec sn ex sc se x1 = some res) : Met l yX0_lackOf wsX0_lackOf rmX0_lackOf (PW [.ref h0, .int x1] g cy [(h0, .inr (0, [.ref q1, .ref q2, .ref q3, .int ec, .int sn, .int dy, .int wg, .int pe, .int pn, .int br])), (q1, .inr (3, [.int (nI 14), .ref a1])), (a1, .inl (cy 0, 84, .inl ex)), (q2, .inr (3, [.int (nI 10), .ref a2])), (a2, .inl (cy 0, 60, .inl sc)), (q3, .inr (3, [.int (nI 1), .ref a3])), (a3, .inl (cy 0, 3, .inl se))]) (QRi res) 0 0 nF := by
  refine m_ofV (cc := cX0_lackOf) (nL := 2) (ret := (some .int)) (B := fun _ => True) RX0 rfl (by decide) rfl [(0, .ref h0), (1, .int x1)] rfl (Nat.le_of_ble_eq_true rfl) (fun h => h) ?_
  intro p e s m args below meth c hC hr
  unfold pX0_lackOf at h
  refine v_aload_n hC dX0_lackOf_0 rfl 0 rfl rfl ?_
  refine v_get hC iX0_lackOf_X0 0 rfl rfl 1 (by decide) kX0_lackOf_20 rfl rfl dX0_lackOf_1 rfl ?_
  refine v_iconst hC (v := (nI 1)) dX0_lackOf_4 (by decide) rfl ?_
  refine v_iload_n hC dX0_lackOf_5 rfl 1 rfl rfl ?_
  obtain ⟨v1, hv1, h⟩ := bind_g h
  refine v_callVri hC (n := 2) (st := []) (mX5_get l g cy q2 a2 (nI 10) 60 sc (nI 1) x1 hv1) gX0_lackOf_X5_get rfl rfl rfl (by decide +kernel) ⟨Nat.le_of_ble_eq_true rfl, Nat.le_of_ble_eq_true rfl⟩ 3 rfl rfl [3, 4] rfl rfl rfl rfl (Nat.le_of_ble_eq_true rfl) rfl ⟨Nat.zero_le _, Nat.zero_le _⟩ dX0_lackOf_6 rfl ?_
  refine v_aload_n hC dX0_lackOf_9 rfl 0 rfl rfl ?_
  refine v_iload_n hC dX0_lackOf_10 rfl 1 rfl rfl ?_
  obtain ⟨v2, hv2, h⟩ := bind_g h
  refine v_callVri hC (n := 1) (st := [.int v1]) (mX0_chosenCrowd l g cy h0 q1 a1 q2 a2 q3 a3 ec sn dy wg pe pn br ex sc se x1 hv2) gX0_lackOf_X0_chosenCrowd rfl rfl rfl (by decide +kernel) ⟨Nat.le_of_ble_eq_true rfl, Nat.le_of_ble_eq_true rfl⟩ 0 rfl rfl [0, 1, 2, 3, 4, 5, 6] rfl rfl rfl rfl (Nat.le_of_ble_eq_true rfl) rfl ⟨Nat.zero_le _, Nat.zero_le _⟩ dX0_lackOf_11 rfl ?_
  obtain ⟨v3, hv3, h⟩ := bind_g h
  refine v_callSri hC (n := 1) (st := [.int v1]) (mJ6_bitCount_0f7a4 l g cy v2 hv3) gX0_lackOf_J6_bitCount_0f7a4 rfl rfl rfl (by decide +kernel) ⟨Nat.le_of_ble_eq_true rfl, Nat.le_of_ble_eq_true rfl⟩ [] rfl rfl rfl rfl (Nat.le_of_ble_eq_true rfl) rfl ⟨Nat.zero_le _, Nat.zero_le _⟩ dX0_lackOf_14 rfl ?_
  refine v_isub hC dX0_lackOf_17 rfl ?_
  obtain rfl := Option.some.inj h
  exact v_irt hC hr rfl rfl dX0_lackOf_18
theorem kX0_crowdNow_20 : Cond.fieldLink RX0 20 "CrowdFaces$Film" "scenes" "LCrowdFaces$Table;" ∈ wsX0_crowdNow := by decide +kernel
theorem iX0_crowdNow_X0 : ∀ w ∈ wsX00, w ∈ wsX0_crowdNow := by decide +kernel
def pX0_crowdNow_16 (ec : Int32) (sn : Int32) (ex : Nat → Int32) (sc : Nat → Int32) (se : Nat → Int32) : Option (Int32) := some (nI 0)
def pX0_crowdNow_45 (ec : Int32) (sn : Int32) (ex : Nat → Int32) (sc : Nat → Int32) (se : Nat → Int32) (s0 : Int32) : Option (Int32) := some s0
def pX0_crowdNow (ec : Int32) (sn : Int32) (ex : Nat → Int32) (sc : Nat → Int32) (se : Nat → Int32) (x1 : Int32) : Option (Int32) := (pX0_isScene sn x1).bind fun v1 => if v1 = 0 then pX0_crowdNow_16 ec sn ex sc se else (pX0_crowdOf sc x1).bind fun v2 => if v2 = 0 then (pX0_chosenCrowd ec sn ex sc se x1).bind fun v3 => (pJ6_bitCount_0f7a4 v3).bind fun v4 => (pX5_get (nI 10) 60 sc (nI 1) x1).bind fun v5 => if v5 ≤ v4 then pX0_crowdNow_45 ec sn ex sc se v3 else pX0_crowdNow_45 ec sn ex sc se (nI 0) else pX0_crowdNow_16 ec sn ex sc se
abbrev rmX0_crowdNow : Room := { frames := 3, cells := 0, slots := 0, locals := 79 }
set_option maxHeartbeats 4000000 in
set_option maxRecDepth 100000 in
theorem bX0_crowdNow_16 {p : Program} {l : Launch} {e : Env} {s : State} {m : MethodId} {args : Array Value} {below : List Frame} {meth : Method} {c : Code} {g : va_G} {cy : Nat → ClassId} (hC : CX p s m args meth c g cy 3 cX0_crowdNow wsX0_crowdNow RX0) (hr : meth.sig.returnType = (some .int)) {h0 q1 a1 q2 a2 q3 a3 : Nat} {res : Int32} : ∀ (ec : Int32) (sn : Int32) (dy : Int32) (wg : Int32) (pe : Int32) (pn : Int32) (br : Int32) (ex : Nat → Int32) (sc : Nat → Int32) (se : Nat → Int32) (h : pX0_crowdNow_16 ec sn ex sc se = some res), V p l e (headSpec wsX0_crowdNow rmX0_crowdNow).room s m args below meth c g 3 0 0 (MQ below (QRi res) args s 0 0 nF) nF (fun _ => True) [(h0, .inr (0, [.ref q1, .ref q2, .ref q3, .int ec, .int sn, .int dy, .int wg, .int pe, .int pn, .int br])), (q1, .inr (3, [.int (nI 14), .ref a1])), (a1, .inl (cy 0, 84, .inl ex)), (q2, .inr (3, [.int (nI 10), .ref a2])), (a2, .inl (cy 0, 60, .inl sc)), (q3, .inr (3, [.int (nI 1), .ref a3])), (a3, .inl (cy 0, 3, .inl se))] 16 [] [] := by
  intro ec sn dy wg pe pn br ex sc se  h
  unfold pX0_crowdNow_16 at h
  refine v_iconst hC (v := (nI 0)) dX0_crowdNow_16 (by decide) rfl ?_
  obtain rfl := Option.some.inj h
  exact v_irt hC hr rfl rfl dX0_crowdNow_17
set_option maxHeartbeats 4000000 in
set_option maxRecDepth 100000 in
theorem bX0_crowdNow_45 {p : Program} {l : Launch} {e : Env} {s : State} {m : MethodId} {args : Array Value} {below : List Frame} {meth : Method} {c : Code} {g : va_G} {cy : Nat → ClassId} (hC : CX p s m args meth c g cy 3 cX0_crowdNow wsX0_crowdNow RX0) (hr : meth.sig.returnType = (some .int)) {h0 q1 a1 q2 a2 q3 a3 : Nat} {res : Int32} : ∀ (ec : Int32) (sn : Int32) (dy : Int32) (wg : Int32) (pe : Int32) (pn : Int32) (br : Int32) (ex : Nat → Int32) (sc : Nat → Int32) (se : Nat → Int32) (s0 : Int32)(h : pX0_crowdNow_45 ec sn ex sc se s0 = some res), V p l e (headSpec wsX0_crowdNow rmX0_crowdNow).room s m args below meth c g 3 0 0 (MQ below (QRi res) args s 0 0 nF) nF (fun _ => True) [(h0, .inr (0, [.ref q1, .ref q2, .ref q3, .int ec, .int sn, .int dy, .int wg, .int pe, .int pn, .int br])), (q1, .inr (3, [.int (nI 14), .ref a1])), (a1, .inl (cy 0, 84, .inl ex)), (q2, .inr (3, [.int (nI 10), .ref a2])), (a2, .inl (cy 0, 60, .inl sc)), (q3, .inr (3, [.int (nI 1), .ref a3])), (a3, .inl (cy 0, 3, .inl se))] 45 [] [.int s0] := by
  intro ec sn dy wg pe pn br ex sc se s0 h
  unfold pX0_crowdNow_45 at h
  obtain rfl := Option.some.inj h
  exact v_irt hC hr rfl rfl dX0_crowdNow_45
set_option maxHeartbeats 4000000 in
set_option maxRecDepth 100000 in
theorem mX0_crowdNow (l : Launch) (g : va_G) (cy : Nat → ClassId) (h0 q1 a1 q2 a2 q3 a3 : Nat) (ec : Int32) (sn : Int32) (dy : Int32) (wg : Int32) (pe : Int32) (pn : Int32) (br : Int32) (ex : Nat → Int32) (sc : Nat → Int32) (se : Nat → Int32) (x1 : Int32) {res : Int32} (h : pX0_crowdNow ec sn ex sc se x1 = some res) : Met l yX0_crowdNow wsX0_crowdNow rmX0_crowdNow (PW [.ref h0, .int x1] g cy [(h0, .inr (0, [.ref q1, .ref q2, .ref q3, .int ec, .int sn, .int dy, .int wg, .int pe, .int pn, .int br])), (q1, .inr (3, [.int (nI 14), .ref a1])), (a1, .inl (cy 0, 84, .inl ex)), (q2, .inr (3, [.int (nI 10), .ref a2])), (a2, .inl (cy 0, 60, .inl sc)), (q3, .inr (3, [.int (nI 1), .ref a3])), (a3, .inl (cy 0, 3, .inl se))]) (QRi res) 0 0 nF := by
  refine m_ofV (cc := cX0_crowdNow) (nL := 3) (ret := (some .int)) (B := fun _ => True) RX0 rfl (by decide) rfl [(0, .ref h0), (1, .int x1)] rfl (Nat.le_of_ble_eq_true rfl) (fun h => h) ?_
  intro p e s m args below meth c hC hr
  unfold pX0_crowdNow at h
  refine v_aload_n hC dX0_crowdNow_0 rfl 0 rfl rfl ?_
  refine v_iload_n hC dX0_crowdNow_1 rfl 1 rfl rfl ?_
  obtain ⟨v1, hv1, h⟩ := bind_g h
  refine v_callVri hC (n := 1) (st := []) (mX0_isScene l g cy h0 q1 a1 q2 a2 q3 a3 ec sn dy wg pe pn br ex sc se x1 hv1) gX0_crowdNow_X0_isScene rfl rfl rfl (by decide +kernel) ⟨Nat.le_of_ble_eq_true rfl, Nat.le_of_ble_eq_true rfl⟩ 0 rfl rfl [0, 1, 2, 3, 4, 5, 6] rfl rfl rfl rfl (Nat.le_of_ble_eq_true rfl) rfl ⟨Nat.zero_le _, Nat.zero_le _⟩ dX0_crowdNow_2 rfl ?_
  refine v_if_eq hC (tgt := 16) dX0_crowdNow_5 (by decide) rfl (fun c => ?_) (fun c => ?_)
  · have h := ite_t c h
    exact v_sub [] (lv' := []) rfl (bX0_crowdNow_16 hC hr _ _ _ _ _ _ _ _ _ _ h)
  · have h := ite_f c h
    refine v_aload_n hC dX0_crowdNow_8 rfl 0 rfl rfl ?_
    refine v_iload_n hC dX0_crowdNow_9 rfl 1 rfl rfl ?_
    obtain ⟨v2, hv2, h⟩ := bind_g h
    refine v_callVri hC (n := 1) (st := []) (mX0_crowdOf l g cy h0 q1 a1 q2 a2 q3 a3 ec sn dy wg pe pn br ex sc se x1 hv2) gX0_crowdNow_X0_crowdOf rfl rfl rfl (by decide +kernel) ⟨Nat.le_of_ble_eq_true rfl, Nat.le_of_ble_eq_true rfl⟩ 0 rfl rfl [0, 1, 2, 3, 4, 5, 6] rfl rfl rfl rfl (Nat.le_of_ble_eq_true rfl) rfl ⟨Nat.zero_le _, Nat.zero_le _⟩ dX0_crowdNow_10 rfl ?_
    refine v_if_eq hC (tgt := 18) dX0_crowdNow_13 (by decide) rfl (fun c => ?_) (fun c => ?_)
    · have h := ite_t c h
      refine v_aload_n hC dX0_crowdNow_18 rfl 0 rfl rfl ?_
      refine v_iload_n hC dX0_crowdNow_19 rfl 1 rfl rfl ?_
      obtain ⟨v3, hv3, h⟩ := bind_g h
      refine v_callVri hC (n := 1) (st := []) (mX0_chosenCrowd l g cy h0 q1 a1 q2 a2 q3 a3 ec sn dy wg pe pn br ex sc se x1 hv3) gX0_crowdNow_X0_chosenCrowd rfl rfl rfl (by decide +kernel) ⟨Nat.le_of_ble_eq_true rfl, Nat.le_of_ble_eq_true rfl⟩ 0 rfl rfl [0, 1, 2, 3, 4, 5, 6] rfl rfl rfl rfl (Nat.le_of_ble_eq_true rfl) rfl ⟨Nat.zero_le _, Nat.zero_le _⟩ dX0_crowdNow_20 rfl ?_
      refine v_istore_n hC dX0_crowdNow_23 rfl (by decide) [(2, .int v3), (0, .ref h0), (1, .int x1)] rfl rfl ?_
      refine v_iload_n hC dX0_crowdNow_24 rfl 0 rfl rfl ?_
      obtain ⟨v4, hv4, h⟩ := bind_g h
      refine v_callSri hC (n := 1) (st := []) (mJ6_bitCount_0f7a4 l g cy v3 hv4) gX0_crowdNow_J6_bitCount_0f7a4 rfl rfl rfl (by decide +kernel) ⟨Nat.le_of_ble_eq_true rfl, Nat.le_of_ble_eq_true rfl⟩ [] rfl rfl rfl rfl (Nat.le_of_ble_eq_true rfl) rfl ⟨Nat.zero_le _, Nat.zero_le _⟩ dX0_crowdNow_25 rfl ?_
      refine v_aload_n hC dX0_crowdNow_28 rfl 1 rfl rfl ?_
      refine v_get hC iX0_crowdNow_X0 0 rfl rfl 1 (by decide) kX0_crowdNow_20 rfl rfl dX0_crowdNow_29 rfl ?_
      refine v_iconst hC (v := (nI 1)) dX0_crowdNow_32 (by decide) rfl ?_
      refine v_iload_n hC dX0_crowdNow_33 rfl 2 rfl rfl ?_
      obtain ⟨v5, hv5, h⟩ := bind_g h
      refine v_callVri hC (n := 2) (st := [.int v4]) (mX5_get l g cy q2 a2 (nI 10) 60 sc (nI 1) x1 hv5) gX0_crowdNow_X5_get rfl rfl rfl (by decide +kernel) ⟨Nat.le_of_ble_eq_true rfl, Nat.le_of_ble_eq_true rfl⟩ 3 rfl rfl [3, 4] rfl rfl rfl rfl (Nat.le_of_ble_eq_true rfl) rfl ⟨Nat.zero_le _, Nat.zero_le _⟩ dX0_crowdNow_34 rfl ?_
      refine v_icmp_ge hC (tgt := 44) dX0_crowdNow_37 (by decide) rfl (fun c => ?_) (fun c => ?_)
      · have h := ite_t c h
        refine v_iload_n hC dX0_crowdNow_44 rfl 0 rfl rfl ?_
        exact v_sub [] (lv' := []) rfl (bX0_crowdNow_45 hC hr _ _ _ _ _ _ _ _ _ _ _ h)
      · have h := ite_f c h
        refine v_iconst hC (v := (nI 0)) dX0_crowdNow_40 (by decide) rfl ?_
        refine v_goto hC (tgt := 45) dX0_crowdNow_41 (by decide) ?_
        exact v_sub [] (lv' := []) rfl (bX0_crowdNow_45 hC hr _ _ _ _ _ _ _ _ _ _ _ h)
    · have h := ite_f c h
      exact v_sub [] (lv' := []) rfl (bX0_crowdNow_16 hC hr _ _ _ _ _ _ _ _ _ _ h)
theorem kX0_reason_14 : Cond.fieldLink RX0 14 "CrowdFaces$Film" "extras" "LCrowdFaces$Table;" ∈ wsX0_reason := by decide +kernel
theorem iX0_reason_X0 : ∀ w ∈ wsX00, w ∈ wsX0_reason := by decide +kernel
def pX0_reason_99 (ec : Int32) (sn : Int32) (ex : Nat → Int32) (sc : Nat → Int32) (se : Nat → Int32) (s0 : Int32) : Option (Int32) := some s0
def pX0_reason (ec : Int32) (sn : Int32) (ex : Nat → Int32) (sc : Nat → Int32) (se : Nat → Int32) (x1 : Int32) (x2 : Int32) : Option (Int32) := (pX5_get (nI 14) 84 ex (nI 1) x2).bind fun v1 => (pX0_withRightLook ec ex sc x1).bind fun v2 => (pX7_has v2 x2).bind fun v3 => if v3 = 0 then some (nI 1) else (pX0_withTime ec ex sc se x1).bind fun v4 => (pX7_has v4 x2).bind fun v5 => if v5 = 0 then some (nI 2) else (pX0_castOf sn sc x1 (nI 0)).bind fun v6 => (pX0_facesOf ec ex v6).bind fun v7 => if (v7 &&& ((nI 1) <<< (v1 &&& 31))) = 0 then (pX0_crowdNow ec sn ex sc se x1).bind fun v8 => if v8 = 0 then some (nI 4) else (pX7_has v8 x2).bind fun v9 => if v9 = 0 then (pX0_facesOf ec ex v8).bind fun v10 => if (v10 &&& ((nI 1) <<< (v1 &&& 31))) = 0 then pX0_reason_99 ec sn ex sc se (nI 6) else pX0_reason_99 ec sn ex sc se (nI 5) else some (nI 0) else some (nI 3)
abbrev rmX0_reason : Room := { frames := 4, cells := 0, slots := 0, locals := 101 }
set_option maxHeartbeats 4000000 in
set_option maxRecDepth 100000 in
theorem bX0_reason_99 {p : Program} {l : Launch} {e : Env} {s : State} {m : MethodId} {args : Array Value} {below : List Frame} {meth : Method} {c : Code} {g : va_G} {cy : Nat → ClassId} (hC : CX p s m args meth c g cy 5 cX0_reason wsX0_reason RX0) (hr : meth.sig.returnType = (some .int)) {h0 q1 a1 q2 a2 q3 a3 : Nat} {res : Int32} : ∀ (ec : Int32) (sn : Int32) (dy : Int32) (wg : Int32) (pe : Int32) (pn : Int32) (br : Int32) (ex : Nat → Int32) (sc : Nat → Int32) (se : Nat → Int32) (s0 : Int32)(h : pX0_reason_99 ec sn ex sc se s0 = some res), V p l e (headSpec wsX0_reason rmX0_reason).room s m args below meth c g 5 0 0 (MQ below (QRi res) args s 0 0 nF) nF (fun _ => True) [(h0, .inr (0, [.ref q1, .ref q2, .ref q3, .int ec, .int sn, .int dy, .int wg, .int pe, .int pn, .int br])), (q1, .inr (3, [.int (nI 14), .ref a1])), (a1, .inl (cy 0, 84, .inl ex)), (q2, .inr (3, [.int (nI 10), .ref a2])), (a2, .inl (cy 0, 60, .inl sc)), (q3, .inr (3, [.int (nI 1), .ref a3])), (a3, .inl (cy 0, 3, .inl se))] 99 [] [.int s0] := by
  intro ec sn dy wg pe pn br ex sc se s0 h
  unfold pX0_reason_99 at h
  obtain rfl := Option.some.inj h
  exact v_irt hC hr rfl rfl dX0_reason_99
set_option maxHeartbeats 4000000 in
set_option maxRecDepth 100000 in
theorem mX0_reason (l : Launch) (g : va_G) (cy : Nat → ClassId) (h0 q1 a1 q2 a2 q3 a3 : Nat) (ec : Int32) (sn : Int32) (dy : Int32) (wg : Int32) (pe : Int32) (pn : Int32) (br : Int32) (ex : Nat → Int32) (sc : Nat → Int32) (se : Nat → Int32) (x1 : Int32) (x2 : Int32) {res : Int32} (h : pX0_reason ec sn ex sc se x1 x2 = some res) : Met l yX0_reason wsX0_reason rmX0_reason (PW [.ref h0, .int x1, .int x2] g cy [(h0, .inr (0, [.ref q1, .ref q2, .ref q3, .int ec, .int sn, .int dy, .int wg, .int pe, .int pn, .int br])), (q1, .inr (3, [.int (nI 14), .ref a1])), (a1, .inl (cy 0, 84, .inl ex)), (q2, .inr (3, [.int (nI 10), .ref a2])), (a2, .inl (cy 0, 60, .inl sc)), (q3, .inr (3, [.int (nI 1), .ref a3])), (a3, .inl (cy 0, 3, .inl se))]) (QRi res) 0 0 nF := by
  refine m_ofV (cc := cX0_reason) (nL := 5) (ret := (some .int)) (B := fun _ => True) RX0 rfl (by decide) rfl [(0, .ref h0), (1, .int x1), (2, .int x2)] rfl (Nat.le_of_ble_eq_true rfl) (fun h => h) ?_
  intro p e s m args below meth c hC hr
  unfold pX0_reason at h
  refine v_iconst hC (v := (nI 1)) dX0_reason_0 (by decide) rfl ?_
  refine v_aload_n hC dX0_reason_1 rfl 0 rfl rfl ?_
  refine v_get hC iX0_reason_X0 0 rfl rfl 0 (by decide) kX0_reason_14 rfl rfl dX0_reason_2 rfl ?_
  refine v_iconst hC (v := (nI 1)) dX0_reason_5 (by decide) rfl ?_
  refine v_iload_n hC dX0_reason_6 rfl 2 rfl rfl ?_
  obtain ⟨v1, hv1, h⟩ := bind_g h
  refine v_callVri hC (n := 2) (st := [.int (nI 1)]) (mX5_get l g cy q1 a1 (nI 14) 84 ex (nI 1) x2 hv1) gX0_reason_X5_get rfl rfl rfl (by decide +kernel) ⟨Nat.le_of_ble_eq_true rfl, Nat.le_of_ble_eq_true rfl⟩ 1 rfl rfl [1, 2] rfl rfl rfl rfl (Nat.le_of_ble_eq_true rfl) rfl ⟨Nat.zero_le _, Nat.zero_le _⟩ dX0_reason_7 rfl ?_
  refine v_ishl hC dX0_reason_10 rfl ?_
  refine v_istore_n hC dX0_reason_11 rfl (by decide) [(3, .int ((nI 1) <<< (v1 &&& 31))), (0, .ref h0), (1, .int x1), (2, .int x2)] rfl rfl ?_
  refine v_aload_n hC dX0_reason_12 rfl 1 rfl rfl ?_
  refine v_iload_n hC dX0_reason_13 rfl 2 rfl rfl ?_
  obtain ⟨v2, hv2, h⟩ := bind_g h
  refine v_callVri hC (n := 1) (st := []) (mX0_withRightLook l g cy h0 q1 a1 q2 a2 q3 a3 ec sn dy wg pe pn br ex sc se x1 hv2) gX0_reason_X0_withRightLook rfl rfl rfl (by decide +kernel) ⟨Nat.le_of_ble_eq_true rfl, Nat.le_of_ble_eq_true rfl⟩ 0 rfl rfl [0, 1, 2, 3, 4, 5, 6] rfl rfl rfl rfl (Nat.le_of_ble_eq_true rfl) rfl ⟨Nat.zero_le _, Nat.zero_le _⟩ dX0_reason_14 rfl ?_
  refine v_iload_n hC dX0_reason_17 rfl 3 rfl rfl ?_
  obtain ⟨v3, hv3, h⟩ := bind_g h
  refine v_callNri hC (n := 2) (st := []) (mX7_has l g cy v2 x2 hv3) gX0_reason_X7_has_n93 0 rfl ⟨by decide +kernel, by decide +kernel⟩ rfl rfl rfl (by decide +kernel) ⟨Nat.le_of_ble_eq_true rfl, Nat.le_of_ble_eq_true rfl⟩ [] rfl rfl rfl rfl (Nat.le_of_ble_eq_true rfl) rfl ⟨Nat.zero_le _, Nat.zero_le _⟩ dX0_reason_18 rfl ?_
  refine v_if_ne hC (tgt := 26) dX0_reason_21 (by decide) rfl (fun c => ?_) (fun c => ?_)
  · have h := ite_f c h
    refine v_aload_n hC dX0_reason_26 rfl 1 rfl rfl ?_
    refine v_iload_n hC dX0_reason_27 rfl 2 rfl rfl ?_
    obtain ⟨v4, hv4, h⟩ := bind_g h
    refine v_callVri hC (n := 1) (st := []) (mX0_withTime l g cy h0 q1 a1 q2 a2 q3 a3 ec sn dy wg pe pn br ex sc se x1 hv4) gX0_reason_X0_withTime rfl rfl rfl (by decide +kernel) ⟨Nat.le_of_ble_eq_true rfl, Nat.le_of_ble_eq_true rfl⟩ 0 rfl rfl [0, 1, 2, 3, 4, 5, 6] rfl rfl rfl rfl (Nat.le_of_ble_eq_true rfl) rfl ⟨Nat.zero_le _, Nat.zero_le _⟩ dX0_reason_28 rfl ?_
    refine v_iload_n hC dX0_reason_31 rfl 3 rfl rfl ?_
    obtain ⟨v5, hv5, h⟩ := bind_g h
    refine v_callNri hC (n := 2) (st := []) (mX7_has l g cy v4 x2 hv5) gX0_reason_X7_has_n93 0 rfl ⟨by decide +kernel, by decide +kernel⟩ rfl rfl rfl (by decide +kernel) ⟨Nat.le_of_ble_eq_true rfl, Nat.le_of_ble_eq_true rfl⟩ [] rfl rfl rfl rfl (Nat.le_of_ble_eq_true rfl) rfl ⟨Nat.zero_le _, Nat.zero_le _⟩ dX0_reason_32 rfl ?_
    refine v_if_ne hC (tgt := 40) dX0_reason_35 (by decide) rfl (fun c => ?_) (fun c => ?_)
    · have h := ite_f c h
      refine v_aload_n hC dX0_reason_40 rfl 1 rfl rfl ?_
      refine v_aload_n hC dX0_reason_41 rfl 1 rfl rfl ?_
      refine v_iload_n hC dX0_reason_42 rfl 2 rfl rfl ?_
      refine v_iconst hC (v := (nI 0)) dX0_reason_43 (by decide) rfl ?_
      obtain ⟨v6, hv6, h⟩ := bind_g h
      refine v_callVri hC (n := 2) (st := [.ref h0]) (mX0_castOf l g cy h0 q1 a1 q2 a2 q3 a3 ec sn dy wg pe pn br ex sc se x1 (nI 0) hv6) gX0_reason_X0_castOf rfl rfl rfl (by decide +kernel) ⟨Nat.le_of_ble_eq_true rfl, Nat.le_of_ble_eq_true rfl⟩ 0 rfl rfl [0, 1, 2, 3, 4, 5, 6] rfl rfl rfl rfl (Nat.le_of_ble_eq_true rfl) rfl ⟨Nat.zero_le _, Nat.zero_le _⟩ dX0_reason_44 rfl ?_
      obtain ⟨v7, hv7, h⟩ := bind_g h
      refine v_callVri hC (n := 1) (st := []) (mX0_facesOf l g cy h0 q1 a1 q2 a2 q3 a3 ec sn dy wg pe pn br ex sc se v6 hv7) gX0_reason_X0_facesOf rfl rfl rfl (by decide +kernel) ⟨Nat.le_of_ble_eq_true rfl, Nat.le_of_ble_eq_true rfl⟩ 0 rfl rfl [0, 1, 2, 3, 4, 5, 6] rfl rfl rfl rfl (Nat.le_of_ble_eq_true rfl) rfl ⟨Nat.zero_le _, Nat.zero_le _⟩ dX0_reason_47 rfl ?_
      refine v_iload_n hC dX0_reason_50 rfl 0 rfl rfl ?_
      refine v_iand hC dX0_reason_51 rfl ?_
      refine v_if_eq hC (tgt := 57) dX0_reason_52 (by decide) rfl (fun c => ?_) (fun c => ?_)
      · have h := ite_t c h
        refine v_aload_n hC dX0_reason_57 rfl 1 rfl rfl ?_
        refine v_iload_n hC dX0_reason_58 rfl 2 rfl rfl ?_
        obtain ⟨v8, hv8, h⟩ := bind_g h
        refine v_callVri hC (n := 1) (st := []) (mX0_crowdNow l g cy h0 q1 a1 q2 a2 q3 a3 ec sn dy wg pe pn br ex sc se x1 hv8) gX0_reason_X0_crowdNow rfl rfl rfl (by decide +kernel) ⟨Nat.le_of_ble_eq_true rfl, Nat.le_of_ble_eq_true rfl⟩ 0 rfl rfl [0, 1, 2, 3, 4, 5, 6] rfl rfl rfl rfl (Nat.le_of_ble_eq_true rfl) rfl ⟨Nat.zero_le _, Nat.zero_le _⟩ dX0_reason_59 rfl ?_
        refine v_istore hC dX0_reason_62 (by decide) [(4, .int v8), (3, .int ((nI 1) <<< (v1 &&& 31))), (0, .ref h0), (1, .int x1), (2, .int x2)] rfl rfl ?_
        refine v_iload hC dX0_reason_64 0 rfl rfl ?_
        refine v_if_ne hC (tgt := 71) dX0_reason_66 (by decide) rfl (fun c => ?_) (fun c => ?_)
        · have h := ite_f c h
          refine v_iload hC dX0_reason_71 0 rfl rfl ?_
          refine v_iload_n hC dX0_reason_73 rfl 4 rfl rfl ?_
          obtain ⟨v9, hv9, h⟩ := bind_g h
          refine v_callNri hC (n := 2) (st := []) (mX7_has l g cy v8 x2 hv9) gX0_reason_X7_has_n93 0 rfl ⟨by decide +kernel, by decide +kernel⟩ rfl rfl rfl (by decide +kernel) ⟨Nat.le_of_ble_eq_true rfl, Nat.le_of_ble_eq_true rfl⟩ [] rfl rfl rfl rfl (Nat.le_of_ble_eq_true rfl) rfl ⟨Nat.zero_le _, Nat.zero_le _⟩ dX0_reason_74 rfl ?_
          refine v_if_eq hC (tgt := 82) dX0_reason_77 (by decide) rfl (fun c => ?_) (fun c => ?_)
          · have h := ite_t c h
            refine v_aload_n hC dX0_reason_82 rfl 2 rfl rfl ?_
            refine v_iload hC dX0_reason_83 0 rfl rfl ?_
            obtain ⟨v10, hv10, h⟩ := bind_g h
            refine v_callVri hC (n := 1) (st := []) (mX0_facesOf l g cy h0 q1 a1 q2 a2 q3 a3 ec sn dy wg pe pn br ex sc se v8 hv10) gX0_reason_X0_facesOf rfl rfl rfl (by decide +kernel) ⟨Nat.le_of_ble_eq_true rfl, Nat.le_of_ble_eq_true rfl⟩ 0 rfl rfl [0, 1, 2, 3, 4, 5, 6] rfl rfl rfl rfl (Nat.le_of_ble_eq_true rfl) rfl ⟨Nat.zero_le _, Nat.zero_le _⟩ dX0_reason_85 rfl ?_
            refine v_iload_n hC dX0_reason_88 rfl 1 rfl rfl ?_
            refine v_iand hC dX0_reason_89 rfl ?_
            refine v_if_eq hC (tgt := 97) dX0_reason_90 (by decide) rfl (fun c => ?_) (fun c => ?_)
            · have h := ite_t c h
              refine v_bipush hC (v := (nI 6)) dX0_reason_97 (by decide) rfl ?_
              exact v_sub [] (lv' := []) rfl (bX0_reason_99 hC hr _ _ _ _ _ _ _ _ _ _ _ h)
            · have h := ite_f c h
              refine v_iconst hC (v := (nI 5)) dX0_reason_93 (by decide) rfl ?_
              refine v_goto hC (tgt := 99) dX0_reason_94 (by decide) ?_
              exact v_sub [] (lv' := []) rfl (bX0_reason_99 hC hr _ _ _ _ _ _ _ _ _ _ _ h)
          · have h := ite_f c h
            refine v_iconst hC (v := (nI 0)) dX0_reason_80 (by decide) rfl ?_
            obtain rfl := Option.some.inj h
            exact v_irt hC hr rfl rfl dX0_reason_81
        · have h := ite_t c h
          refine v_iconst hC (v := (nI 4)) dX0_reason_69 (by decide) rfl ?_
          obtain rfl := Option.some.inj h
          exact v_irt hC hr rfl rfl dX0_reason_70
      · have h := ite_f c h
        refine v_iconst hC (v := (nI 3)) dX0_reason_55 (by decide) rfl ?_
        obtain rfl := Option.some.inj h
        exact v_irt hC hr rfl rfl dX0_reason_56
    · have h := ite_t c h
      refine v_iconst hC (v := (nI 2)) dX0_reason_38 (by decide) rfl ?_
      obtain rfl := Option.some.inj h
      exact v_irt hC hr rfl rfl dX0_reason_39
  · have h := ite_t c h
    refine v_iconst hC (v := (nI 1)) dX0_reason_24 (by decide) rfl ?_
    obtain rfl := Option.some.inj h
    exact v_irt hC hr rfl rfl dX0_reason_25
theorem kX0_wageOf_20 : Cond.fieldLink RX0 20 "CrowdFaces$Film" "scenes" "LCrowdFaces$Table;" ∈ wsX0_wageOf := by decide +kernel
theorem kX0_wageOf_23 : Cond.fieldLink RX0 23 "CrowdFaces$Film" "settings" "LCrowdFaces$Table;" ∈ wsX0_wageOf := by decide +kernel
theorem iX0_wageOf_X0 : ∀ w ∈ wsX00, w ∈ wsX0_wageOf := by decide +kernel
def pX0_wageOf (sc : Nat → Int32) (se : Nat → Int32) (x1 : Int32) : Option (Int32) := (pX5_get (nI 10) 60 sc (nI 4) x1).bind fun v1 => (pX7_begun v1 (nI 60)).bind fun v2 => (pX5_get (nI 1) 3 se (nI 1) (nI 0)).bind fun v3 => some (v2 * v3)
abbrev rmX0_wageOf : Room := { frames := 1, cells := 0, slots := 0, locals := 23 }
set_option maxHeartbeats 4000000 in
set_option maxRecDepth 100000 in
theorem mX0_wageOf (l : Launch) (g : va_G) (cy : Nat → ClassId) (h0 q1 a1 q2 a2 q3 a3 : Nat) (ec : Int32) (sn : Int32) (dy : Int32) (wg : Int32) (pe : Int32) (pn : Int32) (br : Int32) (ex : Nat → Int32) (sc : Nat → Int32) (se : Nat → Int32) (x1 : Int32) {res : Int32} (h : pX0_wageOf sc se x1 = some res) : Met l yX0_wageOf wsX0_wageOf rmX0_wageOf (PW [.ref h0, .int x1] g cy [(h0, .inr (0, [.ref q1, .ref q2, .ref q3, .int ec, .int sn, .int dy, .int wg, .int pe, .int pn, .int br])), (q1, .inr (3, [.int (nI 14), .ref a1])), (a1, .inl (cy 0, 84, .inl ex)), (q2, .inr (3, [.int (nI 10), .ref a2])), (a2, .inl (cy 0, 60, .inl sc)), (q3, .inr (3, [.int (nI 1), .ref a3])), (a3, .inl (cy 0, 3, .inl se))]) (QRi res) 0 0 nF := by
  refine m_ofV (cc := cX0_wageOf) (nL := 2) (ret := (some .int)) (B := fun _ => True) RX0 rfl (by decide) rfl [(0, .ref h0), (1, .int x1)] rfl (Nat.le_of_ble_eq_true rfl) (fun h => h) ?_
  intro p e s m args below meth c hC hr
  unfold pX0_wageOf at h
  refine v_aload_n hC dX0_wageOf_0 rfl 0 rfl rfl ?_
  refine v_get hC iX0_wageOf_X0 0 rfl rfl 1 (by decide) kX0_wageOf_20 rfl rfl dX0_wageOf_1 rfl ?_
  refine v_iconst hC (v := (nI 4)) dX0_wageOf_4 (by decide) rfl ?_
  refine v_iload_n hC dX0_wageOf_5 rfl 1 rfl rfl ?_
  obtain ⟨v1, hv1, h⟩ := bind_g h
  refine v_callVri hC (n := 2) (st := []) (mX5_get l g cy q2 a2 (nI 10) 60 sc (nI 4) x1 hv1) gX0_wageOf_X5_get rfl rfl rfl (by decide +kernel) ⟨Nat.le_of_ble_eq_true rfl, Nat.le_of_ble_eq_true rfl⟩ 3 rfl rfl [3, 4] rfl rfl rfl rfl (Nat.le_of_ble_eq_true rfl) rfl ⟨Nat.zero_le _, Nat.zero_le _⟩ dX0_wageOf_6 rfl ?_
  refine v_bipush hC (v := (nI 60)) dX0_wageOf_9 (by decide) rfl ?_
  obtain ⟨v2, hv2, h⟩ := bind_g h
  refine v_callNri hC (n := 2) (st := []) (mX7_begun l g cy v1 (nI 60) hv2) gX0_wageOf_X7_begun_n116 1 rfl ⟨by decide +kernel, by decide +kernel⟩ rfl rfl rfl (by decide +kernel) ⟨Nat.le_of_ble_eq_true rfl, Nat.le_of_ble_eq_true rfl⟩ [] rfl rfl rfl rfl (Nat.le_of_ble_eq_true rfl) rfl ⟨Nat.zero_le _, Nat.zero_le _⟩ dX0_wageOf_11 rfl ?_
  refine v_aload_n hC dX0_wageOf_14 rfl 0 rfl rfl ?_
  refine v_get hC iX0_wageOf_X0 0 rfl rfl 2 (by decide) kX0_wageOf_23 rfl rfl dX0_wageOf_15 rfl ?_
  refine v_iconst hC (v := (nI 1)) dX0_wageOf_18 (by decide) rfl ?_
  refine v_iconst hC (v := (nI 0)) dX0_wageOf_19 (by decide) rfl ?_
  obtain ⟨v3, hv3, h⟩ := bind_g h
  refine v_callVri hC (n := 2) (st := [.int v2]) (mX5_get l g cy q3 a3 (nI 1) 3 se (nI 1) (nI 0) hv3) gX0_wageOf_X5_get rfl rfl rfl (by decide +kernel) ⟨Nat.le_of_ble_eq_true rfl, Nat.le_of_ble_eq_true rfl⟩ 5 rfl rfl [5, 6] rfl rfl rfl rfl (Nat.le_of_ble_eq_true rfl) rfl ⟨Nat.zero_le _, Nat.zero_le _⟩ dX0_wageOf_20 rfl ?_
  refine v_imul hC dX0_wageOf_23 rfl ?_
  obtain rfl := Option.some.inj h
  exact v_irt hC hr rfl rfl dX0_wageOf_24
def pX0_wagesOf (sc : Nat → Int32) (se : Nat → Int32) (x1 : Int32) (x2 : Int32) : Option (Int32) := (pJ6_bitCount_0f7a4 x2).bind fun v1 => (pX0_wageOf sc se x1).bind fun v2 => some (v1 * v2)
abbrev rmX0_wagesOf : Room := { frames := 2, cells := 0, slots := 0, locals := 44 }
set_option maxHeartbeats 4000000 in
set_option maxRecDepth 100000 in
theorem mX0_wagesOf (l : Launch) (g : va_G) (cy : Nat → ClassId) (h0 q1 a1 q2 a2 q3 a3 : Nat) (ec : Int32) (sn : Int32) (dy : Int32) (wg : Int32) (pe : Int32) (pn : Int32) (br : Int32) (ex : Nat → Int32) (sc : Nat → Int32) (se : Nat → Int32) (x1 : Int32) (x2 : Int32) {res : Int32} (h : pX0_wagesOf sc se x1 x2 = some res) : Met l yX0_wagesOf wsX0_wagesOf rmX0_wagesOf (PW [.ref h0, .int x1, .int x2] g cy [(h0, .inr (0, [.ref q1, .ref q2, .ref q3, .int ec, .int sn, .int dy, .int wg, .int pe, .int pn, .int br])), (q1, .inr (3, [.int (nI 14), .ref a1])), (a1, .inl (cy 0, 84, .inl ex)), (q2, .inr (3, [.int (nI 10), .ref a2])), (a2, .inl (cy 0, 60, .inl sc)), (q3, .inr (3, [.int (nI 1), .ref a3])), (a3, .inl (cy 0, 3, .inl se))]) (QRi res) 0 0 nF := by
  refine m_ofV (cc := cX0_wagesOf) (nL := 3) (ret := (some .int)) (B := fun _ => True) RX0 rfl (by decide) rfl [(0, .ref h0), (1, .int x1), (2, .int x2)] rfl (Nat.le_of_ble_eq_true rfl) (fun h => h) ?_
  intro p e s m args below meth c hC hr
  unfold pX0_wagesOf at h
  refine v_iload_n hC dX0_wagesOf_0 rfl 2 rfl rfl ?_
  obtain ⟨v1, hv1, h⟩ := bind_g h
  refine v_callSri hC (n := 1) (st := []) (mJ6_bitCount_0f7a4 l g cy x2 hv1) gX0_wagesOf_J6_bitCount_0f7a4 rfl rfl rfl (by decide +kernel) ⟨Nat.le_of_ble_eq_true rfl, Nat.le_of_ble_eq_true rfl⟩ [] rfl rfl rfl rfl (Nat.le_of_ble_eq_true rfl) rfl ⟨Nat.zero_le _, Nat.zero_le _⟩ dX0_wagesOf_1 rfl ?_
  refine v_aload_n hC dX0_wagesOf_4 rfl 0 rfl rfl ?_
  refine v_iload_n hC dX0_wagesOf_5 rfl 1 rfl rfl ?_
  obtain ⟨v2, hv2, h⟩ := bind_g h
  refine v_callVri hC (n := 1) (st := [.int v1]) (mX0_wageOf l g cy h0 q1 a1 q2 a2 q3 a3 ec sn dy wg pe pn br ex sc se x1 hv2) gX0_wagesOf_X0_wageOf rfl rfl rfl (by decide +kernel) ⟨Nat.le_of_ble_eq_true rfl, Nat.le_of_ble_eq_true rfl⟩ 0 rfl rfl [0, 1, 2, 3, 4, 5, 6] rfl rfl rfl rfl (Nat.le_of_ble_eq_true rfl) rfl ⟨Nat.zero_le _, Nat.zero_le _⟩ dX0_wagesOf_6 rfl ?_
  refine v_imul hC dX0_wagesOf_9 rfl ?_
  obtain rfl := Option.some.inj h
  exact v_irt hC hr rfl rfl dX0_wagesOf_10
theorem kX0_newPenalties_14 : Cond.fieldLink RX0 14 "CrowdFaces$Film" "extras" "LCrowdFaces$Table;" ∈ wsX0_newPenalties := by decide +kernel
theorem kX0_newPenalties_20 : Cond.fieldLink RX0 20 "CrowdFaces$Film" "scenes" "LCrowdFaces$Table;" ∈ wsX0_newPenalties := by decide +kernel
theorem iX0_newPenalties_X0 : ∀ w ∈ wsX00, w ∈ wsX0_newPenalties := by decide +kernel
def pX0_newPenalties (ex : Nat → Int32) (sc : Nat → Int32) (x1 : Int32) (x2 : Int32) : Option (Int32) := (pX5_get (nI 14) 84 ex (nI 3) x2).bind fun v1 => (pX5_get (nI 10) 60 sc (nI 4) x1).bind fun v2 => (pX7_begun ((v1 + v2) - (nI 360)) (nI 30)).bind fun v3 => (pX5_get (nI 14) 84 ex (nI 4) x2).bind fun v4 => some (v3 - v4)
abbrev rmX0_newPenalties : Room := { frames := 1, cells := 0, slots := 0, locals := 23 }
set_option maxHeartbeats 4000000 in
set_option maxRecDepth 100000 in
theorem mX0_newPenalties (l : Launch) (g : va_G) (cy : Nat → ClassId) (h0 q1 a1 q2 a2 q3 a3 : Nat) (ec : Int32) (sn : Int32) (dy : Int32) (wg : Int32) (pe : Int32) (pn : Int32) (br : Int32) (ex : Nat → Int32) (sc : Nat → Int32) (se : Nat → Int32) (x1 : Int32) (x2 : Int32) {res : Int32} (h : pX0_newPenalties ex sc x1 x2 = some res) : Met l yX0_newPenalties wsX0_newPenalties rmX0_newPenalties (PW [.ref h0, .int x1, .int x2] g cy [(h0, .inr (0, [.ref q1, .ref q2, .ref q3, .int ec, .int sn, .int dy, .int wg, .int pe, .int pn, .int br])), (q1, .inr (3, [.int (nI 14), .ref a1])), (a1, .inl (cy 0, 84, .inl ex)), (q2, .inr (3, [.int (nI 10), .ref a2])), (a2, .inl (cy 0, 60, .inl sc)), (q3, .inr (3, [.int (nI 1), .ref a3])), (a3, .inl (cy 0, 3, .inl se))]) (QRi res) 0 0 nF := by
  refine m_ofV (cc := cX0_newPenalties) (nL := 4) (ret := (some .int)) (B := fun _ => True) RX0 rfl (by decide) rfl [(0, .ref h0), (1, .int x1), (2, .int x2)] rfl (Nat.le_of_ble_eq_true rfl) (fun h => h) ?_
  intro p e s m args below meth c hC hr
  unfold pX0_newPenalties at h
  refine v_aload_n hC dX0_newPenalties_0 rfl 0 rfl rfl ?_
  refine v_get hC iX0_newPenalties_X0 0 rfl rfl 0 (by decide) kX0_newPenalties_14 rfl rfl dX0_newPenalties_1 rfl ?_
  refine v_iconst hC (v := (nI 3)) dX0_newPenalties_4 (by decide) rfl ?_
  refine v_iload_n hC dX0_newPenalties_5 rfl 2 rfl rfl ?_
  obtain ⟨v1, hv1, h⟩ := bind_g h
  refine v_callVri hC (n := 2) (st := []) (mX5_get l g cy q1 a1 (nI 14) 84 ex (nI 3) x2 hv1) gX0_newPenalties_X5_get rfl rfl rfl (by decide +kernel) ⟨Nat.le_of_ble_eq_true rfl, Nat.le_of_ble_eq_true rfl⟩ 1 rfl rfl [1, 2] rfl rfl rfl rfl (Nat.le_of_ble_eq_true rfl) rfl ⟨Nat.zero_le _, Nat.zero_le _⟩ dX0_newPenalties_6 rfl ?_
  refine v_aload_n hC dX0_newPenalties_9 rfl 0 rfl rfl ?_
  refine v_get hC iX0_newPenalties_X0 0 rfl rfl 1 (by decide) kX0_newPenalties_20 rfl rfl dX0_newPenalties_10 rfl ?_
  refine v_iconst hC (v := (nI 4)) dX0_newPenalties_13 (by decide) rfl ?_
  refine v_iload_n hC dX0_newPenalties_14 rfl 1 rfl rfl ?_
  obtain ⟨v2, hv2, h⟩ := bind_g h
  refine v_callVri hC (n := 2) (st := [.int v1]) (mX5_get l g cy q2 a2 (nI 10) 60 sc (nI 4) x1 hv2) gX0_newPenalties_X5_get rfl rfl rfl (by decide +kernel) ⟨Nat.le_of_ble_eq_true rfl, Nat.le_of_ble_eq_true rfl⟩ 3 rfl rfl [3, 4] rfl rfl rfl rfl (Nat.le_of_ble_eq_true rfl) rfl ⟨Nat.zero_le _, Nat.zero_le _⟩ dX0_newPenalties_15 rfl ?_
  refine v_iadd hC dX0_newPenalties_18 rfl ?_
  refine v_sipush hC (v := (nI 360)) dX0_newPenalties_19 (by decide) rfl ?_
  refine v_isub hC dX0_newPenalties_22 rfl ?_
  refine v_istore_n hC dX0_newPenalties_23 rfl (by decide) [(3, .int ((v1 + v2) - (nI 360))), (0, .ref h0), (1, .int x1), (2, .int x2)] rfl rfl ?_
  refine v_iload_n hC dX0_newPenalties_24 rfl 0 rfl rfl ?_
  refine v_bipush hC (v := (nI 30)) dX0_newPenalties_25 (by decide) rfl ?_
  obtain ⟨v3, hv3, h⟩ := bind_g h
  refine v_callNri hC (n := 2) (st := []) (mX7_begun l g cy ((v1 + v2) - (nI 360)) (nI 30) hv3) gX0_newPenalties_X7_begun_n116 1 rfl ⟨by decide +kernel, by decide +kernel⟩ rfl rfl rfl (by decide +kernel) ⟨Nat.le_of_ble_eq_true rfl, Nat.le_of_ble_eq_true rfl⟩ [] rfl rfl rfl rfl (Nat.le_of_ble_eq_true rfl) rfl ⟨Nat.zero_le _, Nat.zero_le _⟩ dX0_newPenalties_27 rfl ?_
  refine v_aload_n hC dX0_newPenalties_30 rfl 1 rfl rfl ?_
  refine v_get hC iX0_newPenalties_X0 0 rfl rfl 0 (by decide) kX0_newPenalties_14 rfl rfl dX0_newPenalties_31 rfl ?_
  refine v_iconst hC (v := (nI 4)) dX0_newPenalties_34 (by decide) rfl ?_
  refine v_iload_n hC dX0_newPenalties_35 rfl 3 rfl rfl ?_
  obtain ⟨v4, hv4, h⟩ := bind_g h
  refine v_callVri hC (n := 2) (st := [.int v3]) (mX5_get l g cy q1 a1 (nI 14) 84 ex (nI 4) x2 hv4) gX0_newPenalties_X5_get rfl rfl rfl (by decide +kernel) ⟨Nat.le_of_ble_eq_true rfl, Nat.le_of_ble_eq_true rfl⟩ 1 rfl rfl [1, 2] rfl rfl rfl rfl (Nat.le_of_ble_eq_true rfl) rfl ⟨Nat.zero_le _, Nat.zero_le _⟩ dX0_newPenalties_36 rfl ?_
  refine v_isub hC dX0_newPenalties_39 rfl ?_
  obtain rfl := Option.some.inj h
  exact v_irt hC hr rfl rfl dX0_newPenalties_40
theorem kX0_penaltyCostsOf_23 : Cond.fieldLink RX0 23 "CrowdFaces$Film" "settings" "LCrowdFaces$Table;" ∈ wsX0_penaltyCostsOf := by decide +kernel
theorem kX0_penaltyCostsOf_37 : Cond.fieldLink RX0 37 "CrowdFaces$Film" "extraCount" "I" ∈ wsX0_penaltyCostsOf := by decide +kernel
theorem iX0_penaltyCostsOf_X0 : ∀ w ∈ wsX00, w ∈ wsX0_penaltyCostsOf := by decide +kernel
def pX0_penaltyCostsOf_33 (kk : Int32 → (Nat → Int32) → (Nat → Int32) → (Nat → Int32) → Int32 → Int32 → Int32 → Int32 → Option (Int32)) (ec : Int32) (ex : Nat → Int32) (sc : Nat → Int32) (se : Nat → Int32) (y1 : Int32) (y2 : Int32) (y3 : Int32) (y4 : Int32) : Option (Int32) := kk ec ex sc se y1 y2 y3 (y4 + (nI 1))
def pX0_penaltyCostsOf_5 : Nat → Int32 → (Nat → Int32) → (Nat → Int32) → (Nat → Int32) → Int32 → Int32 → Int32 → Int32 → Option (Int32)
  | 0, _, _, _, _, _, _, _, _ => none
  | k + 1, ec, ex, sc, se, y1, y2, y3, y4 => if ec ≤ y4 then (pX5_get (nI 1) 3 se (nI 2) (nI 0)).bind fun v1 => some (y3 * v1) else (pX7_has y2 y4).bind fun v2 => if v2 = 0 then pX0_penaltyCostsOf_33 (fun u0 u1 u2 u3 u4 u5 u6 u7 => pX0_penaltyCostsOf_5 k u0 u1 u2 u3 u4 u5 u6 u7) ec ex sc se y1 y2 y3 y4 else (pX0_newPenalties ex sc y1 y4).bind fun v3 => pX0_penaltyCostsOf_33 (fun u0 u1 u2 u3 u4 u5 u6 u7 => pX0_penaltyCostsOf_5 k u0 u1 u2 u3 u4 u5 u6 u7) ec ex sc se y1 y2 (y3 + v3) y4
theorem pX0_penaltyCostsOf_5_s {k : Nat} (ec : Int32) (ex : Nat → Int32) (sc : Nat → Int32) (se : Nat → Int32) (y1 : Int32) (y2 : Int32) (y3 : Int32) (y4 : Int32) : pX0_penaltyCostsOf_5 (k + 1) ec ex sc se y1 y2 y3 y4 = if ec ≤ y4 then (pX5_get (nI 1) 3 se (nI 2) (nI 0)).bind fun v1 => some (y3 * v1) else (pX7_has y2 y4).bind fun v2 => if v2 = 0 then pX0_penaltyCostsOf_33 (fun u0 u1 u2 u3 u4 u5 u6 u7 => pX0_penaltyCostsOf_5 k u0 u1 u2 u3 u4 u5 u6 u7) ec ex sc se y1 y2 y3 y4 else (pX0_newPenalties ex sc y1 y4).bind fun v3 => pX0_penaltyCostsOf_33 (fun u0 u1 u2 u3 u4 u5 u6 u7 => pX0_penaltyCostsOf_5 k u0 u1 u2 u3 u4 u5 u6 u7) ec ex sc se y1 y2 (y3 + v3) y4 := rfl
def pX0_penaltyCostsOf (ec : Int32) (ex : Nat → Int32) (sc : Nat → Int32) (se : Nat → Int32) (x1 : Int32) (x2 : Int32) : Option (Int32) := pX0_penaltyCostsOf_5 FU ec ex sc se x1 x2 (nI 0) (nI 0)
abbrev rmX0_penaltyCostsOf : Room := { frames := 2, cells := 0, slots := 0, locals := 46 }
set_option maxHeartbeats 4000000 in
set_option maxRecDepth 100000 in
theorem bX0_penaltyCostsOf_33 {p : Program} {l : Launch} {e : Env} {s : State} {m : MethodId} {args : Array Value} {below : List Frame} {meth : Method} {c : Code} {g : va_G} {cy : Nat → ClassId} (hC : CX p s m args meth c g cy 5 cX0_penaltyCostsOf wsX0_penaltyCostsOf RX0) (hr : meth.sig.returnType = (some .int)) {h0 q1 a1 q2 a2 q3 a3 : Nat} {res : Int32} : ∀ (ec : Int32) (sn : Int32) (dy : Int32) (wg : Int32) (pe : Int32) (pn : Int32) (br : Int32) (ex : Nat → Int32) (sc : Nat → Int32) (se : Nat → Int32) (y1 : Int32) (y2 : Int32) (y3 : Int32) (y4 : Int32) {kk : Int32 → (Nat → Int32) → (Nat → Int32) → (Nat → Int32) → Int32 → Int32 → Int32 → Int32 → Option (Int32)} (hk : ∀ (ec : Int32) (sn : Int32) (dy : Int32) (wg : Int32) (pe : Int32) (pn : Int32) (br : Int32) (ex : Nat → Int32) (sc : Nat → Int32) (se : Nat → Int32) (y1 : Int32) (y2 : Int32) (y3 : Int32) (y4 : Int32), kk ec ex sc se y1 y2 y3 y4 = some res → V p l e (headSpec wsX0_penaltyCostsOf rmX0_penaltyCostsOf).room s m args below meth c g 5 0 0 (MQ below (QRi res) args s 0 0 nF) nF (fun _ => True) [(h0, .inr (0, [.ref q1, .ref q2, .ref q3, .int ec, .int sn, .int dy, .int wg, .int pe, .int pn, .int br])), (q1, .inr (3, [.int (nI 14), .ref a1])), (a1, .inl (cy 0, 84, .inl ex)), (q2, .inr (3, [.int (nI 10), .ref a2])), (a2, .inl (cy 0, 60, .inl sc)), (q3, .inr (3, [.int (nI 1), .ref a3])), (a3, .inl (cy 0, 3, .inl se))] 5 [(0, .ref h0), (1, .int y1), (2, .int y2), (3, .int y3), (4, .int y4)] []) (h : pX0_penaltyCostsOf_33 kk ec ex sc se y1 y2 y3 y4 = some res), V p l e (headSpec wsX0_penaltyCostsOf rmX0_penaltyCostsOf).room s m args below meth c g 5 0 0 (MQ below (QRi res) args s 0 0 nF) nF (fun _ => True) [(h0, .inr (0, [.ref q1, .ref q2, .ref q3, .int ec, .int sn, .int dy, .int wg, .int pe, .int pn, .int br])), (q1, .inr (3, [.int (nI 14), .ref a1])), (a1, .inl (cy 0, 84, .inl ex)), (q2, .inr (3, [.int (nI 10), .ref a2])), (a2, .inl (cy 0, 60, .inl sc)), (q3, .inr (3, [.int (nI 1), .ref a3])), (a3, .inl (cy 0, 3, .inl se))] 33 [(0, .ref h0), (1, .int y1), (2, .int y2), (3, .int y3), (4, .int y4)] [] := by
  intro ec sn dy wg pe pn br ex sc se y1 y2 y3 y4 kk hk h
  unfold pX0_penaltyCostsOf_33 at h
  refine v_iinc hC dX0_penaltyCostsOf_33 4 rfl (v := (y4 + (nI 1))) rfl (by decide) [(4, .int (y4 + (nI 1))), (0, .ref h0), (1, .int y1), (2, .int y2), (3, .int y3)] rfl rfl ?_
  refine v_goto hC (tgt := 5) dX0_penaltyCostsOf_36 (by decide) ?_
  exact v_sub [1, 2, 3, 4, 0] (lv' := [(0, .ref h0), (1, .int y1), (2, .int y2), (3, .int y3), (4, .int (y4 + (nI 1)))]) rfl (hk _ _ _ _ _ _ _ _ _ _ _ _ _ _ h)
set_option maxHeartbeats 4000000 in
set_option maxRecDepth 100000 in
theorem bX0_penaltyCostsOf_5 {p : Program} {l : Launch} {e : Env} {s : State} {m : MethodId} {args : Array Value} {below : List Frame} {meth : Method} {c : Code} {g : va_G} {cy : Nat → ClassId} (hC : CX p s m args meth c g cy 5 cX0_penaltyCostsOf wsX0_penaltyCostsOf RX0) (hr : meth.sig.returnType = (some .int)) {h0 q1 a1 q2 a2 q3 a3 : Nat} {res : Int32} : ∀ (k : Nat) (ec : Int32) (sn : Int32) (dy : Int32) (wg : Int32) (pe : Int32) (pn : Int32) (br : Int32) (ex : Nat → Int32) (sc : Nat → Int32) (se : Nat → Int32) (y1 : Int32) (y2 : Int32) (y3 : Int32) (y4 : Int32) (h : pX0_penaltyCostsOf_5 k ec ex sc se y1 y2 y3 y4 = some res), V p l e (headSpec wsX0_penaltyCostsOf rmX0_penaltyCostsOf).room s m args below meth c g 5 0 0 (MQ below (QRi res) args s 0 0 nF) nF (fun _ => True) [(h0, .inr (0, [.ref q1, .ref q2, .ref q3, .int ec, .int sn, .int dy, .int wg, .int pe, .int pn, .int br])), (q1, .inr (3, [.int (nI 14), .ref a1])), (a1, .inl (cy 0, 84, .inl ex)), (q2, .inr (3, [.int (nI 10), .ref a2])), (a2, .inl (cy 0, 60, .inl sc)), (q3, .inr (3, [.int (nI 1), .ref a3])), (a3, .inl (cy 0, 3, .inl se))] 5 [(0, .ref h0), (1, .int y1), (2, .int y2), (3, .int y3), (4, .int y4)] [] := by
  intro k
  induction k with
  | zero =>
    intro ec sn dy wg pe pn br ex sc se y1 y2 y3 y4 h
    have h : (none : Option _) = some res := h
    cases h
  | succ k ih =>
    intro ec sn dy wg pe pn br ex sc se y1 y2 y3 y4 h
    rw [pX0_penaltyCostsOf_5_s] at h
    refine v_iload hC dX0_penaltyCostsOf_5 4 rfl rfl ?_
    refine v_aload_n hC dX0_penaltyCostsOf_7 rfl 0 rfl rfl ?_
    refine v_get hC iX0_penaltyCostsOf_X0 0 rfl rfl 3 (by decide) kX0_penaltyCostsOf_37 rfl rfl dX0_penaltyCostsOf_8 rfl ?_
    refine v_icmp_ge hC (tgt := 39) dX0_penaltyCostsOf_11 (by decide) rfl (fun c => ?_) (fun c => ?_)
    · have h := ite_t c h
      refine v_iload_n hC dX0_penaltyCostsOf_39 rfl 3 rfl rfl ?_
      refine v_aload_n hC dX0_penaltyCostsOf_40 rfl 0 rfl rfl ?_
      refine v_get hC iX0_penaltyCostsOf_X0 0 rfl rfl 2 (by decide) kX0_penaltyCostsOf_23 rfl rfl dX0_penaltyCostsOf_41 rfl ?_
      refine v_iconst hC (v := (nI 2)) dX0_penaltyCostsOf_44 (by decide) rfl ?_
      refine v_iconst hC (v := (nI 0)) dX0_penaltyCostsOf_45 (by decide) rfl ?_
      obtain ⟨v1, hv1, h⟩ := bind_g h
      refine v_callVri hC (n := 2) (st := [.int y3]) (mX5_get l g cy q3 a3 (nI 1) 3 se (nI 2) (nI 0) hv1) gX0_penaltyCostsOf_X5_get rfl rfl rfl (by decide +kernel) ⟨Nat.le_of_ble_eq_true rfl, Nat.le_of_ble_eq_true rfl⟩ 5 rfl rfl [5, 6] rfl rfl rfl rfl (Nat.le_of_ble_eq_true rfl) rfl ⟨Nat.zero_le _, Nat.zero_le _⟩ dX0_penaltyCostsOf_46 rfl ?_
      refine v_imul hC dX0_penaltyCostsOf_49 rfl ?_
      obtain rfl := Option.some.inj h
      exact v_irt hC hr rfl rfl dX0_penaltyCostsOf_50
    · have h := ite_f c h
      refine v_iload_n hC dX0_penaltyCostsOf_14 rfl 2 rfl rfl ?_
      refine v_iload hC dX0_penaltyCostsOf_15 4 rfl rfl ?_
      obtain ⟨v2, hv2, h⟩ := bind_g h
      refine v_callNri hC (n := 2) (st := []) (mX7_has l g cy y2 y4 hv2) gX0_penaltyCostsOf_X7_has_n93 0 rfl ⟨by decide +kernel, by decide +kernel⟩ rfl rfl rfl (by decide +kernel) ⟨Nat.le_of_ble_eq_true rfl, Nat.le_of_ble_eq_true rfl⟩ [] rfl rfl rfl rfl (Nat.le_of_ble_eq_true rfl) rfl ⟨Nat.zero_le _, Nat.zero_le _⟩ dX0_penaltyCostsOf_17 rfl ?_
      refine v_if_eq hC (tgt := 33) dX0_penaltyCostsOf_20 (by decide) rfl (fun c => ?_) (fun c => ?_)
      · have h := ite_t c h
        exact bX0_penaltyCostsOf_33 hC hr _ _ _ _ _ _ _ _ _ _ _ _ _ _ ih h
      · have h := ite_f c h
        refine v_iload_n hC dX0_penaltyCostsOf_23 rfl 3 rfl rfl ?_
        refine v_aload_n hC dX0_penaltyCostsOf_24 rfl 0 rfl rfl ?_
        refine v_iload_n hC dX0_penaltyCostsOf_25 rfl 1 rfl rfl ?_
        refine v_iload hC dX0_penaltyCostsOf_26 4 rfl rfl ?_
        obtain ⟨v3, hv3, h⟩ := bind_g h
        refine v_callVri hC (n := 2) (st := [.int y3]) (mX0_newPenalties l g cy h0 q1 a1 q2 a2 q3 a3 ec sn dy wg pe pn br ex sc se y1 y4 hv3) gX0_penaltyCostsOf_X0_newPenalties rfl rfl rfl (by decide +kernel) ⟨Nat.le_of_ble_eq_true rfl, Nat.le_of_ble_eq_true rfl⟩ 0 rfl rfl [0, 1, 2, 3, 4, 5, 6] rfl rfl rfl rfl (Nat.le_of_ble_eq_true rfl) rfl ⟨Nat.zero_le _, Nat.zero_le _⟩ dX0_penaltyCostsOf_28 rfl ?_
        refine v_iadd hC dX0_penaltyCostsOf_31 rfl ?_
        refine v_istore_n hC dX0_penaltyCostsOf_32 rfl (by decide) [(3, .int (y3 + v3)), (0, .ref h0), (1, .int y1), (2, .int y2), (4, .int y4)] rfl rfl ?_
        exact v_sub [1, 2, 3, 0, 4] (lv' := [(0, .ref h0), (1, .int y1), (2, .int y2), (3, .int (y3 + v3)), (4, .int y4)]) rfl (bX0_penaltyCostsOf_33 hC hr _ _ _ _ _ _ _ _ _ _ _ _ _ _ ih h)
set_option maxHeartbeats 4000000 in
set_option maxRecDepth 100000 in
theorem mX0_penaltyCostsOf (l : Launch) (g : va_G) (cy : Nat → ClassId) (h0 q1 a1 q2 a2 q3 a3 : Nat) (ec : Int32) (sn : Int32) (dy : Int32) (wg : Int32) (pe : Int32) (pn : Int32) (br : Int32) (ex : Nat → Int32) (sc : Nat → Int32) (se : Nat → Int32) (x1 : Int32) (x2 : Int32) {res : Int32} (h : pX0_penaltyCostsOf ec ex sc se x1 x2 = some res) : Met l yX0_penaltyCostsOf wsX0_penaltyCostsOf rmX0_penaltyCostsOf (PW [.ref h0, .int x1, .int x2] g cy [(h0, .inr (0, [.ref q1, .ref q2, .ref q3, .int ec, .int sn, .int dy, .int wg, .int pe, .int pn, .int br])), (q1, .inr (3, [.int (nI 14), .ref a1])), (a1, .inl (cy 0, 84, .inl ex)), (q2, .inr (3, [.int (nI 10), .ref a2])), (a2, .inl (cy 0, 60, .inl sc)), (q3, .inr (3, [.int (nI 1), .ref a3])), (a3, .inl (cy 0, 3, .inl se))]) (QRi res) 0 0 nF := by
  refine m_ofV (cc := cX0_penaltyCostsOf) (nL := 5) (ret := (some .int)) (B := fun _ => True) RX0 rfl (by decide) rfl [(0, .ref h0), (1, .int x1), (2, .int x2)] rfl (Nat.le_of_ble_eq_true rfl) (fun h => h) ?_
  intro p e s m args below meth c hC hr
  unfold pX0_penaltyCostsOf at h
  refine v_iconst hC (v := (nI 0)) dX0_penaltyCostsOf_0 (by decide) rfl ?_
  refine v_istore_n hC dX0_penaltyCostsOf_1 rfl (by decide) [(3, .int (nI 0)), (0, .ref h0), (1, .int x1), (2, .int x2)] rfl rfl ?_
  refine v_iconst hC (v := (nI 0)) dX0_penaltyCostsOf_2 (by decide) rfl ?_
  refine v_istore hC dX0_penaltyCostsOf_3 (by decide) [(4, .int (nI 0)), (3, .int (nI 0)), (0, .ref h0), (1, .int x1), (2, .int x2)] rfl rfl ?_
  exact v_sub [2, 3, 4, 1, 0] (lv' := [(0, .ref h0), (1, .int x1), (2, .int x2), (3, .int (nI 0)), (4, .int (nI 0))]) rfl (bX0_penaltyCostsOf_5 hC hr FU _ _ _ _ _ _ _ _ _ _ _ _ _ _ h)
def pX0_costOf (ec : Int32) (ex : Nat → Int32) (sc : Nat → Int32) (se : Nat → Int32) (x1 : Int32) (x2 : Int32) : Option (Int32) := (pX0_wagesOf sc se x1 x2).bind fun v1 => (pX0_penaltyCostsOf ec ex sc se x1 x2).bind fun v2 => some (v1 + v2)
abbrev rmX0_costOf : Room := { frames := 3, cells := 0, slots := 0, locals := 70 }
set_option maxHeartbeats 4000000 in
set_option maxRecDepth 100000 in
theorem mX0_costOf (l : Launch) (g : va_G) (cy : Nat → ClassId) (h0 q1 a1 q2 a2 q3 a3 : Nat) (ec : Int32) (sn : Int32) (dy : Int32) (wg : Int32) (pe : Int32) (pn : Int32) (br : Int32) (ex : Nat → Int32) (sc : Nat → Int32) (se : Nat → Int32) (x1 : Int32) (x2 : Int32) {res : Int32} (h : pX0_costOf ec ex sc se x1 x2 = some res) : Met l yX0_costOf wsX0_costOf rmX0_costOf (PW [.ref h0, .int x1, .int x2] g cy [(h0, .inr (0, [.ref q1, .ref q2, .ref q3, .int ec, .int sn, .int dy, .int wg, .int pe, .int pn, .int br])), (q1, .inr (3, [.int (nI 14), .ref a1])), (a1, .inl (cy 0, 84, .inl ex)), (q2, .inr (3, [.int (nI 10), .ref a2])), (a2, .inl (cy 0, 60, .inl sc)), (q3, .inr (3, [.int (nI 1), .ref a3])), (a3, .inl (cy 0, 3, .inl se))]) (QRi res) 0 0 nF := by
  refine m_ofV (cc := cX0_costOf) (nL := 3) (ret := (some .int)) (B := fun _ => True) RX0 rfl (by decide) rfl [(0, .ref h0), (1, .int x1), (2, .int x2)] rfl (Nat.le_of_ble_eq_true rfl) (fun h => h) ?_
  intro p e s m args below meth c hC hr
  unfold pX0_costOf at h
  refine v_aload_n hC dX0_costOf_0 rfl 0 rfl rfl ?_
  refine v_iload_n hC dX0_costOf_1 rfl 1 rfl rfl ?_
  refine v_iload_n hC dX0_costOf_2 rfl 2 rfl rfl ?_
  obtain ⟨v1, hv1, h⟩ := bind_g h
  refine v_callVri hC (n := 2) (st := []) (mX0_wagesOf l g cy h0 q1 a1 q2 a2 q3 a3 ec sn dy wg pe pn br ex sc se x1 x2 hv1) gX0_costOf_X0_wagesOf rfl rfl rfl (by decide +kernel) ⟨Nat.le_of_ble_eq_true rfl, Nat.le_of_ble_eq_true rfl⟩ 0 rfl rfl [0, 1, 2, 3, 4, 5, 6] rfl rfl rfl rfl (Nat.le_of_ble_eq_true rfl) rfl ⟨Nat.zero_le _, Nat.zero_le _⟩ dX0_costOf_3 rfl ?_
  refine v_aload_n hC dX0_costOf_6 rfl 0 rfl rfl ?_
  refine v_iload_n hC dX0_costOf_7 rfl 1 rfl rfl ?_
  refine v_iload_n hC dX0_costOf_8 rfl 2 rfl rfl ?_
  obtain ⟨v2, hv2, h⟩ := bind_g h
  refine v_callVri hC (n := 2) (st := [.int v1]) (mX0_penaltyCostsOf l g cy h0 q1 a1 q2 a2 q3 a3 ec sn dy wg pe pn br ex sc se x1 x2 hv2) gX0_costOf_X0_penaltyCostsOf rfl rfl rfl (by decide +kernel) ⟨Nat.le_of_ble_eq_true rfl, Nat.le_of_ble_eq_true rfl⟩ 0 rfl rfl [0, 1, 2, 3, 4, 5, 6] rfl rfl rfl rfl (Nat.le_of_ble_eq_true rfl) rfl ⟨Nat.zero_le _, Nat.zero_le _⟩ dX0_costOf_9 rfl ?_
  refine v_iadd hC dX0_costOf_12 rfl ?_
  obtain rfl := Option.some.inj h
  exact v_irt hC hr rfl rfl dX0_costOf_13
def pX0_breaksOf (ec : Int32) (sn : Int32) (ex : Nat → Int32) (sc : Nat → Int32) (x1 : Int32) (x2 : Int32) : Option (Int32) := (pX0_castOf sn sc x1 (nI 1)).bind fun v1 => (pX0_facesOf ec ex v1).bind fun v2 => (pX0_facesOf ec ex x2).bind fun v3 => (pJ6_bitCount_0f7a4 (v2 &&& (v3 ^^^ (-1)))).bind fun v4 => some v4
abbrev rmX0_breaksOf : Room := { frames := 2, cells := 0, slots := 0, locals := 50 }
set_option maxHeartbeats 4000000 in
set_option maxRecDepth 100000 in
theorem mX0_breaksOf (l : Launch) (g : va_G) (cy : Nat → ClassId) (h0 q1 a1 q2 a2 q3 a3 : Nat) (ec : Int32) (sn : Int32) (dy : Int32) (wg : Int32) (pe : Int32) (pn : Int32) (br : Int32) (ex : Nat → Int32) (sc : Nat → Int32) (se : Nat → Int32) (x1 : Int32) (x2 : Int32) {res : Int32} (h : pX0_breaksOf ec sn ex sc x1 x2 = some res) : Met l yX0_breaksOf wsX0_breaksOf rmX0_breaksOf (PW [.ref h0, .int x1, .int x2] g cy [(h0, .inr (0, [.ref q1, .ref q2, .ref q3, .int ec, .int sn, .int dy, .int wg, .int pe, .int pn, .int br])), (q1, .inr (3, [.int (nI 14), .ref a1])), (a1, .inl (cy 0, 84, .inl ex)), (q2, .inr (3, [.int (nI 10), .ref a2])), (a2, .inl (cy 0, 60, .inl sc)), (q3, .inr (3, [.int (nI 1), .ref a3])), (a3, .inl (cy 0, 3, .inl se))]) (QRi res) 0 0 nF := by
  refine m_ofV (cc := cX0_breaksOf) (nL := 3) (ret := (some .int)) (B := fun _ => True) RX0 rfl (by decide) rfl [(0, .ref h0), (1, .int x1), (2, .int x2)] rfl (Nat.le_of_ble_eq_true rfl) (fun h => h) ?_
  intro p e s m args below meth c hC hr
  unfold pX0_breaksOf at h
  refine v_aload_n hC dX0_breaksOf_0 rfl 0 rfl rfl ?_
  refine v_aload_n hC dX0_breaksOf_1 rfl 0 rfl rfl ?_
  refine v_iload_n hC dX0_breaksOf_2 rfl 1 rfl rfl ?_
  refine v_iconst hC (v := (nI 1)) dX0_breaksOf_3 (by decide) rfl ?_
  obtain ⟨v1, hv1, h⟩ := bind_g h
  refine v_callVri hC (n := 2) (st := [.ref h0]) (mX0_castOf l g cy h0 q1 a1 q2 a2 q3 a3 ec sn dy wg pe pn br ex sc se x1 (nI 1) hv1) gX0_breaksOf_X0_castOf rfl rfl rfl (by decide +kernel) ⟨Nat.le_of_ble_eq_true rfl, Nat.le_of_ble_eq_true rfl⟩ 0 rfl rfl [0, 1, 2, 3, 4, 5, 6] rfl rfl rfl rfl (Nat.le_of_ble_eq_true rfl) rfl ⟨Nat.zero_le _, Nat.zero_le _⟩ dX0_breaksOf_4 rfl ?_
  obtain ⟨v2, hv2, h⟩ := bind_g h
  refine v_callVri hC (n := 1) (st := []) (mX0_facesOf l g cy h0 q1 a1 q2 a2 q3 a3 ec sn dy wg pe pn br ex sc se v1 hv2) gX0_breaksOf_X0_facesOf rfl rfl rfl (by decide +kernel) ⟨Nat.le_of_ble_eq_true rfl, Nat.le_of_ble_eq_true rfl⟩ 0 rfl rfl [0, 1, 2, 3, 4, 5, 6] rfl rfl rfl rfl (Nat.le_of_ble_eq_true rfl) rfl ⟨Nat.zero_le _, Nat.zero_le _⟩ dX0_breaksOf_7 rfl ?_
  refine v_aload_n hC dX0_breaksOf_10 rfl 0 rfl rfl ?_
  refine v_iload_n hC dX0_breaksOf_11 rfl 2 rfl rfl ?_
  obtain ⟨v3, hv3, h⟩ := bind_g h
  refine v_callVri hC (n := 1) (st := [.int v2]) (mX0_facesOf l g cy h0 q1 a1 q2 a2 q3 a3 ec sn dy wg pe pn br ex sc se x2 hv3) gX0_breaksOf_X0_facesOf rfl rfl rfl (by decide +kernel) ⟨Nat.le_of_ble_eq_true rfl, Nat.le_of_ble_eq_true rfl⟩ 0 rfl rfl [0, 1, 2, 3, 4, 5, 6] rfl rfl rfl rfl (Nat.le_of_ble_eq_true rfl) rfl ⟨Nat.zero_le _, Nat.zero_le _⟩ dX0_breaksOf_12 rfl ?_
  refine v_iconst hC (v := (-1)) dX0_breaksOf_15 (by decide) rfl ?_
  refine v_ixor hC dX0_breaksOf_16 rfl ?_
  refine v_iand hC dX0_breaksOf_17 rfl ?_
  obtain ⟨v4, hv4, h⟩ := bind_g h
  refine v_callSri hC (n := 1) (st := []) (mJ6_bitCount_0f7a4 l g cy (v2 &&& (v3 ^^^ (-1))) hv4) gX0_breaksOf_J6_bitCount_0f7a4 rfl rfl rfl (by decide +kernel) ⟨Nat.le_of_ble_eq_true rfl, Nat.le_of_ble_eq_true rfl⟩ [] rfl rfl rfl rfl (Nat.le_of_ble_eq_true rfl) rfl ⟨Nat.zero_le _, Nat.zero_le _⟩ dX0_breaksOf_18 rfl ?_
  obtain rfl := Option.some.inj h
  exact v_irt hC hr rfl rfl dX0_breaksOf_21
theorem kX0_addExtra_14 : Cond.fieldLink RX0 14 "CrowdFaces$Film" "extras" "LCrowdFaces$Table;" ∈ wsX0_addExtra := by decide +kernel
theorem kX0_addExtra_37 : Cond.fieldLink RX0 37 "CrowdFaces$Film" "extraCount" "I" ∈ wsX0_addExtra := by decide +kernel
theorem iX0_addExtra_X0 : ∀ w ∈ wsX00, w ∈ wsX0_addExtra := by decide +kernel
def pX0_addExtra (ec : Int32) (ex : Nat → Int32) (x1 : Int32) (x2 : Int32) : Option (Int32 × Int32 × (Nat → Int32)) := (pX0_hasRoomForExtra ec).bind fun v1 => if v1 = 0 then some ((-1), ec, ex) else (pX5_put (nI 14) 84 ex (nI 0) ec x1).bind fun v2 => (pX5_put (nI 14) 84 v2 (nI 1) ec x2).bind fun v3 => some (ec, (ec + (nI 1)), v3)
abbrev rmX0_addExtra : Room := { frames := 1, cells := 0, slots := 0, locals := 24 }
set_option maxHeartbeats 4000000 in
set_option maxRecDepth 100000 in
theorem mX0_addExtra (l : Launch) (g : va_G) (cy : Nat → ClassId) (h0 q1 a1 q2 a2 q3 a3 : Nat) (ec : Int32) (sn : Int32) (dy : Int32) (wg : Int32) (pe : Int32) (pn : Int32) (br : Int32) (ex : Nat → Int32) (sc : Nat → Int32) (se : Nat → Int32) (x1 : Int32) (x2 : Int32) {res : Int32 × Int32 × (Nat → Int32)} (h : pX0_addExtra ec ex x1 x2 = some res) : Met l yX0_addExtra wsX0_addExtra rmX0_addExtra (PW [.ref h0, .int x1, .int x2] g cy [(h0, .inr (0, [.ref q1, .ref q2, .ref q3, .int ec, .int sn, .int dy, .int wg, .int pe, .int pn, .int br])), (q1, .inr (3, [.int (nI 14), .ref a1])), (a1, .inl (cy 0, 84, .inl ex)), (q2, .inr (3, [.int (nI 10), .ref a2])), (a2, .inl (cy 0, 60, .inl sc)), (q3, .inr (3, [.int (nI 1), .ref a3])), (a3, .inl (cy 0, 3, .inl se))]) (QWi g (wA [(h0, .inr (0, [.ref q1, .ref q2, .ref q3, .int ec, .int sn, .int dy, .int wg, .int pe, .int pn, .int br])), (q1, .inr (3, [.int (nI 14), .ref a1])), (a1, .inl (cy 0, 84, .inl ex)), (q2, .inr (3, [.int (nI 10), .ref a2])), (a2, .inl (cy 0, 60, .inl sc)), (q3, .inr (3, [.int (nI 1), .ref a3])), (a3, .inl (cy 0, 3, .inl se))]) res.1 [(h0, .inr (0, [.ref q1, .ref q2, .ref q3, .int res.2.1, .int sn, .int dy, .int wg, .int pe, .int pn, .int br])), (q1, .inr (3, [.int (nI 14), .ref a1])), (a1, .inl (cy 0, 84, .inl res.2.2)), (q2, .inr (3, [.int (nI 10), .ref a2])), (a2, .inl (cy 0, 60, .inl sc)), (q3, .inr (3, [.int (nI 1), .ref a3])), (a3, .inl (cy 0, 3, .inl se))]) 0 0 (wA [(h0, .inr (0, [.ref q1, .ref q2, .ref q3, .int ec, .int sn, .int dy, .int wg, .int pe, .int pn, .int br])), (q1, .inr (3, [.int (nI 14), .ref a1])), (a1, .inl (cy 0, 84, .inl ex)), (q2, .inr (3, [.int (nI 10), .ref a2])), (a2, .inl (cy 0, 60, .inl sc)), (q3, .inr (3, [.int (nI 1), .ref a3])), (a3, .inl (cy 0, 3, .inl se))]) := by
  refine m_ofV (cc := cX0_addExtra) (nL := 4) (ret := (some .int)) (B := (wA [(h0, .inr (0, [.ref q1, .ref q2, .ref q3, .int ec, .int sn, .int dy, .int wg, .int pe, .int pn, .int br])), (q1, .inr (3, [.int (nI 14), .ref a1])), (a1, .inl (cy 0, 84, .inl ex)), (q2, .inr (3, [.int (nI 10), .ref a2])), (a2, .inl (cy 0, 60, .inl sc)), (q3, .inr (3, [.int (nI 1), .ref a3])), (a3, .inl (cy 0, 3, .inl se))])) RX0 rfl (by decide) rfl [(0, .ref h0), (1, .int x1), (2, .int x2)] rfl (Nat.le_of_ble_eq_true rfl) (wA.self) ?_
  intro p e s m args below meth c hC hr
  generalize (wA [(h0, .inr (0, [.ref q1, .ref q2, .ref q3, .int ec, .int sn, .int dy, .int wg, .int pe, .int pn, .int br])), (q1, .inr (3, [.int (nI 14), .ref a1])), (a1, .inl (cy 0, 84, .inl ex)), (q2, .inr (3, [.int (nI 10), .ref a2])), (a2, .inl (cy 0, 60, .inl sc)), (q3, .inr (3, [.int (nI 1), .ref a3])), (a3, .inl (cy 0, 3, .inl se))]) = A
  unfold pX0_addExtra at h
  refine v_aload_n hC dX0_addExtra_0 rfl 0 rfl rfl ?_
  obtain ⟨v1, hv1, h⟩ := bind_g h
  refine v_callVri hC (n := 0) (st := []) (mX0_hasRoomForExtra l g cy h0 q1 a1 q2 a2 q3 a3 ec sn dy wg pe pn br ex sc se hv1) gX0_addExtra_X0_hasRoomForExtra rfl rfl rfl (by decide +kernel) ⟨Nat.le_of_ble_eq_true rfl, Nat.le_of_ble_eq_true rfl⟩ 0 rfl rfl [0, 1, 2, 3, 4, 5, 6] rfl rfl rfl rfl (Nat.le_of_ble_eq_true rfl) rfl ⟨Nat.zero_le _, Nat.zero_le _⟩ dX0_addExtra_1 rfl ?_
  refine v_if_ne hC (tgt := 9) dX0_addExtra_4 (by decide) rfl (fun c => ?_) (fun c => ?_)
  · have h := ite_f c h
    refine v_aload_n hC dX0_addExtra_9 rfl 0 rfl rfl ?_
    refine v_get hC iX0_addExtra_X0 0 rfl rfl 3 (by decide) kX0_addExtra_37 rfl rfl dX0_addExtra_10 rfl ?_
    refine v_istore_n hC dX0_addExtra_13 rfl (by decide) [(3, .int ec), (0, .ref h0), (1, .int x1), (2, .int x2)] rfl rfl ?_
    refine v_aload_n hC dX0_addExtra_14 rfl 1 rfl rfl ?_
    refine v_get hC iX0_addExtra_X0 0 rfl rfl 0 (by decide) kX0_addExtra_14 rfl rfl dX0_addExtra_15 rfl ?_
    refine v_iconst hC (v := (nI 0)) dX0_addExtra_18 (by decide) rfl ?_
    refine v_iload_n hC dX0_addExtra_19 rfl 0 rfl rfl ?_
    refine v_iload_n hC dX0_addExtra_20 rfl 2 rfl rfl ?_
    obtain ⟨v2, hv2, h⟩ := bind_g h
    refine v_callVwv hC (n := 3) (st := []) [(h0, .inr (0, [.ref q1, .ref q2, .ref q3, .int ec, .int sn, .int dy, .int wg, .int pe, .int pn, .int br])), (q1, .inr (3, [.int (nI 14), .ref a1])), (a1, .inl (cy 0, 84, .inl v2)), (q2, .inr (3, [.int (nI 10), .ref a2])), (a2, .inl (cy 0, 60, .inl sc)), (q3, .inr (3, [.int (nI 1), .ref a3])), (a3, .inl (cy 0, 3, .inl se))] _ (mX5_put l g cy q1 a1 (nI 14) 84 ex (nI 0) ec x1 hv2) gX0_addExtra_X5_put rfl rfl rfl (by decide +kernel) ⟨Nat.le_of_ble_eq_true rfl, Nat.le_of_ble_eq_true rfl⟩ 1 rfl rfl [1, 2] [0, 3, 4, 5, 6] rfl rfl rfl rfl rfl rfl rfl rfl rfl (Nat.le_of_ble_eq_true rfl) rfl ⟨Nat.zero_le _, Nat.zero_le _⟩ dX0_addExtra_21 rfl ?_
    refine v_aload_n hC dX0_addExtra_24 rfl 1 rfl rfl ?_
    refine v_get hC iX0_addExtra_X0 0 rfl rfl 0 (by decide) kX0_addExtra_14 rfl rfl dX0_addExtra_25 rfl ?_
    refine v_iconst hC (v := (nI 1)) dX0_addExtra_28 (by decide) rfl ?_
    refine v_iload_n hC dX0_addExtra_29 rfl 0 rfl rfl ?_
    refine v_iload_n hC dX0_addExtra_30 rfl 3 rfl rfl ?_
    obtain ⟨v3, hv3, h⟩ := bind_g h
    refine v_callVwv hC (n := 3) (st := []) [(h0, .inr (0, [.ref q1, .ref q2, .ref q3, .int ec, .int sn, .int dy, .int wg, .int pe, .int pn, .int br])), (q1, .inr (3, [.int (nI 14), .ref a1])), (a1, .inl (cy 0, 84, .inl v3)), (q2, .inr (3, [.int (nI 10), .ref a2])), (a2, .inl (cy 0, 60, .inl sc)), (q3, .inr (3, [.int (nI 1), .ref a3])), (a3, .inl (cy 0, 3, .inl se))] _ (mX5_put l g cy q1 a1 (nI 14) 84 v2 (nI 1) ec x2 hv3) gX0_addExtra_X5_put rfl rfl rfl (by decide +kernel) ⟨Nat.le_of_ble_eq_true rfl, Nat.le_of_ble_eq_true rfl⟩ 1 rfl rfl [1, 2] [0, 3, 4, 5, 6] rfl rfl rfl rfl rfl rfl rfl rfl rfl (Nat.le_of_ble_eq_true rfl) rfl ⟨Nat.zero_le _, Nat.zero_le _⟩ dX0_addExtra_31 rfl ?_
    refine v_aload_n hC dX0_addExtra_34 rfl 1 rfl rfl ?_
    refine v_dup hC dX0_addExtra_35 rfl rfl ?_
    refine v_get hC iX0_addExtra_X0 0 rfl rfl 3 (by decide) kX0_addExtra_37 rfl rfl dX0_addExtra_36 rfl ?_
    refine v_iconst hC (v := (nI 1)) dX0_addExtra_39 (by decide) rfl ?_
    refine v_iadd hC dX0_addExtra_40 rfl ?_
    refine v_put hC iX0_addExtra_X0 tyX0 tyX0_ok nmX0 0 rfl rfl 3 (by decide) kX0_addExtra_37 rfl rfl (ty := .int) (by decide +kernel) rfl rfl (Nat.le_of_ble_eq_true rfl) dX0_addExtra_41 [(h0, .inr (0, [.ref q1, .ref q2, .ref q3, .int (ec + (nI 1)), .int sn, .int dy, .int wg, .int pe, .int pn, .int br])), (q1, .inr (3, [.int (nI 14), .ref a1])), (a1, .inl (cy 0, 84, .inl v3)), (q2, .inr (3, [.int (nI 10), .ref a2])), (a2, .inl (cy 0, 60, .inl sc)), (q3, .inr (3, [.int (nI 1), .ref a3])), (a3, .inl (cy 0, 3, .inl se))] rfl rfl ?_
    refine v_iload_n hC dX0_addExtra_44 rfl 0 rfl rfl ?_
    obtain rfl := Option.some.inj h
    exact v_irw hC hr rfl rfl dX0_addExtra_45
  · have h := ite_t c h
    refine v_iconst hC (v := (-1)) dX0_addExtra_7 (by decide) rfl ?_
    obtain rfl := Option.some.inj h
    exact v_irw hC hr rfl rfl dX0_addExtra_8
theorem kX0_addScene_20 : Cond.fieldLink RX0 20 "CrowdFaces$Film" "scenes" "LCrowdFaces$Table;" ∈ wsX0_addScene := by decide +kernel
theorem kX0_addScene_41 : Cond.fieldLink RX0 41 "CrowdFaces$Film" "sceneCount" "I" ∈ wsX0_addScene := by decide +kernel
theorem iX0_addScene_X0 : ∀ w ∈ wsX00, w ∈ wsX0_addScene := by decide +kernel
def pX0_addScene (sn : Int32) (sc : Nat → Int32) (x1 : Int32) (x2 : Int32) (x3 : Int32) (x4 : Int32) (x5 : Int32) : Option (Int32 × Int32 × (Nat → Int32)) := (pX0_hasRoomForScene sn).bind fun v1 => if v1 = 0 then some ((-1), sn, sc) else (pX5_put (nI 10) 60 sc (nI 0) sn x1).bind fun v2 => (pX5_put (nI 10) 60 v2 (nI 1) sn x2).bind fun v3 => (pX5_put (nI 10) 60 v3 (nI 2) sn x3).bind fun v4 => (pX5_put (nI 10) 60 v4 (nI 3) sn x4).bind fun v5 => (pX5_put (nI 10) 60 v5 (nI 4) sn x5).bind fun v6 => some (sn, (sn + (nI 1)), v6)
abbrev rmX0_addScene : Room := { frames := 1, cells := 0, slots := 0, locals := 24 }
set_option maxHeartbeats 4000000 in
set_option maxRecDepth 100000 in
theorem mX0_addScene (l : Launch) (g : va_G) (cy : Nat → ClassId) (h0 q1 a1 q2 a2 q3 a3 : Nat) (ec : Int32) (sn : Int32) (dy : Int32) (wg : Int32) (pe : Int32) (pn : Int32) (br : Int32) (ex : Nat → Int32) (sc : Nat → Int32) (se : Nat → Int32) (x1 : Int32) (x2 : Int32) (x3 : Int32) (x4 : Int32) (x5 : Int32) {res : Int32 × Int32 × (Nat → Int32)} (h : pX0_addScene sn sc x1 x2 x3 x4 x5 = some res) : Met l yX0_addScene wsX0_addScene rmX0_addScene (PW [.ref h0, .int x1, .int x2, .int x3, .int x4, .int x5] g cy [(h0, .inr (0, [.ref q1, .ref q2, .ref q3, .int ec, .int sn, .int dy, .int wg, .int pe, .int pn, .int br])), (q1, .inr (3, [.int (nI 14), .ref a1])), (a1, .inl (cy 0, 84, .inl ex)), (q2, .inr (3, [.int (nI 10), .ref a2])), (a2, .inl (cy 0, 60, .inl sc)), (q3, .inr (3, [.int (nI 1), .ref a3])), (a3, .inl (cy 0, 3, .inl se))]) (QWi g (wA [(h0, .inr (0, [.ref q1, .ref q2, .ref q3, .int ec, .int sn, .int dy, .int wg, .int pe, .int pn, .int br])), (q1, .inr (3, [.int (nI 14), .ref a1])), (a1, .inl (cy 0, 84, .inl ex)), (q2, .inr (3, [.int (nI 10), .ref a2])), (a2, .inl (cy 0, 60, .inl sc)), (q3, .inr (3, [.int (nI 1), .ref a3])), (a3, .inl (cy 0, 3, .inl se))]) res.1 [(h0, .inr (0, [.ref q1, .ref q2, .ref q3, .int ec, .int res.2.1, .int dy, .int wg, .int pe, .int pn, .int br])), (q1, .inr (3, [.int (nI 14), .ref a1])), (a1, .inl (cy 0, 84, .inl ex)), (q2, .inr (3, [.int (nI 10), .ref a2])), (a2, .inl (cy 0, 60, .inl res.2.2)), (q3, .inr (3, [.int (nI 1), .ref a3])), (a3, .inl (cy 0, 3, .inl se))]) 0 0 (wA [(h0, .inr (0, [.ref q1, .ref q2, .ref q3, .int ec, .int sn, .int dy, .int wg, .int pe, .int pn, .int br])), (q1, .inr (3, [.int (nI 14), .ref a1])), (a1, .inl (cy 0, 84, .inl ex)), (q2, .inr (3, [.int (nI 10), .ref a2])), (a2, .inl (cy 0, 60, .inl sc)), (q3, .inr (3, [.int (nI 1), .ref a3])), (a3, .inl (cy 0, 3, .inl se))]) := by
  refine m_ofV (cc := cX0_addScene) (nL := 7) (ret := (some .int)) (B := (wA [(h0, .inr (0, [.ref q1, .ref q2, .ref q3, .int ec, .int sn, .int dy, .int wg, .int pe, .int pn, .int br])), (q1, .inr (3, [.int (nI 14), .ref a1])), (a1, .inl (cy 0, 84, .inl ex)), (q2, .inr (3, [.int (nI 10), .ref a2])), (a2, .inl (cy 0, 60, .inl sc)), (q3, .inr (3, [.int (nI 1), .ref a3])), (a3, .inl (cy 0, 3, .inl se))])) RX0 rfl (by decide) rfl [(0, .ref h0), (1, .int x1), (2, .int x2), (3, .int x3), (4, .int x4), (5, .int x5)] rfl (Nat.le_of_ble_eq_true rfl) (wA.self) ?_
  intro p e s m args below meth c hC hr
  generalize (wA [(h0, .inr (0, [.ref q1, .ref q2, .ref q3, .int ec, .int sn, .int dy, .int wg, .int pe, .int pn, .int br])), (q1, .inr (3, [.int (nI 14), .ref a1])), (a1, .inl (cy 0, 84, .inl ex)), (q2, .inr (3, [.int (nI 10), .ref a2])), (a2, .inl (cy 0, 60, .inl sc)), (q3, .inr (3, [.int (nI 1), .ref a3])), (a3, .inl (cy 0, 3, .inl se))]) = A
  unfold pX0_addScene at h
  refine v_aload_n hC dX0_addScene_0 rfl 0 rfl rfl ?_
  obtain ⟨v1, hv1, h⟩ := bind_g h
  refine v_callVri hC (n := 0) (st := []) (mX0_hasRoomForScene l g cy h0 q1 a1 q2 a2 q3 a3 ec sn dy wg pe pn br ex sc se hv1) gX0_addScene_X0_hasRoomForScene rfl rfl rfl (by decide +kernel) ⟨Nat.le_of_ble_eq_true rfl, Nat.le_of_ble_eq_true rfl⟩ 0 rfl rfl [0, 1, 2, 3, 4, 5, 6] rfl rfl rfl rfl (Nat.le_of_ble_eq_true rfl) rfl ⟨Nat.zero_le _, Nat.zero_le _⟩ dX0_addScene_1 rfl ?_
  refine v_if_ne hC (tgt := 9) dX0_addScene_4 (by decide) rfl (fun c => ?_) (fun c => ?_)
  · have h := ite_f c h
    refine v_aload_n hC dX0_addScene_9 rfl 0 rfl rfl ?_
    refine v_get hC iX0_addScene_X0 0 rfl rfl 4 (by decide) kX0_addScene_41 rfl rfl dX0_addScene_10 rfl ?_
    refine v_istore hC dX0_addScene_13 (by decide) [(6, .int sn), (0, .ref h0), (1, .int x1), (2, .int x2), (3, .int x3), (4, .int x4), (5, .int x5)] rfl rfl ?_
    refine v_aload_n hC dX0_addScene_15 rfl 1 rfl rfl ?_
    refine v_get hC iX0_addScene_X0 0 rfl rfl 1 (by decide) kX0_addScene_20 rfl rfl dX0_addScene_16 rfl ?_
    refine v_iconst hC (v := (nI 0)) dX0_addScene_19 (by decide) rfl ?_
    refine v_iload hC dX0_addScene_20 0 rfl rfl ?_
    refine v_iload_n hC dX0_addScene_22 rfl 2 rfl rfl ?_
    obtain ⟨v2, hv2, h⟩ := bind_g h
    refine v_callVwv hC (n := 3) (st := []) [(h0, .inr (0, [.ref q1, .ref q2, .ref q3, .int ec, .int sn, .int dy, .int wg, .int pe, .int pn, .int br])), (q1, .inr (3, [.int (nI 14), .ref a1])), (a1, .inl (cy 0, 84, .inl ex)), (q2, .inr (3, [.int (nI 10), .ref a2])), (a2, .inl (cy 0, 60, .inl v2)), (q3, .inr (3, [.int (nI 1), .ref a3])), (a3, .inl (cy 0, 3, .inl se))] _ (mX5_put l g cy q2 a2 (nI 10) 60 sc (nI 0) sn x1 hv2) gX0_addScene_X5_put rfl rfl rfl (by decide +kernel) ⟨Nat.le_of_ble_eq_true rfl, Nat.le_of_ble_eq_true rfl⟩ 3 rfl rfl [3, 4] [0, 1, 2, 5, 6] rfl rfl rfl rfl rfl rfl rfl rfl rfl (Nat.le_of_ble_eq_true rfl) rfl ⟨Nat.zero_le _, Nat.zero_le _⟩ dX0_addScene_23 rfl ?_
    refine v_aload_n hC dX0_addScene_26 rfl 1 rfl rfl ?_
    refine v_get hC iX0_addScene_X0 0 rfl rfl 1 (by decide) kX0_addScene_20 rfl rfl dX0_addScene_27 rfl ?_
    refine v_iconst hC (v := (nI 1)) dX0_addScene_30 (by decide) rfl ?_
    refine v_iload hC dX0_addScene_31 0 rfl rfl ?_
    refine v_iload_n hC dX0_addScene_33 rfl 3 rfl rfl ?_
    obtain ⟨v3, hv3, h⟩ := bind_g h
    refine v_callVwv hC (n := 3) (st := []) [(h0, .inr (0, [.ref q1, .ref q2, .ref q3, .int ec, .int sn, .int dy, .int wg, .int pe, .int pn, .int br])), (q1, .inr (3, [.int (nI 14), .ref a1])), (a1, .inl (cy 0, 84, .inl ex)), (q2, .inr (3, [.int (nI 10), .ref a2])), (a2, .inl (cy 0, 60, .inl v3)), (q3, .inr (3, [.int (nI 1), .ref a3])), (a3, .inl (cy 0, 3, .inl se))] _ (mX5_put l g cy q2 a2 (nI 10) 60 v2 (nI 1) sn x2 hv3) gX0_addScene_X5_put rfl rfl rfl (by decide +kernel) ⟨Nat.le_of_ble_eq_true rfl, Nat.le_of_ble_eq_true rfl⟩ 3 rfl rfl [3, 4] [0, 1, 2, 5, 6] rfl rfl rfl rfl rfl rfl rfl rfl rfl (Nat.le_of_ble_eq_true rfl) rfl ⟨Nat.zero_le _, Nat.zero_le _⟩ dX0_addScene_34 rfl ?_
    refine v_aload_n hC dX0_addScene_37 rfl 1 rfl rfl ?_
    refine v_get hC iX0_addScene_X0 0 rfl rfl 1 (by decide) kX0_addScene_20 rfl rfl dX0_addScene_38 rfl ?_
    refine v_iconst hC (v := (nI 2)) dX0_addScene_41 (by decide) rfl ?_
    refine v_iload hC dX0_addScene_42 0 rfl rfl ?_
    refine v_iload_n hC dX0_addScene_44 rfl 4 rfl rfl ?_
    obtain ⟨v4, hv4, h⟩ := bind_g h
    refine v_callVwv hC (n := 3) (st := []) [(h0, .inr (0, [.ref q1, .ref q2, .ref q3, .int ec, .int sn, .int dy, .int wg, .int pe, .int pn, .int br])), (q1, .inr (3, [.int (nI 14), .ref a1])), (a1, .inl (cy 0, 84, .inl ex)), (q2, .inr (3, [.int (nI 10), .ref a2])), (a2, .inl (cy 0, 60, .inl v4)), (q3, .inr (3, [.int (nI 1), .ref a3])), (a3, .inl (cy 0, 3, .inl se))] _ (mX5_put l g cy q2 a2 (nI 10) 60 v3 (nI 2) sn x3 hv4) gX0_addScene_X5_put rfl rfl rfl (by decide +kernel) ⟨Nat.le_of_ble_eq_true rfl, Nat.le_of_ble_eq_true rfl⟩ 3 rfl rfl [3, 4] [0, 1, 2, 5, 6] rfl rfl rfl rfl rfl rfl rfl rfl rfl (Nat.le_of_ble_eq_true rfl) rfl ⟨Nat.zero_le _, Nat.zero_le _⟩ dX0_addScene_45 rfl ?_
    refine v_aload_n hC dX0_addScene_48 rfl 1 rfl rfl ?_
    refine v_get hC iX0_addScene_X0 0 rfl rfl 1 (by decide) kX0_addScene_20 rfl rfl dX0_addScene_49 rfl ?_
    refine v_iconst hC (v := (nI 3)) dX0_addScene_52 (by decide) rfl ?_
    refine v_iload hC dX0_addScene_53 0 rfl rfl ?_
    refine v_iload hC dX0_addScene_55 5 rfl rfl ?_
    obtain ⟨v5, hv5, h⟩ := bind_g h
    refine v_callVwv hC (n := 3) (st := []) [(h0, .inr (0, [.ref q1, .ref q2, .ref q3, .int ec, .int sn, .int dy, .int wg, .int pe, .int pn, .int br])), (q1, .inr (3, [.int (nI 14), .ref a1])), (a1, .inl (cy 0, 84, .inl ex)), (q2, .inr (3, [.int (nI 10), .ref a2])), (a2, .inl (cy 0, 60, .inl v5)), (q3, .inr (3, [.int (nI 1), .ref a3])), (a3, .inl (cy 0, 3, .inl se))] _ (mX5_put l g cy q2 a2 (nI 10) 60 v4 (nI 3) sn x4 hv5) gX0_addScene_X5_put rfl rfl rfl (by decide +kernel) ⟨Nat.le_of_ble_eq_true rfl, Nat.le_of_ble_eq_true rfl⟩ 3 rfl rfl [3, 4] [0, 1, 2, 5, 6] rfl rfl rfl rfl rfl rfl rfl rfl rfl (Nat.le_of_ble_eq_true rfl) rfl ⟨Nat.zero_le _, Nat.zero_le _⟩ dX0_addScene_57 rfl ?_
    refine v_aload_n hC dX0_addScene_60 rfl 1 rfl rfl ?_
    refine v_get hC iX0_addScene_X0 0 rfl rfl 1 (by decide) kX0_addScene_20 rfl rfl dX0_addScene_61 rfl ?_
    refine v_iconst hC (v := (nI 4)) dX0_addScene_64 (by decide) rfl ?_
    refine v_iload hC dX0_addScene_65 0 rfl rfl ?_
    refine v_iload hC dX0_addScene_67 6 rfl rfl ?_
    obtain ⟨v6, hv6, h⟩ := bind_g h
    refine v_callVwv hC (n := 3) (st := []) [(h0, .inr (0, [.ref q1, .ref q2, .ref q3, .int ec, .int sn, .int dy, .int wg, .int pe, .int pn, .int br])), (q1, .inr (3, [.int (nI 14), .ref a1])), (a1, .inl (cy 0, 84, .inl ex)), (q2, .inr (3, [.int (nI 10), .ref a2])), (a2, .inl (cy 0, 60, .inl v6)), (q3, .inr (3, [.int (nI 1), .ref a3])), (a3, .inl (cy 0, 3, .inl se))] _ (mX5_put l g cy q2 a2 (nI 10) 60 v5 (nI 4) sn x5 hv6) gX0_addScene_X5_put rfl rfl rfl (by decide +kernel) ⟨Nat.le_of_ble_eq_true rfl, Nat.le_of_ble_eq_true rfl⟩ 3 rfl rfl [3, 4] [0, 1, 2, 5, 6] rfl rfl rfl rfl rfl rfl rfl rfl rfl (Nat.le_of_ble_eq_true rfl) rfl ⟨Nat.zero_le _, Nat.zero_le _⟩ dX0_addScene_69 rfl ?_
    refine v_aload_n hC dX0_addScene_72 rfl 1 rfl rfl ?_
    refine v_dup hC dX0_addScene_73 rfl rfl ?_
    refine v_get hC iX0_addScene_X0 0 rfl rfl 4 (by decide) kX0_addScene_41 rfl rfl dX0_addScene_74 rfl ?_
    refine v_iconst hC (v := (nI 1)) dX0_addScene_77 (by decide) rfl ?_
    refine v_iadd hC dX0_addScene_78 rfl ?_
    refine v_put hC iX0_addScene_X0 tyX0 tyX0_ok nmX0 0 rfl rfl 4 (by decide) kX0_addScene_41 rfl rfl (ty := .int) (by decide +kernel) rfl rfl (Nat.le_of_ble_eq_true rfl) dX0_addScene_79 [(h0, .inr (0, [.ref q1, .ref q2, .ref q3, .int ec, .int (sn + (nI 1)), .int dy, .int wg, .int pe, .int pn, .int br])), (q1, .inr (3, [.int (nI 14), .ref a1])), (a1, .inl (cy 0, 84, .inl ex)), (q2, .inr (3, [.int (nI 10), .ref a2])), (a2, .inl (cy 0, 60, .inl v6)), (q3, .inr (3, [.int (nI 1), .ref a3])), (a3, .inl (cy 0, 3, .inl se))] rfl rfl ?_
    refine v_iload hC dX0_addScene_82 0 rfl rfl ?_
    obtain rfl := Option.some.inj h
    exact v_irw hC hr rfl rfl dX0_addScene_84
  · have h := ite_t c h
    refine v_iconst hC (v := (-1)) dX0_addScene_7 (by decide) rfl ?_
    obtain rfl := Option.some.inj h
    exact v_irw hC hr rfl rfl dX0_addScene_8
theorem kX0_workOne_14 : Cond.fieldLink RX0 14 "CrowdFaces$Film" "extras" "LCrowdFaces$Table;" ∈ wsX0_workOne := by decide +kernel
theorem kX0_workOne_20 : Cond.fieldLink RX0 20 "CrowdFaces$Film" "scenes" "LCrowdFaces$Table;" ∈ wsX0_workOne := by decide +kernel
theorem kX0_workOne_23 : Cond.fieldLink RX0 23 "CrowdFaces$Film" "settings" "LCrowdFaces$Table;" ∈ wsX0_workOne := by decide +kernel
theorem kX0_workOne_50 : Cond.fieldLink RX0 50 "CrowdFaces$Film" "penaltyCosts" "I" ∈ wsX0_workOne := by decide +kernel
theorem kX0_workOne_53 : Cond.fieldLink RX0 53 "CrowdFaces$Film" "penalties" "I" ∈ wsX0_workOne := by decide +kernel
theorem iX0_workOne_X0 : ∀ w ∈ wsX00, w ∈ wsX0_workOne := by decide +kernel
def pX0_workOne (pe : Int32) (pn : Int32) (ex : Nat → Int32) (sc : Nat → Int32) (se : Nat → Int32) (x1 : Int32) (x2 : Int32) : Option (Int32 × Int32 × (Nat → Int32)) := (pX0_newPenalties ex sc x1 x2).bind fun v1 => (pX5_get (nI 1) 3 se (nI 2) (nI 0)).bind fun v2 => (pX5_add (nI 14) 84 ex (nI 4) x2 v1).bind fun v3 => (pX0_wageOf sc se x1).bind fun v4 => (pX5_add (nI 14) 84 v3 (nI 5) x2 (v4 + (v1 * v2))).bind fun v5 => (pX5_get (nI 10) 60 sc (nI 4) x1).bind fun v6 => (pX5_add (nI 14) 84 v5 (nI 2) x2 v6).bind fun v7 => (pX5_get (nI 10) 60 sc (nI 4) x1).bind fun v8 => (pX5_add (nI 14) 84 v7 (nI 3) x2 v8).bind fun v9 => some ((pe + (v1 * v2)), (pn + v1), v9)
abbrev rmX0_workOne : Room := { frames := 2, cells := 0, slots := 0, locals := 47 }
set_option maxHeartbeats 4000000 in
set_option maxRecDepth 100000 in
theorem mX0_workOne (l : Launch) (g : va_G) (cy : Nat → ClassId) (h0 q1 a1 q2 a2 q3 a3 : Nat) (ec : Int32) (sn : Int32) (dy : Int32) (wg : Int32) (pe : Int32) (pn : Int32) (br : Int32) (ex : Nat → Int32) (sc : Nat → Int32) (se : Nat → Int32) (x1 : Int32) (x2 : Int32) {res : Int32 × Int32 × (Nat → Int32)} (h : pX0_workOne pe pn ex sc se x1 x2 = some res) : Met l yX0_workOne wsX0_workOne rmX0_workOne (PW [.ref h0, .int x1, .int x2] g cy [(h0, .inr (0, [.ref q1, .ref q2, .ref q3, .int ec, .int sn, .int dy, .int wg, .int pe, .int pn, .int br])), (q1, .inr (3, [.int (nI 14), .ref a1])), (a1, .inl (cy 0, 84, .inl ex)), (q2, .inr (3, [.int (nI 10), .ref a2])), (a2, .inl (cy 0, 60, .inl sc)), (q3, .inr (3, [.int (nI 1), .ref a3])), (a3, .inl (cy 0, 3, .inl se))]) (QWv g (wA [(h0, .inr (0, [.ref q1, .ref q2, .ref q3, .int ec, .int sn, .int dy, .int wg, .int pe, .int pn, .int br])), (q1, .inr (3, [.int (nI 14), .ref a1])), (a1, .inl (cy 0, 84, .inl ex)), (q2, .inr (3, [.int (nI 10), .ref a2])), (a2, .inl (cy 0, 60, .inl sc)), (q3, .inr (3, [.int (nI 1), .ref a3])), (a3, .inl (cy 0, 3, .inl se))]) [(h0, .inr (0, [.ref q1, .ref q2, .ref q3, .int ec, .int sn, .int dy, .int wg, .int res.1, .int res.2.1, .int br])), (q1, .inr (3, [.int (nI 14), .ref a1])), (a1, .inl (cy 0, 84, .inl res.2.2)), (q2, .inr (3, [.int (nI 10), .ref a2])), (a2, .inl (cy 0, 60, .inl sc)), (q3, .inr (3, [.int (nI 1), .ref a3])), (a3, .inl (cy 0, 3, .inl se))]) 0 0 (wA [(h0, .inr (0, [.ref q1, .ref q2, .ref q3, .int ec, .int sn, .int dy, .int wg, .int pe, .int pn, .int br])), (q1, .inr (3, [.int (nI 14), .ref a1])), (a1, .inl (cy 0, 84, .inl ex)), (q2, .inr (3, [.int (nI 10), .ref a2])), (a2, .inl (cy 0, 60, .inl sc)), (q3, .inr (3, [.int (nI 1), .ref a3])), (a3, .inl (cy 0, 3, .inl se))]) := by
  refine m_ofV (cc := cX0_workOne) (nL := 5) (ret := none) (B := (wA [(h0, .inr (0, [.ref q1, .ref q2, .ref q3, .int ec, .int sn, .int dy, .int wg, .int pe, .int pn, .int br])), (q1, .inr (3, [.int (nI 14), .ref a1])), (a1, .inl (cy 0, 84, .inl ex)), (q2, .inr (3, [.int (nI 10), .ref a2])), (a2, .inl (cy 0, 60, .inl sc)), (q3, .inr (3, [.int (nI 1), .ref a3])), (a3, .inl (cy 0, 3, .inl se))])) RX0 rfl (by decide) rfl [(0, .ref h0), (1, .int x1), (2, .int x2)] rfl (Nat.le_of_ble_eq_true rfl) (wA.self) ?_
  intro p e s m args below meth c hC hr
  generalize (wA [(h0, .inr (0, [.ref q1, .ref q2, .ref q3, .int ec, .int sn, .int dy, .int wg, .int pe, .int pn, .int br])), (q1, .inr (3, [.int (nI 14), .ref a1])), (a1, .inl (cy 0, 84, .inl ex)), (q2, .inr (3, [.int (nI 10), .ref a2])), (a2, .inl (cy 0, 60, .inl sc)), (q3, .inr (3, [.int (nI 1), .ref a3])), (a3, .inl (cy 0, 3, .inl se))]) = A
  unfold pX0_workOne at h
  refine v_aload_n hC dX0_workOne_0 rfl 0 rfl rfl ?_
  refine v_iload_n hC dX0_workOne_1 rfl 1 rfl rfl ?_
  refine v_iload_n hC dX0_workOne_2 rfl 2 rfl rfl ?_
  obtain ⟨v1, hv1, h⟩ := bind_g h
  refine v_callVri hC (n := 2) (st := []) (mX0_newPenalties l g cy h0 q1 a1 q2 a2 q3 a3 ec sn dy wg pe pn br ex sc se x1 x2 hv1) gX0_workOne_X0_newPenalties rfl rfl rfl (by decide +kernel) ⟨Nat.le_of_ble_eq_true rfl, Nat.le_of_ble_eq_true rfl⟩ 0 rfl rfl [0, 1, 2, 3, 4, 5, 6] rfl rfl rfl rfl (Nat.le_of_ble_eq_true rfl) rfl ⟨Nat.zero_le _, Nat.zero_le _⟩ dX0_workOne_3 rfl ?_
  refine v_istore_n hC dX0_workOne_6 rfl (by decide) [(3, .int v1), (0, .ref h0), (1, .int x1), (2, .int x2)] rfl rfl ?_
  refine v_iload_n hC dX0_workOne_7 rfl 0 rfl rfl ?_
  refine v_aload_n hC dX0_workOne_8 rfl 1 rfl rfl ?_
  refine v_get hC iX0_workOne_X0 0 rfl rfl 2 (by decide) kX0_workOne_23 rfl rfl dX0_workOne_9 rfl ?_
  refine v_iconst hC (v := (nI 2)) dX0_workOne_12 (by decide) rfl ?_
  refine v_iconst hC (v := (nI 0)) dX0_workOne_13 (by decide) rfl ?_
  obtain ⟨v2, hv2, h⟩ := bind_g h
  refine v_callVri hC (n := 2) (st := [.int v1]) (mX5_get l g cy q3 a3 (nI 1) 3 se (nI 2) (nI 0) hv2) gX0_workOne_X5_get rfl rfl rfl (by decide +kernel) ⟨Nat.le_of_ble_eq_true rfl, Nat.le_of_ble_eq_true rfl⟩ 5 rfl rfl [5, 6] rfl rfl rfl rfl (Nat.le_of_ble_eq_true rfl) rfl ⟨Nat.zero_le _, Nat.zero_le _⟩ dX0_workOne_14 rfl ?_
  refine v_imul hC dX0_workOne_17 rfl ?_
  refine v_istore hC dX0_workOne_18 (by decide) [(4, .int (v1 * v2)), (3, .int v1), (0, .ref h0), (1, .int x1), (2, .int x2)] rfl rfl ?_
  refine v_aload_n hC dX0_workOne_20 rfl 2 rfl rfl ?_
  refine v_get hC iX0_workOne_X0 0 rfl rfl 0 (by decide) kX0_workOne_14 rfl rfl dX0_workOne_21 rfl ?_
  refine v_iconst hC (v := (nI 4)) dX0_workOne_24 (by decide) rfl ?_
  refine v_iload_n hC dX0_workOne_25 rfl 4 rfl rfl ?_
  refine v_iload_n hC dX0_workOne_26 rfl 1 rfl rfl ?_
  obtain ⟨v3, hv3, h⟩ := bind_g h
  refine v_callVwv hC (n := 3) (st := []) [(h0, .inr (0, [.ref q1, .ref q2, .ref q3, .int ec, .int sn, .int dy, .int wg, .int pe, .int pn, .int br])), (q1, .inr (3, [.int (nI 14), .ref a1])), (a1, .inl (cy 0, 84, .inl v3)), (q2, .inr (3, [.int (nI 10), .ref a2])), (a2, .inl (cy 0, 60, .inl sc)), (q3, .inr (3, [.int (nI 1), .ref a3])), (a3, .inl (cy 0, 3, .inl se))] _ (mX5_add l g cy q1 a1 (nI 14) 84 ex (nI 4) x2 v1 hv3) gX0_workOne_X5_add rfl rfl rfl (by decide +kernel) ⟨Nat.le_of_ble_eq_true rfl, Nat.le_of_ble_eq_true rfl⟩ 1 rfl rfl [1, 2] [0, 3, 4, 5, 6] rfl rfl rfl rfl rfl rfl rfl rfl rfl (Nat.le_of_ble_eq_true rfl) rfl ⟨Nat.zero_le _, Nat.zero_le _⟩ dX0_workOne_27 rfl ?_
  refine v_aload_n hC dX0_workOne_30 rfl 2 rfl rfl ?_
  refine v_get hC iX0_workOne_X0 0 rfl rfl 0 (by decide) kX0_workOne_14 rfl rfl dX0_workOne_31 rfl ?_
  refine v_iconst hC (v := (nI 5)) dX0_workOne_34 (by decide) rfl ?_
  refine v_iload_n hC dX0_workOne_35 rfl 4 rfl rfl ?_
  refine v_aload_n hC dX0_workOne_36 rfl 2 rfl rfl ?_
  refine v_iload_n hC dX0_workOne_37 rfl 3 rfl rfl ?_
  obtain ⟨v4, hv4, h⟩ := bind_g h
  refine v_callVri hC (n := 1) (st := [.int x2, .int (nI 5), .ref q1]) (mX0_wageOf l g cy h0 q1 a1 q2 a2 q3 a3 ec sn dy wg pe pn br v3 sc se x1 hv4) gX0_workOne_X0_wageOf rfl rfl rfl (by decide +kernel) ⟨Nat.le_of_ble_eq_true rfl, Nat.le_of_ble_eq_true rfl⟩ 0 rfl rfl [0, 1, 2, 3, 4, 5, 6] rfl rfl rfl rfl (Nat.le_of_ble_eq_true rfl) rfl ⟨Nat.zero_le _, Nat.zero_le _⟩ dX0_workOne_38 rfl ?_
  refine v_iload hC dX0_workOne_41 0 rfl rfl ?_
  refine v_iadd hC dX0_workOne_43 rfl ?_
  obtain ⟨v5, hv5, h⟩ := bind_g h
  refine v_callVwv hC (n := 3) (st := []) [(h0, .inr (0, [.ref q1, .ref q2, .ref q3, .int ec, .int sn, .int dy, .int wg, .int pe, .int pn, .int br])), (q1, .inr (3, [.int (nI 14), .ref a1])), (a1, .inl (cy 0, 84, .inl v5)), (q2, .inr (3, [.int (nI 10), .ref a2])), (a2, .inl (cy 0, 60, .inl sc)), (q3, .inr (3, [.int (nI 1), .ref a3])), (a3, .inl (cy 0, 3, .inl se))] _ (mX5_add l g cy q1 a1 (nI 14) 84 v3 (nI 5) x2 (v4 + (v1 * v2)) hv5) gX0_workOne_X5_add rfl rfl rfl (by decide +kernel) ⟨Nat.le_of_ble_eq_true rfl, Nat.le_of_ble_eq_true rfl⟩ 1 rfl rfl [1, 2] [0, 3, 4, 5, 6] rfl rfl rfl rfl rfl rfl rfl rfl rfl (Nat.le_of_ble_eq_true rfl) rfl ⟨Nat.zero_le _, Nat.zero_le _⟩ dX0_workOne_44 rfl ?_
  refine v_aload_n hC dX0_workOne_47 rfl 2 rfl rfl ?_
  refine v_get hC iX0_workOne_X0 0 rfl rfl 0 (by decide) kX0_workOne_14 rfl rfl dX0_workOne_48 rfl ?_
  refine v_iconst hC (v := (nI 2)) dX0_workOne_51 (by decide) rfl ?_
  refine v_iload_n hC dX0_workOne_52 rfl 4 rfl rfl ?_
  refine v_aload_n hC dX0_workOne_53 rfl 2 rfl rfl ?_
  refine v_get hC iX0_workOne_X0 0 rfl rfl 1 (by decide) kX0_workOne_20 rfl rfl dX0_workOne_54 rfl ?_
  refine v_iconst hC (v := (nI 4)) dX0_workOne_57 (by decide) rfl ?_
  refine v_iload_n hC dX0_workOne_58 rfl 3 rfl rfl ?_
  obtain ⟨v6, hv6, h⟩ := bind_g h
  refine v_callVri hC (n := 2) (st := [.int x2, .int (nI 2), .ref q1]) (mX5_get l g cy q2 a2 (nI 10) 60 sc (nI 4) x1 hv6) gX0_workOne_X5_get rfl rfl rfl (by decide +kernel) ⟨Nat.le_of_ble_eq_true rfl, Nat.le_of_ble_eq_true rfl⟩ 3 rfl rfl [3, 4] rfl rfl rfl rfl (Nat.le_of_ble_eq_true rfl) rfl ⟨Nat.zero_le _, Nat.zero_le _⟩ dX0_workOne_59 rfl ?_
  obtain ⟨v7, hv7, h⟩ := bind_g h
  refine v_callVwv hC (n := 3) (st := []) [(h0, .inr (0, [.ref q1, .ref q2, .ref q3, .int ec, .int sn, .int dy, .int wg, .int pe, .int pn, .int br])), (q1, .inr (3, [.int (nI 14), .ref a1])), (a1, .inl (cy 0, 84, .inl v7)), (q2, .inr (3, [.int (nI 10), .ref a2])), (a2, .inl (cy 0, 60, .inl sc)), (q3, .inr (3, [.int (nI 1), .ref a3])), (a3, .inl (cy 0, 3, .inl se))] _ (mX5_add l g cy q1 a1 (nI 14) 84 v5 (nI 2) x2 v6 hv7) gX0_workOne_X5_add rfl rfl rfl (by decide +kernel) ⟨Nat.le_of_ble_eq_true rfl, Nat.le_of_ble_eq_true rfl⟩ 1 rfl rfl [1, 2] [0, 3, 4, 5, 6] rfl rfl rfl rfl rfl rfl rfl rfl rfl (Nat.le_of_ble_eq_true rfl) rfl ⟨Nat.zero_le _, Nat.zero_le _⟩ dX0_workOne_62 rfl ?_
  refine v_aload_n hC dX0_workOne_65 rfl 2 rfl rfl ?_
  refine v_get hC iX0_workOne_X0 0 rfl rfl 0 (by decide) kX0_workOne_14 rfl rfl dX0_workOne_66 rfl ?_
  refine v_iconst hC (v := (nI 3)) dX0_workOne_69 (by decide) rfl ?_
  refine v_iload_n hC dX0_workOne_70 rfl 4 rfl rfl ?_
  refine v_aload_n hC dX0_workOne_71 rfl 2 rfl rfl ?_
  refine v_get hC iX0_workOne_X0 0 rfl rfl 1 (by decide) kX0_workOne_20 rfl rfl dX0_workOne_72 rfl ?_
  refine v_iconst hC (v := (nI 4)) dX0_workOne_75 (by decide) rfl ?_
  refine v_iload_n hC dX0_workOne_76 rfl 3 rfl rfl ?_
  obtain ⟨v8, hv8, h⟩ := bind_g h
  refine v_callVri hC (n := 2) (st := [.int x2, .int (nI 3), .ref q1]) (mX5_get l g cy q2 a2 (nI 10) 60 sc (nI 4) x1 hv8) gX0_workOne_X5_get rfl rfl rfl (by decide +kernel) ⟨Nat.le_of_ble_eq_true rfl, Nat.le_of_ble_eq_true rfl⟩ 3 rfl rfl [3, 4] rfl rfl rfl rfl (Nat.le_of_ble_eq_true rfl) rfl ⟨Nat.zero_le _, Nat.zero_le _⟩ dX0_workOne_77 rfl ?_
  obtain ⟨v9, hv9, h⟩ := bind_g h
  refine v_callVwv hC (n := 3) (st := []) [(h0, .inr (0, [.ref q1, .ref q2, .ref q3, .int ec, .int sn, .int dy, .int wg, .int pe, .int pn, .int br])), (q1, .inr (3, [.int (nI 14), .ref a1])), (a1, .inl (cy 0, 84, .inl v9)), (q2, .inr (3, [.int (nI 10), .ref a2])), (a2, .inl (cy 0, 60, .inl sc)), (q3, .inr (3, [.int (nI 1), .ref a3])), (a3, .inl (cy 0, 3, .inl se))] _ (mX5_add l g cy q1 a1 (nI 14) 84 v7 (nI 3) x2 v8 hv9) gX0_workOne_X5_add rfl rfl rfl (by decide +kernel) ⟨Nat.le_of_ble_eq_true rfl, Nat.le_of_ble_eq_true rfl⟩ 1 rfl rfl [1, 2] [0, 3, 4, 5, 6] rfl rfl rfl rfl rfl rfl rfl rfl rfl (Nat.le_of_ble_eq_true rfl) rfl ⟨Nat.zero_le _, Nat.zero_le _⟩ dX0_workOne_80 rfl ?_
  refine v_aload_n hC dX0_workOne_83 rfl 2 rfl rfl ?_
  refine v_dup hC dX0_workOne_84 rfl rfl ?_
  refine v_get hC iX0_workOne_X0 0 rfl rfl 8 (by decide) kX0_workOne_53 rfl rfl dX0_workOne_85 rfl ?_
  refine v_iload_n hC dX0_workOne_88 rfl 1 rfl rfl ?_
  refine v_iadd hC dX0_workOne_89 rfl ?_
  refine v_put hC iX0_workOne_X0 tyX0 tyX0_ok nmX0 0 rfl rfl 8 (by decide) kX0_workOne_53 rfl rfl (ty := .int) (by decide +kernel) rfl rfl (Nat.le_of_ble_eq_true rfl) dX0_workOne_90 [(h0, .inr (0, [.ref q1, .ref q2, .ref q3, .int ec, .int sn, .int dy, .int wg, .int pe, .int (pn + v1), .int br])), (q1, .inr (3, [.int (nI 14), .ref a1])), (a1, .inl (cy 0, 84, .inl v9)), (q2, .inr (3, [.int (nI 10), .ref a2])), (a2, .inl (cy 0, 60, .inl sc)), (q3, .inr (3, [.int (nI 1), .ref a3])), (a3, .inl (cy 0, 3, .inl se))] rfl rfl ?_
  refine v_aload_n hC dX0_workOne_93 rfl 2 rfl rfl ?_
  refine v_dup hC dX0_workOne_94 rfl rfl ?_
  refine v_get hC iX0_workOne_X0 0 rfl rfl 7 (by decide) kX0_workOne_50 rfl rfl dX0_workOne_95 rfl ?_
  refine v_iload hC dX0_workOne_98 0 rfl rfl ?_
  refine v_iadd hC dX0_workOne_100 rfl ?_
  refine v_put hC iX0_workOne_X0 tyX0 tyX0_ok nmX0 0 rfl rfl 7 (by decide) kX0_workOne_50 rfl rfl (ty := .int) (by decide +kernel) rfl rfl (Nat.le_of_ble_eq_true rfl) dX0_workOne_101 [(h0, .inr (0, [.ref q1, .ref q2, .ref q3, .int ec, .int sn, .int dy, .int wg, .int (pe + (v1 * v2)), .int (pn + v1), .int br])), (q1, .inr (3, [.int (nI 14), .ref a1])), (a1, .inl (cy 0, 84, .inl v9)), (q2, .inr (3, [.int (nI 10), .ref a2])), (a2, .inl (cy 0, 60, .inl sc)), (q3, .inr (3, [.int (nI 1), .ref a3])), (a3, .inl (cy 0, 3, .inl se))] rfl rfl ?_
  obtain rfl := Option.some.inj h
  exact v_vrw hC hr dX0_workOne_104
theorem kX0_work_20 : Cond.fieldLink RX0 20 "CrowdFaces$Film" "scenes" "LCrowdFaces$Table;" ∈ wsX0_work := by decide +kernel
theorem kX0_work_37 : Cond.fieldLink RX0 37 "CrowdFaces$Film" "extraCount" "I" ∈ wsX0_work := by decide +kernel
theorem kX0_work_47 : Cond.fieldLink RX0 47 "CrowdFaces$Film" "wages" "I" ∈ wsX0_work := by decide +kernel
theorem kX0_work_56 : Cond.fieldLink RX0 56 "CrowdFaces$Film" "breaks" "I" ∈ wsX0_work := by decide +kernel
theorem iX0_work_X0 : ∀ w ∈ wsX00, w ∈ wsX0_work := by decide +kernel
def pX0_work_54 (kk : Int32 → Int32 → Int32 → Int32 → Int32 → Int32 → (Nat → Int32) → (Nat → Int32) → (Nat → Int32) → Int32 → Int32 → Int32 → Option (Int32 × Int32 × Int32 × Int32 × (Nat → Int32) × (Nat → Int32))) (ec : Int32) (sn : Int32) (wg : Int32) (pe : Int32) (pn : Int32) (br : Int32) (ex : Nat → Int32) (sc : Nat → Int32) (se : Nat → Int32) (y1 : Int32) (y2 : Int32) (y3 : Int32) : Option (Int32 × Int32 × Int32 × Int32 × (Nat → Int32) × (Nat → Int32)) := kk ec sn wg pe pn br ex sc se y1 y2 (y3 + (nI 1))
def pX0_work_32 : Nat → Int32 → Int32 → Int32 → Int32 → Int32 → Int32 → (Nat → Int32) → (Nat → Int32) → (Nat → Int32) → Int32 → Int32 → Int32 → Option (Int32 × Int32 × Int32 × Int32 × (Nat → Int32) × (Nat → Int32))
  | 0, _, _, _, _, _, _, _, _, _, _, _, _ => none
  | k + 1, ec, sn, wg, pe, pn, br, ex, sc, se, y1, y2, y3 => if ec ≤ y3 then (pX5_put (nI 10) 60 sc (nI 5) y1 y2).bind fun v1 => some (wg, pe, pn, br, ex, v1) else (pX7_has y2 y3).bind fun v2 => if v2 = 0 then pX0_work_54 (fun u0 u1 u2 u3 u4 u5 u6 u7 u8 u9 u10 u11 => pX0_work_32 k u0 u1 u2 u3 u4 u5 u6 u7 u8 u9 u10 u11) ec sn wg pe pn br ex sc se y1 y2 y3 else (pX0_workOne pe pn ex sc se y1 y3).bind fun v3 => pX0_work_54 (fun u0 u1 u2 u3 u4 u5 u6 u7 u8 u9 u10 u11 => pX0_work_32 k u0 u1 u2 u3 u4 u5 u6 u7 u8 u9 u10 u11) ec sn wg v3.1 v3.2.1 br v3.2.2 sc se y1 y2 y3
theorem pX0_work_32_s {k : Nat} (ec : Int32) (sn : Int32) (wg : Int32) (pe : Int32) (pn : Int32) (br : Int32) (ex : Nat → Int32) (sc : Nat → Int32) (se : Nat → Int32) (y1 : Int32) (y2 : Int32) (y3 : Int32) : pX0_work_32 (k + 1) ec sn wg pe pn br ex sc se y1 y2 y3 = if ec ≤ y3 then (pX5_put (nI 10) 60 sc (nI 5) y1 y2).bind fun v1 => some (wg, pe, pn, br, ex, v1) else (pX7_has y2 y3).bind fun v2 => if v2 = 0 then pX0_work_54 (fun u0 u1 u2 u3 u4 u5 u6 u7 u8 u9 u10 u11 => pX0_work_32 k u0 u1 u2 u3 u4 u5 u6 u7 u8 u9 u10 u11) ec sn wg pe pn br ex sc se y1 y2 y3 else (pX0_workOne pe pn ex sc se y1 y3).bind fun v3 => pX0_work_54 (fun u0 u1 u2 u3 u4 u5 u6 u7 u8 u9 u10 u11 => pX0_work_32 k u0 u1 u2 u3 u4 u5 u6 u7 u8 u9 u10 u11) ec sn wg v3.1 v3.2.1 br v3.2.2 sc se y1 y2 y3 := rfl
def pX0_work (ec : Int32) (sn : Int32) (wg : Int32) (pe : Int32) (pn : Int32) (br : Int32) (ex : Nat → Int32) (sc : Nat → Int32) (se : Nat → Int32) (x1 : Int32) (x2 : Int32) : Option (Int32 × Int32 × Int32 × Int32 × (Nat → Int32) × (Nat → Int32)) := (pX0_wagesOf sc se x1 x2).bind fun v1 => (pX0_breaksOf ec sn ex sc x1 x2).bind fun v2 => pX0_work_32 FU ec sn (wg + v1) pe pn (br + v2) ex sc se x1 x2 (nI 0)
abbrev rmX0_work : Room := { frames := 3, cells := 0, slots := 0, locals := 72 }
set_option maxHeartbeats 4000000 in
set_option maxRecDepth 100000 in
theorem bX0_work_54 {p : Program} {l : Launch} {e : Env} {s : State} {m : MethodId} {args : Array Value} {below : List Frame} {meth : Method} {c : Code} {g : va_G} {cy : Nat → ClassId} (hC : CX p s m args meth c g cy 4 cX0_work wsX0_work RX0) (hr : meth.sig.returnType = none) {h0 q1 a1 q2 a2 q3 a3 : Nat} {A : Nat → Prop} {res : Int32 × Int32 × Int32 × Int32 × (Nat → Int32) × (Nat → Int32)} : ∀ (ec : Int32) (sn : Int32) (dy : Int32) (wg : Int32) (pe : Int32) (pn : Int32) (br : Int32) (ex : Nat → Int32) (sc : Nat → Int32) (se : Nat → Int32) (y1 : Int32) (y2 : Int32) (y3 : Int32) {kk : Int32 → Int32 → Int32 → Int32 → Int32 → Int32 → (Nat → Int32) → (Nat → Int32) → (Nat → Int32) → Int32 → Int32 → Int32 → Option (Int32 × Int32 × Int32 × Int32 × (Nat → Int32) × (Nat → Int32))} (hk : ∀ (ec : Int32) (sn : Int32) (dy : Int32) (wg : Int32) (pe : Int32) (pn : Int32) (br : Int32) (ex : Nat → Int32) (sc : Nat → Int32) (se : Nat → Int32) (y1 : Int32) (y2 : Int32) (y3 : Int32), kk ec sn wg pe pn br ex sc se y1 y2 y3 = some res → V p l e (headSpec wsX0_work rmX0_work).room s m args below meth c g 4 0 0 (MQ below (QWv g A [(h0, .inr (0, [.ref q1, .ref q2, .ref q3, .int ec, .int sn, .int dy, .int res.1, .int res.2.1, .int res.2.2.1, .int res.2.2.2.1])), (q1, .inr (3, [.int (nI 14), .ref a1])), (a1, .inl (cy 0, 84, .inl res.2.2.2.2.1)), (q2, .inr (3, [.int (nI 10), .ref a2])), (a2, .inl (cy 0, 60, .inl res.2.2.2.2.2)), (q3, .inr (3, [.int (nI 1), .ref a3])), (a3, .inl (cy 0, 3, .inl se))]) args s 0 0 A) A A [(h0, .inr (0, [.ref q1, .ref q2, .ref q3, .int ec, .int sn, .int dy, .int wg, .int pe, .int pn, .int br])), (q1, .inr (3, [.int (nI 14), .ref a1])), (a1, .inl (cy 0, 84, .inl ex)), (q2, .inr (3, [.int (nI 10), .ref a2])), (a2, .inl (cy 0, 60, .inl sc)), (q3, .inr (3, [.int (nI 1), .ref a3])), (a3, .inl (cy 0, 3, .inl se))] 32 [(0, .ref h0), (1, .int y1), (2, .int y2), (3, .int y3)] []) (h : pX0_work_54 kk ec sn wg pe pn br ex sc se y1 y2 y3 = some res), V p l e (headSpec wsX0_work rmX0_work).room s m args below meth c g 4 0 0 (MQ below (QWv g A [(h0, .inr (0, [.ref q1, .ref q2, .ref q3, .int ec, .int sn, .int dy, .int res.1, .int res.2.1, .int res.2.2.1, .int res.2.2.2.1])), (q1, .inr (3, [.int (nI 14), .ref a1])), (a1, .inl (cy 0, 84, .inl res.2.2.2.2.1)), (q2, .inr (3, [.int (nI 10), .ref a2])), (a2, .inl (cy 0, 60, .inl res.2.2.2.2.2)), (q3, .inr (3, [.int (nI 1), .ref a3])), (a3, .inl (cy 0, 3, .inl se))]) args s 0 0 A) A A [(h0, .inr (0, [.ref q1, .ref q2, .ref q3, .int ec, .int sn, .int dy, .int wg, .int pe, .int pn, .int br])), (q1, .inr (3, [.int (nI 14), .ref a1])), (a1, .inl (cy 0, 84, .inl ex)), (q2, .inr (3, [.int (nI 10), .ref a2])), (a2, .inl (cy 0, 60, .inl sc)), (q3, .inr (3, [.int (nI 1), .ref a3])), (a3, .inl (cy 0, 3, .inl se))] 54 [(0, .ref h0), (1, .int y1), (2, .int y2), (3, .int y3)] [] := by
  intro ec sn dy wg pe pn br ex sc se y1 y2 y3 kk hk h
  unfold pX0_work_54 at h
  refine v_iinc hC dX0_work_54 3 rfl (v := (y3 + (nI 1))) rfl (by decide) [(3, .int (y3 + (nI 1))), (0, .ref h0), (1, .int y1), (2, .int y2)] rfl rfl ?_
  refine v_goto hC (tgt := 32) dX0_work_57 (by decide) ?_
  exact v_sub [1, 2, 3, 0] (lv' := [(0, .ref h0), (1, .int y1), (2, .int y2), (3, .int (y3 + (nI 1)))]) rfl (hk _ _ _ _ _ _ _ _ _ _ _ _ _ h)
set_option maxHeartbeats 4000000 in
set_option maxRecDepth 100000 in
theorem bX0_work_32 {p : Program} {l : Launch} {e : Env} {s : State} {m : MethodId} {args : Array Value} {below : List Frame} {meth : Method} {c : Code} {g : va_G} {cy : Nat → ClassId} (hC : CX p s m args meth c g cy 4 cX0_work wsX0_work RX0) (hr : meth.sig.returnType = none) {h0 q1 a1 q2 a2 q3 a3 : Nat} {A : Nat → Prop} {res : Int32 × Int32 × Int32 × Int32 × (Nat → Int32) × (Nat → Int32)} : ∀ (k : Nat) (ec : Int32) (sn : Int32) (dy : Int32) (wg : Int32) (pe : Int32) (pn : Int32) (br : Int32) (ex : Nat → Int32) (sc : Nat → Int32) (se : Nat → Int32) (y1 : Int32) (y2 : Int32) (y3 : Int32) (h : pX0_work_32 k ec sn wg pe pn br ex sc se y1 y2 y3 = some res), V p l e (headSpec wsX0_work rmX0_work).room s m args below meth c g 4 0 0 (MQ below (QWv g A [(h0, .inr (0, [.ref q1, .ref q2, .ref q3, .int ec, .int sn, .int dy, .int res.1, .int res.2.1, .int res.2.2.1, .int res.2.2.2.1])), (q1, .inr (3, [.int (nI 14), .ref a1])), (a1, .inl (cy 0, 84, .inl res.2.2.2.2.1)), (q2, .inr (3, [.int (nI 10), .ref a2])), (a2, .inl (cy 0, 60, .inl res.2.2.2.2.2)), (q3, .inr (3, [.int (nI 1), .ref a3])), (a3, .inl (cy 0, 3, .inl se))]) args s 0 0 A) A A [(h0, .inr (0, [.ref q1, .ref q2, .ref q3, .int ec, .int sn, .int dy, .int wg, .int pe, .int pn, .int br])), (q1, .inr (3, [.int (nI 14), .ref a1])), (a1, .inl (cy 0, 84, .inl ex)), (q2, .inr (3, [.int (nI 10), .ref a2])), (a2, .inl (cy 0, 60, .inl sc)), (q3, .inr (3, [.int (nI 1), .ref a3])), (a3, .inl (cy 0, 3, .inl se))] 32 [(0, .ref h0), (1, .int y1), (2, .int y2), (3, .int y3)] [] := by
  intro k
  induction k with
  | zero =>
    intro ec sn dy wg pe pn br ex sc se y1 y2 y3 h
    have h : (none : Option _) = some res := h
    cases h
  | succ k ih =>
    intro ec sn dy wg pe pn br ex sc se y1 y2 y3 h
    rw [pX0_work_32_s] at h
    refine v_iload_n hC dX0_work_32 rfl 3 rfl rfl ?_
    refine v_aload_n hC dX0_work_33 rfl 0 rfl rfl ?_
    refine v_get hC iX0_work_X0 0 rfl rfl 3 (by decide) kX0_work_37 rfl rfl dX0_work_34 rfl ?_
    refine v_icmp_ge hC (tgt := 60) dX0_work_37 (by decide) rfl (fun c => ?_) (fun c => ?_)
    · have h := ite_t c h
      refine v_aload_n hC dX0_work_60 rfl 0 rfl rfl ?_
      refine v_get hC iX0_work_X0 0 rfl rfl 1 (by decide) kX0_work_20 rfl rfl dX0_work_61 rfl ?_
      refine v_iconst hC (v := (nI 5)) dX0_work_64 (by decide) rfl ?_
      refine v_iload_n hC dX0_work_65 rfl 1 rfl rfl ?_
      refine v_iload_n hC dX0_work_66 rfl 2 rfl rfl ?_
      obtain ⟨v1, hv1, h⟩ := bind_g h
      refine v_callVwv hC (n := 3) (st := []) [(h0, .inr (0, [.ref q1, .ref q2, .ref q3, .int ec, .int sn, .int dy, .int wg, .int pe, .int pn, .int br])), (q1, .inr (3, [.int (nI 14), .ref a1])), (a1, .inl (cy 0, 84, .inl ex)), (q2, .inr (3, [.int (nI 10), .ref a2])), (a2, .inl (cy 0, 60, .inl v1)), (q3, .inr (3, [.int (nI 1), .ref a3])), (a3, .inl (cy 0, 3, .inl se))] _ (mX5_put l g cy q2 a2 (nI 10) 60 sc (nI 5) y1 y2 hv1) gX0_work_X5_put rfl rfl rfl (by decide +kernel) ⟨Nat.le_of_ble_eq_true rfl, Nat.le_of_ble_eq_true rfl⟩ 3 rfl rfl [3, 4] [0, 1, 2, 5, 6] rfl rfl rfl rfl rfl rfl rfl rfl rfl (Nat.le_of_ble_eq_true rfl) rfl ⟨Nat.zero_le _, Nat.zero_le _⟩ dX0_work_67 rfl ?_
      obtain rfl := Option.some.inj h
      exact v_vrw hC hr dX0_work_70
    · have h := ite_f c h
      refine v_iload_n hC dX0_work_40 rfl 2 rfl rfl ?_
      refine v_iload_n hC dX0_work_41 rfl 3 rfl rfl ?_
      obtain ⟨v2, hv2, h⟩ := bind_g h
      refine v_callNri hC (n := 2) (st := []) (mX7_has l g cy y2 y3 hv2) gX0_work_X7_has_n93 0 rfl ⟨by decide +kernel, by decide +kernel⟩ rfl rfl rfl (by decide +kernel) ⟨Nat.le_of_ble_eq_true rfl, Nat.le_of_ble_eq_true rfl⟩ [] rfl rfl rfl rfl (Nat.le_of_ble_eq_true rfl) rfl ⟨Nat.zero_le _, Nat.zero_le _⟩ dX0_work_42 rfl ?_
      refine v_if_eq hC (tgt := 54) dX0_work_45 (by decide) rfl (fun c => ?_) (fun c => ?_)
      · have h := ite_t c h
        exact bX0_work_54 hC hr _ _ _ _ _ _ _ _ _ _ _ _ _ ih h
      · have h := ite_f c h
        refine v_aload_n hC dX0_work_48 rfl 0 rfl rfl ?_
        refine v_iload_n hC dX0_work_49 rfl 1 rfl rfl ?_
        refine v_iload_n hC dX0_work_50 rfl 3 rfl rfl ?_
        obtain ⟨v3, hv3, h⟩ := bind_g h
        refine v_callVwv hC (n := 2) (st := []) [(h0, .inr (0, [.ref q1, .ref q2, .ref q3, .int ec, .int sn, .int dy, .int wg, .int v3.1, .int v3.2.1, .int br])), (q1, .inr (3, [.int (nI 14), .ref a1])), (a1, .inl (cy 0, 84, .inl v3.2.2)), (q2, .inr (3, [.int (nI 10), .ref a2])), (a2, .inl (cy 0, 60, .inl sc)), (q3, .inr (3, [.int (nI 1), .ref a3])), (a3, .inl (cy 0, 3, .inl se))] _ (mX0_workOne l g cy h0 q1 a1 q2 a2 q3 a3 ec sn dy wg pe pn br ex sc se y1 y3 hv3) gX0_work_X0_workOne rfl rfl rfl (by decide +kernel) ⟨Nat.le_of_ble_eq_true rfl, Nat.le_of_ble_eq_true rfl⟩ 0 rfl rfl [0, 1, 2, 3, 4, 5, 6] [] rfl rfl rfl rfl rfl rfl rfl rfl rfl (Nat.le_of_ble_eq_true rfl) rfl ⟨Nat.zero_le _, Nat.zero_le _⟩ dX0_work_51 rfl ?_
        exact bX0_work_54 hC hr _ _ _ _ _ _ _ _ _ _ _ _ _ ih h
set_option maxHeartbeats 4000000 in
set_option maxRecDepth 100000 in
theorem mX0_work (l : Launch) (g : va_G) (cy : Nat → ClassId) (h0 q1 a1 q2 a2 q3 a3 : Nat) (ec : Int32) (sn : Int32) (dy : Int32) (wg : Int32) (pe : Int32) (pn : Int32) (br : Int32) (ex : Nat → Int32) (sc : Nat → Int32) (se : Nat → Int32) (x1 : Int32) (x2 : Int32) {res : Int32 × Int32 × Int32 × Int32 × (Nat → Int32) × (Nat → Int32)} (h : pX0_work ec sn wg pe pn br ex sc se x1 x2 = some res) : Met l yX0_work wsX0_work rmX0_work (PW [.ref h0, .int x1, .int x2] g cy [(h0, .inr (0, [.ref q1, .ref q2, .ref q3, .int ec, .int sn, .int dy, .int wg, .int pe, .int pn, .int br])), (q1, .inr (3, [.int (nI 14), .ref a1])), (a1, .inl (cy 0, 84, .inl ex)), (q2, .inr (3, [.int (nI 10), .ref a2])), (a2, .inl (cy 0, 60, .inl sc)), (q3, .inr (3, [.int (nI 1), .ref a3])), (a3, .inl (cy 0, 3, .inl se))]) (QWv g (wA [(h0, .inr (0, [.ref q1, .ref q2, .ref q3, .int ec, .int sn, .int dy, .int wg, .int pe, .int pn, .int br])), (q1, .inr (3, [.int (nI 14), .ref a1])), (a1, .inl (cy 0, 84, .inl ex)), (q2, .inr (3, [.int (nI 10), .ref a2])), (a2, .inl (cy 0, 60, .inl sc)), (q3, .inr (3, [.int (nI 1), .ref a3])), (a3, .inl (cy 0, 3, .inl se))]) [(h0, .inr (0, [.ref q1, .ref q2, .ref q3, .int ec, .int sn, .int dy, .int res.1, .int res.2.1, .int res.2.2.1, .int res.2.2.2.1])), (q1, .inr (3, [.int (nI 14), .ref a1])), (a1, .inl (cy 0, 84, .inl res.2.2.2.2.1)), (q2, .inr (3, [.int (nI 10), .ref a2])), (a2, .inl (cy 0, 60, .inl res.2.2.2.2.2)), (q3, .inr (3, [.int (nI 1), .ref a3])), (a3, .inl (cy 0, 3, .inl se))]) 0 0 (wA [(h0, .inr (0, [.ref q1, .ref q2, .ref q3, .int ec, .int sn, .int dy, .int wg, .int pe, .int pn, .int br])), (q1, .inr (3, [.int (nI 14), .ref a1])), (a1, .inl (cy 0, 84, .inl ex)), (q2, .inr (3, [.int (nI 10), .ref a2])), (a2, .inl (cy 0, 60, .inl sc)), (q3, .inr (3, [.int (nI 1), .ref a3])), (a3, .inl (cy 0, 3, .inl se))]) := by
  refine m_ofV (cc := cX0_work) (nL := 4) (ret := none) (B := (wA [(h0, .inr (0, [.ref q1, .ref q2, .ref q3, .int ec, .int sn, .int dy, .int wg, .int pe, .int pn, .int br])), (q1, .inr (3, [.int (nI 14), .ref a1])), (a1, .inl (cy 0, 84, .inl ex)), (q2, .inr (3, [.int (nI 10), .ref a2])), (a2, .inl (cy 0, 60, .inl sc)), (q3, .inr (3, [.int (nI 1), .ref a3])), (a3, .inl (cy 0, 3, .inl se))])) RX0 rfl (by decide) rfl [(0, .ref h0), (1, .int x1), (2, .int x2)] rfl (Nat.le_of_ble_eq_true rfl) (wA.self) ?_
  intro p e s m args below meth c hC hr
  generalize (wA [(h0, .inr (0, [.ref q1, .ref q2, .ref q3, .int ec, .int sn, .int dy, .int wg, .int pe, .int pn, .int br])), (q1, .inr (3, [.int (nI 14), .ref a1])), (a1, .inl (cy 0, 84, .inl ex)), (q2, .inr (3, [.int (nI 10), .ref a2])), (a2, .inl (cy 0, 60, .inl sc)), (q3, .inr (3, [.int (nI 1), .ref a3])), (a3, .inl (cy 0, 3, .inl se))]) = A
  unfold pX0_work at h
  refine v_aload_n hC dX0_work_0 rfl 0 rfl rfl ?_
  refine v_dup hC dX0_work_1 rfl rfl ?_
  refine v_get hC iX0_work_X0 0 rfl rfl 6 (by decide) kX0_work_47 rfl rfl dX0_work_2 rfl ?_
  refine v_aload_n hC dX0_work_5 rfl 0 rfl rfl ?_
  refine v_iload_n hC dX0_work_6 rfl 1 rfl rfl ?_
  refine v_iload_n hC dX0_work_7 rfl 2 rfl rfl ?_
  obtain ⟨v1, hv1, h⟩ := bind_g h
  refine v_callVri hC (n := 2) (st := [.int wg, .ref h0]) (mX0_wagesOf l g cy h0 q1 a1 q2 a2 q3 a3 ec sn dy wg pe pn br ex sc se x1 x2 hv1) gX0_work_X0_wagesOf rfl rfl rfl (by decide +kernel) ⟨Nat.le_of_ble_eq_true rfl, Nat.le_of_ble_eq_true rfl⟩ 0 rfl rfl [0, 1, 2, 3, 4, 5, 6] rfl rfl rfl rfl (Nat.le_of_ble_eq_true rfl) rfl ⟨Nat.zero_le _, Nat.zero_le _⟩ dX0_work_8 rfl ?_
  refine v_iadd hC dX0_work_11 rfl ?_
  refine v_put hC iX0_work_X0 tyX0 tyX0_ok nmX0 0 rfl rfl 6 (by decide) kX0_work_47 rfl rfl (ty := .int) (by decide +kernel) rfl rfl (Nat.le_of_ble_eq_true rfl) dX0_work_12 [(h0, .inr (0, [.ref q1, .ref q2, .ref q3, .int ec, .int sn, .int dy, .int (wg + v1), .int pe, .int pn, .int br])), (q1, .inr (3, [.int (nI 14), .ref a1])), (a1, .inl (cy 0, 84, .inl ex)), (q2, .inr (3, [.int (nI 10), .ref a2])), (a2, .inl (cy 0, 60, .inl sc)), (q3, .inr (3, [.int (nI 1), .ref a3])), (a3, .inl (cy 0, 3, .inl se))] rfl rfl ?_
  refine v_aload_n hC dX0_work_15 rfl 0 rfl rfl ?_
  refine v_dup hC dX0_work_16 rfl rfl ?_
  refine v_get hC iX0_work_X0 0 rfl rfl 9 (by decide) kX0_work_56 rfl rfl dX0_work_17 rfl ?_
  refine v_aload_n hC dX0_work_20 rfl 0 rfl rfl ?_
  refine v_iload_n hC dX0_work_21 rfl 1 rfl rfl ?_
  refine v_iload_n hC dX0_work_22 rfl 2 rfl rfl ?_
  obtain ⟨v2, hv2, h⟩ := bind_g h
  refine v_callVri hC (n := 2) (st := [.int br, .ref h0]) (mX0_breaksOf l g cy h0 q1 a1 q2 a2 q3 a3 ec sn dy (wg + v1) pe pn br ex sc se x1 x2 hv2) gX0_work_X0_breaksOf rfl rfl rfl (by decide +kernel) ⟨Nat.le_of_ble_eq_true rfl, Nat.le_of_ble_eq_true rfl⟩ 0 rfl rfl [0, 1, 2, 3, 4, 5, 6] rfl rfl rfl rfl (Nat.le_of_ble_eq_true rfl) rfl ⟨Nat.zero_le _, Nat.zero_le _⟩ dX0_work_23 rfl ?_
  refine v_iadd hC dX0_work_26 rfl ?_
  refine v_put hC iX0_work_X0 tyX0 tyX0_ok nmX0 0 rfl rfl 9 (by decide) kX0_work_56 rfl rfl (ty := .int) (by decide +kernel) rfl rfl (Nat.le_of_ble_eq_true rfl) dX0_work_27 [(h0, .inr (0, [.ref q1, .ref q2, .ref q3, .int ec, .int sn, .int dy, .int (wg + v1), .int pe, .int pn, .int (br + v2)])), (q1, .inr (3, [.int (nI 14), .ref a1])), (a1, .inl (cy 0, 84, .inl ex)), (q2, .inr (3, [.int (nI 10), .ref a2])), (a2, .inl (cy 0, 60, .inl sc)), (q3, .inr (3, [.int (nI 1), .ref a3])), (a3, .inl (cy 0, 3, .inl se))] rfl rfl ?_
  refine v_iconst hC (v := (nI 0)) dX0_work_30 (by decide) rfl ?_
  refine v_istore_n hC dX0_work_31 rfl (by decide) [(3, .int (nI 0)), (0, .ref h0), (1, .int x1), (2, .int x2)] rfl rfl ?_
  exact v_sub [1, 2, 3, 0] (lv' := [(0, .ref h0), (1, .int x1), (2, .int x2), (3, .int (nI 0))]) rfl (bX0_work_32 hC hr FU _ _ _ _ _ _ _ _ _ _ _ _ _ h)
def pX0_shootIfPossible (ec : Int32) (sn : Int32) (wg : Int32) (pe : Int32) (pn : Int32) (br : Int32) (ex : Nat → Int32) (sc : Nat → Int32) (se : Nat → Int32) (x1 : Int32) : Option (Int32 × Int32 × Int32 × Int32 × Int32 × (Nat → Int32) × (Nat → Int32)) := (pX0_crowdNow ec sn ex sc se x1).bind fun v1 => if v1 = 0 then some ((nI 0), wg, pe, pn, br, ex, sc) else (pX0_work ec sn wg pe pn br ex sc se x1 v1).bind fun v2 => some ((nI 1), v2.1, v2.2.1, v2.2.2.1, v2.2.2.2.1, v2.2.2.2.2.1, v2.2.2.2.2.2)
abbrev rmX0_shootIfPossible : Room := { frames := 4, cells := 0, slots := 0, locals := 101 }
set_option maxHeartbeats 4000000 in
set_option maxRecDepth 100000 in
theorem mX0_shootIfPossible (l : Launch) (g : va_G) (cy : Nat → ClassId) (h0 q1 a1 q2 a2 q3 a3 : Nat) (ec : Int32) (sn : Int32) (dy : Int32) (wg : Int32) (pe : Int32) (pn : Int32) (br : Int32) (ex : Nat → Int32) (sc : Nat → Int32) (se : Nat → Int32) (x1 : Int32) {res : Int32 × Int32 × Int32 × Int32 × Int32 × (Nat → Int32) × (Nat → Int32)} (h : pX0_shootIfPossible ec sn wg pe pn br ex sc se x1 = some res) : Met l yX0_shootIfPossible wsX0_shootIfPossible rmX0_shootIfPossible (PW [.ref h0, .int x1] g cy [(h0, .inr (0, [.ref q1, .ref q2, .ref q3, .int ec, .int sn, .int dy, .int wg, .int pe, .int pn, .int br])), (q1, .inr (3, [.int (nI 14), .ref a1])), (a1, .inl (cy 0, 84, .inl ex)), (q2, .inr (3, [.int (nI 10), .ref a2])), (a2, .inl (cy 0, 60, .inl sc)), (q3, .inr (3, [.int (nI 1), .ref a3])), (a3, .inl (cy 0, 3, .inl se))]) (QWi g (wA [(h0, .inr (0, [.ref q1, .ref q2, .ref q3, .int ec, .int sn, .int dy, .int wg, .int pe, .int pn, .int br])), (q1, .inr (3, [.int (nI 14), .ref a1])), (a1, .inl (cy 0, 84, .inl ex)), (q2, .inr (3, [.int (nI 10), .ref a2])), (a2, .inl (cy 0, 60, .inl sc)), (q3, .inr (3, [.int (nI 1), .ref a3])), (a3, .inl (cy 0, 3, .inl se))]) res.1 [(h0, .inr (0, [.ref q1, .ref q2, .ref q3, .int ec, .int sn, .int dy, .int res.2.1, .int res.2.2.1, .int res.2.2.2.1, .int res.2.2.2.2.1])), (q1, .inr (3, [.int (nI 14), .ref a1])), (a1, .inl (cy 0, 84, .inl res.2.2.2.2.2.1)), (q2, .inr (3, [.int (nI 10), .ref a2])), (a2, .inl (cy 0, 60, .inl res.2.2.2.2.2.2)), (q3, .inr (3, [.int (nI 1), .ref a3])), (a3, .inl (cy 0, 3, .inl se))]) 0 0 (wA [(h0, .inr (0, [.ref q1, .ref q2, .ref q3, .int ec, .int sn, .int dy, .int wg, .int pe, .int pn, .int br])), (q1, .inr (3, [.int (nI 14), .ref a1])), (a1, .inl (cy 0, 84, .inl ex)), (q2, .inr (3, [.int (nI 10), .ref a2])), (a2, .inl (cy 0, 60, .inl sc)), (q3, .inr (3, [.int (nI 1), .ref a3])), (a3, .inl (cy 0, 3, .inl se))]) := by
  refine m_ofV (cc := cX0_shootIfPossible) (nL := 3) (ret := (some .boolean)) (B := (wA [(h0, .inr (0, [.ref q1, .ref q2, .ref q3, .int ec, .int sn, .int dy, .int wg, .int pe, .int pn, .int br])), (q1, .inr (3, [.int (nI 14), .ref a1])), (a1, .inl (cy 0, 84, .inl ex)), (q2, .inr (3, [.int (nI 10), .ref a2])), (a2, .inl (cy 0, 60, .inl sc)), (q3, .inr (3, [.int (nI 1), .ref a3])), (a3, .inl (cy 0, 3, .inl se))])) RX0 rfl (by decide) rfl [(0, .ref h0), (1, .int x1)] rfl (Nat.le_of_ble_eq_true rfl) (wA.self) ?_
  intro p e s m args below meth c hC hr
  generalize (wA [(h0, .inr (0, [.ref q1, .ref q2, .ref q3, .int ec, .int sn, .int dy, .int wg, .int pe, .int pn, .int br])), (q1, .inr (3, [.int (nI 14), .ref a1])), (a1, .inl (cy 0, 84, .inl ex)), (q2, .inr (3, [.int (nI 10), .ref a2])), (a2, .inl (cy 0, 60, .inl sc)), (q3, .inr (3, [.int (nI 1), .ref a3])), (a3, .inl (cy 0, 3, .inl se))]) = A
  unfold pX0_shootIfPossible at h
  refine v_aload_n hC dX0_shootIfPossible_0 rfl 0 rfl rfl ?_
  refine v_iload_n hC dX0_shootIfPossible_1 rfl 1 rfl rfl ?_
  obtain ⟨v1, hv1, h⟩ := bind_g h
  refine v_callVri hC (n := 1) (st := []) (mX0_crowdNow l g cy h0 q1 a1 q2 a2 q3 a3 ec sn dy wg pe pn br ex sc se x1 hv1) gX0_shootIfPossible_X0_crowdNow rfl rfl rfl (by decide +kernel) ⟨Nat.le_of_ble_eq_true rfl, Nat.le_of_ble_eq_true rfl⟩ 0 rfl rfl [0, 1, 2, 3, 4, 5, 6] rfl rfl rfl rfl (Nat.le_of_ble_eq_true rfl) rfl ⟨Nat.zero_le _, Nat.zero_le _⟩ dX0_shootIfPossible_2 rfl ?_
  refine v_istore_n hC dX0_shootIfPossible_5 rfl (by decide) [(2, .int v1), (0, .ref h0), (1, .int x1)] rfl rfl ?_
  refine v_iload_n hC dX0_shootIfPossible_6 rfl 0 rfl rfl ?_
  refine v_if_ne hC (tgt := 12) dX0_shootIfPossible_7 (by decide) rfl (fun c => ?_) (fun c => ?_)
  · have h := ite_f c h
    refine v_aload_n hC dX0_shootIfPossible_12 rfl 1 rfl rfl ?_
    refine v_iload_n hC dX0_shootIfPossible_13 rfl 2 rfl rfl ?_
    refine v_iload_n hC dX0_shootIfPossible_14 rfl 0 rfl rfl ?_
    obtain ⟨v2, hv2, h⟩ := bind_g h
    refine v_callVwv hC (n := 2) (st := []) [(h0, .inr (0, [.ref q1, .ref q2, .ref q3, .int ec, .int sn, .int dy, .int v2.1, .int v2.2.1, .int v2.2.2.1, .int v2.2.2.2.1])), (q1, .inr (3, [.int (nI 14), .ref a1])), (a1, .inl (cy 0, 84, .inl v2.2.2.2.2.1)), (q2, .inr (3, [.int (nI 10), .ref a2])), (a2, .inl (cy 0, 60, .inl v2.2.2.2.2.2)), (q3, .inr (3, [.int (nI 1), .ref a3])), (a3, .inl (cy 0, 3, .inl se))] _ (mX0_work l g cy h0 q1 a1 q2 a2 q3 a3 ec sn dy wg pe pn br ex sc se x1 v1 hv2) gX0_shootIfPossible_X0_work rfl rfl rfl (by decide +kernel) ⟨Nat.le_of_ble_eq_true rfl, Nat.le_of_ble_eq_true rfl⟩ 0 rfl rfl [0, 1, 2, 3, 4, 5, 6] [] rfl rfl rfl rfl rfl rfl rfl rfl rfl (Nat.le_of_ble_eq_true rfl) rfl ⟨Nat.zero_le _, Nat.zero_le _⟩ dX0_shootIfPossible_15 rfl ?_
    refine v_iconst hC (v := (nI 1)) dX0_shootIfPossible_18 (by decide) rfl ?_
    obtain rfl := Option.some.inj h
    exact v_irw hC hr rfl rfl dX0_shootIfPossible_19
  · have h := ite_t c h
    refine v_iconst hC (v := (nI 0)) dX0_shootIfPossible_10 (by decide) rfl ?_
    obtain rfl := Option.some.inj h
    exact v_irw hC hr rfl rfl dX0_shootIfPossible_11
theorem kX0_canExchange_14 : Cond.fieldLink RX0 14 "CrowdFaces$Film" "extras" "LCrowdFaces$Table;" ∈ wsX0_canExchange := by decide +kernel
theorem iX0_canExchange_X0 : ∀ w ∈ wsX00, w ∈ wsX0_canExchange := by decide +kernel
def pX0_canExchange_24 (ec : Int32) (sn : Int32) (ex : Nat → Int32) (sc : Nat → Int32) : Option (Int32) := some (nI 0)
def pX0_canExchange_63 (ec : Int32) (sn : Int32) (ex : Nat → Int32) (sc : Nat → Int32) : Option (Int32) := some (nI 0)
def pX0_canExchange_112 (ec : Int32) (sn : Int32) (ex : Nat → Int32) (sc : Nat → Int32) (s0 : Int32) : Option (Int32) := bz s0
def pX0_canExchange (ec : Int32) (sn : Int32) (ex : Nat → Int32) (sc : Nat → Int32) (x1 : Int32) (x2 : Int32) (x3 : Int32) : Option (Int32) := (pX0_isScene sn x1).bind fun v1 => if v1 = 0 then pX0_canExchange_24 ec sn ex sc else (pX0_isExtra ec x2).bind fun v2 => if v2 = 0 then pX0_canExchange_24 ec sn ex sc else (pX0_isExtra ec x3).bind fun v3 => if v3 = 0 then pX0_canExchange_24 ec sn ex sc else (pX0_crowdOf sc x1).bind fun v4 => (pX7_has v4 x2).bind fun v5 => if v5 = 0 then pX0_canExchange_63 ec sn ex sc else (pX7_has v4 x3).bind fun v6 => if v6 = 0 then (pX0_withRightLook ec ex sc x1).bind fun v7 => (pX7_has v7 x3).bind fun v8 => if v8 = 0 then pX0_canExchange_63 ec sn ex sc else (pX0_facesOf ec ex (v4 &&& (((nI 1) <<< (x2 &&& 31)) ^^^ (-1)))).bind fun v9 => (pX0_castOf sn sc x1 (nI 0)).bind fun v10 => (pX0_facesOf ec ex v10).bind fun v11 => (pX5_get (nI 14) 84 ex (nI 1) x3).bind fun v12 => (pX7_has (v9 ||| v11) v12).bind fun v13 => if v13 = 0 then pX0_canExchange_112 ec sn ex sc (nI 1) else pX0_canExchange_112 ec sn ex sc (nI 0) else pX0_canExchange_63 ec sn ex sc
abbrev rmX0_canExchange : Room := { frames := 2, cells := 0, slots := 0, locals := 50 }
set_option maxHeartbeats 4000000 in
set_option maxRecDepth 100000 in
theorem bX0_canExchange_24 {p : Program} {l : Launch} {e : Env} {s : State} {m : MethodId} {args : Array Value} {below : List Frame} {meth : Method} {c : Code} {g : va_G} {cy : Nat → ClassId} (hC : CX p s m args meth c g cy 6 cX0_canExchange wsX0_canExchange RX0) (hr : meth.sig.returnType = (some .boolean)) {h0 q1 a1 q2 a2 q3 a3 : Nat} {res : Int32} : ∀ (ec : Int32) (sn : Int32) (dy : Int32) (wg : Int32) (pe : Int32) (pn : Int32) (br : Int32) (ex : Nat → Int32) (sc : Nat → Int32) (se : Nat → Int32) (h : pX0_canExchange_24 ec sn ex sc = some res), V p l e (headSpec wsX0_canExchange rmX0_canExchange).room s m args below meth c g 6 0 0 (MQ below (QRi res) args s 0 0 nF) nF (fun _ => True) [(h0, .inr (0, [.ref q1, .ref q2, .ref q3, .int ec, .int sn, .int dy, .int wg, .int pe, .int pn, .int br])), (q1, .inr (3, [.int (nI 14), .ref a1])), (a1, .inl (cy 0, 84, .inl ex)), (q2, .inr (3, [.int (nI 10), .ref a2])), (a2, .inl (cy 0, 60, .inl sc)), (q3, .inr (3, [.int (nI 1), .ref a3])), (a3, .inl (cy 0, 3, .inl se))] 24 [] [] := by
  intro ec sn dy wg pe pn br ex sc se  h
  unfold pX0_canExchange_24 at h
  refine v_iconst hC (v := (nI 0)) dX0_canExchange_24 (by decide) rfl ?_
  obtain rfl := Option.some.inj h
  exact v_irt hC hr rfl rfl dX0_canExchange_25
set_option maxHeartbeats 4000000 in
set_option maxRecDepth 100000 in
theorem bX0_canExchange_63 {p : Program} {l : Launch} {e : Env} {s : State} {m : MethodId} {args : Array Value} {below : List Frame} {meth : Method} {c : Code} {g : va_G} {cy : Nat → ClassId} (hC : CX p s m args meth c g cy 6 cX0_canExchange wsX0_canExchange RX0) (hr : meth.sig.returnType = (some .boolean)) {h0 q1 a1 q2 a2 q3 a3 : Nat} {res : Int32} : ∀ (ec : Int32) (sn : Int32) (dy : Int32) (wg : Int32) (pe : Int32) (pn : Int32) (br : Int32) (ex : Nat → Int32) (sc : Nat → Int32) (se : Nat → Int32) (h : pX0_canExchange_63 ec sn ex sc = some res), V p l e (headSpec wsX0_canExchange rmX0_canExchange).room s m args below meth c g 6 0 0 (MQ below (QRi res) args s 0 0 nF) nF (fun _ => True) [(h0, .inr (0, [.ref q1, .ref q2, .ref q3, .int ec, .int sn, .int dy, .int wg, .int pe, .int pn, .int br])), (q1, .inr (3, [.int (nI 14), .ref a1])), (a1, .inl (cy 0, 84, .inl ex)), (q2, .inr (3, [.int (nI 10), .ref a2])), (a2, .inl (cy 0, 60, .inl sc)), (q3, .inr (3, [.int (nI 1), .ref a3])), (a3, .inl (cy 0, 3, .inl se))] 63 [] [] := by
  intro ec sn dy wg pe pn br ex sc se  h
  unfold pX0_canExchange_63 at h
  refine v_iconst hC (v := (nI 0)) dX0_canExchange_63 (by decide) rfl ?_
  obtain rfl := Option.some.inj h
  exact v_irt hC hr rfl rfl dX0_canExchange_64
set_option maxHeartbeats 4000000 in
set_option maxRecDepth 100000 in
theorem bX0_canExchange_112 {p : Program} {l : Launch} {e : Env} {s : State} {m : MethodId} {args : Array Value} {below : List Frame} {meth : Method} {c : Code} {g : va_G} {cy : Nat → ClassId} (hC : CX p s m args meth c g cy 6 cX0_canExchange wsX0_canExchange RX0) (hr : meth.sig.returnType = (some .boolean)) {h0 q1 a1 q2 a2 q3 a3 : Nat} {res : Int32} : ∀ (ec : Int32) (sn : Int32) (dy : Int32) (wg : Int32) (pe : Int32) (pn : Int32) (br : Int32) (ex : Nat → Int32) (sc : Nat → Int32) (se : Nat → Int32) (s0 : Int32)(h : pX0_canExchange_112 ec sn ex sc s0 = some res), V p l e (headSpec wsX0_canExchange rmX0_canExchange).room s m args below meth c g 6 0 0 (MQ below (QRi res) args s 0 0 nF) nF (fun _ => True) [(h0, .inr (0, [.ref q1, .ref q2, .ref q3, .int ec, .int sn, .int dy, .int wg, .int pe, .int pn, .int br])), (q1, .inr (3, [.int (nI 14), .ref a1])), (a1, .inl (cy 0, 84, .inl ex)), (q2, .inr (3, [.int (nI 10), .ref a2])), (a2, .inl (cy 0, 60, .inl sc)), (q3, .inr (3, [.int (nI 1), .ref a3])), (a3, .inl (cy 0, 3, .inl se))] 112 [] [.int s0] := by
  intro ec sn dy wg pe pn br ex sc se s0 h
  unfold pX0_canExchange_112 at h
  obtain ⟨e9, hn⟩ := bz_g h
  exact v_irt hC hr hn e9 dX0_canExchange_112
set_option maxHeartbeats 4000000 in
set_option maxRecDepth 100000 in
theorem mX0_canExchange (l : Launch) (g : va_G) (cy : Nat → ClassId) (h0 q1 a1 q2 a2 q3 a3 : Nat) (ec : Int32) (sn : Int32) (dy : Int32) (wg : Int32) (pe : Int32) (pn : Int32) (br : Int32) (ex : Nat → Int32) (sc : Nat → Int32) (se : Nat → Int32) (x1 : Int32) (x2 : Int32) (x3 : Int32) {res : Int32} (h : pX0_canExchange ec sn ex sc x1 x2 x3 = some res) : Met l yX0_canExchange wsX0_canExchange rmX0_canExchange (PW [.ref h0, .int x1, .int x2, .int x3] g cy [(h0, .inr (0, [.ref q1, .ref q2, .ref q3, .int ec, .int sn, .int dy, .int wg, .int pe, .int pn, .int br])), (q1, .inr (3, [.int (nI 14), .ref a1])), (a1, .inl (cy 0, 84, .inl ex)), (q2, .inr (3, [.int (nI 10), .ref a2])), (a2, .inl (cy 0, 60, .inl sc)), (q3, .inr (3, [.int (nI 1), .ref a3])), (a3, .inl (cy 0, 3, .inl se))]) (QRi res) 0 0 nF := by
  refine m_ofV (cc := cX0_canExchange) (nL := 6) (ret := (some .boolean)) (B := fun _ => True) RX0 rfl (by decide) rfl [(0, .ref h0), (1, .int x1), (2, .int x2), (3, .int x3)] rfl (Nat.le_of_ble_eq_true rfl) (fun h => h) ?_
  intro p e s m args below meth c hC hr
  unfold pX0_canExchange at h
  refine v_aload_n hC dX0_canExchange_0 rfl 0 rfl rfl ?_
  refine v_iload_n hC dX0_canExchange_1 rfl 1 rfl rfl ?_
  obtain ⟨v1, hv1, h⟩ := bind_g h
  refine v_callVri hC (n := 1) (st := []) (mX0_isScene l g cy h0 q1 a1 q2 a2 q3 a3 ec sn dy wg pe pn br ex sc se x1 hv1) gX0_canExchange_X0_isScene rfl rfl rfl (by decide +kernel) ⟨Nat.le_of_ble_eq_true rfl, Nat.le_of_ble_eq_true rfl⟩ 0 rfl rfl [0, 1, 2, 3, 4, 5, 6] rfl rfl rfl rfl (Nat.le_of_ble_eq_true rfl) rfl ⟨Nat.zero_le _, Nat.zero_le _⟩ dX0_canExchange_2 rfl ?_
  refine v_if_eq hC (tgt := 24) dX0_canExchange_5 (by decide) rfl (fun c => ?_) (fun c => ?_)
  · have h := ite_t c h
    exact v_sub [] (lv' := []) rfl (bX0_canExchange_24 hC hr _ _ _ _ _ _ _ _ _ _ h)
  · have h := ite_f c h
    refine v_aload_n hC dX0_canExchange_8 rfl 0 rfl rfl ?_
    refine v_iload_n hC dX0_canExchange_9 rfl 2 rfl rfl ?_
    obtain ⟨v2, hv2, h⟩ := bind_g h
    refine v_callVri hC (n := 1) (st := []) (mX0_isExtra l g cy h0 q1 a1 q2 a2 q3 a3 ec sn dy wg pe pn br ex sc se x2 hv2) gX0_canExchange_X0_isExtra rfl rfl rfl (by decide +kernel) ⟨Nat.le_of_ble_eq_true rfl, Nat.le_of_ble_eq_true rfl⟩ 0 rfl rfl [0, 1, 2, 3, 4, 5, 6] rfl rfl rfl rfl (Nat.le_of_ble_eq_true rfl) rfl ⟨Nat.zero_le _, Nat.zero_le _⟩ dX0_canExchange_10 rfl ?_
    refine v_if_eq hC (tgt := 24) dX0_canExchange_13 (by decide) rfl (fun c => ?_) (fun c => ?_)
    · have h := ite_t c h
      exact v_sub [] (lv' := []) rfl (bX0_canExchange_24 hC hr _ _ _ _ _ _ _ _ _ _ h)
    · have h := ite_f c h
      refine v_aload_n hC dX0_canExchange_16 rfl 0 rfl rfl ?_
      refine v_iload_n hC dX0_canExchange_17 rfl 3 rfl rfl ?_
      obtain ⟨v3, hv3, h⟩ := bind_g h
      refine v_callVri hC (n := 1) (st := []) (mX0_isExtra l g cy h0 q1 a1 q2 a2 q3 a3 ec sn dy wg pe pn br ex sc se x3 hv3) gX0_canExchange_X0_isExtra rfl rfl rfl (by decide +kernel) ⟨Nat.le_of_ble_eq_true rfl, Nat.le_of_ble_eq_true rfl⟩ 0 rfl rfl [0, 1, 2, 3, 4, 5, 6] rfl rfl rfl rfl (Nat.le_of_ble_eq_true rfl) rfl ⟨Nat.zero_le _, Nat.zero_le _⟩ dX0_canExchange_18 rfl ?_
      refine v_if_ne hC (tgt := 26) dX0_canExchange_21 (by decide) rfl (fun c => ?_) (fun c => ?_)
      · have h := ite_f c h
        refine v_aload_n hC dX0_canExchange_26 rfl 0 rfl rfl ?_
        refine v_iload_n hC dX0_canExchange_27 rfl 1 rfl rfl ?_
        obtain ⟨v4, hv4, h⟩ := bind_g h
        refine v_callVri hC (n := 1) (st := []) (mX0_crowdOf l g cy h0 q1 a1 q2 a2 q3 a3 ec sn dy wg pe pn br ex sc se x1 hv4) gX0_canExchange_X0_crowdOf rfl rfl rfl (by decide +kernel) ⟨Nat.le_of_ble_eq_true rfl, Nat.le_of_ble_eq_true rfl⟩ 0 rfl rfl [0, 1, 2, 3, 4, 5, 6] rfl rfl rfl rfl (Nat.le_of_ble_eq_true rfl) rfl ⟨Nat.zero_le _, Nat.zero_le _⟩ dX0_canExchange_28 rfl ?_
        refine v_istore hC dX0_canExchange_31 (by decide) [(4, .int v4), (0, .ref h0), (1, .int x1), (2, .int x2), (3, .int x3)] rfl rfl ?_
        refine v_iload hC dX0_canExchange_33 0 rfl rfl ?_
        refine v_iload_n hC dX0_canExchange_35 rfl 3 rfl rfl ?_
        obtain ⟨v5, hv5, h⟩ := bind_g h
        refine v_callNri hC (n := 2) (st := []) (mX7_has l g cy v4 x2 hv5) gX0_canExchange_X7_has_n93 0 rfl ⟨by decide +kernel, by decide +kernel⟩ rfl rfl rfl (by decide +kernel) ⟨Nat.le_of_ble_eq_true rfl, Nat.le_of_ble_eq_true rfl⟩ [] rfl rfl rfl rfl (Nat.le_of_ble_eq_true rfl) rfl ⟨Nat.zero_le _, Nat.zero_le _⟩ dX0_canExchange_36 rfl ?_
        refine v_if_eq hC (tgt := 63) dX0_canExchange_39 (by decide) rfl (fun c => ?_) (fun c => ?_)
        · have h := ite_t c h
          exact v_sub [] (lv' := []) rfl (bX0_canExchange_63 hC hr _ _ _ _ _ _ _ _ _ _ h)
        · have h := ite_f c h
          refine v_iload hC dX0_canExchange_42 0 rfl rfl ?_
          refine v_iload_n hC dX0_canExchange_44 rfl 4 rfl rfl ?_
          obtain ⟨v6, hv6, h⟩ := bind_g h
          refine v_callNri hC (n := 2) (st := []) (mX7_has l g cy v4 x3 hv6) gX0_canExchange_X7_has_n93 0 rfl ⟨by decide +kernel, by decide +kernel⟩ rfl rfl rfl (by decide +kernel) ⟨Nat.le_of_ble_eq_true rfl, Nat.le_of_ble_eq_true rfl⟩ [] rfl rfl rfl rfl (Nat.le_of_ble_eq_true rfl) rfl ⟨Nat.zero_le _, Nat.zero_le _⟩ dX0_canExchange_45 rfl ?_
          refine v_if_ne hC (tgt := 63) dX0_canExchange_48 (by decide) rfl (fun c => ?_) (fun c => ?_)
          · have h := ite_f c h
            exact v_sub [] (lv' := []) rfl (bX0_canExchange_63 hC hr _ _ _ _ _ _ _ _ _ _ h)
          · have h := ite_t c h
            refine v_aload_n hC dX0_canExchange_51 rfl 1 rfl rfl ?_
            refine v_iload_n hC dX0_canExchange_52 rfl 2 rfl rfl ?_
            obtain ⟨v7, hv7, h⟩ := bind_g h
            refine v_callVri hC (n := 1) (st := []) (mX0_withRightLook l g cy h0 q1 a1 q2 a2 q3 a3 ec sn dy wg pe pn br ex sc se x1 hv7) gX0_canExchange_X0_withRightLook rfl rfl rfl (by decide +kernel) ⟨Nat.le_of_ble_eq_true rfl, Nat.le_of_ble_eq_true rfl⟩ 0 rfl rfl [0, 1, 2, 3, 4, 5, 6] rfl rfl rfl rfl (Nat.le_of_ble_eq_true rfl) rfl ⟨Nat.zero_le _, Nat.zero_le _⟩ dX0_canExchange_53 rfl ?_
            refine v_iload_n hC dX0_canExchange_56 rfl 4 rfl rfl ?_
            obtain ⟨v8, hv8, h⟩ := bind_g h
            refine v_callNri hC (n := 2) (st := []) (mX7_has l g cy v7 x3 hv8) gX0_canExchange_X7_has_n93 0 rfl ⟨by decide +kernel, by decide +kernel⟩ rfl rfl rfl (by decide +kernel) ⟨Nat.le_of_ble_eq_true rfl, Nat.le_of_ble_eq_true rfl⟩ [] rfl rfl rfl rfl (Nat.le_of_ble_eq_true rfl) rfl ⟨Nat.zero_le _, Nat.zero_le _⟩ dX0_canExchange_57 rfl ?_
            refine v_if_ne hC (tgt := 65) dX0_canExchange_60 (by decide) rfl (fun c => ?_) (fun c => ?_)
            · have h := ite_f c h
              refine v_aload_n hC dX0_canExchange_65 rfl 1 rfl rfl ?_
              refine v_iload hC dX0_canExchange_66 0 rfl rfl ?_
              refine v_iconst hC (v := (nI 1)) dX0_canExchange_68 (by decide) rfl ?_
              refine v_iload_n hC dX0_canExchange_69 rfl 3 rfl rfl ?_
              refine v_ishl hC dX0_canExchange_70 rfl ?_
              refine v_iconst hC (v := (-1)) dX0_canExchange_71 (by decide) rfl ?_
              refine v_ixor hC dX0_canExchange_72 rfl ?_
              refine v_iand hC dX0_canExchange_73 rfl ?_
              obtain ⟨v9, hv9, h⟩ := bind_g h
              refine v_callVri hC (n := 1) (st := []) (mX0_facesOf l g cy h0 q1 a1 q2 a2 q3 a3 ec sn dy wg pe pn br ex sc se (v4 &&& (((nI 1) <<< (x2 &&& 31)) ^^^ (-1))) hv9) gX0_canExchange_X0_facesOf rfl rfl rfl (by decide +kernel) ⟨Nat.le_of_ble_eq_true rfl, Nat.le_of_ble_eq_true rfl⟩ 0 rfl rfl [0, 1, 2, 3, 4, 5, 6] rfl rfl rfl rfl (Nat.le_of_ble_eq_true rfl) rfl ⟨Nat.zero_le _, Nat.zero_le _⟩ dX0_canExchange_74 rfl ?_
              refine v_istore hC dX0_canExchange_77 (by decide) [(5, .int v9), (4, .int v4), (0, .ref h0), (1, .int x1), (2, .int x2), (3, .int x3)] rfl rfl ?_
              refine v_iload hC dX0_canExchange_79 0 rfl rfl ?_
              refine v_aload_n hC dX0_canExchange_81 rfl 2 rfl rfl ?_
              refine v_aload_n hC dX0_canExchange_82 rfl 2 rfl rfl ?_
              refine v_iload_n hC dX0_canExchange_83 rfl 3 rfl rfl ?_
              refine v_iconst hC (v := (nI 0)) dX0_canExchange_84 (by decide) rfl ?_
              obtain ⟨v10, hv10, h⟩ := bind_g h
              refine v_callVri hC (n := 2) (st := [.ref h0, .int v9]) (mX0_castOf l g cy h0 q1 a1 q2 a2 q3 a3 ec sn dy wg pe pn br ex sc se x1 (nI 0) hv10) gX0_canExchange_X0_castOf rfl rfl rfl (by decide +kernel) ⟨Nat.le_of_ble_eq_true rfl, Nat.le_of_ble_eq_true rfl⟩ 0 rfl rfl [0, 1, 2, 3, 4, 5, 6] rfl rfl rfl rfl (Nat.le_of_ble_eq_true rfl) rfl ⟨Nat.zero_le _, Nat.zero_le _⟩ dX0_canExchange_85 rfl ?_
              obtain ⟨v11, hv11, h⟩ := bind_g h
              refine v_callVri hC (n := 1) (st := [.int v9]) (mX0_facesOf l g cy h0 q1 a1 q2 a2 q3 a3 ec sn dy wg pe pn br ex sc se v10 hv11) gX0_canExchange_X0_facesOf rfl rfl rfl (by decide +kernel) ⟨Nat.le_of_ble_eq_true rfl, Nat.le_of_ble_eq_true rfl⟩ 0 rfl rfl [0, 1, 2, 3, 4, 5, 6] rfl rfl rfl rfl (Nat.le_of_ble_eq_true rfl) rfl ⟨Nat.zero_le _, Nat.zero_le _⟩ dX0_canExchange_88 rfl ?_
              refine v_ior hC dX0_canExchange_91 rfl ?_
              refine v_aload_n hC dX0_canExchange_92 rfl 2 rfl rfl ?_
              refine v_get hC iX0_canExchange_X0 0 rfl rfl 0 (by decide) kX0_canExchange_14 rfl rfl dX0_canExchange_93 rfl ?_
              refine v_iconst hC (v := (nI 1)) dX0_canExchange_96 (by decide) rfl ?_
              refine v_iload_n hC dX0_canExchange_97 rfl 5 rfl rfl ?_
              obtain ⟨v12, hv12, h⟩ := bind_g h
              refine v_callVri hC (n := 2) (st := [.int (v9 ||| v11)]) (mX5_get l g cy q1 a1 (nI 14) 84 ex (nI 1) x3 hv12) gX0_canExchange_X5_get rfl rfl rfl (by decide +kernel) ⟨Nat.le_of_ble_eq_true rfl, Nat.le_of_ble_eq_true rfl⟩ 1 rfl rfl [1, 2] rfl rfl rfl rfl (Nat.le_of_ble_eq_true rfl) rfl ⟨Nat.zero_le _, Nat.zero_le _⟩ dX0_canExchange_98 rfl ?_
              obtain ⟨v13, hv13, h⟩ := bind_g h
              refine v_callNri hC (n := 2) (st := []) (mX7_has l g cy (v9 ||| v11) v12 hv13) gX0_canExchange_X7_has_n93 0 rfl ⟨by decide +kernel, by decide +kernel⟩ rfl rfl rfl (by decide +kernel) ⟨Nat.le_of_ble_eq_true rfl, Nat.le_of_ble_eq_true rfl⟩ [] rfl rfl rfl rfl (Nat.le_of_ble_eq_true rfl) rfl ⟨Nat.zero_le _, Nat.zero_le _⟩ dX0_canExchange_101 rfl ?_
              refine v_if_ne hC (tgt := 111) dX0_canExchange_104 (by decide) rfl (fun c => ?_) (fun c => ?_)
              · have h := ite_f c h
                refine v_iconst hC (v := (nI 0)) dX0_canExchange_111 (by decide) rfl ?_
                exact v_sub [] (lv' := []) rfl (bX0_canExchange_112 hC hr _ _ _ _ _ _ _ _ _ _ _ h)
              · have h := ite_t c h
                refine v_iconst hC (v := (nI 1)) dX0_canExchange_107 (by decide) rfl ?_
                refine v_goto hC (tgt := 112) dX0_canExchange_108 (by decide) ?_
                exact v_sub [] (lv' := []) rfl (bX0_canExchange_112 hC hr _ _ _ _ _ _ _ _ _ _ _ h)
            · have h := ite_t c h
              exact v_sub [] (lv' := []) rfl (bX0_canExchange_63 hC hr _ _ _ _ _ _ _ _ _ _ h)
      · have h := ite_t c h
        exact v_sub [] (lv' := []) rfl (bX0_canExchange_24 hC hr _ _ _ _ _ _ _ _ _ _ h)
theorem kX0_exchange_20 : Cond.fieldLink RX0 20 "CrowdFaces$Film" "scenes" "LCrowdFaces$Table;" ∈ wsX0_exchange := by decide +kernel
theorem iX0_exchange_X0 : ∀ w ∈ wsX00, w ∈ wsX0_exchange := by decide +kernel
def pX0_exchange (sc : Nat → Int32) (x1 : Int32) (x2 : Int32) (x3 : Int32) : Option (Int32 × (Nat → Int32)) := (pX0_crowdOf sc x1).bind fun v1 => (pX5_put (nI 10) 60 sc (nI 5) x1 ((v1 &&& (((nI 1) <<< (x2 &&& 31)) ^^^ (-1))) ||| ((nI 1) <<< (x3 &&& 31)))).bind fun v2 => some (((v1 &&& (((nI 1) <<< (x2 &&& 31)) ^^^ (-1))) ||| ((nI 1) <<< (x3 &&& 31))), v2)
abbrev rmX0_exchange : Room := { frames := 2, cells := 0, slots := 0, locals := 44 }
set_option maxHeartbeats 4000000 in
set_option maxRecDepth 100000 in
theorem mX0_exchange (l : Launch) (g : va_G) (cy : Nat → ClassId) (h0 q1 a1 q2 a2 q3 a3 : Nat) (ec : Int32) (sn : Int32) (dy : Int32) (wg : Int32) (pe : Int32) (pn : Int32) (br : Int32) (ex : Nat → Int32) (sc : Nat → Int32) (se : Nat → Int32) (x1 : Int32) (x2 : Int32) (x3 : Int32) {res : Int32 × (Nat → Int32)} (h : pX0_exchange sc x1 x2 x3 = some res) : Met l yX0_exchange wsX0_exchange rmX0_exchange (PW [.ref h0, .int x1, .int x2, .int x3] g cy [(h0, .inr (0, [.ref q1, .ref q2, .ref q3, .int ec, .int sn, .int dy, .int wg, .int pe, .int pn, .int br])), (q1, .inr (3, [.int (nI 14), .ref a1])), (a1, .inl (cy 0, 84, .inl ex)), (q2, .inr (3, [.int (nI 10), .ref a2])), (a2, .inl (cy 0, 60, .inl sc)), (q3, .inr (3, [.int (nI 1), .ref a3])), (a3, .inl (cy 0, 3, .inl se))]) (QWi g (wA [(h0, .inr (0, [.ref q1, .ref q2, .ref q3, .int ec, .int sn, .int dy, .int wg, .int pe, .int pn, .int br])), (q1, .inr (3, [.int (nI 14), .ref a1])), (a1, .inl (cy 0, 84, .inl ex)), (q2, .inr (3, [.int (nI 10), .ref a2])), (a2, .inl (cy 0, 60, .inl sc)), (q3, .inr (3, [.int (nI 1), .ref a3])), (a3, .inl (cy 0, 3, .inl se))]) res.1 [(h0, .inr (0, [.ref q1, .ref q2, .ref q3, .int ec, .int sn, .int dy, .int wg, .int pe, .int pn, .int br])), (q1, .inr (3, [.int (nI 14), .ref a1])), (a1, .inl (cy 0, 84, .inl ex)), (q2, .inr (3, [.int (nI 10), .ref a2])), (a2, .inl (cy 0, 60, .inl res.2)), (q3, .inr (3, [.int (nI 1), .ref a3])), (a3, .inl (cy 0, 3, .inl se))]) 0 0 (wA [(h0, .inr (0, [.ref q1, .ref q2, .ref q3, .int ec, .int sn, .int dy, .int wg, .int pe, .int pn, .int br])), (q1, .inr (3, [.int (nI 14), .ref a1])), (a1, .inl (cy 0, 84, .inl ex)), (q2, .inr (3, [.int (nI 10), .ref a2])), (a2, .inl (cy 0, 60, .inl sc)), (q3, .inr (3, [.int (nI 1), .ref a3])), (a3, .inl (cy 0, 3, .inl se))]) := by
  refine m_ofV (cc := cX0_exchange) (nL := 5) (ret := (some .int)) (B := (wA [(h0, .inr (0, [.ref q1, .ref q2, .ref q3, .int ec, .int sn, .int dy, .int wg, .int pe, .int pn, .int br])), (q1, .inr (3, [.int (nI 14), .ref a1])), (a1, .inl (cy 0, 84, .inl ex)), (q2, .inr (3, [.int (nI 10), .ref a2])), (a2, .inl (cy 0, 60, .inl sc)), (q3, .inr (3, [.int (nI 1), .ref a3])), (a3, .inl (cy 0, 3, .inl se))])) RX0 rfl (by decide) rfl [(0, .ref h0), (1, .int x1), (2, .int x2), (3, .int x3)] rfl (Nat.le_of_ble_eq_true rfl) (wA.self) ?_
  intro p e s m args below meth c hC hr
  generalize (wA [(h0, .inr (0, [.ref q1, .ref q2, .ref q3, .int ec, .int sn, .int dy, .int wg, .int pe, .int pn, .int br])), (q1, .inr (3, [.int (nI 14), .ref a1])), (a1, .inl (cy 0, 84, .inl ex)), (q2, .inr (3, [.int (nI 10), .ref a2])), (a2, .inl (cy 0, 60, .inl sc)), (q3, .inr (3, [.int (nI 1), .ref a3])), (a3, .inl (cy 0, 3, .inl se))]) = A
  unfold pX0_exchange at h
  refine v_aload_n hC dX0_exchange_0 rfl 0 rfl rfl ?_
  refine v_iload_n hC dX0_exchange_1 rfl 1 rfl rfl ?_
  obtain ⟨v1, hv1, h⟩ := bind_g h
  refine v_callVri hC (n := 1) (st := []) (mX0_crowdOf l g cy h0 q1 a1 q2 a2 q3 a3 ec sn dy wg pe pn br ex sc se x1 hv1) gX0_exchange_X0_crowdOf rfl rfl rfl (by decide +kernel) ⟨Nat.le_of_ble_eq_true rfl, Nat.le_of_ble_eq_true rfl⟩ 0 rfl rfl [0, 1, 2, 3, 4, 5, 6] rfl rfl rfl rfl (Nat.le_of_ble_eq_true rfl) rfl ⟨Nat.zero_le _, Nat.zero_le _⟩ dX0_exchange_2 rfl ?_
  refine v_iconst hC (v := (nI 1)) dX0_exchange_5 (by decide) rfl ?_
  refine v_iload_n hC dX0_exchange_6 rfl 2 rfl rfl ?_
  refine v_ishl hC dX0_exchange_7 rfl ?_
  refine v_iconst hC (v := (-1)) dX0_exchange_8 (by decide) rfl ?_
  refine v_ixor hC dX0_exchange_9 rfl ?_
  refine v_iand hC dX0_exchange_10 rfl ?_
  refine v_iconst hC (v := (nI 1)) dX0_exchange_11 (by decide) rfl ?_
  refine v_iload_n hC dX0_exchange_12 rfl 3 rfl rfl ?_
  refine v_ishl hC dX0_exchange_13 rfl ?_
  refine v_ior hC dX0_exchange_14 rfl ?_
  refine v_istore hC dX0_exchange_15 (by decide) [(4, .int ((v1 &&& (((nI 1) <<< (x2 &&& 31)) ^^^ (-1))) ||| ((nI 1) <<< (x3 &&& 31)))), (0, .ref h0), (1, .int x1), (2, .int x2), (3, .int x3)] rfl rfl ?_
  refine v_aload_n hC dX0_exchange_17 rfl 1 rfl rfl ?_
  refine v_get hC iX0_exchange_X0 0 rfl rfl 1 (by decide) kX0_exchange_20 rfl rfl dX0_exchange_18 rfl ?_
  refine v_iconst hC (v := (nI 5)) dX0_exchange_21 (by decide) rfl ?_
  refine v_iload_n hC dX0_exchange_22 rfl 2 rfl rfl ?_
  refine v_iload hC dX0_exchange_23 0 rfl rfl ?_
  obtain ⟨v2, hv2, h⟩ := bind_g h
  refine v_callVwv hC (n := 3) (st := []) [(h0, .inr (0, [.ref q1, .ref q2, .ref q3, .int ec, .int sn, .int dy, .int wg, .int pe, .int pn, .int br])), (q1, .inr (3, [.int (nI 14), .ref a1])), (a1, .inl (cy 0, 84, .inl ex)), (q2, .inr (3, [.int (nI 10), .ref a2])), (a2, .inl (cy 0, 60, .inl v2)), (q3, .inr (3, [.int (nI 1), .ref a3])), (a3, .inl (cy 0, 3, .inl se))] _ (mX5_put l g cy q2 a2 (nI 10) 60 sc (nI 5) x1 ((v1 &&& (((nI 1) <<< (x2 &&& 31)) ^^^ (-1))) ||| ((nI 1) <<< (x3 &&& 31))) hv2) gX0_exchange_X5_put rfl rfl rfl (by decide +kernel) ⟨Nat.le_of_ble_eq_true rfl, Nat.le_of_ble_eq_true rfl⟩ 3 rfl rfl [3, 4] [0, 1, 2, 5, 6] rfl rfl rfl rfl rfl rfl rfl rfl rfl (Nat.le_of_ble_eq_true rfl) rfl ⟨Nat.zero_le _, Nat.zero_le _⟩ dX0_exchange_25 rfl ?_
  refine v_iload hC dX0_exchange_28 0 rfl rfl ?_
  obtain rfl := Option.some.inj h
  exact v_irw hC hr rfl rfl dX0_exchange_30
theorem kX0_exchangeForLowest_37 : Cond.fieldLink RX0 37 "CrowdFaces$Film" "extraCount" "I" ∈ wsX0_exchangeForLowest := by decide +kernel
theorem iX0_exchangeForLowest_X0 : ∀ w ∈ wsX00, w ∈ wsX0_exchangeForLowest := by decide +kernel
def pX0_exchangeForLowest_2 : Nat → Int32 → Int32 → (Nat → Int32) → (Nat → Int32) → Int32 → Int32 → Int32 → Option (Int32 × (Nat → Int32))
  | 0, _, _, _, _, _, _, _ => none
  | k + 1, ec, sn, ex, sc, y1, y2, y3 => if ec ≤ y3 then some ((nI 0), sc) else (pX0_canExchange ec sn ex sc y1 y2 y3).bind fun v1 => if v1 = 0 then pX0_exchangeForLowest_2 k ec sn ex sc y1 y2 (y3 + (nI 1)) else (pX0_exchange sc y1 y2 y3).bind fun v2 => some ((nI 1), v2.2)
theorem pX0_exchangeForLowest_2_s {k : Nat} (ec : Int32) (sn : Int32) (ex : Nat → Int32) (sc : Nat → Int32) (y1 : Int32) (y2 : Int32) (y3 : Int32) : pX0_exchangeForLowest_2 (k + 1) ec sn ex sc y1 y2 y3 = if ec ≤ y3 then some ((nI 0), sc) else (pX0_canExchange ec sn ex sc y1 y2 y3).bind fun v1 => if v1 = 0 then pX0_exchangeForLowest_2 k ec sn ex sc y1 y2 (y3 + (nI 1)) else (pX0_exchange sc y1 y2 y3).bind fun v2 => some ((nI 1), v2.2) := rfl
def pX0_exchangeForLowest (ec : Int32) (sn : Int32) (ex : Nat → Int32) (sc : Nat → Int32) (x1 : Int32) (x2 : Int32) : Option (Int32 × (Nat → Int32)) := pX0_exchangeForLowest_2 FU ec sn ex sc x1 x2 (nI 0)
abbrev rmX0_exchangeForLowest : Room := { frames := 3, cells := 0, slots := 0, locals := 75 }
set_option maxHeartbeats 4000000 in
set_option maxRecDepth 100000 in
theorem bX0_exchangeForLowest_2 {p : Program} {l : Launch} {e : Env} {s : State} {m : MethodId} {args : Array Value} {below : List Frame} {meth : Method} {c : Code} {g : va_G} {cy : Nat → ClassId} (hC : CX p s m args meth c g cy 4 cX0_exchangeForLowest wsX0_exchangeForLowest RX0) (hr : meth.sig.returnType = (some .boolean)) {h0 q1 a1 q2 a2 q3 a3 : Nat} {A : Nat → Prop} {res : Int32 × (Nat → Int32)} : ∀ (k : Nat) (ec : Int32) (sn : Int32) (dy : Int32) (wg : Int32) (pe : Int32) (pn : Int32) (br : Int32) (ex : Nat → Int32) (sc : Nat → Int32) (se : Nat → Int32) (y1 : Int32) (y2 : Int32) (y3 : Int32) (h : pX0_exchangeForLowest_2 k ec sn ex sc y1 y2 y3 = some res), V p l e (headSpec wsX0_exchangeForLowest rmX0_exchangeForLowest).room s m args below meth c g 4 0 0 (MQ below (QWi g A res.1 [(h0, .inr (0, [.ref q1, .ref q2, .ref q3, .int ec, .int sn, .int dy, .int wg, .int pe, .int pn, .int br])), (q1, .inr (3, [.int (nI 14), .ref a1])), (a1, .inl (cy 0, 84, .inl ex)), (q2, .inr (3, [.int (nI 10), .ref a2])), (a2, .inl (cy 0, 60, .inl res.2)), (q3, .inr (3, [.int (nI 1), .ref a3])), (a3, .inl (cy 0, 3, .inl se))]) args s 0 0 A) A A [(h0, .inr (0, [.ref q1, .ref q2, .ref q3, .int ec, .int sn, .int dy, .int wg, .int pe, .int pn, .int br])), (q1, .inr (3, [.int (nI 14), .ref a1])), (a1, .inl (cy 0, 84, .inl ex)), (q2, .inr (3, [.int (nI 10), .ref a2])), (a2, .inl (cy 0, 60, .inl sc)), (q3, .inr (3, [.int (nI 1), .ref a3])), (a3, .inl (cy 0, 3, .inl se))] 2 [(0, .ref h0), (1, .int y1), (2, .int y2), (3, .int y3)] [] := by
  intro k
  induction k with
  | zero =>
    intro ec sn dy wg pe pn br ex sc se y1 y2 y3 h
    have h : (none : Option _) = some res := h
    cases h
  | succ k ih =>
    intro ec sn dy wg pe pn br ex sc se y1 y2 y3 h
    rw [pX0_exchangeForLowest_2_s] at h
    refine v_iload_n hC dX0_exchangeForLowest_2 rfl 3 rfl rfl ?_
    refine v_aload_n hC dX0_exchangeForLowest_3 rfl 0 rfl rfl ?_
    refine v_get hC iX0_exchangeForLowest_X0 0 rfl rfl 3 (by decide) kX0_exchangeForLowest_37 rfl rfl dX0_exchangeForLowest_4 rfl ?_
    refine v_icmp_ge hC (tgt := 36) dX0_exchangeForLowest_7 (by decide) rfl (fun c => ?_) (fun c => ?_)
    · have h := ite_t c h
      refine v_iconst hC (v := (nI 0)) dX0_exchangeForLowest_36 (by decide) rfl ?_
      obtain rfl := Option.some.inj h
      exact v_irw hC hr rfl rfl dX0_exchangeForLowest_37
    · have h := ite_f c h
      refine v_aload_n hC dX0_exchangeForLowest_10 rfl 0 rfl rfl ?_
      refine v_iload_n hC dX0_exchangeForLowest_11 rfl 1 rfl rfl ?_
      refine v_iload_n hC dX0_exchangeForLowest_12 rfl 2 rfl rfl ?_
      refine v_iload_n hC dX0_exchangeForLowest_13 rfl 3 rfl rfl ?_
      obtain ⟨v1, hv1, h⟩ := bind_g h
      refine v_callVri hC (n := 3) (st := []) (mX0_canExchange l g cy h0 q1 a1 q2 a2 q3 a3 ec sn dy wg pe pn br ex sc se y1 y2 y3 hv1) gX0_exchangeForLowest_X0_canExchange rfl rfl rfl (by decide +kernel) ⟨Nat.le_of_ble_eq_true rfl, Nat.le_of_ble_eq_true rfl⟩ 0 rfl rfl [0, 1, 2, 3, 4, 5, 6] rfl rfl rfl rfl (Nat.le_of_ble_eq_true rfl) rfl ⟨Nat.zero_le _, Nat.zero_le _⟩ dX0_exchangeForLowest_14 rfl ?_
      refine v_if_eq hC (tgt := 30) dX0_exchangeForLowest_17 (by decide) rfl (fun c => ?_) (fun c => ?_)
      · have h := ite_t c h
        refine v_iinc hC dX0_exchangeForLowest_30 3 rfl (v := (y3 + (nI 1))) rfl (by decide) [(3, .int (y3 + (nI 1))), (0, .ref h0), (1, .int y1), (2, .int y2)] rfl rfl ?_
        refine v_goto hC (tgt := 2) dX0_exchangeForLowest_33 (by decide) ?_
        exact v_sub [1, 2, 3, 0] (lv' := [(0, .ref h0), (1, .int y1), (2, .int y2), (3, .int (y3 + (nI 1)))]) rfl (ih _ _ _ _ _ _ _ _ _ _ _ _ _ h)
      · have h := ite_f c h
        refine v_aload_n hC dX0_exchangeForLowest_20 rfl 0 rfl rfl ?_
        refine v_iload_n hC dX0_exchangeForLowest_21 rfl 1 rfl rfl ?_
        refine v_iload_n hC dX0_exchangeForLowest_22 rfl 2 rfl rfl ?_
        refine v_iload_n hC dX0_exchangeForLowest_23 rfl 3 rfl rfl ?_
        obtain ⟨v2, hv2, h⟩ := bind_g h
        refine v_callVwi hC (n := 3) (st := []) [(h0, .inr (0, [.ref q1, .ref q2, .ref q3, .int ec, .int sn, .int dy, .int wg, .int pe, .int pn, .int br])), (q1, .inr (3, [.int (nI 14), .ref a1])), (a1, .inl (cy 0, 84, .inl ex)), (q2, .inr (3, [.int (nI 10), .ref a2])), (a2, .inl (cy 0, 60, .inl v2.2)), (q3, .inr (3, [.int (nI 1), .ref a3])), (a3, .inl (cy 0, 3, .inl se))] _ (mX0_exchange l g cy h0 q1 a1 q2 a2 q3 a3 ec sn dy wg pe pn br ex sc se y1 y2 y3 hv2) gX0_exchangeForLowest_X0_exchange rfl rfl rfl (by decide +kernel) ⟨Nat.le_of_ble_eq_true rfl, Nat.le_of_ble_eq_true rfl⟩ 0 rfl rfl [0, 1, 2, 3, 4, 5, 6] [] rfl rfl rfl rfl rfl rfl rfl rfl rfl (Nat.le_of_ble_eq_true rfl) rfl ⟨Nat.zero_le _, Nat.zero_le _⟩ dX0_exchangeForLowest_24 rfl ?_
        refine v_pop hC dX0_exchangeForLowest_27 rfl rfl ?_
        refine v_iconst hC (v := (nI 1)) dX0_exchangeForLowest_28 (by decide) rfl ?_
        obtain rfl := Option.some.inj h
        exact v_irw hC hr rfl rfl dX0_exchangeForLowest_29
set_option maxHeartbeats 4000000 in
set_option maxRecDepth 100000 in
theorem mX0_exchangeForLowest (l : Launch) (g : va_G) (cy : Nat → ClassId) (h0 q1 a1 q2 a2 q3 a3 : Nat) (ec : Int32) (sn : Int32) (dy : Int32) (wg : Int32) (pe : Int32) (pn : Int32) (br : Int32) (ex : Nat → Int32) (sc : Nat → Int32) (se : Nat → Int32) (x1 : Int32) (x2 : Int32) {res : Int32 × (Nat → Int32)} (h : pX0_exchangeForLowest ec sn ex sc x1 x2 = some res) : Met l yX0_exchangeForLowest wsX0_exchangeForLowest rmX0_exchangeForLowest (PW [.ref h0, .int x1, .int x2] g cy [(h0, .inr (0, [.ref q1, .ref q2, .ref q3, .int ec, .int sn, .int dy, .int wg, .int pe, .int pn, .int br])), (q1, .inr (3, [.int (nI 14), .ref a1])), (a1, .inl (cy 0, 84, .inl ex)), (q2, .inr (3, [.int (nI 10), .ref a2])), (a2, .inl (cy 0, 60, .inl sc)), (q3, .inr (3, [.int (nI 1), .ref a3])), (a3, .inl (cy 0, 3, .inl se))]) (QWi g (wA [(h0, .inr (0, [.ref q1, .ref q2, .ref q3, .int ec, .int sn, .int dy, .int wg, .int pe, .int pn, .int br])), (q1, .inr (3, [.int (nI 14), .ref a1])), (a1, .inl (cy 0, 84, .inl ex)), (q2, .inr (3, [.int (nI 10), .ref a2])), (a2, .inl (cy 0, 60, .inl sc)), (q3, .inr (3, [.int (nI 1), .ref a3])), (a3, .inl (cy 0, 3, .inl se))]) res.1 [(h0, .inr (0, [.ref q1, .ref q2, .ref q3, .int ec, .int sn, .int dy, .int wg, .int pe, .int pn, .int br])), (q1, .inr (3, [.int (nI 14), .ref a1])), (a1, .inl (cy 0, 84, .inl ex)), (q2, .inr (3, [.int (nI 10), .ref a2])), (a2, .inl (cy 0, 60, .inl res.2)), (q3, .inr (3, [.int (nI 1), .ref a3])), (a3, .inl (cy 0, 3, .inl se))]) 0 0 (wA [(h0, .inr (0, [.ref q1, .ref q2, .ref q3, .int ec, .int sn, .int dy, .int wg, .int pe, .int pn, .int br])), (q1, .inr (3, [.int (nI 14), .ref a1])), (a1, .inl (cy 0, 84, .inl ex)), (q2, .inr (3, [.int (nI 10), .ref a2])), (a2, .inl (cy 0, 60, .inl sc)), (q3, .inr (3, [.int (nI 1), .ref a3])), (a3, .inl (cy 0, 3, .inl se))]) := by
  refine m_ofV (cc := cX0_exchangeForLowest) (nL := 4) (ret := (some .boolean)) (B := (wA [(h0, .inr (0, [.ref q1, .ref q2, .ref q3, .int ec, .int sn, .int dy, .int wg, .int pe, .int pn, .int br])), (q1, .inr (3, [.int (nI 14), .ref a1])), (a1, .inl (cy 0, 84, .inl ex)), (q2, .inr (3, [.int (nI 10), .ref a2])), (a2, .inl (cy 0, 60, .inl sc)), (q3, .inr (3, [.int (nI 1), .ref a3])), (a3, .inl (cy 0, 3, .inl se))])) RX0 rfl (by decide) rfl [(0, .ref h0), (1, .int x1), (2, .int x2)] rfl (Nat.le_of_ble_eq_true rfl) (wA.self) ?_
  intro p e s m args below meth c hC hr
  generalize (wA [(h0, .inr (0, [.ref q1, .ref q2, .ref q3, .int ec, .int sn, .int dy, .int wg, .int pe, .int pn, .int br])), (q1, .inr (3, [.int (nI 14), .ref a1])), (a1, .inl (cy 0, 84, .inl ex)), (q2, .inr (3, [.int (nI 10), .ref a2])), (a2, .inl (cy 0, 60, .inl sc)), (q3, .inr (3, [.int (nI 1), .ref a3])), (a3, .inl (cy 0, 3, .inl se))]) = A
  unfold pX0_exchangeForLowest at h
  refine v_iconst hC (v := (nI 0)) dX0_exchangeForLowest_0 (by decide) rfl ?_
  refine v_istore_n hC dX0_exchangeForLowest_1 rfl (by decide) [(3, .int (nI 0)), (0, .ref h0), (1, .int x1), (2, .int x2)] rfl rfl ?_
  exact v_sub [1, 2, 3, 0] (lv' := [(0, .ref h0), (1, .int x1), (2, .int x2), (3, .int (nI 0))]) rfl (bX0_exchangeForLowest_2 hC hr FU _ _ _ _ _ _ _ _ _ _ _ _ _ h)
theorem kX0_eat_14 : Cond.fieldLink RX0 14 "CrowdFaces$Film" "extras" "LCrowdFaces$Table;" ∈ wsX0_eat := by decide +kernel
theorem kX0_eat_37 : Cond.fieldLink RX0 37 "CrowdFaces$Film" "extraCount" "I" ∈ wsX0_eat := by decide +kernel
theorem iX0_eat_X0 : ∀ w ∈ wsX00, w ∈ wsX0_eat := by decide +kernel
def pX0_eat_30 (kk : Int32 → (Nat → Int32) → Int32 → Int32 → Option (Int32 × (Nat → Int32))) (ec : Int32) (ex : Nat → Int32) (y1 : Int32) (y2 : Int32) : Option (Int32 × (Nat → Int32)) := kk ec ex y1 (y2 + (nI 1))
def pX0_eat_4 : Nat → Int32 → (Nat → Int32) → Int32 → Int32 → Option (Int32 × (Nat → Int32))
  | 0, _, _, _, _ => none
  | k + 1, ec, ex, y1, y2 => if ec ≤ y2 then (pX5_fillKind (nI 14) 84 ex (nI 3) (nI 0)).bind fun v1 => (pX5_fillKind (nI 14) 84 v1 (nI 4) (nI 0)).bind fun v2 => some (y1, v2) else (pX5_get (nI 14) 84 ex (nI 3) y2).bind fun v3 => if v3 ≤ (nI 360) then pX0_eat_30 (fun u0 u1 u2 u3 => pX0_eat_4 k u0 u1 u2 u3) ec ex y1 y2 else pX0_eat_30 (fun u0 u1 u2 u3 => pX0_eat_4 k u0 u1 u2 u3) ec ex (y1 + (nI 1)) y2
theorem pX0_eat_4_s {k : Nat} (ec : Int32) (ex : Nat → Int32) (y1 : Int32) (y2 : Int32) : pX0_eat_4 (k + 1) ec ex y1 y2 = if ec ≤ y2 then (pX5_fillKind (nI 14) 84 ex (nI 3) (nI 0)).bind fun v1 => (pX5_fillKind (nI 14) 84 v1 (nI 4) (nI 0)).bind fun v2 => some (y1, v2) else (pX5_get (nI 14) 84 ex (nI 3) y2).bind fun v3 => if v3 ≤ (nI 360) then pX0_eat_30 (fun u0 u1 u2 u3 => pX0_eat_4 k u0 u1 u2 u3) ec ex y1 y2 else pX0_eat_30 (fun u0 u1 u2 u3 => pX0_eat_4 k u0 u1 u2 u3) ec ex (y1 + (nI 1)) y2 := rfl
def pX0_eat (ec : Int32) (ex : Nat → Int32) : Option (Int32 × (Nat → Int32)) := pX0_eat_4 FU ec ex (nI 0) (nI 0)
abbrev rmX0_eat : Room := { frames := 2, cells := 0, slots := 0, locals := 47 }
set_option maxHeartbeats 4000000 in
set_option maxRecDepth 100000 in
theorem bX0_eat_30 {p : Program} {l : Launch} {e : Env} {s : State} {m : MethodId} {args : Array Value} {below : List Frame} {meth : Method} {c : Code} {g : va_G} {cy : Nat → ClassId} (hC : CX p s m args meth c g cy 3 cX0_eat wsX0_eat RX0) (hr : meth.sig.returnType = (some .int)) {h0 q1 a1 q2 a2 q3 a3 : Nat} {A : Nat → Prop} {res : Int32 × (Nat → Int32)} : ∀ (ec : Int32) (sn : Int32) (dy : Int32) (wg : Int32) (pe : Int32) (pn : Int32) (br : Int32) (ex : Nat → Int32) (sc : Nat → Int32) (se : Nat → Int32) (y1 : Int32) (y2 : Int32) {kk : Int32 → (Nat → Int32) → Int32 → Int32 → Option (Int32 × (Nat → Int32))} (hk : ∀ (ec : Int32) (sn : Int32) (dy : Int32) (wg : Int32) (pe : Int32) (pn : Int32) (br : Int32) (ex : Nat → Int32) (sc : Nat → Int32) (se : Nat → Int32) (y1 : Int32) (y2 : Int32), kk ec ex y1 y2 = some res → V p l e (headSpec wsX0_eat rmX0_eat).room s m args below meth c g 3 0 0 (MQ below (QWi g A res.1 [(h0, .inr (0, [.ref q1, .ref q2, .ref q3, .int ec, .int sn, .int dy, .int wg, .int pe, .int pn, .int br])), (q1, .inr (3, [.int (nI 14), .ref a1])), (a1, .inl (cy 0, 84, .inl res.2)), (q2, .inr (3, [.int (nI 10), .ref a2])), (a2, .inl (cy 0, 60, .inl sc)), (q3, .inr (3, [.int (nI 1), .ref a3])), (a3, .inl (cy 0, 3, .inl se))]) args s 0 0 A) A A [(h0, .inr (0, [.ref q1, .ref q2, .ref q3, .int ec, .int sn, .int dy, .int wg, .int pe, .int pn, .int br])), (q1, .inr (3, [.int (nI 14), .ref a1])), (a1, .inl (cy 0, 84, .inl ex)), (q2, .inr (3, [.int (nI 10), .ref a2])), (a2, .inl (cy 0, 60, .inl sc)), (q3, .inr (3, [.int (nI 1), .ref a3])), (a3, .inl (cy 0, 3, .inl se))] 4 [(0, .ref h0), (1, .int y1), (2, .int y2)] []) (h : pX0_eat_30 kk ec ex y1 y2 = some res), V p l e (headSpec wsX0_eat rmX0_eat).room s m args below meth c g 3 0 0 (MQ below (QWi g A res.1 [(h0, .inr (0, [.ref q1, .ref q2, .ref q3, .int ec, .int sn, .int dy, .int wg, .int pe, .int pn, .int br])), (q1, .inr (3, [.int (nI 14), .ref a1])), (a1, .inl (cy 0, 84, .inl res.2)), (q2, .inr (3, [.int (nI 10), .ref a2])), (a2, .inl (cy 0, 60, .inl sc)), (q3, .inr (3, [.int (nI 1), .ref a3])), (a3, .inl (cy 0, 3, .inl se))]) args s 0 0 A) A A [(h0, .inr (0, [.ref q1, .ref q2, .ref q3, .int ec, .int sn, .int dy, .int wg, .int pe, .int pn, .int br])), (q1, .inr (3, [.int (nI 14), .ref a1])), (a1, .inl (cy 0, 84, .inl ex)), (q2, .inr (3, [.int (nI 10), .ref a2])), (a2, .inl (cy 0, 60, .inl sc)), (q3, .inr (3, [.int (nI 1), .ref a3])), (a3, .inl (cy 0, 3, .inl se))] 30 [(0, .ref h0), (1, .int y1), (2, .int y2)] [] := by
  intro ec sn dy wg pe pn br ex sc se y1 y2 kk hk h
  unfold pX0_eat_30 at h
  refine v_iinc hC dX0_eat_30 2 rfl (v := (y2 + (nI 1))) rfl (by decide) [(2, .int (y2 + (nI 1))), (0, .ref h0), (1, .int y1)] rfl rfl ?_
  refine v_goto hC (tgt := 4) dX0_eat_33 (by decide) ?_
  exact v_sub [1, 2, 0] (lv' := [(0, .ref h0), (1, .int y1), (2, .int (y2 + (nI 1)))]) rfl (hk _ _ _ _ _ _ _ _ _ _ _ _ h)
set_option maxHeartbeats 4000000 in
set_option maxRecDepth 100000 in
theorem bX0_eat_4 {p : Program} {l : Launch} {e : Env} {s : State} {m : MethodId} {args : Array Value} {below : List Frame} {meth : Method} {c : Code} {g : va_G} {cy : Nat → ClassId} (hC : CX p s m args meth c g cy 3 cX0_eat wsX0_eat RX0) (hr : meth.sig.returnType = (some .int)) {h0 q1 a1 q2 a2 q3 a3 : Nat} {A : Nat → Prop} {res : Int32 × (Nat → Int32)} : ∀ (k : Nat) (ec : Int32) (sn : Int32) (dy : Int32) (wg : Int32) (pe : Int32) (pn : Int32) (br : Int32) (ex : Nat → Int32) (sc : Nat → Int32) (se : Nat → Int32) (y1 : Int32) (y2 : Int32) (h : pX0_eat_4 k ec ex y1 y2 = some res), V p l e (headSpec wsX0_eat rmX0_eat).room s m args below meth c g 3 0 0 (MQ below (QWi g A res.1 [(h0, .inr (0, [.ref q1, .ref q2, .ref q3, .int ec, .int sn, .int dy, .int wg, .int pe, .int pn, .int br])), (q1, .inr (3, [.int (nI 14), .ref a1])), (a1, .inl (cy 0, 84, .inl res.2)), (q2, .inr (3, [.int (nI 10), .ref a2])), (a2, .inl (cy 0, 60, .inl sc)), (q3, .inr (3, [.int (nI 1), .ref a3])), (a3, .inl (cy 0, 3, .inl se))]) args s 0 0 A) A A [(h0, .inr (0, [.ref q1, .ref q2, .ref q3, .int ec, .int sn, .int dy, .int wg, .int pe, .int pn, .int br])), (q1, .inr (3, [.int (nI 14), .ref a1])), (a1, .inl (cy 0, 84, .inl ex)), (q2, .inr (3, [.int (nI 10), .ref a2])), (a2, .inl (cy 0, 60, .inl sc)), (q3, .inr (3, [.int (nI 1), .ref a3])), (a3, .inl (cy 0, 3, .inl se))] 4 [(0, .ref h0), (1, .int y1), (2, .int y2)] [] := by
  intro k
  induction k with
  | zero =>
    intro ec sn dy wg pe pn br ex sc se y1 y2 h
    have h : (none : Option _) = some res := h
    cases h
  | succ k ih =>
    intro ec sn dy wg pe pn br ex sc se y1 y2 h
    rw [pX0_eat_4_s] at h
    refine v_iload_n hC dX0_eat_4 rfl 2 rfl rfl ?_
    refine v_aload_n hC dX0_eat_5 rfl 0 rfl rfl ?_
    refine v_get hC iX0_eat_X0 0 rfl rfl 3 (by decide) kX0_eat_37 rfl rfl dX0_eat_6 rfl ?_
    refine v_icmp_ge hC (tgt := 36) dX0_eat_9 (by decide) rfl (fun c => ?_) (fun c => ?_)
    · have h := ite_t c h
      refine v_aload_n hC dX0_eat_36 rfl 0 rfl rfl ?_
      refine v_get hC iX0_eat_X0 0 rfl rfl 0 (by decide) kX0_eat_14 rfl rfl dX0_eat_37 rfl ?_
      refine v_iconst hC (v := (nI 3)) dX0_eat_40 (by decide) rfl ?_
      refine v_iconst hC (v := (nI 0)) dX0_eat_41 (by decide) rfl ?_
      obtain ⟨v1, hv1, h⟩ := bind_g h
      refine v_callVwv hC (n := 2) (st := []) [(h0, .inr (0, [.ref q1, .ref q2, .ref q3, .int ec, .int sn, .int dy, .int wg, .int pe, .int pn, .int br])), (q1, .inr (3, [.int (nI 14), .ref a1])), (a1, .inl (cy 0, 84, .inl v1)), (q2, .inr (3, [.int (nI 10), .ref a2])), (a2, .inl (cy 0, 60, .inl sc)), (q3, .inr (3, [.int (nI 1), .ref a3])), (a3, .inl (cy 0, 3, .inl se))] _ (mX5_fillKind l g cy q1 a1 (nI 14) 84 ex (nI 3) (nI 0) hv1) gX0_eat_X5_fillKind rfl rfl rfl (by decide +kernel) ⟨Nat.le_of_ble_eq_true rfl, Nat.le_of_ble_eq_true rfl⟩ 1 rfl rfl [1, 2] [0, 3, 4, 5, 6] rfl rfl rfl rfl rfl rfl rfl rfl rfl (Nat.le_of_ble_eq_true rfl) rfl ⟨Nat.zero_le _, Nat.zero_le _⟩ dX0_eat_42 rfl ?_
      refine v_aload_n hC dX0_eat_45 rfl 0 rfl rfl ?_
      refine v_get hC iX0_eat_X0 0 rfl rfl 0 (by decide) kX0_eat_14 rfl rfl dX0_eat_46 rfl ?_
      refine v_iconst hC (v := (nI 4)) dX0_eat_49 (by decide) rfl ?_
      refine v_iconst hC (v := (nI 0)) dX0_eat_50 (by decide) rfl ?_
      obtain ⟨v2, hv2, h⟩ := bind_g h
      refine v_callVwv hC (n := 2) (st := []) [(h0, .inr (0, [.ref q1, .ref q2, .ref q3, .int ec, .int sn, .int dy, .int wg, .int pe, .int pn, .int br])), (q1, .inr (3, [.int (nI 14), .ref a1])), (a1, .inl (cy 0, 84, .inl v2)), (q2, .inr (3, [.int (nI 10), .ref a2])), (a2, .inl (cy 0, 60, .inl sc)), (q3, .inr (3, [.int (nI 1), .ref a3])), (a3, .inl (cy 0, 3, .inl se))] _ (mX5_fillKind l g cy q1 a1 (nI 14) 84 v1 (nI 4) (nI 0) hv2) gX0_eat_X5_fillKind rfl rfl rfl (by decide +kernel) ⟨Nat.le_of_ble_eq_true rfl, Nat.le_of_ble_eq_true rfl⟩ 1 rfl rfl [1, 2] [0, 3, 4, 5, 6] rfl rfl rfl rfl rfl rfl rfl rfl rfl (Nat.le_of_ble_eq_true rfl) rfl ⟨Nat.zero_le _, Nat.zero_le _⟩ dX0_eat_51 rfl ?_
      refine v_iload_n hC dX0_eat_54 rfl 1 rfl rfl ?_
      obtain rfl := Option.some.inj h
      exact v_irw hC hr rfl rfl dX0_eat_55
    · have h := ite_f c h
      refine v_aload_n hC dX0_eat_12 rfl 0 rfl rfl ?_
      refine v_get hC iX0_eat_X0 0 rfl rfl 0 (by decide) kX0_eat_14 rfl rfl dX0_eat_13 rfl ?_
      refine v_iconst hC (v := (nI 3)) dX0_eat_16 (by decide) rfl ?_
      refine v_iload_n hC dX0_eat_17 rfl 2 rfl rfl ?_
      obtain ⟨v3, hv3, h⟩ := bind_g h
      refine v_callVri hC (n := 2) (st := []) (mX5_get l g cy q1 a1 (nI 14) 84 ex (nI 3) y2 hv3) gX0_eat_X5_get rfl rfl rfl (by decide +kernel) ⟨Nat.le_of_ble_eq_true rfl, Nat.le_of_ble_eq_true rfl⟩ 1 rfl rfl [1, 2] rfl rfl rfl rfl (Nat.le_of_ble_eq_true rfl) rfl ⟨Nat.zero_le _, Nat.zero_le _⟩ dX0_eat_18 rfl ?_
      refine v_sipush hC (v := (nI 360)) dX0_eat_21 (by decide) rfl ?_
      refine v_icmp_le hC (tgt := 30) dX0_eat_24 (by decide) rfl (fun c => ?_) (fun c => ?_)
      · have h := ite_t c h
        exact bX0_eat_30 hC hr _ _ _ _ _ _ _ _ _ _ _ _ ih h
      · have h := ite_f c h
        refine v_iinc hC dX0_eat_27 1 rfl (v := (y1 + (nI 1))) rfl (by decide) [(1, .int (y1 + (nI 1))), (0, .ref h0), (2, .int y2)] rfl rfl ?_
        exact v_sub [1, 0, 2] (lv' := [(0, .ref h0), (1, .int (y1 + (nI 1))), (2, .int y2)]) rfl (bX0_eat_30 hC hr _ _ _ _ _ _ _ _ _ _ _ _ ih h)
set_option maxHeartbeats 4000000 in
set_option maxRecDepth 100000 in
theorem mX0_eat (l : Launch) (g : va_G) (cy : Nat → ClassId) (h0 q1 a1 q2 a2 q3 a3 : Nat) (ec : Int32) (sn : Int32) (dy : Int32) (wg : Int32) (pe : Int32) (pn : Int32) (br : Int32) (ex : Nat → Int32) (sc : Nat → Int32) (se : Nat → Int32)  {res : Int32 × (Nat → Int32)} (h : pX0_eat ec ex = some res) : Met l yX0_eat wsX0_eat rmX0_eat (PW [.ref h0] g cy [(h0, .inr (0, [.ref q1, .ref q2, .ref q3, .int ec, .int sn, .int dy, .int wg, .int pe, .int pn, .int br])), (q1, .inr (3, [.int (nI 14), .ref a1])), (a1, .inl (cy 0, 84, .inl ex)), (q2, .inr (3, [.int (nI 10), .ref a2])), (a2, .inl (cy 0, 60, .inl sc)), (q3, .inr (3, [.int (nI 1), .ref a3])), (a3, .inl (cy 0, 3, .inl se))]) (QWi g (wA [(h0, .inr (0, [.ref q1, .ref q2, .ref q3, .int ec, .int sn, .int dy, .int wg, .int pe, .int pn, .int br])), (q1, .inr (3, [.int (nI 14), .ref a1])), (a1, .inl (cy 0, 84, .inl ex)), (q2, .inr (3, [.int (nI 10), .ref a2])), (a2, .inl (cy 0, 60, .inl sc)), (q3, .inr (3, [.int (nI 1), .ref a3])), (a3, .inl (cy 0, 3, .inl se))]) res.1 [(h0, .inr (0, [.ref q1, .ref q2, .ref q3, .int ec, .int sn, .int dy, .int wg, .int pe, .int pn, .int br])), (q1, .inr (3, [.int (nI 14), .ref a1])), (a1, .inl (cy 0, 84, .inl res.2)), (q2, .inr (3, [.int (nI 10), .ref a2])), (a2, .inl (cy 0, 60, .inl sc)), (q3, .inr (3, [.int (nI 1), .ref a3])), (a3, .inl (cy 0, 3, .inl se))]) 0 0 (wA [(h0, .inr (0, [.ref q1, .ref q2, .ref q3, .int ec, .int sn, .int dy, .int wg, .int pe, .int pn, .int br])), (q1, .inr (3, [.int (nI 14), .ref a1])), (a1, .inl (cy 0, 84, .inl ex)), (q2, .inr (3, [.int (nI 10), .ref a2])), (a2, .inl (cy 0, 60, .inl sc)), (q3, .inr (3, [.int (nI 1), .ref a3])), (a3, .inl (cy 0, 3, .inl se))]) := by
  refine m_ofV (cc := cX0_eat) (nL := 3) (ret := (some .int)) (B := (wA [(h0, .inr (0, [.ref q1, .ref q2, .ref q3, .int ec, .int sn, .int dy, .int wg, .int pe, .int pn, .int br])), (q1, .inr (3, [.int (nI 14), .ref a1])), (a1, .inl (cy 0, 84, .inl ex)), (q2, .inr (3, [.int (nI 10), .ref a2])), (a2, .inl (cy 0, 60, .inl sc)), (q3, .inr (3, [.int (nI 1), .ref a3])), (a3, .inl (cy 0, 3, .inl se))])) RX0 rfl (by decide) rfl [(0, .ref h0)] rfl (Nat.le_of_ble_eq_true rfl) (wA.self) ?_
  intro p e s m args below meth c hC hr
  generalize (wA [(h0, .inr (0, [.ref q1, .ref q2, .ref q3, .int ec, .int sn, .int dy, .int wg, .int pe, .int pn, .int br])), (q1, .inr (3, [.int (nI 14), .ref a1])), (a1, .inl (cy 0, 84, .inl ex)), (q2, .inr (3, [.int (nI 10), .ref a2])), (a2, .inl (cy 0, 60, .inl sc)), (q3, .inr (3, [.int (nI 1), .ref a3])), (a3, .inl (cy 0, 3, .inl se))]) = A
  unfold pX0_eat at h
  refine v_iconst hC (v := (nI 0)) dX0_eat_0 (by decide) rfl ?_
  refine v_istore_n hC dX0_eat_1 rfl (by decide) [(1, .int (nI 0)), (0, .ref h0)] rfl rfl ?_
  refine v_iconst hC (v := (nI 0)) dX0_eat_2 (by decide) rfl ?_
  refine v_istore_n hC dX0_eat_3 rfl (by decide) [(2, .int (nI 0)), (1, .int (nI 0)), (0, .ref h0)] rfl rfl ?_
  exact v_sub [2, 1, 0] (lv' := [(0, .ref h0), (1, .int (nI 0)), (2, .int (nI 0))]) rfl (bX0_eat_4 hC hr FU _ _ _ _ _ _ _ _ _ _ _ _ h)
theorem kX0_beginDay_14 : Cond.fieldLink RX0 14 "CrowdFaces$Film" "extras" "LCrowdFaces$Table;" ∈ wsX0_beginDay := by decide +kernel
theorem kX0_beginDay_44 : Cond.fieldLink RX0 44 "CrowdFaces$Film" "days" "I" ∈ wsX0_beginDay := by decide +kernel
theorem iX0_beginDay_X0 : ∀ w ∈ wsX00, w ∈ wsX0_beginDay := by decide +kernel
def pX0_beginDay (dy : Int32) (ex : Nat → Int32) : Option (Int32 × Int32 × (Nat → Int32)) := (pX5_fillKind (nI 14) 84 ex (nI 2) (nI 0)).bind fun v1 => (pX5_fillKind (nI 14) 84 v1 (nI 3) (nI 0)).bind fun v2 => (pX5_fillKind (nI 14) 84 v2 (nI 4) (nI 0)).bind fun v3 => some ((dy + (nI 1)), (dy + (nI 1)), v3)
abbrev rmX0_beginDay : Room := { frames := 2, cells := 0, slots := 0, locals := 47 }
set_option maxHeartbeats 4000000 in
set_option maxRecDepth 100000 in
theorem mX0_beginDay (l : Launch) (g : va_G) (cy : Nat → ClassId) (h0 q1 a1 q2 a2 q3 a3 : Nat) (ec : Int32) (sn : Int32) (dy : Int32) (wg : Int32) (pe : Int32) (pn : Int32) (br : Int32) (ex : Nat → Int32) (sc : Nat → Int32) (se : Nat → Int32)  {res : Int32 × Int32 × (Nat → Int32)} (h : pX0_beginDay dy ex = some res) : Met l yX0_beginDay wsX0_beginDay rmX0_beginDay (PW [.ref h0] g cy [(h0, .inr (0, [.ref q1, .ref q2, .ref q3, .int ec, .int sn, .int dy, .int wg, .int pe, .int pn, .int br])), (q1, .inr (3, [.int (nI 14), .ref a1])), (a1, .inl (cy 0, 84, .inl ex)), (q2, .inr (3, [.int (nI 10), .ref a2])), (a2, .inl (cy 0, 60, .inl sc)), (q3, .inr (3, [.int (nI 1), .ref a3])), (a3, .inl (cy 0, 3, .inl se))]) (QWi g (wA [(h0, .inr (0, [.ref q1, .ref q2, .ref q3, .int ec, .int sn, .int dy, .int wg, .int pe, .int pn, .int br])), (q1, .inr (3, [.int (nI 14), .ref a1])), (a1, .inl (cy 0, 84, .inl ex)), (q2, .inr (3, [.int (nI 10), .ref a2])), (a2, .inl (cy 0, 60, .inl sc)), (q3, .inr (3, [.int (nI 1), .ref a3])), (a3, .inl (cy 0, 3, .inl se))]) res.1 [(h0, .inr (0, [.ref q1, .ref q2, .ref q3, .int ec, .int sn, .int res.2.1, .int wg, .int pe, .int pn, .int br])), (q1, .inr (3, [.int (nI 14), .ref a1])), (a1, .inl (cy 0, 84, .inl res.2.2)), (q2, .inr (3, [.int (nI 10), .ref a2])), (a2, .inl (cy 0, 60, .inl sc)), (q3, .inr (3, [.int (nI 1), .ref a3])), (a3, .inl (cy 0, 3, .inl se))]) 0 0 (wA [(h0, .inr (0, [.ref q1, .ref q2, .ref q3, .int ec, .int sn, .int dy, .int wg, .int pe, .int pn, .int br])), (q1, .inr (3, [.int (nI 14), .ref a1])), (a1, .inl (cy 0, 84, .inl ex)), (q2, .inr (3, [.int (nI 10), .ref a2])), (a2, .inl (cy 0, 60, .inl sc)), (q3, .inr (3, [.int (nI 1), .ref a3])), (a3, .inl (cy 0, 3, .inl se))]) := by
  refine m_ofV (cc := cX0_beginDay) (nL := 1) (ret := (some .int)) (B := (wA [(h0, .inr (0, [.ref q1, .ref q2, .ref q3, .int ec, .int sn, .int dy, .int wg, .int pe, .int pn, .int br])), (q1, .inr (3, [.int (nI 14), .ref a1])), (a1, .inl (cy 0, 84, .inl ex)), (q2, .inr (3, [.int (nI 10), .ref a2])), (a2, .inl (cy 0, 60, .inl sc)), (q3, .inr (3, [.int (nI 1), .ref a3])), (a3, .inl (cy 0, 3, .inl se))])) RX0 rfl (by decide) rfl [(0, .ref h0)] rfl (Nat.le_of_ble_eq_true rfl) (wA.self) ?_
  intro p e s m args below meth c hC hr
  generalize (wA [(h0, .inr (0, [.ref q1, .ref q2, .ref q3, .int ec, .int sn, .int dy, .int wg, .int pe, .int pn, .int br])), (q1, .inr (3, [.int (nI 14), .ref a1])), (a1, .inl (cy 0, 84, .inl ex)), (q2, .inr (3, [.int (nI 10), .ref a2])), (a2, .inl (cy 0, 60, .inl sc)), (q3, .inr (3, [.int (nI 1), .ref a3])), (a3, .inl (cy 0, 3, .inl se))]) = A
  unfold pX0_beginDay at h
  refine v_aload_n hC dX0_beginDay_0 rfl 0 rfl rfl ?_
  refine v_get hC iX0_beginDay_X0 0 rfl rfl 0 (by decide) kX0_beginDay_14 rfl rfl dX0_beginDay_1 rfl ?_
  refine v_iconst hC (v := (nI 2)) dX0_beginDay_4 (by decide) rfl ?_
  refine v_iconst hC (v := (nI 0)) dX0_beginDay_5 (by decide) rfl ?_
  obtain ⟨v1, hv1, h⟩ := bind_g h
  refine v_callVwv hC (n := 2) (st := []) [(h0, .inr (0, [.ref q1, .ref q2, .ref q3, .int ec, .int sn, .int dy, .int wg, .int pe, .int pn, .int br])), (q1, .inr (3, [.int (nI 14), .ref a1])), (a1, .inl (cy 0, 84, .inl v1)), (q2, .inr (3, [.int (nI 10), .ref a2])), (a2, .inl (cy 0, 60, .inl sc)), (q3, .inr (3, [.int (nI 1), .ref a3])), (a3, .inl (cy 0, 3, .inl se))] _ (mX5_fillKind l g cy q1 a1 (nI 14) 84 ex (nI 2) (nI 0) hv1) gX0_beginDay_X5_fillKind rfl rfl rfl (by decide +kernel) ⟨Nat.le_of_ble_eq_true rfl, Nat.le_of_ble_eq_true rfl⟩ 1 rfl rfl [1, 2] [0, 3, 4, 5, 6] rfl rfl rfl rfl rfl rfl rfl rfl rfl (Nat.le_of_ble_eq_true rfl) rfl ⟨Nat.zero_le _, Nat.zero_le _⟩ dX0_beginDay_6 rfl ?_
  refine v_aload_n hC dX0_beginDay_9 rfl 0 rfl rfl ?_
  refine v_get hC iX0_beginDay_X0 0 rfl rfl 0 (by decide) kX0_beginDay_14 rfl rfl dX0_beginDay_10 rfl ?_
  refine v_iconst hC (v := (nI 3)) dX0_beginDay_13 (by decide) rfl ?_
  refine v_iconst hC (v := (nI 0)) dX0_beginDay_14 (by decide) rfl ?_
  obtain ⟨v2, hv2, h⟩ := bind_g h
  refine v_callVwv hC (n := 2) (st := []) [(h0, .inr (0, [.ref q1, .ref q2, .ref q3, .int ec, .int sn, .int dy, .int wg, .int pe, .int pn, .int br])), (q1, .inr (3, [.int (nI 14), .ref a1])), (a1, .inl (cy 0, 84, .inl v2)), (q2, .inr (3, [.int (nI 10), .ref a2])), (a2, .inl (cy 0, 60, .inl sc)), (q3, .inr (3, [.int (nI 1), .ref a3])), (a3, .inl (cy 0, 3, .inl se))] _ (mX5_fillKind l g cy q1 a1 (nI 14) 84 v1 (nI 3) (nI 0) hv2) gX0_beginDay_X5_fillKind rfl rfl rfl (by decide +kernel) ⟨Nat.le_of_ble_eq_true rfl, Nat.le_of_ble_eq_true rfl⟩ 1 rfl rfl [1, 2] [0, 3, 4, 5, 6] rfl rfl rfl rfl rfl rfl rfl rfl rfl (Nat.le_of_ble_eq_true rfl) rfl ⟨Nat.zero_le _, Nat.zero_le _⟩ dX0_beginDay_15 rfl ?_
  refine v_aload_n hC dX0_beginDay_18 rfl 0 rfl rfl ?_
  refine v_get hC iX0_beginDay_X0 0 rfl rfl 0 (by decide) kX0_beginDay_14 rfl rfl dX0_beginDay_19 rfl ?_
  refine v_iconst hC (v := (nI 4)) dX0_beginDay_22 (by decide) rfl ?_
  refine v_iconst hC (v := (nI 0)) dX0_beginDay_23 (by decide) rfl ?_
  obtain ⟨v3, hv3, h⟩ := bind_g h
  refine v_callVwv hC (n := 2) (st := []) [(h0, .inr (0, [.ref q1, .ref q2, .ref q3, .int ec, .int sn, .int dy, .int wg, .int pe, .int pn, .int br])), (q1, .inr (3, [.int (nI 14), .ref a1])), (a1, .inl (cy 0, 84, .inl v3)), (q2, .inr (3, [.int (nI 10), .ref a2])), (a2, .inl (cy 0, 60, .inl sc)), (q3, .inr (3, [.int (nI 1), .ref a3])), (a3, .inl (cy 0, 3, .inl se))] _ (mX5_fillKind l g cy q1 a1 (nI 14) 84 v2 (nI 4) (nI 0) hv3) gX0_beginDay_X5_fillKind rfl rfl rfl (by decide +kernel) ⟨Nat.le_of_ble_eq_true rfl, Nat.le_of_ble_eq_true rfl⟩ 1 rfl rfl [1, 2] [0, 3, 4, 5, 6] rfl rfl rfl rfl rfl rfl rfl rfl rfl (Nat.le_of_ble_eq_true rfl) rfl ⟨Nat.zero_le _, Nat.zero_le _⟩ dX0_beginDay_24 rfl ?_
  refine v_aload_n hC dX0_beginDay_27 rfl 0 rfl rfl ?_
  refine v_dup hC dX0_beginDay_28 rfl rfl ?_
  refine v_get hC iX0_beginDay_X0 0 rfl rfl 5 (by decide) kX0_beginDay_44 rfl rfl dX0_beginDay_29 rfl ?_
  refine v_iconst hC (v := (nI 1)) dX0_beginDay_32 (by decide) rfl ?_
  refine v_iadd hC dX0_beginDay_33 rfl ?_
  refine v_put hC iX0_beginDay_X0 tyX0 tyX0_ok nmX0 0 rfl rfl 5 (by decide) kX0_beginDay_44 rfl rfl (ty := .int) (by decide +kernel) rfl rfl (Nat.le_of_ble_eq_true rfl) dX0_beginDay_34 [(h0, .inr (0, [.ref q1, .ref q2, .ref q3, .int ec, .int sn, .int (dy + (nI 1)), .int wg, .int pe, .int pn, .int br])), (q1, .inr (3, [.int (nI 14), .ref a1])), (a1, .inl (cy 0, 84, .inl v3)), (q2, .inr (3, [.int (nI 10), .ref a2])), (a2, .inl (cy 0, 60, .inl sc)), (q3, .inr (3, [.int (nI 1), .ref a3])), (a3, .inl (cy 0, 3, .inl se))] rfl rfl ?_
  refine v_aload_n hC dX0_beginDay_37 rfl 0 rfl rfl ?_
  refine v_get hC iX0_beginDay_X0 0 rfl rfl 5 (by decide) kX0_beginDay_44 rfl rfl dX0_beginDay_38 rfl ?_
  obtain rfl := Option.some.inj h
  exact v_irw hC hr rfl rfl dX0_beginDay_41
theorem kX0_change_23 : Cond.fieldLink RX0 23 "CrowdFaces$Film" "settings" "LCrowdFaces$Table;" ∈ wsX0_change := by decide +kernel
theorem iX0_change_X0 : ∀ w ∈ wsX00, w ∈ wsX0_change := by decide +kernel
def pX0_change (se : Nat → Int32) (x1 : Int32) (x2 : Int32) : Option (Int32 × (Nat → Int32)) := (pX0_valueOf se x1).bind fun v1 => (pX5_put (nI 1) 3 se x1 (nI 0) x2).bind fun v2 => some (v1, v2)
abbrev rmX0_change : Room := { frames := 2, cells := 0, slots := 0, locals := 44 }
set_option maxHeartbeats 4000000 in
set_option maxRecDepth 100000 in
theorem mX0_change (l : Launch) (g : va_G) (cy : Nat → ClassId) (h0 q1 a1 q2 a2 q3 a3 : Nat) (ec : Int32) (sn : Int32) (dy : Int32) (wg : Int32) (pe : Int32) (pn : Int32) (br : Int32) (ex : Nat → Int32) (sc : Nat → Int32) (se : Nat → Int32) (x1 : Int32) (x2 : Int32) {res : Int32 × (Nat → Int32)} (h : pX0_change se x1 x2 = some res) : Met l yX0_change wsX0_change rmX0_change (PW [.ref h0, .int x1, .int x2] g cy [(h0, .inr (0, [.ref q1, .ref q2, .ref q3, .int ec, .int sn, .int dy, .int wg, .int pe, .int pn, .int br])), (q1, .inr (3, [.int (nI 14), .ref a1])), (a1, .inl (cy 0, 84, .inl ex)), (q2, .inr (3, [.int (nI 10), .ref a2])), (a2, .inl (cy 0, 60, .inl sc)), (q3, .inr (3, [.int (nI 1), .ref a3])), (a3, .inl (cy 0, 3, .inl se))]) (QWi g (wA [(h0, .inr (0, [.ref q1, .ref q2, .ref q3, .int ec, .int sn, .int dy, .int wg, .int pe, .int pn, .int br])), (q1, .inr (3, [.int (nI 14), .ref a1])), (a1, .inl (cy 0, 84, .inl ex)), (q2, .inr (3, [.int (nI 10), .ref a2])), (a2, .inl (cy 0, 60, .inl sc)), (q3, .inr (3, [.int (nI 1), .ref a3])), (a3, .inl (cy 0, 3, .inl se))]) res.1 [(h0, .inr (0, [.ref q1, .ref q2, .ref q3, .int ec, .int sn, .int dy, .int wg, .int pe, .int pn, .int br])), (q1, .inr (3, [.int (nI 14), .ref a1])), (a1, .inl (cy 0, 84, .inl ex)), (q2, .inr (3, [.int (nI 10), .ref a2])), (a2, .inl (cy 0, 60, .inl sc)), (q3, .inr (3, [.int (nI 1), .ref a3])), (a3, .inl (cy 0, 3, .inl res.2))]) 0 0 (wA [(h0, .inr (0, [.ref q1, .ref q2, .ref q3, .int ec, .int sn, .int dy, .int wg, .int pe, .int pn, .int br])), (q1, .inr (3, [.int (nI 14), .ref a1])), (a1, .inl (cy 0, 84, .inl ex)), (q2, .inr (3, [.int (nI 10), .ref a2])), (a2, .inl (cy 0, 60, .inl sc)), (q3, .inr (3, [.int (nI 1), .ref a3])), (a3, .inl (cy 0, 3, .inl se))]) := by
  refine m_ofV (cc := cX0_change) (nL := 4) (ret := (some .int)) (B := (wA [(h0, .inr (0, [.ref q1, .ref q2, .ref q3, .int ec, .int sn, .int dy, .int wg, .int pe, .int pn, .int br])), (q1, .inr (3, [.int (nI 14), .ref a1])), (a1, .inl (cy 0, 84, .inl ex)), (q2, .inr (3, [.int (nI 10), .ref a2])), (a2, .inl (cy 0, 60, .inl sc)), (q3, .inr (3, [.int (nI 1), .ref a3])), (a3, .inl (cy 0, 3, .inl se))])) RX0 rfl (by decide) rfl [(0, .ref h0), (1, .int x1), (2, .int x2)] rfl (Nat.le_of_ble_eq_true rfl) (wA.self) ?_
  intro p e s m args below meth c hC hr
  generalize (wA [(h0, .inr (0, [.ref q1, .ref q2, .ref q3, .int ec, .int sn, .int dy, .int wg, .int pe, .int pn, .int br])), (q1, .inr (3, [.int (nI 14), .ref a1])), (a1, .inl (cy 0, 84, .inl ex)), (q2, .inr (3, [.int (nI 10), .ref a2])), (a2, .inl (cy 0, 60, .inl sc)), (q3, .inr (3, [.int (nI 1), .ref a3])), (a3, .inl (cy 0, 3, .inl se))]) = A
  unfold pX0_change at h
  refine v_aload_n hC dX0_change_0 rfl 0 rfl rfl ?_
  refine v_iload_n hC dX0_change_1 rfl 1 rfl rfl ?_
  obtain ⟨v1, hv1, h⟩ := bind_g h
  refine v_callVri hC (n := 1) (st := []) (mX0_valueOf l g cy h0 q1 a1 q2 a2 q3 a3 ec sn dy wg pe pn br ex sc se x1 hv1) gX0_change_X0_valueOf rfl rfl rfl (by decide +kernel) ⟨Nat.le_of_ble_eq_true rfl, Nat.le_of_ble_eq_true rfl⟩ 0 rfl rfl [0, 1, 2, 3, 4, 5, 6] rfl rfl rfl rfl (Nat.le_of_ble_eq_true rfl) rfl ⟨Nat.zero_le _, Nat.zero_le _⟩ dX0_change_2 rfl ?_
  refine v_istore_n hC dX0_change_5 rfl (by decide) [(3, .int v1), (0, .ref h0), (1, .int x1), (2, .int x2)] rfl rfl ?_
  refine v_aload_n hC dX0_change_6 rfl 1 rfl rfl ?_
  refine v_get hC iX0_change_X0 0 rfl rfl 2 (by decide) kX0_change_23 rfl rfl dX0_change_7 rfl ?_
  refine v_iload_n hC dX0_change_10 rfl 2 rfl rfl ?_
  refine v_iconst hC (v := (nI 0)) dX0_change_11 (by decide) rfl ?_
  refine v_iload_n hC dX0_change_12 rfl 3 rfl rfl ?_
  obtain ⟨v2, hv2, h⟩ := bind_g h
  refine v_callVwv hC (n := 3) (st := []) [(h0, .inr (0, [.ref q1, .ref q2, .ref q3, .int ec, .int sn, .int dy, .int wg, .int pe, .int pn, .int br])), (q1, .inr (3, [.int (nI 14), .ref a1])), (a1, .inl (cy 0, 84, .inl ex)), (q2, .inr (3, [.int (nI 10), .ref a2])), (a2, .inl (cy 0, 60, .inl sc)), (q3, .inr (3, [.int (nI 1), .ref a3])), (a3, .inl (cy 0, 3, .inl v2))] _ (mX5_put l g cy q3 a3 (nI 1) 3 se x1 (nI 0) x2 hv2) gX0_change_X5_put rfl rfl rfl (by decide +kernel) ⟨Nat.le_of_ble_eq_true rfl, Nat.le_of_ble_eq_true rfl⟩ 5 rfl rfl [5, 6] [0, 1, 2, 3, 4] rfl rfl rfl rfl rfl rfl rfl rfl rfl (Nat.le_of_ble_eq_true rfl) rfl ⟨Nat.zero_le _, Nat.zero_le _⟩ dX0_change_13 rfl ?_
  refine v_iload_n hC dX0_change_16 rfl 0 rfl rfl ?_
  obtain rfl := Option.some.inj h
  exact v_irw hC hr rfl rfl dX0_change_17

/-! ===== constructors: Table, Film, Slot, Text ===== -/
theorem kX5_init_o1 : Cond.methodLink RX5 1 Lib.objectInit ∈ wsX5_init := by decide +kernel
theorem kX5_init_o2 : Cond.instanceMethod Lib.objectInit ∈ wsX5_init := by decide +kernel
theorem kX5_init_o3 : Cond.code Lib.objectInit ⟨#[0xb1]⟩ 1 none ∈ wsX5_init := by decide +kernel
theorem iX5_init_X5 : ∀ w ∈ wsX50, w ∈ wsX5_init := by decide +kernel
theorem kX5_init_f7 : Cond.fieldLink RX5 7 "CrowdFaces$Table" "width" "I" ∈ wsX5_init := by decide +kernel
theorem kX5_init_f19 : Cond.fieldLink RX5 19 "CrowdFaces$Table" "cells" "[I" ∈ wsX5_init := by decide +kernel
theorem kX5_init_m13 : Cond.methodLink RX5 13 Lib.Math.max.name ∈ wsX5_init := by decide +kernel
theorem kX5_init_ms : Cond.static Lib.Math.max.name ∈ wsX5_init := by decide +kernel
theorem kX5_init_mi : Cond.initialized "java/lang/Math" ∈ wsX5_init := by decide +kernel
theorem kX5_init_mc : Cond.code Lib.Math.max.name Lib.Math.max.code 2 (some .int) ∈ wsX5_init := by decide +kernel
theorem kX5_init_ac : Cond.arrayClass .int ∈ wsX5_init := by decide +kernel
abbrev rmX5_init_84 : Room := { frames := 1, cells := 1, slots := 84, locals := 20 }
theorem mX5_init_84 (l : Launch) (g : va_G) (cy : Nat → ClassId) (sz h0 : Nat) : Met l yX5_init wsX5_init rmX5_init_84 (PK [.ref h0, .int (nI 6), .int (nI 14)] g cy sz [(h0, .inr (3, [.int (nI 0), .null]))]) (QK g (va_A [(h0, .inr (3, [.int (nI 0), .null]))] sz) (fun u : Nat => [(h0, .inr (3, [.int (nI 14), .ref u])), (u, .inl (cy 0, 84, .inl (fun _ => nI 0)))])) 1 84 (va_A [(h0, .inr (3, [.int (nI 0), .null]))] sz) := by
  refine m_ofVK (cc := cX5_init) (nL := 3) RX5 rfl (by decide) rfl rfl [(0, .ref h0), (1, .int (nI 6)), (2, .int (nI 14))] rfl (Nat.le_of_ble_eq_true rfl) ?_
  intro p e s m args below meth c hC hr hnm hO hA
  generalize va_A [(h0, .inr (3, [.int (nI 0), .null]))] sz = A at hA ⊢
  refine v_aload_n hC dX5_init_0 rfl 0 rfl rfl ?_
  refine k_obj hC kX5_init_o1 kX5_init_o2 kX5_init_o3 (Nat.le_of_ble_eq_true rfl) (Nat.le_of_ble_eq_true rfl) dX5_init_1 rfl ?_
  refine v_aload_n hC dX5_init_4 rfl 0 rfl rfl ?_
  refine v_iload_n hC dX5_init_5 rfl 2 rfl rfl ?_
  refine k_putF hC hnm iX5_init_X5 tyX5 tyX5_ok nmX5 0 rfl rfl 0 (by decide) kX5_init_f7 rfl rfl rfl (ty := .int) (by decide +kernel) rfl rfl (Nat.le_of_ble_eq_true rfl) dX5_init_6 ([(h0, .inr (3, [.int (nI 14), .null]))]) rfl rfl ?_
  refine v_aload_n hC dX5_init_9 rfl 0 rfl rfl ?_
  refine v_iconst hC (v := (nI 0)) dX5_init_10 (by decide) rfl ?_
  refine v_iload_n hC dX5_init_11 rfl 1 rfl rfl ?_
  refine v_iload_n hC dX5_init_12 rfl 2 rfl rfl ?_
  refine v_imul hC dX5_init_13 rfl ?_
  refine v_mmax hC kX5_init_m13 kX5_init_ms kX5_init_mi kX5_init_mc (Nat.le_of_ble_eq_true rfl) (Nat.le_of_ble_eq_true rfl) ⟨Nat.le_of_ble_eq_true rfl, Nat.le_of_ble_eq_true rfl⟩ dX5_init_14 rfl ?_
  refine v_eqs (st' := [.int (nI 84), .ref h0]) (by rw [show (if (nI 0) < nI 6 * nI 14 then nI 6 * nI 14 else nI 0) = nI 84 from by decide]) ?_
  refine k_arr hC hA .int kX5_init_ac rfl 0 (by decide) rfl (84, .inl (fun _ => nI 0)) (fun _ => rfl) (by decide) (by decide) (Nat.le_of_ble_eq_true rfl) ⟨Nat.le_of_ble_eq_true rfl, Nat.le_of_ble_eq_true rfl⟩ dX5_init_17 rfl (fun a => ?_)
  refine k_putF hC hnm iX5_init_X5 tyX5 tyX5_ok nmX5 0 rfl rfl 1 (by decide) kX5_init_f19 rfl rfl rfl (ty := .array .int) (by decide +kernel) rfl rfl (Nat.le_of_ble_eq_true rfl) dX5_init_19 ([(h0, .inr (3, [.int (nI 14), .ref a])), (a, .inl (cy 0, 84, .inl (fun _ => nI 0)))]) rfl rfl ?_
  exact k_ret hC a rfl hr ⟨Nat.le_of_ble_eq_true rfl, Nat.le_of_ble_eq_true rfl⟩ dX5_init_22
abbrev rmX5_init_60 : Room := { frames := 1, cells := 1, slots := 60, locals := 20 }
theorem mX5_init_60 (l : Launch) (g : va_G) (cy : Nat → ClassId) (sz h0 : Nat) : Met l yX5_init wsX5_init rmX5_init_60 (PK [.ref h0, .int (nI 6), .int (nI 10)] g cy sz [(h0, .inr (3, [.int (nI 0), .null]))]) (QK g (va_A [(h0, .inr (3, [.int (nI 0), .null]))] sz) (fun u : Nat => [(h0, .inr (3, [.int (nI 10), .ref u])), (u, .inl (cy 0, 60, .inl (fun _ => nI 0)))])) 1 60 (va_A [(h0, .inr (3, [.int (nI 0), .null]))] sz) := by
  refine m_ofVK (cc := cX5_init) (nL := 3) RX5 rfl (by decide) rfl rfl [(0, .ref h0), (1, .int (nI 6)), (2, .int (nI 10))] rfl (Nat.le_of_ble_eq_true rfl) ?_
  intro p e s m args below meth c hC hr hnm hO hA
  generalize va_A [(h0, .inr (3, [.int (nI 0), .null]))] sz = A at hA ⊢
  refine v_aload_n hC dX5_init_0 rfl 0 rfl rfl ?_
  refine k_obj hC kX5_init_o1 kX5_init_o2 kX5_init_o3 (Nat.le_of_ble_eq_true rfl) (Nat.le_of_ble_eq_true rfl) dX5_init_1 rfl ?_
  refine v_aload_n hC dX5_init_4 rfl 0 rfl rfl ?_
  refine v_iload_n hC dX5_init_5 rfl 2 rfl rfl ?_
  refine k_putF hC hnm iX5_init_X5 tyX5 tyX5_ok nmX5 0 rfl rfl 0 (by decide) kX5_init_f7 rfl rfl rfl (ty := .int) (by decide +kernel) rfl rfl (Nat.le_of_ble_eq_true rfl) dX5_init_6 ([(h0, .inr (3, [.int (nI 10), .null]))]) rfl rfl ?_
  refine v_aload_n hC dX5_init_9 rfl 0 rfl rfl ?_
  refine v_iconst hC (v := (nI 0)) dX5_init_10 (by decide) rfl ?_
  refine v_iload_n hC dX5_init_11 rfl 1 rfl rfl ?_
  refine v_iload_n hC dX5_init_12 rfl 2 rfl rfl ?_
  refine v_imul hC dX5_init_13 rfl ?_
  refine v_mmax hC kX5_init_m13 kX5_init_ms kX5_init_mi kX5_init_mc (Nat.le_of_ble_eq_true rfl) (Nat.le_of_ble_eq_true rfl) ⟨Nat.le_of_ble_eq_true rfl, Nat.le_of_ble_eq_true rfl⟩ dX5_init_14 rfl ?_
  refine v_eqs (st' := [.int (nI 60), .ref h0]) (by rw [show (if (nI 0) < nI 6 * nI 10 then nI 6 * nI 10 else nI 0) = nI 60 from by decide]) ?_
  refine k_arr hC hA .int kX5_init_ac rfl 0 (by decide) rfl (60, .inl (fun _ => nI 0)) (fun _ => rfl) (by decide) (by decide) (Nat.le_of_ble_eq_true rfl) ⟨Nat.le_of_ble_eq_true rfl, Nat.le_of_ble_eq_true rfl⟩ dX5_init_17 rfl (fun a => ?_)
  refine k_putF hC hnm iX5_init_X5 tyX5 tyX5_ok nmX5 0 rfl rfl 1 (by decide) kX5_init_f19 rfl rfl rfl (ty := .array .int) (by decide +kernel) rfl rfl (Nat.le_of_ble_eq_true rfl) dX5_init_19 ([(h0, .inr (3, [.int (nI 10), .ref a])), (a, .inl (cy 0, 60, .inl (fun _ => nI 0)))]) rfl rfl ?_
  exact k_ret hC a rfl hr ⟨Nat.le_of_ble_eq_true rfl, Nat.le_of_ble_eq_true rfl⟩ dX5_init_22
abbrev rmX5_init_3 : Room := { frames := 1, cells := 1, slots := 3, locals := 20 }
theorem mX5_init_3 (l : Launch) (g : va_G) (cy : Nat → ClassId) (sz h0 : Nat) : Met l yX5_init wsX5_init rmX5_init_3 (PK [.ref h0, .int (nI 3), .int (nI 1)] g cy sz [(h0, .inr (3, [.int (nI 0), .null]))]) (QK g (va_A [(h0, .inr (3, [.int (nI 0), .null]))] sz) (fun u : Nat => [(h0, .inr (3, [.int (nI 1), .ref u])), (u, .inl (cy 0, 3, .inl (fun _ => nI 0)))])) 1 3 (va_A [(h0, .inr (3, [.int (nI 0), .null]))] sz) := by
  refine m_ofVK (cc := cX5_init) (nL := 3) RX5 rfl (by decide) rfl rfl [(0, .ref h0), (1, .int (nI 3)), (2, .int (nI 1))] rfl (Nat.le_of_ble_eq_true rfl) ?_
  intro p e s m args below meth c hC hr hnm hO hA
  generalize va_A [(h0, .inr (3, [.int (nI 0), .null]))] sz = A at hA ⊢
  refine v_aload_n hC dX5_init_0 rfl 0 rfl rfl ?_
  refine k_obj hC kX5_init_o1 kX5_init_o2 kX5_init_o3 (Nat.le_of_ble_eq_true rfl) (Nat.le_of_ble_eq_true rfl) dX5_init_1 rfl ?_
  refine v_aload_n hC dX5_init_4 rfl 0 rfl rfl ?_
  refine v_iload_n hC dX5_init_5 rfl 2 rfl rfl ?_
  refine k_putF hC hnm iX5_init_X5 tyX5 tyX5_ok nmX5 0 rfl rfl 0 (by decide) kX5_init_f7 rfl rfl rfl (ty := .int) (by decide +kernel) rfl rfl (Nat.le_of_ble_eq_true rfl) dX5_init_6 ([(h0, .inr (3, [.int (nI 1), .null]))]) rfl rfl ?_
  refine v_aload_n hC dX5_init_9 rfl 0 rfl rfl ?_
  refine v_iconst hC (v := (nI 0)) dX5_init_10 (by decide) rfl ?_
  refine v_iload_n hC dX5_init_11 rfl 1 rfl rfl ?_
  refine v_iload_n hC dX5_init_12 rfl 2 rfl rfl ?_
  refine v_imul hC dX5_init_13 rfl ?_
  refine v_mmax hC kX5_init_m13 kX5_init_ms kX5_init_mi kX5_init_mc (Nat.le_of_ble_eq_true rfl) (Nat.le_of_ble_eq_true rfl) ⟨Nat.le_of_ble_eq_true rfl, Nat.le_of_ble_eq_true rfl⟩ dX5_init_14 rfl ?_
  refine v_eqs (st' := [.int (nI 3), .ref h0]) (by rw [show (if (nI 0) < nI 3 * nI 1 then nI 3 * nI 1 else nI 0) = nI 3 from by decide]) ?_
  refine k_arr hC hA .int kX5_init_ac rfl 0 (by decide) rfl (3, .inl (fun _ => nI 0)) (fun _ => rfl) (by decide) (by decide) (Nat.le_of_ble_eq_true rfl) ⟨Nat.le_of_ble_eq_true rfl, Nat.le_of_ble_eq_true rfl⟩ dX5_init_17 rfl (fun a => ?_)
  refine k_putF hC hnm iX5_init_X5 tyX5 tyX5_ok nmX5 0 rfl rfl 1 (by decide) kX5_init_f19 rfl rfl rfl (ty := .array .int) (by decide +kernel) rfl rfl (Nat.le_of_ble_eq_true rfl) dX5_init_19 ([(h0, .inr (3, [.int (nI 1), .ref a])), (a, .inl (cy 0, 3, .inl (fun _ => nI 0)))]) rfl rfl ?_
  exact k_ret hC a rfl hr ⟨Nat.le_of_ble_eq_true rfl, Nat.le_of_ble_eq_true rfl⟩ dX5_init_22
abbrev rmX5_init_120 : Room := { frames := 1, cells := 1, slots := 120, locals := 20 }
theorem mX5_init_120 (l : Launch) (g : va_G) (cy : Nat → ClassId) (sz h0 : Nat) : Met l yX5_init wsX5_init rmX5_init_120 (PK [.ref h0, .int (nI 1), .int (nI 120)] g cy sz [(h0, .inr (3, [.int (nI 0), .null]))]) (QK g (va_A [(h0, .inr (3, [.int (nI 0), .null]))] sz) (fun u : Nat => [(h0, .inr (3, [.int (nI 120), .ref u])), (u, .inl (cy 0, 120, .inl (fun _ => nI 0)))])) 1 120 (va_A [(h0, .inr (3, [.int (nI 0), .null]))] sz) := by
  refine m_ofVK (cc := cX5_init) (nL := 3) RX5 rfl (by decide) rfl rfl [(0, .ref h0), (1, .int (nI 1)), (2, .int (nI 120))] rfl (Nat.le_of_ble_eq_true rfl) ?_
  intro p e s m args below meth c hC hr hnm hO hA
  generalize va_A [(h0, .inr (3, [.int (nI 0), .null]))] sz = A at hA ⊢
  refine v_aload_n hC dX5_init_0 rfl 0 rfl rfl ?_
  refine k_obj hC kX5_init_o1 kX5_init_o2 kX5_init_o3 (Nat.le_of_ble_eq_true rfl) (Nat.le_of_ble_eq_true rfl) dX5_init_1 rfl ?_
  refine v_aload_n hC dX5_init_4 rfl 0 rfl rfl ?_
  refine v_iload_n hC dX5_init_5 rfl 2 rfl rfl ?_
  refine k_putF hC hnm iX5_init_X5 tyX5 tyX5_ok nmX5 0 rfl rfl 0 (by decide) kX5_init_f7 rfl rfl rfl (ty := .int) (by decide +kernel) rfl rfl (Nat.le_of_ble_eq_true rfl) dX5_init_6 ([(h0, .inr (3, [.int (nI 120), .null]))]) rfl rfl ?_
  refine v_aload_n hC dX5_init_9 rfl 0 rfl rfl ?_
  refine v_iconst hC (v := (nI 0)) dX5_init_10 (by decide) rfl ?_
  refine v_iload_n hC dX5_init_11 rfl 1 rfl rfl ?_
  refine v_iload_n hC dX5_init_12 rfl 2 rfl rfl ?_
  refine v_imul hC dX5_init_13 rfl ?_
  refine v_mmax hC kX5_init_m13 kX5_init_ms kX5_init_mi kX5_init_mc (Nat.le_of_ble_eq_true rfl) (Nat.le_of_ble_eq_true rfl) ⟨Nat.le_of_ble_eq_true rfl, Nat.le_of_ble_eq_true rfl⟩ dX5_init_14 rfl ?_
  refine v_eqs (st' := [.int (nI 120), .ref h0]) (by rw [show (if (nI 0) < nI 1 * nI 120 then nI 1 * nI 120 else nI 0) = nI 120 from by decide]) ?_
  refine k_arr hC hA .int kX5_init_ac rfl 0 (by decide) rfl (120, .inl (fun _ => nI 0)) (fun _ => rfl) (by decide) (by decide) (Nat.le_of_ble_eq_true rfl) ⟨Nat.le_of_ble_eq_true rfl, Nat.le_of_ble_eq_true rfl⟩ dX5_init_17 rfl (fun a => ?_)
  refine k_putF hC hnm iX5_init_X5 tyX5 tyX5_ok nmX5 0 rfl rfl 1 (by decide) kX5_init_f19 rfl rfl rfl (ty := .array .int) (by decide +kernel) rfl rfl (Nat.le_of_ble_eq_true rfl) dX5_init_19 ([(h0, .inr (3, [.int (nI 120), .ref a])), (a, .inl (cy 0, 120, .inl (fun _ => nI 0)))]) rfl rfl ?_
  exact k_ret hC a rfl hr ⟨Nat.le_of_ble_eq_true rfl, Nat.le_of_ble_eq_true rfl⟩ dX5_init_22
/-- a new film's addresses: its own, then what its constructor made -/
def fz (f : Nat) (u : Nat → Nat) : Nat → Nat := fun k => if k = 0 then f else u k
theorem qX0_start0 : pX0_startNew (nI 0) (nI 0) (nI 0) (nI 0) (nI 0) (nI 0) (nI 0) (fun _ => nI 0) (fun _ => nI 0) (fun _ => nI 0) = some (nI (N0 0), nI (N0 1), nI (N0 2), nI (N0 3), nI (N0 4), nI (N0 5), nI (N0 6), rI (exR N0), rI (scR N0), rI (seR N0)) := by
  have h := qX0_startNew (a0 := nI 0) (a1 := nI 0) (a2 := nI 0) (a3 := nI 0) (a4 := nI 0) (a5 := nI 0) (a6 := nI 0) (N := fun _ => 0)
  have e1 : rI (exR (fun _ => 0)) = fun _ => nI 0 := by
    funext j
    unfold rI exR
    dsimp only
    by_cases hj : j < 84
    · rw [if_pos hj]
    · rw [if_neg hj]
  have e2 : rI (scR (fun _ => 0)) = fun _ => nI 0 := by
    funext j
    unfold rI scR
    dsimp only
    by_cases hj : j < 60
    · rw [if_pos hj]
    · rw [if_neg hj]
  have e3 : rI (seR (fun _ => 0)) = fun _ => nI 0 := by
    funext j
    unfold rI seR
    dsimp only
    by_cases hj : j < 3
    · rw [if_pos hj]
    · rw [if_neg hj]
  rw [e1, e2, e3] at h
  exact h
theorem kX0_init_o1 : Cond.methodLink RX0 3 Lib.objectInit ∈ wsX0_init := by decide +kernel
theorem kX0_init_o2 : Cond.instanceMethod Lib.objectInit ∈ wsX0_init := by decide +kernel
theorem kX0_init_o3 : Cond.code Lib.objectInit ⟨#[0xb1]⟩ 1 none ∈ wsX0_init := by decide +kernel
theorem iX0_init_X0 : ∀ w ∈ wsX00, w ∈ wsX0_init := by decide +kernel
theorem iX0_init_X5 : ∀ w ∈ wsX50, w ∈ wsX0_init := by decide +kernel
theorem kX0_init_f14 : Cond.fieldLink RX0 14 "CrowdFaces$Film" "extras" "LCrowdFaces$Table;" ∈ wsX0_init := by decide +kernel
theorem kX0_init_f20 : Cond.fieldLink RX0 20 "CrowdFaces$Film" "scenes" "LCrowdFaces$Table;" ∈ wsX0_init := by decide +kernel
theorem kX0_init_f23 : Cond.fieldLink RX0 23 "CrowdFaces$Film" "settings" "LCrowdFaces$Table;" ∈ wsX0_init := by decide +kernel
theorem kX0_init_c9 : Cond.classLink RX0 9 RX5 ∈ wsX0_init := by decide +kernel
theorem kX0_init_n5 : Cond.instantiable RX5 2 ∈ wsX0_init := by decide +kernel
theorem kX0_init_i5 : Cond.initialized RX5 ∈ wsX0_init := by decide +kernel
theorem kX0_init_im5 : Cond.instanceMethod yX5_init ∈ wsX0_init := by decide +kernel
theorem kX0_init_m11 : Cond.methodLink RX0 11 yX5_init ∈ wsX0_init := by decide +kernel
abbrev rmX0_init : Room := { frames := 2, cells := 6, slots := 153, locals := 44 }
theorem mX0_init (l : Launch) (g : va_G) (cy : Nat → ClassId) (sz h0 : Nat) : Met l yX0_init wsX0_init rmX0_init (PK [.ref h0] g cy sz [(h0, .inr (0, [.null, .null, .null, .int (nI 0), .int (nI 0), .int (nI 0), .int (nI 0), .int (nI 0), .int (nI 0), .int (nI 0)]))]) (QK g (va_A [(h0, .inr (0, [.null, .null, .null, .int (nI 0), .int (nI 0), .int (nI 0), .int (nI 0), .int (nI 0), .int (nI 0), .int (nI 0)]))] sz) (fun u : (Nat → Nat) => fW cy (fz h0 u) (fD N0))) 6 153 (va_A [(h0, .inr (0, [.null, .null, .null, .int (nI 0), .int (nI 0), .int (nI 0), .int (nI 0), .int (nI 0), .int (nI 0), .int (nI 0)]))] sz) := by
  refine m_ofVK (cc := cX0_init) (nL := 1) RX0 rfl (by decide) rfl rfl [(0, .ref h0)] rfl (Nat.le_of_ble_eq_true rfl) ?_
  intro p e s m args below meth c hC hr hnm hO hA
  generalize va_A [(h0, .inr (0, [.null, .null, .null, .int (nI 0), .int (nI 0), .int (nI 0), .int (nI 0), .int (nI 0), .int (nI 0), .int (nI 0)]))] sz = A at hA ⊢
  refine v_aload_n hC dX0_init_0 rfl 0 rfl rfl ?_
  refine k_obj hC kX0_init_o1 kX0_init_o2 kX0_init_o3 (Nat.le_of_ble_eq_true rfl) (Nat.le_of_ble_eq_true rfl) dX0_init_1 rfl ?_
  refine v_aload_n hC dX0_init_4 rfl 0 rfl rfl ?_
  refine k_new hC hA (ci := 3) iX0_init_X5 tyX5 tyX5_ok kX0_init_c9 kX0_init_n5 kX0_init_i5 rfl (fs := [.int (nI 0), .null]) (fun j hj => by rcases (show j = 0 ∨ j = 1 by omega) with rfl | rfl <;> rfl) ⟨Nat.le_of_ble_eq_true rfl, Nat.le_of_ble_eq_true rfl⟩ dX0_init_5 rfl (fun q1 => ?_)
  refine v_dup hC dX0_init_8 rfl rfl ?_
  refine v_bipush hC (v := (nI 6)) dX0_init_9 (by decide) rfl ?_
  refine v_bipush hC (v := (nI 14)) dX0_init_11 (by decide) rfl ?_
  refine k_init hC hA hO (n := 2) (As := [.int (nI 6), .int (nI 14)]) (st := [.ref q1, .ref h0]) (fun sz => mX5_init_84 l g cy sz q1) gX0_init_X5_init rfl rfl rfl kX0_init_i5 kX0_init_m11 kX0_init_im5 rfl (by decide +kernel) ⟨Nat.le_of_ble_eq_true rfl, Nat.le_of_ble_eq_true rfl⟩ rfl (Nat.le_of_ble_eq_true rfl) rfl ⟨Nat.le_of_ble_eq_true rfl, Nat.le_of_ble_eq_true rfl⟩ dX0_init_13 rfl (fun a1 => ?_)
  refine k_putF hC hnm iX0_init_X0 tyX0 tyX0_ok nmX0 0 rfl rfl 0 (by decide) kX0_init_f14 rfl rfl rfl (ty := .object "CrowdFaces$Table") (by decide +kernel) rfl rfl (Nat.le_of_ble_eq_true rfl) dX0_init_16 ([(h0, .inr (0, [.ref q1, .null, .null, .int (nI 0), .int (nI 0), .int (nI 0), .int (nI 0), .int (nI 0), .int (nI 0), .int (nI 0)])), (q1, .inr (3, [.int (nI 14), .ref a1])), (a1, .inl (cy 0, 84, .inl (fun _ => nI 0)))]) rfl rfl ?_
  refine v_aload_n hC dX0_init_19 rfl 0 rfl rfl ?_
  refine k_new hC hA (ci := 3) iX0_init_X5 tyX5 tyX5_ok kX0_init_c9 kX0_init_n5 kX0_init_i5 rfl (fs := [.int (nI 0), .null]) (fun j hj => by rcases (show j = 0 ∨ j = 1 by omega) with rfl | rfl <;> rfl) ⟨Nat.le_of_ble_eq_true rfl, Nat.le_of_ble_eq_true rfl⟩ dX0_init_20 rfl (fun q2 => ?_)
  refine v_dup hC dX0_init_23 rfl rfl ?_
  refine v_bipush hC (v := (nI 6)) dX0_init_24 (by decide) rfl ?_
  refine v_bipush hC (v := (nI 10)) dX0_init_26 (by decide) rfl ?_
  refine k_init hC hA hO (n := 2) (As := [.int (nI 6), .int (nI 10)]) (st := [.ref q2, .ref h0]) (fun sz => mX5_init_60 l g cy sz q2) gX0_init_X5_init rfl rfl rfl kX0_init_i5 kX0_init_m11 kX0_init_im5 rfl (by decide +kernel) ⟨Nat.le_of_ble_eq_true rfl, Nat.le_of_ble_eq_true rfl⟩ rfl (Nat.le_of_ble_eq_true rfl) rfl ⟨Nat.le_of_ble_eq_true rfl, Nat.le_of_ble_eq_true rfl⟩ dX0_init_28 rfl (fun a2 => ?_)
  refine k_putF hC hnm iX0_init_X0 tyX0 tyX0_ok nmX0 0 rfl rfl 1 (by decide) kX0_init_f20 rfl rfl rfl (ty := .object "CrowdFaces$Table") (by decide +kernel) rfl rfl (Nat.le_of_ble_eq_true rfl) dX0_init_31 ([(h0, .inr (0, [.ref q1, .ref q2, .null, .int (nI 0), .int (nI 0), .int (nI 0), .int (nI 0), .int (nI 0), .int (nI 0), .int (nI 0)])), (q1, .inr (3, [.int (nI 14), .ref a1])), (a1, .inl (cy 0, 84, .inl (fun _ => nI 0))), (q2, .inr (3, [.int (nI 10), .ref a2])), (a2, .inl (cy 0, 60, .inl (fun _ => nI 0)))]) rfl rfl ?_
  refine v_aload_n hC dX0_init_34 rfl 0 rfl rfl ?_
  refine k_new hC hA (ci := 3) iX0_init_X5 tyX5 tyX5_ok kX0_init_c9 kX0_init_n5 kX0_init_i5 rfl (fs := [.int (nI 0), .null]) (fun j hj => by rcases (show j = 0 ∨ j = 1 by omega) with rfl | rfl <;> rfl) ⟨Nat.le_of_ble_eq_true rfl, Nat.le_of_ble_eq_true rfl⟩ dX0_init_35 rfl (fun q3 => ?_)
  refine v_dup hC dX0_init_38 rfl rfl ?_
  refine v_iconst hC (v := (nI 3)) dX0_init_39 (by decide) rfl ?_
  refine v_iconst hC (v := (nI 1)) dX0_init_40 (by decide) rfl ?_
  refine k_init hC hA hO (n := 2) (As := [.int (nI 3), .int (nI 1)]) (st := [.ref q3, .ref h0]) (fun sz => mX5_init_3 l g cy sz q3) gX0_init_X5_init rfl rfl rfl kX0_init_i5 kX0_init_m11 kX0_init_im5 rfl (by decide +kernel) ⟨Nat.le_of_ble_eq_true rfl, Nat.le_of_ble_eq_true rfl⟩ rfl (Nat.le_of_ble_eq_true rfl) rfl ⟨Nat.le_of_ble_eq_true rfl, Nat.le_of_ble_eq_true rfl⟩ dX0_init_41 rfl (fun a3 => ?_)
  refine k_putF hC hnm iX0_init_X0 tyX0 tyX0_ok nmX0 0 rfl rfl 2 (by decide) kX0_init_f23 rfl rfl rfl (ty := .object "CrowdFaces$Table") (by decide +kernel) rfl rfl (Nat.le_of_ble_eq_true rfl) dX0_init_44 ([(h0, .inr (0, [.ref q1, .ref q2, .ref q3, .int (nI 0), .int (nI 0), .int (nI 0), .int (nI 0), .int (nI 0), .int (nI 0), .int (nI 0)])), (q1, .inr (3, [.int (nI 14), .ref a1])), (a1, .inl (cy 0, 84, .inl (fun _ => nI 0))), (q2, .inr (3, [.int (nI 10), .ref a2])), (a2, .inl (cy 0, 60, .inl (fun _ => nI 0))), (q3, .inr (3, [.int (nI 1), .ref a3])), (a3, .inl (cy 0, 3, .inl (fun _ => nI 0)))]) rfl rfl ?_
  refine v_aload_n hC dX0_init_47 rfl 0 rfl rfl ?_
  refine v_callVwv hC (n := 0) (st := []) [(h0, .inr (0, [.ref q1, .ref q2, .ref q3, .int (nI (N0 0)), .int (nI (N0 1)), .int (nI (N0 2)), .int (nI (N0 3)), .int (nI (N0 4)), .int (nI (N0 5)), .int (nI (N0 6))])), (q1, .inr (3, [.int (nI 14), .ref a1])), (a1, .inl (cy 0, 84, .inl (rI (exR N0)))), (q2, .inr (3, [.int (nI 10), .ref a2])), (a2, .inl (cy 0, 60, .inl (rI (scR N0)))), (q3, .inr (3, [.int (nI 1), .ref a3])), (a3, .inl (cy 0, 3, .inl (rI (seR N0))))] _ (mX0_startNew l g cy h0 q1 a1 q2 a2 q3 a3 _ _ _ _ _ _ _ _ _ _ qX0_start0) gX0_init_X0_startNew rfl rfl rfl (by decide +kernel) ⟨Nat.le_of_ble_eq_true rfl, Nat.le_of_ble_eq_true rfl⟩ 0 rfl rfl [0, 1, 2, 3, 4, 5, 6] [] rfl rfl rfl rfl rfl rfl rfl rfl rfl (Nat.le_of_ble_eq_true rfl) rfl ⟨Nat.le_of_ble_eq_true rfl, Nat.le_of_ble_eq_true rfl⟩ dX0_init_48 rfl ?_
  exact k_ret hC (fun k => match k with | 0 => h0 | 1 => q1 | 2 => a1 | 3 => q2 | 4 => a2 | 5 => q3 | _ => a3) rfl hr ⟨Nat.le_of_ble_eq_true rfl, Nat.le_of_ble_eq_true rfl⟩ dX0_init_51
theorem kX4_init_o1 : Cond.methodLink RX4 1 Lib.objectInit ∈ wsX4_init := by decide +kernel
theorem kX4_init_o2 : Cond.instanceMethod Lib.objectInit ∈ wsX4_init := by decide +kernel
theorem kX4_init_o3 : Cond.code Lib.objectInit ⟨#[0xb1]⟩ 1 none ∈ wsX4_init := by decide +kernel
theorem iX4_init_X4 : ∀ w ∈ wsX40, w ∈ wsX4_init := by decide +kernel
theorem iX4_init_X0 : ∀ w ∈ wsX00, w ∈ wsX4_init := by decide +kernel
theorem kX4_init_f10 : Cond.fieldLink RX4 10 "CrowdFaces$Slot" "kept" "LCrowdFaces$Film;" ∈ wsX4_init := by decide +kernel
theorem kX4_init_c7 : Cond.classLink RX4 7 RX0 ∈ wsX4_init := by decide +kernel
theorem kX4_init_n0 : Cond.instantiable RX0 10 ∈ wsX4_init := by decide +kernel
theorem kX4_init_i0 : Cond.initialized RX0 ∈ wsX4_init := by decide +kernel
theorem kX4_init_im0 : Cond.instanceMethod yX0_init ∈ wsX4_init := by decide +kernel
theorem kX4_init_m9 : Cond.methodLink RX4 9 yX0_init ∈ wsX4_init := by decide +kernel
abbrev rmX4_init : Room := { frames := 3, cells := 7, slots := 163, locals := 64 }
theorem mX4_init (l : Launch) (g : va_G) (cy : Nat → ClassId) (sz h0 : Nat) : Met l yX4_init wsX4_init rmX4_init (PK [.ref h0] g cy sz [(h0, .inr (2, [.null, .int (nI 0)]))]) (QK g (va_A [(h0, .inr (2, [.null, .int (nI 0)]))] sz) (fun u : (Nat × (Nat → Nat)) => (h0, .inr (2, [.ref u.1, .int (nI 0)])) :: fW cy (fz u.1 u.2) (fD N0))) 7 163 (va_A [(h0, .inr (2, [.null, .int (nI 0)]))] sz) := by
  refine m_ofVK (cc := cX4_init) (nL := 1) RX4 rfl (by decide) rfl rfl [(0, .ref h0)] rfl (Nat.le_of_ble_eq_true rfl) ?_
  intro p e s m args below meth c hC hr hnm hO hA
  generalize va_A [(h0, .inr (2, [.null, .int (nI 0)]))] sz = A at hA ⊢
  refine v_aload_n hC dX4_init_0 rfl 0 rfl rfl ?_
  refine k_obj hC kX4_init_o1 kX4_init_o2 kX4_init_o3 (Nat.le_of_ble_eq_true rfl) (Nat.le_of_ble_eq_true rfl) dX4_init_1 rfl ?_
  refine v_aload_n hC dX4_init_4 rfl 0 rfl rfl ?_
  refine k_new hC hA (ci := 0) iX4_init_X0 tyX0 tyX0_ok kX4_init_c7 kX4_init_n0 kX4_init_i0 rfl (fs := [.null, .null, .null, .int (nI 0), .int (nI 0), .int (nI 0), .int (nI 0), .int (nI 0), .int (nI 0), .int (nI 0)]) (fun j hj => by rcases (show j = 0 ∨ j = 1 ∨ j = 2 ∨ j = 3 ∨ j = 4 ∨ j = 5 ∨ j = 6 ∨ j = 7 ∨ j = 8 ∨ j = 9 by omega) with rfl | rfl | rfl | rfl | rfl | rfl | rfl | rfl | rfl | rfl <;> rfl) ⟨Nat.le_of_ble_eq_true rfl, Nat.le_of_ble_eq_true rfl⟩ dX4_init_5 rfl (fun q => ?_)
  refine v_dup hC dX4_init_8 rfl rfl ?_
  refine k_init hC hA hO (n := 0) (As := []) (st := [.ref q, .ref h0]) (fun sz => mX0_init l g cy sz q) gX4_init_X0_init rfl rfl rfl kX4_init_i0 kX4_init_m9 kX4_init_im0 rfl (by decide +kernel) ⟨Nat.le_of_ble_eq_true rfl, Nat.le_of_ble_eq_true rfl⟩ rfl (Nat.le_of_ble_eq_true rfl) rfl ⟨Nat.le_of_ble_eq_true rfl, Nat.le_of_ble_eq_true rfl⟩ dX4_init_9 rfl (fun u => ?_)
  refine k_putF hC hnm iX4_init_X4 tyX4 tyX4_ok nmX4 0 rfl rfl 0 (by decide) kX4_init_f10 rfl rfl rfl (ty := .object "CrowdFaces$Film") (by decide +kernel) rfl rfl (Nat.le_of_ble_eq_true rfl) dX4_init_12 ((h0, .inr (2, [.ref q, .int (nI 0)])) :: fW cy (fz q u) (fD N0)) rfl rfl ?_
  exact k_ret hC (q, u) rfl hr ⟨Nat.le_of_ble_eq_true rfl, Nat.le_of_ble_eq_true rfl⟩ dX4_init_15
theorem kX6_init_o1 : Cond.methodLink RX6 3 Lib.objectInit ∈ wsX6_init := by decide +kernel
theorem kX6_init_o2 : Cond.instanceMethod Lib.objectInit ∈ wsX6_init := by decide +kernel
theorem kX6_init_o3 : Cond.code Lib.objectInit ⟨#[0xb1]⟩ 1 none ∈ wsX6_init := by decide +kernel
theorem iX6_init_X6 : ∀ w ∈ wsX60, w ∈ wsX6_init := by decide +kernel
theorem iX6_init_X5 : ∀ w ∈ wsX50, w ∈ wsX6_init := by decide +kernel
theorem kX6_init_f14 : Cond.fieldLink RX6 14 "CrowdFaces$Text" "characters" "LCrowdFaces$Table;" ∈ wsX6_init := by decide +kernel
theorem kX6_init_c9 : Cond.classLink RX6 9 RX5 ∈ wsX6_init := by decide +kernel
theorem kX6_init_n5 : Cond.instantiable RX5 2 ∈ wsX6_init := by decide +kernel
theorem kX6_init_i5 : Cond.initialized RX5 ∈ wsX6_init := by decide +kernel
theorem kX6_init_im5 : Cond.instanceMethod yX5_init ∈ wsX6_init := by decide +kernel
theorem kX6_init_m11 : Cond.methodLink RX6 11 yX5_init ∈ wsX6_init := by decide +kernel
abbrev rmX6_init : Room := { frames := 2, cells := 2, slots := 122, locals := 44 }
theorem mX6_init (l : Launch) (g : va_G) (cy : Nat → ClassId) (sz h0 : Nat) : Met l yX6_init wsX6_init rmX6_init (PK [.ref h0] g cy sz [(h0, .inr (4, [.null, .int (nI 0)]))]) (QK g (va_A [(h0, .inr (4, [.null, .int (nI 0)]))] sz) (fun u : (Nat × Nat) => [(h0, .inr (4, [.ref u.1, .int (nI 0)])), (u.1, .inr (3, [.int (nI 120), .ref u.2])), (u.2, .inl (cy 0, 120, .inl (fun _ => nI 0)))])) 2 122 (va_A [(h0, .inr (4, [.null, .int (nI 0)]))] sz) := by
  refine m_ofVK (cc := cX6_init) (nL := 1) RX6 rfl (by decide) rfl rfl [(0, .ref h0)] rfl (Nat.le_of_ble_eq_true rfl) ?_
  intro p e s m args below meth c hC hr hnm hO hA
  generalize va_A [(h0, .inr (4, [.null, .int (nI 0)]))] sz = A at hA ⊢
  refine v_aload_n hC dX6_init_0 rfl 0 rfl rfl ?_
  refine k_obj hC kX6_init_o1 kX6_init_o2 kX6_init_o3 (Nat.le_of_ble_eq_true rfl) (Nat.le_of_ble_eq_true rfl) dX6_init_1 rfl ?_
  refine v_aload_n hC dX6_init_4 rfl 0 rfl rfl ?_
  refine k_new hC hA (ci := 3) iX6_init_X5 tyX5 tyX5_ok kX6_init_c9 kX6_init_n5 kX6_init_i5 rfl (fs := [.int (nI 0), .null]) (fun j hj => by rcases (show j = 0 ∨ j = 1 by omega) with rfl | rfl <;> rfl) ⟨Nat.le_of_ble_eq_true rfl, Nat.le_of_ble_eq_true rfl⟩ dX6_init_5 rfl (fun q => ?_)
  refine v_dup hC dX6_init_8 rfl rfl ?_
  refine v_iconst hC (v := (nI 1)) dX6_init_9 (by decide) rfl ?_
  refine v_bipush hC (v := (nI 120)) dX6_init_10 (by decide) rfl ?_
  refine k_init hC hA hO (n := 2) (As := [.int (nI 1), .int (nI 120)]) (st := [.ref q, .ref h0]) (fun sz => mX5_init_120 l g cy sz q) gX6_init_X5_init rfl rfl rfl kX6_init_i5 kX6_init_m11 kX6_init_im5 rfl (by decide +kernel) ⟨Nat.le_of_ble_eq_true rfl, Nat.le_of_ble_eq_true rfl⟩ rfl (Nat.le_of_ble_eq_true rfl) rfl ⟨Nat.le_of_ble_eq_true rfl, Nat.le_of_ble_eq_true rfl⟩ dX6_init_12 rfl (fun a => ?_)
  refine k_putF hC hnm iX6_init_X6 tyX6 tyX6_ok nmX6 0 rfl rfl 0 (by decide) kX6_init_f14 rfl rfl rfl (ty := .object "CrowdFaces$Table") (by decide +kernel) rfl rfl (Nat.le_of_ble_eq_true rfl) dX6_init_15 ([(h0, .inr (4, [.ref q, .int (nI 0)])), (q, .inr (3, [.int (nI 120), .ref a])), (a, .inl (cy 0, 120, .inl (fun _ => nI 0)))]) rfl rfl ?_
  exact k_ret hC (q, a) rfl hr ⟨Nat.le_of_ble_eq_true rfl, Nat.le_of_ble_eq_true rfl⟩ dX6_init_18

/-! ===== the law: from its entry to its loop ===== -/
theorem kL_law_c8 : Cond.classLink RL 8 RX7 ∈ wsL_law := by decide +kernel
theorem kL_law_n7 : Cond.instantiable RX7 6 ∈ wsL_law := by decide +kernel
theorem kL_law_i7 : Cond.initialized RX7 ∈ wsL_law := by decide +kernel
theorem kL_law_im7 : Cond.instanceMethod yX7_init ∈ wsL_law := by decide +kernel
theorem kL_law_m82 : Cond.methodLink RL 82 yX7_init ∈ wsL_law := by decide +kernel
theorem kL_law_c83 : Cond.classLink RL 83 RX8 ∈ wsL_law := by decide +kernel
theorem kL_law_n8 : Cond.instantiable RX8 11 ∈ wsL_law := by decide +kernel
theorem kL_law_i8 : Cond.initialized RX8 ∈ wsL_law := by decide +kernel
theorem kL_law_im8 : Cond.instanceMethod yX8_init ∈ wsL_law := by decide +kernel
theorem kL_law_m85 : Cond.methodLink RL 85 yX8_init ∈ wsL_law := by decide +kernel
theorem kL_law_aj : Cond.arrayClass .long ∈ wsL_law := by decide +kernel
theorem s_di : rI (diN (fun _ _ => 0)) = fun _ => nI 0 := by
  funext j
  unfold rI diN
  dsimp only
  by_cases h : j < 2296
  · rw [if_pos h]
  · rw [if_neg h]
theorem s_kp : rI (kpN (fun _ _ => 0)) = fun _ => nI 0 := by
  funext j
  unfold rI kpN
  dsimp only
  by_cases h : j < 328
  · rw [if_pos h]
  · rw [if_neg h]
theorem LI_start : LI 121 N0 (fun _ => 0) 0 0 (fun _ => N0) (fun _ _ => 0) (fun _ => 0) (fun _ => N0) (fun _ _ => 0) (fun _ => 0) 0 :=
  ⟨Nat.le_refl _, Inv_new.mono (Nat.zero_le _), fun _ _ => rfl, ⟨by decide, Nat.zero_le _, fun i hi => absurd hi (Nat.not_lt_zero i)⟩, fun j hj => absurd hj (Nat.not_lt_zero j), ⟨fun _ => Nat.zero_le _, fun i _ h => absurd h (show ¬ (0 : Nat) = 1 from by decide)⟩, fun j _ h => absurd h (show ¬ (0 : Nat) = 1 from by decide), ⟨fun _ => show (0 : Nat) < 1000 from by decide, Nat.zero_le _⟩⟩
theorem law_run {p : Program} {l : Launch} {e : Env} {s : State} {m : MethodId} {args : Array Value} {below : List Frame} {meth : Method} {c : Code} {Q : State → Prop} {g : va_G} {cy : Nat → ClassId} {A : Nat → Prop} {tt sa : Nat → Nat} {b Len : Nat} {xs : Nat → Int32} (hC : CX p s m args meth c g cy 7 cL_law wsL_law RL) (hX : XL l s tt sa A) (hO : va_AO RX0 s) (hX9 : va_X b Len xs s s.heap) (hbl : b < s.heap.size) (hbA : ¬ A b) (hLen : Len ≤ 3072) (kE : ∀ (ws : va_W) (lv : List (Nat × Value)), V p l e room_1 s m args below meth c g 7 601024 7293034 Q A A ws 1567 lv []) : V p l e room_1 s m args below meth c g 7 0 0 Q A A [] 0 [(0, .ref b)] [] := by
  have hA := hX.2.2.1
  refine k_new hC hA (ci := 5) inlX7 tyX7 tyX7_ok kL_law_c8 kL_law_n7 kL_law_i7 rfl (fs := [.null, .null, .null, .null, .null, .null]) (fun j hj => by rcases (show j = 0 ∨ j = 1 ∨ j = 2 ∨ j = 3 ∨ j = 4 ∨ j = 5 by omega) with rfl | rfl | rfl | rfl | rfl | rfl <;> rfl) ⟨Nat.le_of_ble_eq_true rfl, Nat.le_of_ble_eq_true rfl⟩ dL_law_0 rfl (fun h0 => ?_)
  refine v_dup hC dL_law_3 rfl rfl ?_
  refine k_init hC hA hO (n := 0) (As := []) (st := [.ref h0]) (fun sz => mX7_init l g cy sz h0) gL_law_X7_init rfl rfl rfl kL_law_i7 kL_law_m82 kL_law_im7 rfl (by decide +kernel) ⟨Nat.le_of_ble_eq_true rfl, Nat.le_of_ble_eq_true rfl⟩ rfl (Nat.le_of_ble_eq_true rfl) rfl ⟨Nat.le_of_ble_eq_true rfl, Nat.le_of_ble_eq_true rfl⟩ dL_law_4 rfl (fun u => ?_)
  refine v_astore_n hC dL_law_7 rfl (by decide) [(1, .ref h0), (0, .ref b)] rfl rfl ?_
  refine k_new hC hA (ci := 6) inlX8 tyX8 tyX8_ok kL_law_c83 kL_law_n8 kL_law_i8 rfl (fs := [.int (nI 0), .null, .int (nI 0), .null, .null, .null, .int (nI 0), .null, .null, .int (nI 0), .int (nI 0)]) (fun j hj => by rcases (show j = 0 ∨ j = 1 ∨ j = 2 ∨ j = 3 ∨ j = 4 ∨ j = 5 ∨ j = 6 ∨ j = 7 ∨ j = 8 ∨ j = 9 ∨ j = 10 by omega) with rfl | rfl | rfl | rfl | rfl | rfl | rfl | rfl | rfl | rfl | rfl <;> rfl) ⟨Nat.le_of_ble_eq_true rfl, Nat.le_of_ble_eq_true rfl⟩ dL_law_8 rfl (fun z0 => ?_)
  refine v_dup hC dL_law_11 rfl rfl ?_
  refine k_init hC hA hO (n := 0) (As := []) (st := [.ref z0]) (fun sz => mX8_init l g cy sz z0) gL_law_X8_init rfl rfl rfl kL_law_i8 kL_law_m85 kL_law_im8 rfl (by decide +kernel) ⟨Nat.le_of_ble_eq_true rfl, Nat.le_of_ble_eq_true rfl⟩ rfl (Nat.le_of_ble_eq_true rfl) rfl ⟨Nat.le_of_ble_eq_true rfl, Nat.le_of_ble_eq_true rfl⟩ dL_law_12 rfl (fun w => ?_)
  refine v_astore_n hC dL_law_15 rfl (by decide) [(2, .ref z0), (1, .ref h0), (0, .ref b)] rfl rfl ?_
  refine v_iconst hC (v := (nI 1)) dL_law_16 (by decide) rfl ?_
  refine k_arr hC hA .long kL_law_aj rfl 3 (by decide) rfl (1, .inr (.inl (fun _ => 0))) (fun _ => rfl) (by decide) (by decide) (Nat.le_of_ble_eq_true rfl) ⟨Nat.le_of_ble_eq_true rfl, Nat.le_of_ble_eq_true rfl⟩ dL_law_17 rfl (fun oa => ?_)
  refine v_astore_n hC dL_law_19 rfl (by decide) [(3, .ref oa), (2, .ref z0), (1, .ref h0), (0, .ref b)] rfl rfl ?_
  refine v_iconst hC (v := (nI 0)) dL_law_20 (by decide) rfl ?_
  refine v_istore hC dL_law_21 (by decide) [(4, .int (nI 0)), (3, .ref oa), (2, .ref z0), (1, .ref h0), (0, .ref b)] rfl rfl ?_
  refine v_sub [4, 3, 2, 1, 0] (lv' := [(0, .ref b), (1, .ref h0), (2, .ref z0), (3, .ref oa), (4, .int (nI 0))]) rfl ?_
  refine v_eqw (ws' := XC0 cy h0 u.1 u.2 ++ HF cy u.2 (rgD (fun _ => N0)) ++ ([(z0, .inr (6, [.int (nI 0), .ref (w 0), .int (nI 0), .ref (w 1), .ref (w 2), .ref (w 3), .int (nI 0), .ref (w 4), .ref (w 5), .int (nI 0), .int (nI 0)])), ((w 0), .inl (cy 0, 120, .inl (fun _ => nI 0))), ((w 1), .inl (cy 0, 164, .inl (rI N0))), ((w 2), .inl (cy 0, 164, .inl (fun _ => nI 0))), ((w 3), .inl (cy 0, 2296, .inl (fun _ => nI 0))), ((w 4), .inl (cy 0, 328, .inl (fun _ => nI 0))), ((w 5), .inl (cy 1, 2, .inl (fun _ => nI 0)))] ++ [(oa, .inl (cy 3, 1, .inr (.inl (fun _ => 0))))])) (by simp only [List.append_assoc, List.nil_append]) ?_
  refine k_swap ?_
  refine k_perm (X' := LX cy h0 u.1 u.2 z0 w oa (fun _ => 0) (FT N0) (FT N0) (nI 0) (nI 0) (nI 0) (nI 0) (FT N0) (FT N0) (nI 0) (rI (fun _ => 0)) (nI 0) (nI 0) (nI 0) (nI 0) (nI 0) (rI (fun _ => 0)) (rI N0) (rI (fun _ => 0)) (fun _ => nI 0) (fun _ => nI 0) (rI (fun _ => 0))) [43, 0, 1, 2, 3, 4, 5, 6, 7, 8, 9, 10, 11, 12, 13, 14, 15, 16, 17, 18, 19, 20, 21, 22, 23, 24, 25, 26, 27, 28, 29, 30, 31, 32, 33, 34, 35, 36, 37, 38, 39, 40, 41, 42] (by decide) rfl ?_
  refine v_eqw (ws' := LX cy h0 u.1 u.2 z0 w oa (fun _ => 0) (FT N0) (FT N0) (nI 0) (nI 0) (nI 0) (nI 0) (FT N0) (FT N0) (nI 0) (rI (fun _ => 0)) (nI 0) (nI 0) (nI 0) (nI 0) (nI 0) (rI (fun _ => 0)) (rI N0) (rI (fun _ => 0)) (rI (diN (fun _ _ => 0))) (rI (kpN (fun _ _ => 0))) (rI (fun _ => 0)) ++ HF cy u.2 (rgD (fun _ => N0))) (by rw [s_di, s_kp]) ?_
  have hrun := law_loop (h0 := h0) (z0 := z0) (oa := oa) (a := u.1) (z := w) (AD := u.2) hC hX hX9 hbl hbA hLen (fun i => kE _ _) 513 0 121 _ _ (N := N0) (M' := N0) (M := fun _ => 0) (o := 0) (ct := 0) (R := fun _ => N0) (D := fun _ _ => 0) (F := fun _ => 0) (P := fun _ => N0) (K := fun _ _ => 0) (T := fun _ => 0) (L := 0) (rf := nI 0) (sp := nI 0) (ou := nI 0) (O := fun _ => 0) (by omega) (by omega) (by decide) (show 0 + 1 + 133 + 1 + 6 + 1 + 4 * 513 ≤ 601024 from by decide) (show 0 + 6 + 3079 + 11 + 3074 + 1 + 24 * 513 ≤ 7293034 from by decide) LI_start
  exact hrun

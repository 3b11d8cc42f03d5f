/-! ===== the law: its two objects, and on ===== -/
theorem kL_law_c8 : Cond.classLink RL 8 RX7 ∈ wsL_law := by decide +kernel
theorem kL_law_n7 : Cond.instantiable RX7 6 ∈ wsL_law := by decide +kernel
theorem kL_law_i7 : Cond.initialized RX7 ∈ wsL_law := by decide +kernel
theorem kL_law_im7 : Cond.instanceMethod yX7_init ∈ wsL_law := by decide +kernel
theorem kL_law_m177 : Cond.methodLink RL 177 yX7_init ∈ wsL_law := by decide +kernel
def H0 : HH := (N0, 0, fun _ => N0, fun _ => N0)
theorem RP_new : RP 0 S0 H0 := ⟨Inv_new, ⟨by decide, Nat.zero_le _, fun i hi => absurd hi (Nat.not_lt_zero i)⟩, fun j hj => absurd hj (Nat.not_lt_zero j), ⟨fun _ => Nat.zero_le _, fun i _ h => absurd h (show ¬ (0 : Nat) = 1 from by decide)⟩, fun j _ h => absurd h (show ¬ (0 : Nat) = 1 from by decide)⟩
theorem law_run {p : Program} {l : Launch} {e : Env} {s : State} {m : MethodId} {args : Array Value} {below : List Frame} {meth : Method} {c : Code} {Q : State → Prop} {g : va_G} {cy : Nat → ClassId} {A : Nat → Prop} {tt sa : Nat → Nat} {b Len : Nat} {xs : Nat → Int32} (hC : CX p s m args meth c g cy 9 cL_law wsL_law RL) (hX : XL l s tt sa A) (hO : va_AO RX0 s) (hX9 : va_X b Len xs s s.heap) (hbl : b < s.heap.size) (hbA : ¬ A b) (hLen : Len ≤ 260) (kE : ∀ (ws : va_W) (lv : List (Nat × Value)) (cells slots : Nat), cells ≤ 701487 → slots ≤ 6997236 → V p l e room_1 s m args below meth c g 9 cells slots Q A A ws 318 lv [.int (nI 1)]) : V p l e room_1 s m args below meth c g 9 0 0 Q A A [] 0 [(0, .ref b)] [] := by
  have hA := hX.2.2.1
  refine k_new hC hA (ci := 5) inlX7 tyX7 tyX7_ok kL_law_c8 kL_law_n7 kL_law_i7 rfl (fs := [.null, .null, .null, .null, .null, .null]) (fun j hj => by rcases (show j = 0 ∨ j = 1 ∨ j = 2 ∨ j = 3 ∨ j = 4 ∨ j = 5 by omega) with rfl | rfl | rfl | rfl | rfl | rfl <;> rfl) ⟨Nat.le_of_ble_eq_true rfl, Nat.le_of_ble_eq_true rfl⟩ dL_law_0 rfl (fun h0 => ?_)
  refine v_dup hC dL_law_3 rfl rfl ?_
  refine k_init hC hA hO (n := 0) (As := []) (st := [.ref h0]) (fun sz => mX7_init l g cy sz h0) gL_law_X7_init rfl rfl rfl kL_law_i7 kL_law_m177 kL_law_im7 rfl (by decide +kernel) ⟨Nat.le_of_ble_eq_true rfl, Nat.le_of_ble_eq_true rfl⟩ rfl (Nat.le_of_ble_eq_true rfl) rfl ⟨Nat.le_of_ble_eq_true rfl, Nat.le_of_ble_eq_true rfl⟩ dL_law_4 rfl (fun u => ?_)
  refine v_astore_n hC dL_law_7 rfl (by decide) [(1, .ref h0), (0, .ref b)] rfl rfl ?_
  refine k_new hC hA (ci := 5) inlX7 tyX7 tyX7_ok kL_law_c8 kL_law_n7 kL_law_i7 rfl (fs := [.null, .null, .null, .null, .null, .null]) (fun j hj => by rcases (show j = 0 ∨ j = 1 ∨ j = 2 ∨ j = 3 ∨ j = 4 ∨ j = 5 by omega) with rfl | rfl | rfl | rfl | rfl | rfl <;> rfl) ⟨Nat.le_of_ble_eq_true rfl, Nat.le_of_ble_eq_true rfl⟩ dL_law_8 rfl (fun z0 => ?_)
  refine v_dup hC dL_law_11 rfl rfl ?_
  refine k_init hC hA hO (n := 0) (As := []) (st := [.ref z0]) (fun sz => mX7_init l g cy sz z0) gL_law_X7_init rfl rfl rfl kL_law_i7 kL_law_m177 kL_law_im7 rfl (by decide +kernel) ⟨Nat.le_of_ble_eq_true rfl, Nat.le_of_ble_eq_true rfl⟩ rfl (Nat.le_of_ble_eq_true rfl) rfl ⟨Nat.le_of_ble_eq_true rfl, Nat.le_of_ble_eq_true rfl⟩ dL_law_12 rfl (fun w => ?_)
  refine v_astore_n hC dL_law_15 rfl (by decide) [(2, .ref z0), (1, .ref h0), (0, .ref b)] rfl rfl ?_
  refine v_sub [2, 1, 0] (lv' := [(0, .ref b), (1, .ref h0), (2, .ref z0)]) rfl ?_
  refine v_eqw (ws' := (XC0 cy h0 u.1 u.2 ++ HF cy u.2 (rgD (fun _ => N0))) ++ (XC0 cy z0 w.1 w.2 ++ HF cy w.2 (rgD (fun _ => N0)))) (by simp only [List.append_assoc, List.nil_append]) ?_
  refine v_eqw (ws' := WO cy (h0, u) S0 H0 ++ WO cy (z0, w) S0 H0) rfl ?_
  exact law_16 (A := (h0, u)) (B := (z0, w)) (T := 368) (T2 := 1418) hC hX hX9 hbl hbA kE (by omega) (by omega) (res := nI 1) rfl S0 S0 H0 H0 0 0 _ _ RP_new RP_new (by omega) (by omega) (by decide) (by decide) (pure_law (by omega))

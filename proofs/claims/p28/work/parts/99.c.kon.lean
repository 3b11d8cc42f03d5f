/-! ===== constructors: History, CrowdFaces, the reference ===== -/
theorem kX1_init_o1 : Cond.methodLink RX1 3 Lib.objectInit ∈ wsX1_init := by decide +kernel
theorem kX1_init_o2 : Cond.instanceMethod Lib.objectInit ∈ wsX1_init := by decide +kernel
theorem kX1_init_o3 : Cond.code Lib.objectInit ⟨#[0xb1]⟩ 1 none ∈ wsX1_init := by decide +kernel
theorem iX1_init_X1 : ∀ w ∈ wsX10, w ∈ wsX1_init := by decide +kernel
theorem iX1_init_X0 : ∀ w ∈ wsX00, w ∈ wsX1_init := by decide +kernel
theorem kX1_init_f11 : Cond.fieldLink RX1 11 "CrowdFaces$History" "ring" "[LCrowdFaces$Film;" ∈ wsX1_init := by decide +kernel
theorem kX1_init_c9 : Cond.classLink RX1 9 RX0 ∈ wsX1_init := by decide +kernel
theorem kX1_init_n0 : Cond.instantiable RX0 10 ∈ wsX1_init := by decide +kernel
theorem kX1_init_i0 : Cond.initialized RX0 ∈ wsX1_init := by decide +kernel
theorem kX1_init_im0 : Cond.instanceMethod yX0_init ∈ wsX1_init := by decide +kernel
theorem kX1_init_m17 : Cond.methodLink RX1 17 yX0_init ∈ wsX1_init := by decide +kernel
abbrev rmX1_init : Room := { frames := 3, cells := 99, slots := 2296, locals := 64 }
/-- the first n films of the ring -/
def HFn (cy : Nat → ClassId) (AD : Nat → Nat → Nat) (n : Nat) : va_W := (List.range n).flatMap (fun k => fW cy (AD k) (fD N0))
theorem HFn_up {cy : Nat → ClassId} {AD : Nat → Nat → Nat} {n : Nat} {a : Nat → Nat} : HFn cy (va_up AD n a) (n + 1) = HFn cy AD n ++ fW cy a (fD N0) := by
  unfold HFn
  rw [List.range_succ, List.flatMap_append, List.flatMap_singleton, va_up_self]
  congr 1
  rw [List.flatMap_def, List.flatMap_def]
  congr 1
  refine List.map_congr_left (fun k hk => ?_)
  rw [va_up_ne AD a (Nat.ne_of_lt (List.mem_range.mp hk))]
theorem HFn_all {cy : Nat → ClassId} {AD : Nat → Nat → Nat} : HFn cy AD 14 = HF cy AD (rgD (fun _ => N0)) := rfl
section KR2
variable {p : Program} {l : Launch} {e : Env} {R : Room} {s : State} {m : MethodId} {args : Array Value} {below : List Frame} {meth : Method} {c : Code} {cells slots : Nat} {Q : State → Prop}
variable {g : va_G} {cy : Nat → ClassId} {nL : Nat} {cc : ByteArray} {Ts : List Cond} {own : String} {A B : Nat → Prop} {ws : va_W} {pc pc' : Nat} {lv lv' : List (Nat × Value)} {st : List Value}
theorem k_ast (hC : CX p s m args meth c g cy nL cc Ts own) (q0 qk : Nat) {a v n : Nat} {vs : List Value} {f : Nat → Option Nat} (ha : ws[q0]? = some (a, .inl (cy 2, n, .inr (.inr (.inr (.inr f)))))) (hv : ws[qk]? = some (v, .inr (0, vs))) {i : Int32} (hin : nb i n = true) (hd : decode cc pc = .ok (.aastore, 1)) (ws' : va_W) (hw : ws.set q0 (a, .inl (cy 2, n, .inr (.inr (.inr (.inr (va_up f i.toNatClampNeg (some v))))))) = ws') (hp : pc + 1 = pc') (kk : V p l e R s m args below meth c g nL cells slots Q A A ws' pc' lv st) : V p l e R s m args below meth c g nL cells slots Q A A ws pc lv (.ref v :: .int i :: .ref a :: st) := by
  subst hp
  subst hw
  intro H locs ls hD hP hS hl
  exact va_astq hC.1 hC.2.1 hC.2.2.2.2.2.2.1 hP hD hS q0 2 qk 0 ha rfl hv rfl (nb_in hin) hd (fun H1 locs1 hP1 hD1 hS1 => kk H1 locs1 ls hD1 hP1 hS1 hl)
/-- an array of references is what its elements are -/
theorem k_same {a n : Nat} {cA : ClassId} {f f' : Nat → Option Nat} {z : Nat × va_E} {Y : va_W} (h : ∀ j, j < n → f j = f' j) (k : V p l e R s m args below meth c g nL cells slots Q A A (z :: (a, .inl (cA, n, .inr (.inr (.inr (.inr f'))))) :: Y) pc lv st) : V p l e R s m args below meth c g nL cells slots Q A A (z :: (a, .inl (cA, n, .inr (.inr (.inr (.inr f))))) :: Y) pc lv st := by
  intro H locs ls hD hP hS hl
  have hcell : vp_cell cA (n, .inr (.inr (.inr (.inr f)))) = vp_cell cA (n, .inr (.inr (.inr (.inr f')))) := by
    show arrV cA n (fun j => va_rf (f j)) = arrV cA n (fun j => va_rf (f' j))
    unfold arrV
    have e9 : (fun j : Fin n => va_rf (f j.val)) = (fun j : Fin n => va_rf (f' j.val)) := funext (fun j => by rw [h j.val j.isLt])
    rw [e9]
  refine k H locs ls (va_D.ofNodup hD.nodup (fun q hq => ?_)) (fun k9 q9 h9 => ?_) hS hl
  · have hm : q.1 ∈ (z :: (a, (.inl (cA, n, .inr (.inr (.inr (.inr f)))) : va_E)) :: Y).map Prod.fst := by
      have := List.mem_map.mpr ⟨q, hq, (rfl : q.1 = q.1)⟩
      exact this
    obtain ⟨x, hx, e9⟩ := List.mem_map.mp hm
    exact e9 ▸ hD.memB hx
  · match k9, h9 with
    | 0, h9 => exact hP 0 q9 h9
    | 1, h9 =>
      cases h9
      have h1 : H[a]? = some (vp_cell cA (n, .inr (.inr (.inr (.inr f))))) := hP 1 (a, .inl (cA, n, .inr (.inr (.inr (.inr f))))) rfl
      show H[a]? = some (vp_cell cA (n, .inr (.inr (.inr (.inr f')))))
      rw [← hcell]
      exact h1
    | k9 + 2, h9 => exact hP (k9 + 2) q9 h9
end KR2
theorem kX1_loop {p : Program} {l : Launch} {e : Env} {s : State} {m : MethodId} {args : Array Value} {below : List Frame} {meth : Method} {c : Code} {g : va_G} {cy : Nat → ClassId} {A : Nat → Prop} {h0 ar : Nat} (hC : CX p s m args meth c g cy 2 cX1_init wsX1_init RX1) (hr : meth.sig.returnType = none) (hO : va_AO RX0 s) (hA : ∀ q, s.heap.size ≤ q → A q) : ∀ (n i : Nat) (AD : Nat → Nat → Nat) (f : Nat → Option Nat), i + n = 14 → (∀ k, k < i → f k = some (AD k 0)) → V p l e (headSpec wsX1_init rmX1_init).room s m args below meth c g 2 (1 + 7 * i) (14 + 163 * i) (MQ below (QK g A (fun u : (Nat × (Nat → Nat → Nat)) => [(h0, .inr (1, [.ref u.1, .int (nI 0), .int (nI 0)])), (u.1, .inl (cy 2, 14, .inr (.inr (.inr (.inr (fun k => some (u.2 k 0)))))))] ++ HF cy u.2 (rgD (fun _ => N0)))) args s 99 2296 A) A A ([(h0, .inr (1, [.ref ar, .int (nI 0), .int (nI 0)])), (ar, .inl (cy 2, 14, .inr (.inr (.inr (.inr f)))))] ++ HFn cy AD i) 15 [(0, .ref h0), (1, .int (nI i))] [] := by
  intro n
  induction n with
  | zero =>
    intro i AD f hi hf
    have hi : i = 14 := by omega
    subst hi
    refine v_iload_n hC dX1_init_15 rfl 1 rfl rfl ?_
    refine v_aload_n hC dX1_init_16 rfl 0 rfl rfl ?_
    refine v_get hC iX1_init_X1 0 rfl rfl 0 (by decide) kX1_init_f11 rfl rfl dX1_init_17 rfl ?_
    refine v_alen hC 1 2 rfl rfl (v := (nI 14)) rfl dX1_init_20 rfl ?_
    refine v_icmp_ge hC (tgt := 43) dX1_init_21 (by decide) rfl (fun h9 => ?_) (fun h9 => absurd (show nI 14 ≤ nI 14 from by decide) h9)
    refine k_same (f' := fun k => some (AD k 0)) (fun j hj => hf j hj) ?_
    exact k_ret hC (ar, AD) rfl hr ⟨Nat.le_of_ble_eq_true rfl, Nat.le_of_ble_eq_true rfl⟩ dX1_init_43
  | succ n ih =>
    intro i AD f hi hf
    have hlt : i < 14 := by omega
    refine v_iload_n hC dX1_init_15 rfl 1 rfl rfl ?_
    refine v_aload_n hC dX1_init_16 rfl 0 rfl rfl ?_
    refine v_get hC iX1_init_X1 0 rfl rfl 0 (by decide) kX1_init_f11 rfl rfl dX1_init_17 rfl ?_
    refine v_alen hC 1 2 rfl rfl (v := (nI 14)) rfl dX1_init_20 rfl ?_
    refine v_icmp_ge hC (tgt := 43) dX1_init_21 (by decide) rfl (fun h9 => absurd ((zle (by omega) (by omega)).mp h9) (by omega)) (fun _ => ?_)
    refine v_aload_n hC dX1_init_24 rfl 0 rfl rfl ?_
    refine v_get hC iX1_init_X1 0 rfl rfl 0 (by decide) kX1_init_f11 rfl rfl dX1_init_25 rfl ?_
    refine v_iload_n hC dX1_init_28 rfl 1 rfl rfl ?_
    refine k_new hC hA (ci := 0) iX1_init_X0 tyX0 tyX0_ok kX1_init_c9 kX1_init_n0 kX1_init_i0 rfl (fs := [.null, .null, .null, .int (nI 0), .int (nI 0), .int (nI 0), .int (nI 0), .int (nI 0), .int (nI 0), .int (nI 0)]) (fun j hj => by rcases (show j = 0 ∨ j = 1 ∨ j = 2 ∨ j = 3 ∨ j = 4 ∨ j = 5 ∨ j = 6 ∨ j = 7 ∨ j = 8 ∨ j = 9 by omega) with rfl | rfl | rfl | rfl | rfl | rfl | rfl | rfl | rfl | rfl <;> rfl) ⟨by show 1 + 7 * i + 1 ≤ 99; omega, by show 14 + 163 * i + 10 ≤ 2296; omega⟩ dX1_init_29 rfl (fun q => ?_)
    refine v_dup hC dX1_init_32 rfl rfl ?_
    refine k_init hC hA hO (n := 0) (As := []) (st := [.ref q, .int (nI i), .ref ar]) (fun sz => mX0_init l g cy sz q) gX1_init_X0_init rfl rfl rfl kX1_init_i0 kX1_init_m17 kX1_init_im0 rfl (by decide +kernel) ⟨Nat.le_of_ble_eq_true rfl, Nat.le_of_ble_eq_true rfl⟩ rfl (Nat.le_of_ble_eq_true rfl) rfl ⟨by show 1 + 7 * i + 1 + 6 ≤ 99; omega, by show 14 + 163 * i + 10 + 153 ≤ 2296; omega⟩ dX1_init_33 rfl (fun u => ?_)
    refine k_ast hC 1 ([(h0, .inr (1, [.ref ar, .int (nI 0), .int (nI 0)])), (ar, .inl (cy 2, 14, .inr (.inr (.inr (.inr f)))))] ++ HFn cy AD i : va_W).length rfl (by rw [List.getElem?_append_right (Nat.le_refl _), Nat.sub_self]; rfl) ((znb (by omega)).mpr hlt) dX1_init_36 ([(h0, .inr (1, [.ref ar, .int (nI 0), .int (nI 0)])), (ar, .inl (cy 2, 14, .inr (.inr (.inr (.inr (va_up f (nI i).toNatClampNeg (some q)))))))] ++ HFn cy (va_up AD i (fz q u)) (i + 1)) (by rw [HFn_up]; rfl) rfl ?_
    refine v_iinc hC dX1_init_37 1 rfl (v := nI (i + 1)) (zadd i 1) (by decide) [(1, .int (nI (i + 1))), (0, .ref h0)] rfl rfl ?_
    refine v_goto hC (tgt := 15) dX1_init_40 (by decide) ?_
    refine v_sub [1, 0] (lv' := [(0, .ref h0), (1, .int (nI (i + 1)))]) rfl ?_
    refine v_widen (k := 1 + 7 * (i + 1)) (n := 14 + 163 * (i + 1)) (by omega) (by omega) ?_
    refine ih (i + 1) (va_up AD i (fz q u)) _ (by omega) (fun k hk => ?_)
    rw [zcl (by omega)]
    by_cases hki : k = i
    · subst hki
      rw [va_up_self, va_up_self]
      rfl
    · rw [va_up_ne _ _ hki, va_up_ne _ _ hki]
      exact hf k (by omega)
theorem mX1_init (l : Launch) (g : va_G) (cy : Nat → ClassId) (sz h0 : Nat) : Met l yX1_init wsX1_init rmX1_init (PK [.ref h0] g cy sz [(h0, .inr (1, [.null, .int (nI 0), .int (nI 0)]))]) (QK g (va_A [(h0, .inr (1, [.null, .int (nI 0), .int (nI 0)]))] sz) (fun u : (Nat × (Nat → Nat → Nat)) => [(h0, .inr (1, [.ref u.1, .int (nI 0), .int (nI 0)])), (u.1, .inl (cy 2, 14, .inr (.inr (.inr (.inr (fun k => some (u.2 k 0)))))))] ++ HF cy u.2 (rgD (fun _ => N0)))) 99 2296 (va_A [(h0, .inr (1, [.null, .int (nI 0), .int (nI 0)]))] sz) := by
  refine m_ofVK (cc := cX1_init) (nL := 2) RX1 rfl (by decide) rfl rfl [(0, .ref h0)] rfl (Nat.le_of_ble_eq_true rfl) ?_
  intro p e s m args below meth c hC hr hnm hO hA
  generalize va_A [(h0, .inr (1, [.null, .int (nI 0), .int (nI 0)]))] sz = A at hA ⊢
  refine v_aload_n hC dX1_init_0 rfl 0 rfl rfl ?_
  refine k_obj hC kX1_init_o1 kX1_init_o2 kX1_init_o3 (Nat.le_of_ble_eq_true rfl) (Nat.le_of_ble_eq_true rfl) dX1_init_1 rfl ?_
  refine v_aload_n hC dX1_init_4 rfl 0 rfl rfl ?_
  refine v_bipush hC (v := (nI 14)) dX1_init_5 (by decide) rfl ?_
  refine k_arrq hC hA hO kX1_init_c9 (by decide) (N' := 14) (by decide) (Nat.le_of_ble_eq_true rfl) ⟨Nat.le_of_ble_eq_true rfl, Nat.le_of_ble_eq_true rfl⟩ dX1_init_7 rfl (fun ar => ?_)
  refine k_putF hC hnm iX1_init_X1 tyX1 tyX1_ok nmX1 0 rfl rfl 0 (by decide) kX1_init_f11 rfl rfl rfl (ty := .array (.object "CrowdFaces$Film")) (by decide +kernel) rfl rfl (Nat.le_of_ble_eq_true rfl) dX1_init_10 ([(h0, .inr (1, [.ref ar, .int (nI 0), .int (nI 0)])), (ar, .inl (cy 2, 14, .inr (.inr (.inr (.inr (fun _ => none))))))]) rfl rfl ?_
  refine v_iconst hC (v := (nI 0)) dX1_init_13 (by decide) rfl ?_
  refine v_istore_n hC dX1_init_14 rfl (by decide) [(1, .int (nI 0)), (0, .ref h0)] rfl rfl ?_
  refine v_sub [1, 0] (lv' := [(0, .ref h0), (1, .int (nI 0))]) rfl ?_
  exact kX1_loop hC hr hO hA 14 0 (fun _ _ => 0) (fun _ => none) rfl (fun k hk => absurd hk (Nat.not_lt_zero k))
theorem kX7_init_o1 : Cond.methodLink RX7 1 Lib.objectInit ∈ wsX7_init := by decide +kernel
theorem kX7_init_o2 : Cond.instanceMethod Lib.objectInit ∈ wsX7_init := by decide +kernel
theorem kX7_init_o3 : Cond.code Lib.objectInit ⟨#[0xb1]⟩ 1 none ∈ wsX7_init := by decide +kernel
theorem iX7_init_X7 : ∀ w ∈ wsX70, w ∈ wsX7_init := by decide +kernel
theorem iX7_init_X0 : ∀ w ∈ wsX00, w ∈ wsX7_init := by decide +kernel
theorem iX7_init_X1 : ∀ w ∈ wsX10, w ∈ wsX7_init := by decide +kernel
theorem iX7_init_X4 : ∀ w ∈ wsX40, w ∈ wsX7_init := by decide +kernel
theorem iX7_init_X6 : ∀ w ∈ wsX60, w ∈ wsX7_init := by decide +kernel
theorem kX7_init_f10 : Cond.fieldLink RX7 10 "CrowdFaces" "film" "LCrowdFaces$Film;" ∈ wsX7_init := by decide +kernel
theorem kX7_init_f16 : Cond.fieldLink RX7 16 "CrowdFaces" "trial" "LCrowdFaces$Film;" ∈ wsX7_init := by decide +kernel
theorem kX7_init_f22 : Cond.fieldLink RX7 22 "CrowdFaces" "history" "LCrowdFaces$History;" ∈ wsX7_init := by decide +kernel
theorem kX7_init_f29 : Cond.fieldLink RX7 29 "CrowdFaces" "firstSlot" "LCrowdFaces$Slot;" ∈ wsX7_init := by decide +kernel
theorem kX7_init_f33 : Cond.fieldLink RX7 33 "CrowdFaces" "secondSlot" "LCrowdFaces$Slot;" ∈ wsX7_init := by decide +kernel
theorem kX7_init_f39 : Cond.fieldLink RX7 39 "CrowdFaces" "text" "LCrowdFaces$Text;" ∈ wsX7_init := by decide +kernel
theorem kX7_init_c7 : Cond.classLink RX7 7 RX0 ∈ wsX7_init := by decide +kernel
theorem kX7_init_n0 : Cond.instantiable RX0 10 ∈ wsX7_init := by decide +kernel
theorem kX7_init_i0 : Cond.initialized RX0 ∈ wsX7_init := by decide +kernel
theorem kX7_init_im0 : Cond.instanceMethod yX0_init ∈ wsX7_init := by decide +kernel
theorem kX7_init_m9 : Cond.methodLink RX7 9 yX0_init ∈ wsX7_init := by decide +kernel
theorem kX7_init_c19 : Cond.classLink RX7 19 RX1 ∈ wsX7_init := by decide +kernel
theorem kX7_init_n1 : Cond.instantiable RX1 3 ∈ wsX7_init := by decide +kernel
theorem kX7_init_i1 : Cond.initialized RX1 ∈ wsX7_init := by decide +kernel
theorem kX7_init_im1 : Cond.instanceMethod yX1_init ∈ wsX7_init := by decide +kernel
theorem kX7_init_m21 : Cond.methodLink RX7 21 yX1_init ∈ wsX7_init := by decide +kernel
theorem kX7_init_c26 : Cond.classLink RX7 26 RX4 ∈ wsX7_init := by decide +kernel
theorem kX7_init_n4 : Cond.instantiable RX4 2 ∈ wsX7_init := by decide +kernel
theorem kX7_init_i4 : Cond.initialized RX4 ∈ wsX7_init := by decide +kernel
theorem kX7_init_im4 : Cond.instanceMethod yX4_init ∈ wsX7_init := by decide +kernel
theorem kX7_init_m28 : Cond.methodLink RX7 28 yX4_init ∈ wsX7_init := by decide +kernel
theorem kX7_init_c36 : Cond.classLink RX7 36 RX6 ∈ wsX7_init := by decide +kernel
theorem kX7_init_n6 : Cond.instantiable RX6 2 ∈ wsX7_init := by decide +kernel
theorem kX7_init_i6 : Cond.initialized RX6 ∈ wsX7_init := by decide +kernel
theorem kX7_init_im6 : Cond.instanceMethod yX6_init ∈ wsX7_init := by decide +kernel
theorem kX7_init_m38 : Cond.methodLink RX7 38 yX6_init ∈ wsX7_init := by decide +kernel
abbrev rmX7_init : Room := { frames := 4, cells := 133, slots := 3079, locals := 100 }
/-- the object at its start, ahead of its ring -/
def XC0 (cy : Nat → ClassId) (h0 : Nat) (a : Nat → Nat) (AD : Nat → Nat → Nat) : va_W := [(h0, .inr (5, [.ref (a 0), .ref (a 7), .ref (a 14), .ref (a 16), .ref (a 24), .ref (a 32)])), ((a 14), .inr (1, [.ref (a 15), .int (nI 0), .int (nI 0)])), ((a 15), .inl (cy 2, 14, .inr (.inr (.inr (.inr (fun k => some (AD k 0))))))), ((a 16), .inr (2, [.ref (a 17), .int (nI 0)])), ((a 17), .inr (0, [.ref (a 18), .ref (a 20), .ref (a 22), .int (nI (N0 0)), .int (nI (N0 1)), .int (nI (N0 2)), .int (nI (N0 3)), .int (nI (N0 4)), .int (nI (N0 5)), .int (nI (N0 6))])), ((a 18), .inr (3, [.int (nI 14), .ref (a 19)])), ((a 19), .inl (cy 0, 84, .inl (rI (exR N0)))), ((a 20), .inr (3, [.int (nI 10), .ref (a 21)])), ((a 21), .inl (cy 0, 60, .inl (rI (scR N0)))), ((a 22), .inr (3, [.int (nI 1), .ref (a 23)])), ((a 23), .inl (cy 0, 3, .inl (rI (seR N0)))), ((a 24), .inr (2, [.ref (a 25), .int (nI 0)])), ((a 25), .inr (0, [.ref (a 26), .ref (a 28), .ref (a 30), .int (nI (N0 0)), .int (nI (N0 1)), .int (nI (N0 2)), .int (nI (N0 3)), .int (nI (N0 4)), .int (nI (N0 5)), .int (nI (N0 6))])), ((a 26), .inr (3, [.int (nI 14), .ref (a 27)])), ((a 27), .inl (cy 0, 84, .inl (rI (exR N0)))), ((a 28), .inr (3, [.int (nI 10), .ref (a 29)])), ((a 29), .inl (cy 0, 60, .inl (rI (scR N0)))), ((a 30), .inr (3, [.int (nI 1), .ref (a 31)])), ((a 31), .inl (cy 0, 3, .inl (rI (seR N0)))), ((a 0), .inr (0, [.ref (a 1), .ref (a 3), .ref (a 5), .int (nI (N0 0)), .int (nI (N0 1)), .int (nI (N0 2)), .int (nI (N0 3)), .int (nI (N0 4)), .int (nI (N0 5)), .int (nI (N0 6))])), ((a 1), .inr (3, [.int (nI 14), .ref (a 2)])), ((a 2), .inl (cy 0, 84, .inl (rI (exR N0)))), ((a 3), .inr (3, [.int (nI 10), .ref (a 4)])), ((a 4), .inl (cy 0, 60, .inl (rI (scR N0)))), ((a 5), .inr (3, [.int (nI 1), .ref (a 6)])), ((a 6), .inl (cy 0, 3, .inl (rI (seR N0)))), ((a 7), .inr (0, [.ref (a 8), .ref (a 10), .ref (a 12), .int (nI (N0 0)), .int (nI (N0 1)), .int (nI (N0 2)), .int (nI (N0 3)), .int (nI (N0 4)), .int (nI (N0 5)), .int (nI (N0 6))])), ((a 8), .inr (3, [.int (nI 14), .ref (a 9)])), ((a 9), .inl (cy 0, 84, .inl (rI (exR N0)))), ((a 10), .inr (3, [.int (nI 10), .ref (a 11)])), ((a 11), .inl (cy 0, 60, .inl (rI (scR N0)))), ((a 12), .inr (3, [.int (nI 1), .ref (a 13)])), ((a 13), .inl (cy 0, 3, .inl (rI (seR N0)))), ((a 32), .inr (4, [.ref (a 33), .int (nI 0)])), ((a 33), .inr (3, [.int (nI 120), .ref (a 34)])), ((a 34), .inl (cy 0, 120, .inl (fun _ => nI 0)))]
theorem mX7_init (l : Launch) (g : va_G) (cy : Nat → ClassId) (sz h0 : Nat) : Met l yX7_init wsX7_init rmX7_init (PK [.ref h0] g cy sz [(h0, .inr (5, [.null, .null, .null, .null, .null, .null]))]) (QK g (va_A [(h0, .inr (5, [.null, .null, .null, .null, .null, .null]))] sz) (fun u : ((Nat → Nat) × (Nat → Nat → Nat)) => XC0 cy h0 u.1 u.2 ++ HF cy u.2 (rgD (fun _ => N0)))) 133 3079 (va_A [(h0, .inr (5, [.null, .null, .null, .null, .null, .null]))] sz) := by
  refine m_ofVK (cc := cX7_init) (nL := 1) RX7 rfl (by decide) rfl rfl [(0, .ref h0)] rfl (Nat.le_of_ble_eq_true rfl) ?_
  intro p e s m args below meth c hC hr hnm hO hA
  generalize va_A [(h0, .inr (5, [.null, .null, .null, .null, .null, .null]))] sz = A at hA ⊢
  refine v_aload_n hC dX7_init_0 rfl 0 rfl rfl ?_
  refine k_obj hC kX7_init_o1 kX7_init_o2 kX7_init_o3 (Nat.le_of_ble_eq_true rfl) (Nat.le_of_ble_eq_true rfl) dX7_init_1 rfl ?_
  refine v_aload_n hC dX7_init_4 rfl 0 rfl rfl ?_
  refine k_new hC hA (ci := 0) iX7_init_X0 tyX0 tyX0_ok kX7_init_c7 kX7_init_n0 kX7_init_i0 rfl (fs := [.null, .null, .null, .int (nI 0), .int (nI 0), .int (nI 0), .int (nI 0), .int (nI 0), .int (nI 0), .int (nI 0)]) (fun j hj => by rcases (show j = 0 ∨ j = 1 ∨ j = 2 ∨ j = 3 ∨ j = 4 ∨ j = 5 ∨ j = 6 ∨ j = 7 ∨ j = 8 ∨ j = 9 by omega) with rfl | rfl | rfl | rfl | rfl | rfl | rfl | rfl | rfl | rfl <;> rfl) ⟨Nat.le_of_ble_eq_true rfl, Nat.le_of_ble_eq_true rfl⟩ dX7_init_5 rfl (fun q0 => ?_)
  refine v_dup hC dX7_init_8 rfl rfl ?_
  refine k_init hC hA hO (n := 0) (As := []) (st := [.ref q0, .ref h0]) (fun sz => mX0_init l g cy sz q0) gX7_init_X0_init rfl rfl rfl kX7_init_i0 kX7_init_m9 kX7_init_im0 rfl (by decide +kernel) ⟨Nat.le_of_ble_eq_true rfl, Nat.le_of_ble_eq_true rfl⟩ rfl (Nat.le_of_ble_eq_true rfl) rfl ⟨Nat.le_of_ble_eq_true rfl, Nat.le_of_ble_eq_true rfl⟩ dX7_init_9 rfl (fun u0 => ?_)
  refine k_putF hC hnm iX7_init_X7 tyX7 tyX7_ok nmX7 0 rfl rfl 0 (by decide) kX7_init_f10 rfl rfl rfl (ty := .object "CrowdFaces$Film") (by decide +kernel) rfl rfl (Nat.le_of_ble_eq_true rfl) dX7_init_12 ([(h0, .inr (5, [.ref q0, .null, .null, .null, .null, .null]))] ++ fW cy (fz q0 u0) (fD N0)) rfl rfl ?_
  refine v_aload_n hC dX7_init_15 rfl 0 rfl rfl ?_
  refine k_new hC hA (ci := 0) iX7_init_X0 tyX0 tyX0_ok kX7_init_c7 kX7_init_n0 kX7_init_i0 rfl (fs := [.null, .null, .null, .int (nI 0), .int (nI 0), .int (nI 0), .int (nI 0), .int (nI 0), .int (nI 0), .int (nI 0)]) (fun j hj => by rcases (show j = 0 ∨ j = 1 ∨ j = 2 ∨ j = 3 ∨ j = 4 ∨ j = 5 ∨ j = 6 ∨ j = 7 ∨ j = 8 ∨ j = 9 by omega) with rfl | rfl | rfl | rfl | rfl | rfl | rfl | rfl | rfl | rfl <;> rfl) ⟨Nat.le_of_ble_eq_true rfl, Nat.le_of_ble_eq_true rfl⟩ dX7_init_16 rfl (fun q1 => ?_)
  refine v_dup hC dX7_init_19 rfl rfl ?_
  refine k_init hC hA hO (n := 0) (As := []) (st := [.ref q1, .ref h0]) (fun sz => mX0_init l g cy sz q1) gX7_init_X0_init rfl rfl rfl kX7_init_i0 kX7_init_m9 kX7_init_im0 rfl (by decide +kernel) ⟨Nat.le_of_ble_eq_true rfl, Nat.le_of_ble_eq_true rfl⟩ rfl (Nat.le_of_ble_eq_true rfl) rfl ⟨Nat.le_of_ble_eq_true rfl, Nat.le_of_ble_eq_true rfl⟩ dX7_init_20 rfl (fun u1 => ?_)
  refine k_putF hC hnm iX7_init_X7 tyX7 tyX7_ok nmX7 0 rfl rfl 1 (by decide) kX7_init_f16 rfl rfl rfl (ty := .object "CrowdFaces$Film") (by decide +kernel) rfl rfl (Nat.le_of_ble_eq_true rfl) dX7_init_23 ([(h0, .inr (5, [.ref q0, .ref q1, .null, .null, .null, .null]))] ++ fW cy (fz q0 u0) (fD N0) ++ fW cy (fz q1 u1) (fD N0)) rfl rfl ?_
  refine v_aload_n hC dX7_init_26 rfl 0 rfl rfl ?_
  refine k_new hC hA (ci := 1) iX7_init_X1 tyX1 tyX1_ok kX7_init_c19 kX7_init_n1 kX7_init_i1 rfl (fs := [.null, .int (nI 0), .int (nI 0)]) (fun j hj => by rcases (show j = 0 ∨ j = 1 ∨ j = 2 by omega) with rfl | rfl | rfl <;> rfl) ⟨Nat.le_of_ble_eq_true rfl, Nat.le_of_ble_eq_true rfl⟩ dX7_init_27 rfl (fun q2 => ?_)
  refine v_dup hC dX7_init_30 rfl rfl ?_
  refine k_init hC hA hO (n := 0) (As := []) (st := [.ref q2, .ref h0]) (fun sz => mX1_init l g cy sz q2) gX7_init_X1_init rfl rfl rfl kX7_init_i1 kX7_init_m21 kX7_init_im1 rfl (by decide +kernel) ⟨Nat.le_of_ble_eq_true rfl, Nat.le_of_ble_eq_true rfl⟩ rfl (Nat.le_of_ble_eq_true rfl) rfl ⟨Nat.le_of_ble_eq_true rfl, Nat.le_of_ble_eq_true rfl⟩ dX7_init_31 rfl (fun u2 => ?_)
  refine k_putF hC hnm iX7_init_X7 tyX7 tyX7_ok nmX7 0 rfl rfl 2 (by decide) kX7_init_f22 rfl rfl rfl (ty := .object "CrowdFaces$History") (by decide +kernel) rfl rfl (Nat.le_of_ble_eq_true rfl) dX7_init_34 ([(h0, .inr (5, [.ref q0, .ref q1, .ref q2, .null, .null, .null]))] ++ fW cy (fz q0 u0) (fD N0) ++ fW cy (fz q1 u1) (fD N0) ++ ([(q2, .inr (1, [.ref u2.1, .int (nI 0), .int (nI 0)])), (u2.1, .inl (cy 2, 14, .inr (.inr (.inr (.inr (fun k => some (u2.2 k 0)))))))] ++ HF cy u2.2 (rgD (fun _ => N0)))) rfl rfl ?_
  refine v_aload_n hC dX7_init_37 rfl 0 rfl rfl ?_
  refine k_new hC hA (ci := 2) iX7_init_X4 tyX4 tyX4_ok kX7_init_c26 kX7_init_n4 kX7_init_i4 rfl (fs := [.null, .int (nI 0)]) (fun j hj => by rcases (show j = 0 ∨ j = 1 by omega) with rfl | rfl <;> rfl) ⟨Nat.le_of_ble_eq_true rfl, Nat.le_of_ble_eq_true rfl⟩ dX7_init_38 rfl (fun q3 => ?_)
  refine v_dup hC dX7_init_41 rfl rfl ?_
  refine k_init hC hA hO (n := 0) (As := []) (st := [.ref q3, .ref h0]) (fun sz => mX4_init l g cy sz q3) gX7_init_X4_init rfl rfl rfl kX7_init_i4 kX7_init_m28 kX7_init_im4 rfl (by decide +kernel) ⟨Nat.le_of_ble_eq_true rfl, Nat.le_of_ble_eq_true rfl⟩ rfl (Nat.le_of_ble_eq_true rfl) rfl ⟨Nat.le_of_ble_eq_true rfl, Nat.le_of_ble_eq_true rfl⟩ dX7_init_42 rfl (fun u3 => ?_)
  refine k_putF hC hnm iX7_init_X7 tyX7 tyX7_ok nmX7 0 rfl rfl 3 (by decide) kX7_init_f29 rfl rfl rfl (ty := .object "CrowdFaces$Slot") (by decide +kernel) rfl rfl (Nat.le_of_ble_eq_true rfl) dX7_init_45 ([(h0, .inr (5, [.ref q0, .ref q1, .ref q2, .ref q3, .null, .null]))] ++ fW cy (fz q0 u0) (fD N0) ++ fW cy (fz q1 u1) (fD N0) ++ ([(q2, .inr (1, [.ref u2.1, .int (nI 0), .int (nI 0)])), (u2.1, .inl (cy 2, 14, .inr (.inr (.inr (.inr (fun k => some (u2.2 k 0)))))))] ++ HF cy u2.2 (rgD (fun _ => N0))) ++ ((q3, .inr (2, [.ref u3.1, .int (nI 0)])) :: fW cy (fz u3.1 u3.2) (fD N0))) rfl rfl ?_
  refine v_aload_n hC dX7_init_48 rfl 0 rfl rfl ?_
  refine k_new hC hA (ci := 2) iX7_init_X4 tyX4 tyX4_ok kX7_init_c26 kX7_init_n4 kX7_init_i4 rfl (fs := [.null, .int (nI 0)]) (fun j hj => by rcases (show j = 0 ∨ j = 1 by omega) with rfl | rfl <;> rfl) ⟨Nat.le_of_ble_eq_true rfl, Nat.le_of_ble_eq_true rfl⟩ dX7_init_49 rfl (fun q4 => ?_)
  refine v_dup hC dX7_init_52 rfl rfl ?_
  refine k_init hC hA hO (n := 0) (As := []) (st := [.ref q4, .ref h0]) (fun sz => mX4_init l g cy sz q4) gX7_init_X4_init rfl rfl rfl kX7_init_i4 kX7_init_m28 kX7_init_im4 rfl (by decide +kernel) ⟨Nat.le_of_ble_eq_true rfl, Nat.le_of_ble_eq_true rfl⟩ rfl (Nat.le_of_ble_eq_true rfl) rfl ⟨Nat.le_of_ble_eq_true rfl, Nat.le_of_ble_eq_true rfl⟩ dX7_init_53 rfl (fun u4 => ?_)
  refine k_putF hC hnm iX7_init_X7 tyX7 tyX7_ok nmX7 0 rfl rfl 4 (by decide) kX7_init_f33 rfl rfl rfl (ty := .object "CrowdFaces$Slot") (by decide +kernel) rfl rfl (Nat.le_of_ble_eq_true rfl) dX7_init_56 ([(h0, .inr (5, [.ref q0, .ref q1, .ref q2, .ref q3, .ref q4, .null]))] ++ fW cy (fz q0 u0) (fD N0) ++ fW cy (fz q1 u1) (fD N0) ++ ([(q2, .inr (1, [.ref u2.1, .int (nI 0), .int (nI 0)])), (u2.1, .inl (cy 2, 14, .inr (.inr (.inr (.inr (fun k => some (u2.2 k 0)))))))] ++ HF cy u2.2 (rgD (fun _ => N0))) ++ ((q3, .inr (2, [.ref u3.1, .int (nI 0)])) :: fW cy (fz u3.1 u3.2) (fD N0)) ++ ((q4, .inr (2, [.ref u4.1, .int (nI 0)])) :: fW cy (fz u4.1 u4.2) (fD N0))) rfl rfl ?_
  refine v_aload_n hC dX7_init_59 rfl 0 rfl rfl ?_
  refine k_new hC hA (ci := 4) iX7_init_X6 tyX6 tyX6_ok kX7_init_c36 kX7_init_n6 kX7_init_i6 rfl (fs := [.null, .int (nI 0)]) (fun j hj => by rcases (show j = 0 ∨ j = 1 by omega) with rfl | rfl <;> rfl) ⟨Nat.le_of_ble_eq_true rfl, Nat.le_of_ble_eq_true rfl⟩ dX7_init_60 rfl (fun q5 => ?_)
  refine v_dup hC dX7_init_63 rfl rfl ?_
  refine k_init hC hA hO (n := 0) (As := []) (st := [.ref q5, .ref h0]) (fun sz => mX6_init l g cy sz q5) gX7_init_X6_init rfl rfl rfl kX7_init_i6 kX7_init_m38 kX7_init_im6 rfl (by decide +kernel) ⟨Nat.le_of_ble_eq_true rfl, Nat.le_of_ble_eq_true rfl⟩ rfl (Nat.le_of_ble_eq_true rfl) rfl ⟨Nat.le_of_ble_eq_true rfl, Nat.le_of_ble_eq_true rfl⟩ dX7_init_64 rfl (fun u5 => ?_)
  refine k_putF hC hnm iX7_init_X7 tyX7 tyX7_ok nmX7 0 rfl rfl 5 (by decide) kX7_init_f39 rfl rfl rfl (ty := .object "CrowdFaces$Text") (by decide +kernel) rfl rfl (Nat.le_of_ble_eq_true rfl) dX7_init_67 ([(h0, .inr (5, [.ref q0, .ref q1, .ref q2, .ref q3, .ref q4, .ref q5]))] ++ fW cy (fz q0 u0) (fD N0) ++ fW cy (fz q1 u1) (fD N0) ++ ([(q2, .inr (1, [.ref u2.1, .int (nI 0), .int (nI 0)])), (u2.1, .inl (cy 2, 14, .inr (.inr (.inr (.inr (fun k => some (u2.2 k 0)))))))] ++ HF cy u2.2 (rgD (fun _ => N0))) ++ ((q3, .inr (2, [.ref u3.1, .int (nI 0)])) :: fW cy (fz u3.1 u3.2) (fD N0)) ++ ((q4, .inr (2, [.ref u4.1, .int (nI 0)])) :: fW cy (fz u4.1 u4.2) (fD N0)) ++ [(q5, .inr (4, [.ref u5.1, .int (nI 0)])), (u5.1, .inr (3, [.int (nI 120), .ref u5.2])), (u5.2, .inl (cy 0, 120, .inl (fun _ => nI 0)))]) rfl rfl ?_
  refine v_eqw (ws' := [(h0, .inr (5, [.ref q0, .ref q1, .ref q2, .ref q3, .ref q4, .ref q5])), (q0, .inr (0, [.ref (u0 1), .ref (u0 3), .ref (u0 5), .int (nI (N0 0)), .int (nI (N0 1)), .int (nI (N0 2)), .int (nI (N0 3)), .int (nI (N0 4)), .int (nI (N0 5)), .int (nI (N0 6))])), ((u0 1), .inr (3, [.int (nI 14), .ref (u0 2)])), ((u0 2), .inl (cy 0, 84, .inl (rI (exR N0)))), ((u0 3), .inr (3, [.int (nI 10), .ref (u0 4)])), ((u0 4), .inl (cy 0, 60, .inl (rI (scR N0)))), ((u0 5), .inr (3, [.int (nI 1), .ref (u0 6)])), ((u0 6), .inl (cy 0, 3, .inl (rI (seR N0)))), (q1, .inr (0, [.ref (u1 1), .ref (u1 3), .ref (u1 5), .int (nI (N0 0)), .int (nI (N0 1)), .int (nI (N0 2)), .int (nI (N0 3)), .int (nI (N0 4)), .int (nI (N0 5)), .int (nI (N0 6))])), ((u1 1), .inr (3, [.int (nI 14), .ref (u1 2)])), ((u1 2), .inl (cy 0, 84, .inl (rI (exR N0)))), ((u1 3), .inr (3, [.int (nI 10), .ref (u1 4)])), ((u1 4), .inl (cy 0, 60, .inl (rI (scR N0)))), ((u1 5), .inr (3, [.int (nI 1), .ref (u1 6)])), ((u1 6), .inl (cy 0, 3, .inl (rI (seR N0)))), (q2, .inr (1, [.ref u2.1, .int (nI 0), .int (nI 0)])), (u2.1, .inl (cy 2, 14, .inr (.inr (.inr (.inr (fun k => some (u2.2 k 0)))))))] ++ HF cy u2.2 (rgD (fun _ => N0)) ++ [(q3, .inr (2, [.ref u3.1, .int (nI 0)])), (u3.1, .inr (0, [.ref (u3.2 1), .ref (u3.2 3), .ref (u3.2 5), .int (nI (N0 0)), .int (nI (N0 1)), .int (nI (N0 2)), .int (nI (N0 3)), .int (nI (N0 4)), .int (nI (N0 5)), .int (nI (N0 6))])), ((u3.2 1), .inr (3, [.int (nI 14), .ref (u3.2 2)])), ((u3.2 2), .inl (cy 0, 84, .inl (rI (exR N0)))), ((u3.2 3), .inr (3, [.int (nI 10), .ref (u3.2 4)])), ((u3.2 4), .inl (cy 0, 60, .inl (rI (scR N0)))), ((u3.2 5), .inr (3, [.int (nI 1), .ref (u3.2 6)])), ((u3.2 6), .inl (cy 0, 3, .inl (rI (seR N0)))), (q4, .inr (2, [.ref u4.1, .int (nI 0)])), (u4.1, .inr (0, [.ref (u4.2 1), .ref (u4.2 3), .ref (u4.2 5), .int (nI (N0 0)), .int (nI (N0 1)), .int (nI (N0 2)), .int (nI (N0 3)), .int (nI (N0 4)), .int (nI (N0 5)), .int (nI (N0 6))])), ((u4.2 1), .inr (3, [.int (nI 14), .ref (u4.2 2)])), ((u4.2 2), .inl (cy 0, 84, .inl (rI (exR N0)))), ((u4.2 3), .inr (3, [.int (nI 10), .ref (u4.2 4)])), ((u4.2 4), .inl (cy 0, 60, .inl (rI (scR N0)))), ((u4.2 5), .inr (3, [.int (nI 1), .ref (u4.2 6)])), ((u4.2 6), .inl (cy 0, 3, .inl (rI (seR N0)))), (q5, .inr (4, [.ref u5.1, .int (nI 0)])), (u5.1, .inr (3, [.int (nI 120), .ref u5.2])), (u5.2, .inl (cy 0, 120, .inl (fun _ => nI 0)))]) (by simp only [List.append_assoc, List.cons_append, List.nil_append]; rfl) ?_
  refine k_swap ?_
  refine k_perm (X' := [(h0, .inr (5, [.ref q0, .ref q1, .ref q2, .ref q3, .ref q4, .ref q5])), (q2, .inr (1, [.ref u2.1, .int (nI 0), .int (nI 0)])), (u2.1, .inl (cy 2, 14, .inr (.inr (.inr (.inr (fun k => some (u2.2 k 0))))))), (q3, .inr (2, [.ref u3.1, .int (nI 0)])), (u3.1, .inr (0, [.ref (u3.2 1), .ref (u3.2 3), .ref (u3.2 5), .int (nI (N0 0)), .int (nI (N0 1)), .int (nI (N0 2)), .int (nI (N0 3)), .int (nI (N0 4)), .int (nI (N0 5)), .int (nI (N0 6))])), ((u3.2 1), .inr (3, [.int (nI 14), .ref (u3.2 2)])), ((u3.2 2), .inl (cy 0, 84, .inl (rI (exR N0)))), ((u3.2 3), .inr (3, [.int (nI 10), .ref (u3.2 4)])), ((u3.2 4), .inl (cy 0, 60, .inl (rI (scR N0)))), ((u3.2 5), .inr (3, [.int (nI 1), .ref (u3.2 6)])), ((u3.2 6), .inl (cy 0, 3, .inl (rI (seR N0)))), (q4, .inr (2, [.ref u4.1, .int (nI 0)])), (u4.1, .inr (0, [.ref (u4.2 1), .ref (u4.2 3), .ref (u4.2 5), .int (nI (N0 0)), .int (nI (N0 1)), .int (nI (N0 2)), .int (nI (N0 3)), .int (nI (N0 4)), .int (nI (N0 5)), .int (nI (N0 6))])), ((u4.2 1), .inr (3, [.int (nI 14), .ref (u4.2 2)])), ((u4.2 2), .inl (cy 0, 84, .inl (rI (exR N0)))), ((u4.2 3), .inr (3, [.int (nI 10), .ref (u4.2 4)])), ((u4.2 4), .inl (cy 0, 60, .inl (rI (scR N0)))), ((u4.2 5), .inr (3, [.int (nI 1), .ref (u4.2 6)])), ((u4.2 6), .inl (cy 0, 3, .inl (rI (seR N0)))), (q0, .inr (0, [.ref (u0 1), .ref (u0 3), .ref (u0 5), .int (nI (N0 0)), .int (nI (N0 1)), .int (nI (N0 2)), .int (nI (N0 3)), .int (nI (N0 4)), .int (nI (N0 5)), .int (nI (N0 6))])), ((u0 1), .inr (3, [.int (nI 14), .ref (u0 2)])), ((u0 2), .inl (cy 0, 84, .inl (rI (exR N0)))), ((u0 3), .inr (3, [.int (nI 10), .ref (u0 4)])), ((u0 4), .inl (cy 0, 60, .inl (rI (scR N0)))), ((u0 5), .inr (3, [.int (nI 1), .ref (u0 6)])), ((u0 6), .inl (cy 0, 3, .inl (rI (seR N0)))), (q1, .inr (0, [.ref (u1 1), .ref (u1 3), .ref (u1 5), .int (nI (N0 0)), .int (nI (N0 1)), .int (nI (N0 2)), .int (nI (N0 3)), .int (nI (N0 4)), .int (nI (N0 5)), .int (nI (N0 6))])), ((u1 1), .inr (3, [.int (nI 14), .ref (u1 2)])), ((u1 2), .inl (cy 0, 84, .inl (rI (exR N0)))), ((u1 3), .inr (3, [.int (nI 10), .ref (u1 4)])), ((u1 4), .inl (cy 0, 60, .inl (rI (scR N0)))), ((u1 5), .inr (3, [.int (nI 1), .ref (u1 6)])), ((u1 6), .inl (cy 0, 3, .inl (rI (seR N0)))), (q5, .inr (4, [.ref u5.1, .int (nI 0)])), (u5.1, .inr (3, [.int (nI 120), .ref u5.2])), (u5.2, .inl (cy 0, 120, .inl (fun _ => nI 0)))]) [0, 15, 16, 17, 18, 19, 20, 21, 22, 23, 24, 25, 26, 27, 28, 29, 30, 31, 32, 1, 2, 3, 4, 5, 6, 7, 8, 9, 10, 11, 12, 13, 14, 33, 34, 35] (by decide) rfl ?_
  exact k_ret hC ((fun k => [q0, (u0 1), (u0 2), (u0 3), (u0 4), (u0 5), (u0 6), q1, (u1 1), (u1 2), (u1 3), (u1 4), (u1 5), (u1 6), q2, u2.1, q3, u3.1, (u3.2 1), (u3.2 2), (u3.2 3), (u3.2 4), (u3.2 5), (u3.2 6), q4, u4.1, (u4.2 1), (u4.2 2), (u4.2 3), (u4.2 4), (u4.2 5), (u4.2 6), q5, u5.1, u5.2].getD k 0), u2.2) rfl hr ⟨Nat.le_of_ble_eq_true rfl, Nat.le_of_ble_eq_true rfl⟩ dX7_init_70

/-! ===== the law: facesOf ===== -/
def pL_facesOf_40 (N : Nat → Nat) (kk4 : Int32 → Int32 → Int32 → Option (Int32)) (y1 : Int32) (y3 : Int32) (s0 : Int32) (s1 : Int32) : Option (Int32) := kk4 y1 (s1 ||| s0) (y3 + (nI 1))
def pL_facesOf_4 (N : Nat → Nat)  : Nat → Int32 → Int32 → Int32 → Option (Int32)
  | 0, _, _, _ => none
  | k + 1, y1, y2, y3 => if (aAb N (nI 0)) ≤ y3 then some y2 else if ((y1 >>> (y3 &&& 31)) &&& (nI 1)) = (nI 1) then pL_facesOf_40 N (fun u0 u1 u2 => pL_facesOf_4 N  k u0 u1 u2) y1 y3 ((nI 1) <<< ((aEx N y3 (nI 1)) &&& 31)) y2 else pL_facesOf_40 N (fun u0 u1 u2 => pL_facesOf_4 N  k u0 u1 u2) y1 y3 (nI 0) y2
theorem pL_facesOf_4_s (N : Nat → Nat)  {k : Nat} (y1 : Int32) (y2 : Int32) (y3 : Int32) : pL_facesOf_4 N  (k + 1) y1 y2 y3 = if (aAb N (nI 0)) ≤ y3 then some y2 else if ((y1 >>> (y3 &&& 31)) &&& (nI 1)) = (nI 1) then pL_facesOf_40 N (fun u0 u1 u2 => pL_facesOf_4 N  k u0 u1 u2) y1 y3 ((nI 1) <<< ((aEx N y3 (nI 1)) &&& 31)) y2 else pL_facesOf_40 N (fun u0 u1 u2 => pL_facesOf_4 N  k u0 u1 u2) y1 y3 (nI 0) y2 := rfl
def pL_facesOf (N : Nat → Nat) (x1 : Int32) : Option (Int32) := pL_facesOf_4 N  16 x1 (nI 0) (nI 0)
abbrev rmL_facesOf : Room := { frames := 11, cells := 49, slots := 294, locals := 200 }
set_option maxHeartbeats 4000000 in
set_option maxRecDepth 100000 in
theorem bL_facesOf_40 {p : Program} {l : Launch} {e : Env} {s : State} {m : MethodId} {args : Array Value} {below : List Frame} {meth : Method} {c9 : Code} {g : va_G} {cy : Nat → ClassId} {tt sa : Nat → Nat} {A9 : Nat → Prop} (hC : CX p s m args meth c9 g cy 4 cL_facesOf wsM_facesOf RL) (hr : meth.sig.returnType = some .int) (hX : XL l s tt sa A9) {A : AA} {T : Nat} (hT9 : T < 8000) {S : SS} {res : Int32} : ∀ (kk4 : Int32 → Int32 → Int32 → Option (Int32)) (n4 : Nat) (hk4 : ∀ (y1 : Int32) (y2 : Int32) (y3 : Int32) (H : HH) (t cells slots : Nat), RP t S H → t + 0 ≤ T → cells + (1 + 3 * n4) ≤ 49 → slots + 6 * (1 + 3 * n4) ≤ 294 → kk4 y1 y2 y3 = some res → V p l e (headSpec wsM_facesOf rmL_facesOf).room s m args below meth c9 g 4 cells slots (MQ below (QE g A9 res (WP cy A T S)) args s 49 294 A9) A9 A9 (WO cy A S H) 4 [(0, .ref A.1), (1, .int y1), (2, .int y2), (3, .int y3)] []) (y1 : Int32) (y3 : Int32) (s0 : Int32) (s1 : Int32) (H : HH) (t cells slots : Nat) (hI : RP t S H) (ht : t + 0 ≤ T) (hc : cells + (1 + 3 * n4) ≤ 49) (hs : slots + 6 * (1 + 3 * n4) ≤ 294) (h : pL_facesOf_40 S.1 kk4 y1 y3 s0 s1 = some res), V p l e (headSpec wsM_facesOf rmL_facesOf).room s m args below meth c9 g 4 cells slots (MQ below (QE g A9 res (WP cy A T S)) args s 49 294 A9) A9 A9 (WO cy A S H) 40 [(0, .ref A.1), (1, .int y1), (3, .int y3)] [.int s0, .int s1] := by
  intro kk4 n4 hk4 y1 y3 s0 s1 H t cells slots hI ht hc hs h
  unfold pL_facesOf_40 at h
  refine v_ior hC dL_facesOf_40 rfl ?_
  refine v_istore_n hC dL_facesOf_41 rfl (by decide) [(2, .int (s1 ||| s0)), (0, .ref A.1), (1, .int y1), (3, .int y3)] rfl rfl ?_
  refine v_iinc hC dL_facesOf_42 3 rfl (v := (y3 + (nI 1))) rfl (by decide) [(3, .int (y3 + (nI 1))), (2, .int (s1 ||| s0)), (0, .ref A.1), (1, .int y1)] rfl rfl ?_
  refine v_goto hC (tgt := 4) dL_facesOf_45 (by decide) ?_
  exact v_sub [2, 3, 1, 0] (lv' := [(0, .ref A.1), (1, .int y1), (2, .int (s1 ||| s0)), (3, .int (y3 + (nI 1)))]) rfl (hk4 _ _ _ _ _ _ _ hI (by omega) (by omega) (by omega) h)
set_option maxHeartbeats 4000000 in
set_option maxRecDepth 100000 in
theorem bL_facesOf_4 {p : Program} {l : Launch} {e : Env} {s : State} {m : MethodId} {args : Array Value} {below : List Frame} {meth : Method} {c9 : Code} {g : va_G} {cy : Nat → ClassId} {tt sa : Nat → Nat} {A9 : Nat → Prop} (hC : CX p s m args meth c9 g cy 4 cL_facesOf wsM_facesOf RL) (hr : meth.sig.returnType = some .int) (hX : XL l s tt sa A9) {A : AA} {T : Nat} (hT9 : T < 8000) {S : SS} {res : Int32} : ∀  (k : Nat) (y1 : Int32) (y2 : Int32) (y3 : Int32) (H : HH) (t cells slots : Nat) (hI : RP t S H) (ht : t + 0 ≤ T) (hc : cells + (1 + 3 * k) ≤ 49) (hs : slots + 6 * (1 + 3 * k) ≤ 294) (h : pL_facesOf_4 S.1  k y1 y2 y3 = some res), V p l e (headSpec wsM_facesOf rmL_facesOf).room s m args below meth c9 g 4 cells slots (MQ below (QE g A9 res (WP cy A T S)) args s 49 294 A9) A9 A9 (WO cy A S H) 4 [(0, .ref A.1), (1, .int y1), (2, .int y2), (3, .int y3)] [] := by
  intro  k
  induction k with
  | zero =>
    intro y1 y2 y3 H t cells slots hI ht hc hs h
    have h : (none : Option _) = some res := h
    cases h
  | succ k ih =>
    intro y1 y2 y3 H t cells slots hI ht hc hs h
    rw [pL_facesOf_4_s] at h
    refine v_iload_n hC dL_facesOf_4 rfl 3 rfl rfl ?_
    refine v_aload_n hC dL_facesOf_5 rfl 0 rfl rfl ?_
    refine v_iconst hC (v := (nI 2)) dL_facesOf_6 (by decide) rfl ?_
    refine v_iconst hC (v := (nI 0)) dL_facesOf_7 (by decide) rfl ?_
    refine v_iconst hC (v := (nI 0)) dL_facesOf_8 (by decide) rfl ?_
    refine v_iconst hC (v := (nI 0)) dL_facesOf_9 (by decide) rfl ?_
    refine l_callF hC hX (n := 5) (As := [.ref A.1, .int (nI 2), .int (nI 0), .int (nI 0), .int (nI 0)]) (st := [.int y3]) (fun w => w) (fun sz => mC_About l hX.1 g cy tt sa sz A (nI 0) (nI 0) (nI 0) hI (by omega)) (WR.full rfl) (fun w9 h9 => WR.full (WP_fst h9)) (goodIn_w gM_call) rfl rfl rfl (by decide +kernel) ⟨Nat.le_of_ble_eq_true rfl, Nat.le_of_ble_eq_true rfl⟩ rfl (Nat.le_of_ble_eq_true rfl) rfl ⟨by show _ + 1 ≤ 49; omega, by show _ + 6 ≤ 294; omega⟩ dL_facesOf_10 rfl (fun w9 h9 => ?_)
    obtain ⟨H1, hI2, rfl⟩ := h9
    refine v_eqw (ws' := WO cy A S H1) rfl ?_
    refine v_icmp_ge hC (tgt := 48) dL_facesOf_13 (by decide) rfl (fun c => ?_) (fun c => ?_)
    · have h := ite_t c h
      refine v_iload_n hC dL_facesOf_48 rfl 2 rfl rfl ?_
      obtain rfl := Option.some.inj h
      exact v_irE2 hC (by omega) (by omega) hr rfl rfl dL_facesOf_49 ⟨_, hI2.up (by omega), rfl⟩
    · have h := ite_f c h
      refine v_iload_n hC dL_facesOf_16 rfl 2 rfl rfl ?_
      refine v_iload_n hC dL_facesOf_17 rfl 1 rfl rfl ?_
      refine v_iload_n hC dL_facesOf_18 rfl 3 rfl rfl ?_
      refine v_ishr hC dL_facesOf_19 rfl ?_
      refine v_iconst hC (v := (nI 1)) dL_facesOf_20 (by decide) rfl ?_
      refine v_iand hC dL_facesOf_21 rfl ?_
      refine v_iconst hC (v := (nI 1)) dL_facesOf_22 (by decide) rfl ?_
      refine v_icmp_ne hC (tgt := 39) dL_facesOf_23 (by decide) rfl (fun c => ?_) (fun c => ?_)
      · have h := ite_f c h
        refine v_iconst hC (v := (nI 0)) dL_facesOf_39 (by decide) rfl ?_
        exact v_sub [0, 1, 3] (lv' := [(0, .ref A.1), (1, .int y1), (3, .int y3)]) rfl (bL_facesOf_40 hC hr hX hT9 _ k ih _ _ _ _ _ _ _ _ hI2 (by omega) (by omega) (by omega) h)
      · have h := ite_t c h
        refine v_iconst hC (v := (nI 1)) dL_facesOf_26 (by decide) rfl ?_
        refine v_aload_n hC dL_facesOf_27 rfl 0 rfl rfl ?_
        refine v_iconst hC (v := (nI 3)) dL_facesOf_28 (by decide) rfl ?_
        refine v_iload_n hC dL_facesOf_29 rfl 3 rfl rfl ?_
        refine v_iconst hC (v := (nI 1)) dL_facesOf_30 (by decide) rfl ?_
        refine v_iconst hC (v := (nI 0)) dL_facesOf_31 (by decide) rfl ?_
        refine l_callF hC hX (n := 5) (As := [.ref A.1, .int (nI 3), .int y3, .int (nI 1), .int (nI 0)]) (st := [.int (nI 1), .int y2]) (fun w => w) (fun sz => mC_Extra l hX.1 g cy tt sa sz A y3 (nI 1) (nI 0) hI2 (by omega)) (WR.full rfl) (fun w9 h9 => WR.full (WP_fst h9)) (goodIn_w gM_call) rfl rfl rfl (by decide +kernel) ⟨Nat.le_of_ble_eq_true rfl, Nat.le_of_ble_eq_true rfl⟩ rfl (Nat.le_of_ble_eq_true rfl) rfl ⟨by show _ + 2 ≤ 49; omega, by show _ + 12 ≤ 294; omega⟩ dL_facesOf_32 rfl (fun w9 h9 => ?_)
        obtain ⟨H3, hI4, rfl⟩ := h9
        refine v_eqw (ws' := WO cy A S H3) rfl ?_
        refine v_ishl hC dL_facesOf_35 rfl ?_
        refine v_goto hC (tgt := 40) dL_facesOf_36 (by decide) ?_
        exact v_sub [0, 1, 3] (lv' := [(0, .ref A.1), (1, .int y1), (3, .int y3)]) rfl (bL_facesOf_40 hC hr hX hT9 _ k ih _ _ _ _ _ _ _ _ hI4 (by omega) (by omega) (by omega) h)
set_option maxHeartbeats 4000000 in
set_option maxRecDepth 100000 in
theorem mL_facesOf (l : Launch) (hlst : l.stackTraces = false) (g : va_G) (cy : Nat → ClassId) (tt sa : Nat → Nat) (sz : Nat) (A : AA) {t : Nat} {S : SS} {H : HH} (x1 : Int32) (hI : RP t S H) (ht9 : t < 8000) {res : Int32} (h : pL_facesOf S.1 x1 = some res) : Met l yL_facesOf wsM_facesOf rmL_facesOf (PN [.ref A.1, .int x1] g cy tt sa sz (WO cy A S H)) (QE g (va_A (WO cy A S H) sz) res (WP cy A t S)) 49 294 (va_A (WO cy A S H) sz) := by
  obtain ⟨T, hTe⟩ : ∃ T, T = t := ⟨_, rfl⟩
  have hT9 : T < 8000 := by omega
  have ht : t + 0 ≤ T := by omega
  rw [← hTe]
  refine m_ofVN (cc := cL_facesOf) (nL := 4) (ret := some .int) hlst RL rfl (by decide) rfl [(0, .ref A.1), (1, .int x1)] rfl (Nat.le_of_ble_eq_true rfl) ?_
  intro p e s m args below meth c9 hC hr hX
  generalize (va_A (WO cy A S H) sz) = A9 at hX ⊢
  obtain ⟨cells, hce⟩ : ∃ cells, cells = 0 := ⟨_, rfl⟩
  obtain ⟨slots, hse⟩ : ∃ slots, slots = 0 := ⟨_, rfl⟩
  have hc : cells + 49 ≤ 49 := by omega
  have hs : slots + 6 * 49 ≤ 294 := by omega
  refine v_widen (k := cells) (n := slots) (by omega) (by omega) ?_
  unfold pL_facesOf at h
  refine v_iconst hC (v := (nI 0)) dL_facesOf_0 (by decide) rfl ?_
  refine v_istore_n hC dL_facesOf_1 rfl (by decide) [(2, .int (nI 0)), (0, .ref A.1), (1, .int x1)] rfl rfl ?_
  refine v_iconst hC (v := (nI 0)) dL_facesOf_2 (by decide) rfl ?_
  refine v_istore_n hC dL_facesOf_3 rfl (by decide) [(3, .int (nI 0)), (2, .int (nI 0)), (0, .ref A.1), (1, .int x1)] rfl rfl ?_
  exact v_sub [2, 3, 1, 0] (lv' := [(0, .ref A.1), (1, .int x1), (2, .int (nI 0)), (3, .int (nI 0))]) rfl (bL_facesOf_4 hC hr hX hT9  16 _ _ _ _ _ _ _ hI (by omega) (by omega) (by omega) h)

/-! ===== the law: alike ===== -/
def pL_alike_203 (N : Nat → Nat) (N2 : Nat → Nat) (kk47 : Int32 → Int32 → Int32 → Option (Int32)) (y2 : Int32) (y4 : Int32) (s0 : Int32) : Option (Int32) := kk47 y2 s0 (y4 + (nI 1))
def pL_alike_202 (N : Nat → Nat) (N2 : Nat → Nat) (kk47 : Int32 → Int32 → Int32 → Option (Int32)) (y2 : Int32) (y4 : Int32) : Option (Int32) := pL_alike_203 N N2 kk47 y2 y4 (nI 0)
def pL_alike_210 (N : Nat → Nat) (N2 : Nat → Nat)  (y3 : Int32) : Option (Int32) := bz y3
def pL_alike_47 (N : Nat → Nat) (N2 : Nat → Nat)  : Nat → Int32 → Int32 → Int32 → Option (Int32)
  | 0, _, _, _ => none
  | k + 1, y2, y3, y4 => if (nI 14) ≤ y4 then pL_alike_210 N N2  y3 else if y3 = 0 then pL_alike_210 N N2  y3 else if (aAb N y4) = (aAb N2 y4) then if (aSe N y4) = (aSe N2 y4) then if (aEx N y4 (nI 3)) = (aEx N2 y4 (nI 3)) then if (aEx N y4 (y2 - y2 / (nI 7) * (nI 7))) = (aEx N2 y4 (y2 - y2 / (nI 7) * (nI 7))) then if (aSc N y4 (nI 6)) = (aSc N2 y4 (nI 6)) then if (aSc N y4 (y2 - y2 / (nI 9) * (nI 9))) = (aSc N2 y4 (y2 - y2 / (nI 9) * (nI 9))) then pL_alike_203 N N2 (fun u0 u1 u2 => pL_alike_47 N N2  k u0 u1 u2) y2 y4 (nI 1) else pL_alike_202 N N2 (fun u0 u1 u2 => pL_alike_47 N N2  k u0 u1 u2) y2 y4 else pL_alike_202 N N2 (fun u0 u1 u2 => pL_alike_47 N N2  k u0 u1 u2) y2 y4 else pL_alike_202 N N2 (fun u0 u1 u2 => pL_alike_47 N N2  k u0 u1 u2) y2 y4 else pL_alike_202 N N2 (fun u0 u1 u2 => pL_alike_47 N N2  k u0 u1 u2) y2 y4 else pL_alike_202 N N2 (fun u0 u1 u2 => pL_alike_47 N N2  k u0 u1 u2) y2 y4 else pL_alike_202 N N2 (fun u0 u1 u2 => pL_alike_47 N N2  k u0 u1 u2) y2 y4
theorem pL_alike_47_s (N : Nat → Nat) (N2 : Nat → Nat)  {k : Nat} (y2 : Int32) (y3 : Int32) (y4 : Int32) : pL_alike_47 N N2  (k + 1) y2 y3 y4 = if (nI 14) ≤ y4 then pL_alike_210 N N2  y3 else if y3 = 0 then pL_alike_210 N N2  y3 else if (aAb N y4) = (aAb N2 y4) then if (aSe N y4) = (aSe N2 y4) then if (aEx N y4 (nI 3)) = (aEx N2 y4 (nI 3)) then if (aEx N y4 (y2 - y2 / (nI 7) * (nI 7))) = (aEx N2 y4 (y2 - y2 / (nI 7) * (nI 7))) then if (aSc N y4 (nI 6)) = (aSc N2 y4 (nI 6)) then if (aSc N y4 (y2 - y2 / (nI 9) * (nI 9))) = (aSc N2 y4 (y2 - y2 / (nI 9) * (nI 9))) then pL_alike_203 N N2 (fun u0 u1 u2 => pL_alike_47 N N2  k u0 u1 u2) y2 y4 (nI 1) else pL_alike_202 N N2 (fun u0 u1 u2 => pL_alike_47 N N2  k u0 u1 u2) y2 y4 else pL_alike_202 N N2 (fun u0 u1 u2 => pL_alike_47 N N2  k u0 u1 u2) y2 y4 else pL_alike_202 N N2 (fun u0 u1 u2 => pL_alike_47 N N2  k u0 u1 u2) y2 y4 else pL_alike_202 N N2 (fun u0 u1 u2 => pL_alike_47 N N2  k u0 u1 u2) y2 y4 else pL_alike_202 N N2 (fun u0 u1 u2 => pL_alike_47 N N2  k u0 u1 u2) y2 y4 else pL_alike_202 N N2 (fun u0 u1 u2 => pL_alike_47 N N2  k u0 u1 u2) y2 y4 := rfl
def pL_alike_43 (N : Nat → Nat) (N2 : Nat → Nat)  (y2 : Int32) (s0 : Int32) : Option (Int32) := pL_alike_47 N N2  16 y2 s0 (nI 0)
def pL_alike_42 (N : Nat → Nat) (N2 : Nat → Nat)  (y2 : Int32) : Option (Int32) := pL_alike_43 N N2  y2 (nI 0)
def pL_alike (N : Nat → Nat) (N2 : Nat → Nat) (x2 : Int32) : Option (Int32) := if (aSm N x2.toInt64 ((nI 1) + (x2 - x2 / (nI 30) * (nI 30)))) = (aSm N2 x2.toInt64 ((nI 1) + (x2 - x2 / (nI 30) * (nI 30)))) then if (aCh N) = (aCh N2) then pL_alike_43 N N2  x2 (nI 1) else pL_alike_42 N N2  x2 else pL_alike_42 N N2  x2
abbrev rmL_alike : Room := { frames := 11, cells := 322, slots := 1932, locals := 200 }
set_option maxHeartbeats 4000000 in
set_option maxRecDepth 100000 in
theorem bL_alike_203 {p : Program} {l : Launch} {e : Env} {s : State} {m : MethodId} {args : Array Value} {below : List Frame} {meth : Method} {c9 : Code} {g : va_G} {cy : Nat → ClassId} {tt sa : Nat → Nat} {A9 : Nat → Prop} (hC : CX p s m args meth c9 g cy 5 cL_alike wsM_alike RL) (hr : meth.sig.returnType = some .boolean) (hX : XL l s tt sa A9) {A B : AA} {T T2 : Nat} (hT9 : T < 8000) (hU9 : T2 < 8000) {S U : SS} {res : Int32} : ∀ (kk47 : Int32 → Int32 → Int32 → Option (Int32)) (n47 : Nat) (hk47 : ∀ (y2 : Int32) (y3 : Int32) (y4 : Int32) (H : HH) (I : HH) (t u cells slots : Nat), RP t S H → RP u U I → t + 0 ≤ T → u + 0 ≤ T2 → cells + (0 + 20 * n47) ≤ 322 → slots + 6 * (0 + 20 * n47) ≤ 1932 → kk47 y2 y3 y4 = some res → V p l e (headSpec wsM_alike rmL_alike).room s m args below meth c9 g 5 cells slots (MQ below (QE g A9 res (WP2 cy A B T S T2 U)) args s 322 1932 A9) A9 A9 (WO cy A S H ++ WO cy B U I) 47 [(0, .ref A.1), (1, .ref B.1), (2, .int y2), (3, .int y3), (4, .int y4)] []) (y2 : Int32) (y4 : Int32) (s0 : Int32) (H : HH) (I : HH) (t u cells slots : Nat) (hI : RP t S H) (hJ : RP u U I) (ht : t + 0 ≤ T) (hu : u + 0 ≤ T2) (hc : cells + (0 + 20 * n47) ≤ 322) (hs : slots + 6 * (0 + 20 * n47) ≤ 1932) (h : pL_alike_203 S.1 U.1 kk47 y2 y4 s0 = some res), V p l e (headSpec wsM_alike rmL_alike).room s m args below meth c9 g 5 cells slots (MQ below (QE g A9 res (WP2 cy A B T S T2 U)) args s 322 1932 A9) A9 A9 (WO cy A S H ++ WO cy B U I) 203 [(0, .ref A.1), (1, .ref B.1), (2, .int y2), (4, .int y4)] [.int s0] := by
  intro kk47 n47 hk47 y2 y4 s0 H I t u cells slots hI hJ ht hu hc hs h
  unfold pL_alike_203 at h
  refine v_istore_n hC dL_alike_203 rfl (by decide) [(3, .int s0), (0, .ref A.1), (1, .ref B.1), (2, .int y2), (4, .int y4)] rfl rfl ?_
  refine v_iinc hC dL_alike_204 4 rfl (v := (y4 + (nI 1))) rfl (by decide) [(4, .int (y4 + (nI 1))), (3, .int s0), (0, .ref A.1), (1, .ref B.1), (2, .int y2)] rfl rfl ?_
  refine v_goto hC (tgt := 47) dL_alike_207 (by decide) ?_
  exact v_sub [2, 3, 4, 1, 0] (lv' := [(0, .ref A.1), (1, .ref B.1), (2, .int y2), (3, .int s0), (4, .int (y4 + (nI 1)))]) rfl (hk47 _ _ _ _ _ _ _ _ _ hI hJ (by omega) (by omega) (by omega) (by omega) h)
set_option maxHeartbeats 4000000 in
set_option maxRecDepth 100000 in
theorem bL_alike_202 {p : Program} {l : Launch} {e : Env} {s : State} {m : MethodId} {args : Array Value} {below : List Frame} {meth : Method} {c9 : Code} {g : va_G} {cy : Nat → ClassId} {tt sa : Nat → Nat} {A9 : Nat → Prop} (hC : CX p s m args meth c9 g cy 5 cL_alike wsM_alike RL) (hr : meth.sig.returnType = some .boolean) (hX : XL l s tt sa A9) {A B : AA} {T T2 : Nat} (hT9 : T < 8000) (hU9 : T2 < 8000) {S U : SS} {res : Int32} : ∀ (kk47 : Int32 → Int32 → Int32 → Option (Int32)) (n47 : Nat) (hk47 : ∀ (y2 : Int32) (y3 : Int32) (y4 : Int32) (H : HH) (I : HH) (t u cells slots : Nat), RP t S H → RP u U I → t + 0 ≤ T → u + 0 ≤ T2 → cells + (0 + 20 * n47) ≤ 322 → slots + 6 * (0 + 20 * n47) ≤ 1932 → kk47 y2 y3 y4 = some res → V p l e (headSpec wsM_alike rmL_alike).room s m args below meth c9 g 5 cells slots (MQ below (QE g A9 res (WP2 cy A B T S T2 U)) args s 322 1932 A9) A9 A9 (WO cy A S H ++ WO cy B U I) 47 [(0, .ref A.1), (1, .ref B.1), (2, .int y2), (3, .int y3), (4, .int y4)] []) (y2 : Int32) (y4 : Int32) (H : HH) (I : HH) (t u cells slots : Nat) (hI : RP t S H) (hJ : RP u U I) (ht : t + 0 ≤ T) (hu : u + 0 ≤ T2) (hc : cells + (0 + 20 * n47) ≤ 322) (hs : slots + 6 * (0 + 20 * n47) ≤ 1932) (h : pL_alike_202 S.1 U.1 kk47 y2 y4 = some res), V p l e (headSpec wsM_alike rmL_alike).room s m args below meth c9 g 5 cells slots (MQ below (QE g A9 res (WP2 cy A B T S T2 U)) args s 322 1932 A9) A9 A9 (WO cy A S H ++ WO cy B U I) 202 [(0, .ref A.1), (1, .ref B.1), (2, .int y2), (4, .int y4)] [] := by
  intro kk47 n47 hk47 y2 y4 H I t u cells slots hI hJ ht hu hc hs h
  unfold pL_alike_202 at h
  refine v_iconst hC (v := (nI 0)) dL_alike_202 (by decide) rfl ?_
  exact bL_alike_203 hC hr hX hT9 hU9 _ n47 hk47 _ _ _ _ _ _ _ _ _ hI hJ (by omega) (by omega) (by omega) (by omega) h
set_option maxHeartbeats 4000000 in
set_option maxRecDepth 100000 in
theorem bL_alike_210 {p : Program} {l : Launch} {e : Env} {s : State} {m : MethodId} {args : Array Value} {below : List Frame} {meth : Method} {c9 : Code} {g : va_G} {cy : Nat → ClassId} {tt sa : Nat → Nat} {A9 : Nat → Prop} (hC : CX p s m args meth c9 g cy 5 cL_alike wsM_alike RL) (hr : meth.sig.returnType = some .boolean) (hX : XL l s tt sa A9) {A B : AA} {T T2 : Nat} (hT9 : T < 8000) (hU9 : T2 < 8000) {S U : SS} {res : Int32} : ∀  (y3 : Int32) (H : HH) (I : HH) (t u cells slots : Nat) (hI : RP t S H) (hJ : RP u U I) (ht : t + 0 ≤ T) (hu : u + 0 ≤ T2) (hc : cells + 0 ≤ 322) (hs : slots + 6 * 0 ≤ 1932) (h : pL_alike_210 S.1 U.1  y3 = some res), V p l e (headSpec wsM_alike rmL_alike).room s m args below meth c9 g 5 cells slots (MQ below (QE g A9 res (WP2 cy A B T S T2 U)) args s 322 1932 A9) A9 A9 (WO cy A S H ++ WO cy B U I) 210 [(3, .int y3)] [] := by
  intro  y3 H I t u cells slots hI hJ ht hu hc hs h
  unfold pL_alike_210 at h
  refine v_iload_n hC dL_alike_210 rfl 0 rfl rfl ?_
  obtain ⟨e9, hn⟩ := bz_g h
  exact v_irE2 hC (by omega) (by omega) hr hn e9 dL_alike_211 ⟨_, _, hI.up (by omega), hJ.up (by omega), rfl⟩
set_option maxHeartbeats 4000000 in
set_option maxRecDepth 100000 in
theorem bL_alike_47 {p : Program} {l : Launch} {e : Env} {s : State} {m : MethodId} {args : Array Value} {below : List Frame} {meth : Method} {c9 : Code} {g : va_G} {cy : Nat → ClassId} {tt sa : Nat → Nat} {A9 : Nat → Prop} (hC : CX p s m args meth c9 g cy 5 cL_alike wsM_alike RL) (hr : meth.sig.returnType = some .boolean) (hX : XL l s tt sa A9) {A B : AA} {T T2 : Nat} (hT9 : T < 8000) (hU9 : T2 < 8000) {S U : SS} {res : Int32} : ∀  (k : Nat) (y2 : Int32) (y3 : Int32) (y4 : Int32) (H : HH) (I : HH) (t u cells slots : Nat) (hI : RP t S H) (hJ : RP u U I) (ht : t + 0 ≤ T) (hu : u + 0 ≤ T2) (hc : cells + (0 + 20 * k) ≤ 322) (hs : slots + 6 * (0 + 20 * k) ≤ 1932) (h : pL_alike_47 S.1 U.1  k y2 y3 y4 = some res), V p l e (headSpec wsM_alike rmL_alike).room s m args below meth c9 g 5 cells slots (MQ below (QE g A9 res (WP2 cy A B T S T2 U)) args s 322 1932 A9) A9 A9 (WO cy A S H ++ WO cy B U I) 47 [(0, .ref A.1), (1, .ref B.1), (2, .int y2), (3, .int y3), (4, .int y4)] [] := by
  intro  k
  induction k with
  | zero =>
    intro y2 y3 y4 H I t u cells slots hI hJ ht hu hc hs h
    have h : (none : Option _) = some res := h
    cases h
  | succ k ih =>
    intro y2 y3 y4 H I t u cells slots hI hJ ht hu hc hs h
    rw [pL_alike_47_s] at h
    refine v_iload hC dL_alike_47 4 rfl rfl ?_
    refine v_bipush hC (v := (nI 14)) dL_alike_49 (by decide) rfl ?_
    refine v_icmp_ge hC (tgt := 210) dL_alike_51 (by decide) rfl (fun c => ?_) (fun c => ?_)
    · have h := ite_t c h
      exact v_sub [3] (lv' := [(3, .int y3)]) rfl (bL_alike_210 hC hr hX hT9 hU9  _ _ _ _ _ _ _ hI hJ (by omega) (by omega) (by omega) (by omega) h)
    · have h := ite_f c h
      refine v_iload_n hC dL_alike_54 rfl 3 rfl rfl ?_
      refine v_if_eq hC (tgt := 210) dL_alike_55 (by decide) rfl (fun c => ?_) (fun c => ?_)
      · have h := ite_t c h
        exact v_sub [3] (lv' := [(3, .int y3)]) rfl (bL_alike_210 hC hr hX hT9 hU9  _ _ _ _ _ _ _ hI hJ (by omega) (by omega) (by omega) (by omega) h)
      · have h := ite_f c h
        refine v_aload_n hC dL_alike_58 rfl 0 rfl rfl ?_
        refine v_iconst hC (v := (nI 2)) dL_alike_59 (by decide) rfl ?_
        refine v_iload hC dL_alike_60 4 rfl rfl ?_
        refine v_iconst hC (v := (nI 0)) dL_alike_62 (by decide) rfl ?_
        refine v_iconst hC (v := (nI 0)) dL_alike_63 (by decide) rfl ?_
        refine l_callF hC hX (n := 5) (As := [.ref A.1, .int (nI 2), .int y4, .int (nI 0), .int (nI 0)]) (st := []) (fun w => w ++ WO cy B U I) (fun sz => mC_About l hX.1 g cy tt sa sz A y4 (nI 0) (nI 0) hI (by omega)) (WR.appL (WR.full rfl)) (fun w9 h9 => WR.appL (WR.full (WP_fst h9))) (goodIn_w gM_call) rfl rfl rfl (by decide +kernel) ⟨Nat.le_of_ble_eq_true rfl, Nat.le_of_ble_eq_true rfl⟩ rfl (Nat.le_of_ble_eq_true rfl) rfl ⟨by show _ + 1 ≤ 322; omega, by show _ + 6 ≤ 1932; omega⟩ dL_alike_64 rfl (fun w9 h9 => ?_)
        obtain ⟨H1, hI2, rfl⟩ := h9
        refine v_eqw (ws' := WO cy A S H1 ++ WO cy B U I) rfl ?_
        refine v_aload_n hC dL_alike_67 rfl 1 rfl rfl ?_
        refine v_iconst hC (v := (nI 2)) dL_alike_68 (by decide) rfl ?_
        refine v_iload hC dL_alike_69 4 rfl rfl ?_
        refine v_iconst hC (v := (nI 0)) dL_alike_71 (by decide) rfl ?_
        refine v_iconst hC (v := (nI 0)) dL_alike_72 (by decide) rfl ?_
        refine l_callF hC hX (n := 5) (As := [.ref B.1, .int (nI 2), .int y4, .int (nI 0), .int (nI 0)]) (st := [.int (aAb S.1 y4)]) (fun w => WO cy A S H1 ++ w) (fun sz => mC_About l hX.1 g cy tt sa sz B y4 (nI 0) (nI 0) hJ (by omega)) (WR.appR (WR.full rfl)) (fun w9 h9 => WR.appR (WR.full (WP_fst h9))) (goodIn_w gM_call) rfl rfl rfl (by decide +kernel) ⟨Nat.le_of_ble_eq_true rfl, Nat.le_of_ble_eq_true rfl⟩ rfl (Nat.le_of_ble_eq_true rfl) rfl ⟨by show _ + 1 ≤ 322; omega, by show _ + 6 ≤ 1932; omega⟩ dL_alike_73 rfl (fun w9 h9 => ?_)
        obtain ⟨H3, hI4, rfl⟩ := h9
        refine v_eqw (ws' := WO cy A S H1 ++ WO cy B U H3) rfl ?_
        refine v_icmp_ne hC (tgt := 202) dL_alike_76 (by decide) rfl (fun c => ?_) (fun c => ?_)
        · have h := ite_f c h
          exact v_sub [0, 1, 2, 4] (lv' := [(0, .ref A.1), (1, .ref B.1), (2, .int y2), (4, .int y4)]) rfl (bL_alike_202 hC hr hX hT9 hU9 _ k ih _ _ _ _ _ _ _ _ hI2 hI4 (by omega) (by omega) (by omega) (by omega) h)
        · have h := ite_t c h
          refine v_aload_n hC dL_alike_79 rfl 0 rfl rfl ?_
          refine v_iconst hC (v := (nI 5)) dL_alike_80 (by decide) rfl ?_
          refine v_iload hC dL_alike_81 4 rfl rfl ?_
          refine v_iconst hC (v := (nI 0)) dL_alike_83 (by decide) rfl ?_
          refine v_iconst hC (v := (nI 0)) dL_alike_84 (by decide) rfl ?_
          refine l_callF hC hX (n := 5) (As := [.ref A.1, .int (nI 5), .int y4, .int (nI 0), .int (nI 0)]) (st := []) (fun w => w ++ WO cy B U H3) (fun sz => mC_Setting l hX.1 g cy tt sa sz A y4 (nI 0) (nI 0) hI2 (by omega)) (WR.appL (WR.full rfl)) (fun w9 h9 => WR.appL (WR.full (WP_fst h9))) (goodIn_w gM_call) rfl rfl rfl (by decide +kernel) ⟨Nat.le_of_ble_eq_true rfl, Nat.le_of_ble_eq_true rfl⟩ rfl (Nat.le_of_ble_eq_true rfl) rfl ⟨by show _ + 1 ≤ 322; omega, by show _ + 6 ≤ 1932; omega⟩ dL_alike_85 rfl (fun w9 h9 => ?_)
          obtain ⟨H5, hI6, rfl⟩ := h9
          refine v_eqw (ws' := WO cy A S H5 ++ WO cy B U H3) rfl ?_
          refine v_aload_n hC dL_alike_88 rfl 1 rfl rfl ?_
          refine v_iconst hC (v := (nI 5)) dL_alike_89 (by decide) rfl ?_
          refine v_iload hC dL_alike_90 4 rfl rfl ?_
          refine v_iconst hC (v := (nI 0)) dL_alike_92 (by decide) rfl ?_
          refine v_iconst hC (v := (nI 0)) dL_alike_93 (by decide) rfl ?_
          refine l_callF hC hX (n := 5) (As := [.ref B.1, .int (nI 5), .int y4, .int (nI 0), .int (nI 0)]) (st := [.int (aSe S.1 y4)]) (fun w => WO cy A S H5 ++ w) (fun sz => mC_Setting l hX.1 g cy tt sa sz B y4 (nI 0) (nI 0) hI4 (by omega)) (WR.appR (WR.full rfl)) (fun w9 h9 => WR.appR (WR.full (WP_fst h9))) (goodIn_w gM_call) rfl rfl rfl (by decide +kernel) ⟨Nat.le_of_ble_eq_true rfl, Nat.le_of_ble_eq_true rfl⟩ rfl (Nat.le_of_ble_eq_true rfl) rfl ⟨by show _ + 1 ≤ 322; omega, by show _ + 6 ≤ 1932; omega⟩ dL_alike_94 rfl (fun w9 h9 => ?_)
          obtain ⟨H7, hI8, rfl⟩ := h9
          refine v_eqw (ws' := WO cy A S H5 ++ WO cy B U H7) rfl ?_
          refine v_icmp_ne hC (tgt := 202) dL_alike_97 (by decide) rfl (fun c => ?_) (fun c => ?_)
          · have h := ite_f c h
            exact v_sub [0, 1, 2, 4] (lv' := [(0, .ref A.1), (1, .ref B.1), (2, .int y2), (4, .int y4)]) rfl (bL_alike_202 hC hr hX hT9 hU9 _ k ih _ _ _ _ _ _ _ _ hI6 hI8 (by omega) (by omega) (by omega) (by omega) h)
          · have h := ite_t c h
            refine v_aload_n hC dL_alike_100 rfl 0 rfl rfl ?_
            refine v_iconst hC (v := (nI 3)) dL_alike_101 (by decide) rfl ?_
            refine v_iload hC dL_alike_102 4 rfl rfl ?_
            refine v_iconst hC (v := (nI 3)) dL_alike_104 (by decide) rfl ?_
            refine v_iconst hC (v := (nI 0)) dL_alike_105 (by decide) rfl ?_
            refine l_callF hC hX (n := 5) (As := [.ref A.1, .int (nI 3), .int y4, .int (nI 3), .int (nI 0)]) (st := []) (fun w => w ++ WO cy B U H7) (fun sz => mC_Extra l hX.1 g cy tt sa sz A y4 (nI 3) (nI 0) hI6 (by omega)) (WR.appL (WR.full rfl)) (fun w9 h9 => WR.appL (WR.full (WP_fst h9))) (goodIn_w gM_call) rfl rfl rfl (by decide +kernel) ⟨Nat.le_of_ble_eq_true rfl, Nat.le_of_ble_eq_true rfl⟩ rfl (Nat.le_of_ble_eq_true rfl) rfl ⟨by show _ + 2 ≤ 322; omega, by show _ + 12 ≤ 1932; omega⟩ dL_alike_106 rfl (fun w9 h9 => ?_)
            obtain ⟨H9, hI10, rfl⟩ := h9
            refine v_eqw (ws' := WO cy A S H9 ++ WO cy B U H7) rfl ?_
            refine v_aload_n hC dL_alike_109 rfl 1 rfl rfl ?_
            refine v_iconst hC (v := (nI 3)) dL_alike_110 (by decide) rfl ?_
            refine v_iload hC dL_alike_111 4 rfl rfl ?_
            refine v_iconst hC (v := (nI 3)) dL_alike_113 (by decide) rfl ?_
            refine v_iconst hC (v := (nI 0)) dL_alike_114 (by decide) rfl ?_
            refine l_callF hC hX (n := 5) (As := [.ref B.1, .int (nI 3), .int y4, .int (nI 3), .int (nI 0)]) (st := [.int (aEx S.1 y4 (nI 3))]) (fun w => WO cy A S H9 ++ w) (fun sz => mC_Extra l hX.1 g cy tt sa sz B y4 (nI 3) (nI 0) hI8 (by omega)) (WR.appR (WR.full rfl)) (fun w9 h9 => WR.appR (WR.full (WP_fst h9))) (goodIn_w gM_call) rfl rfl rfl (by decide +kernel) ⟨Nat.le_of_ble_eq_true rfl, Nat.le_of_ble_eq_true rfl⟩ rfl (Nat.le_of_ble_eq_true rfl) rfl ⟨by show _ + 2 ≤ 322; omega, by show _ + 12 ≤ 1932; omega⟩ dL_alike_115 rfl (fun w9 h9 => ?_)
            obtain ⟨H11, hI12, rfl⟩ := h9
            refine v_eqw (ws' := WO cy A S H9 ++ WO cy B U H11) rfl ?_
            refine v_icmp_ne hC (tgt := 202) dL_alike_118 (by decide) rfl (fun c => ?_) (fun c => ?_)
            · have h := ite_f c h
              exact v_sub [0, 1, 2, 4] (lv' := [(0, .ref A.1), (1, .ref B.1), (2, .int y2), (4, .int y4)]) rfl (bL_alike_202 hC hr hX hT9 hU9 _ k ih _ _ _ _ _ _ _ _ hI10 hI12 (by omega) (by omega) (by omega) (by omega) h)
            · have h := ite_t c h
              refine v_aload_n hC dL_alike_121 rfl 0 rfl rfl ?_
              refine v_iconst hC (v := (nI 3)) dL_alike_122 (by decide) rfl ?_
              refine v_iload hC dL_alike_123 4 rfl rfl ?_
              refine v_iload_n hC dL_alike_125 rfl 2 rfl rfl ?_
              refine v_bipush hC (v := (nI 7)) dL_alike_126 (by decide) rfl ?_
              refine v_irem hC dL_alike_128 (by decide) rfl ?_
              refine v_iconst hC (v := (nI 0)) dL_alike_129 (by decide) rfl ?_
              refine l_callF hC hX (n := 5) (As := [.ref A.1, .int (nI 3), .int y4, .int (y2 - y2 / (nI 7) * (nI 7)), .int (nI 0)]) (st := []) (fun w => w ++ WO cy B U H11) (fun sz => mC_Extra l hX.1 g cy tt sa sz A y4 (y2 - y2 / (nI 7) * (nI 7)) (nI 0) hI10 (by omega)) (WR.appL (WR.full rfl)) (fun w9 h9 => WR.appL (WR.full (WP_fst h9))) (goodIn_w gM_call) rfl rfl rfl (by decide +kernel) ⟨Nat.le_of_ble_eq_true rfl, Nat.le_of_ble_eq_true rfl⟩ rfl (Nat.le_of_ble_eq_true rfl) rfl ⟨by show _ + 2 ≤ 322; omega, by show _ + 12 ≤ 1932; omega⟩ dL_alike_130 rfl (fun w9 h9 => ?_)
              obtain ⟨H13, hI14, rfl⟩ := h9
              refine v_eqw (ws' := WO cy A S H13 ++ WO cy B U H11) rfl ?_
              refine v_aload_n hC dL_alike_133 rfl 1 rfl rfl ?_
              refine v_iconst hC (v := (nI 3)) dL_alike_134 (by decide) rfl ?_
              refine v_iload hC dL_alike_135 4 rfl rfl ?_
              refine v_iload_n hC dL_alike_137 rfl 2 rfl rfl ?_
              refine v_bipush hC (v := (nI 7)) dL_alike_138 (by decide) rfl ?_
              refine v_irem hC dL_alike_140 (by decide) rfl ?_
              refine v_iconst hC (v := (nI 0)) dL_alike_141 (by decide) rfl ?_
              refine l_callF hC hX (n := 5) (As := [.ref B.1, .int (nI 3), .int y4, .int (y2 - y2 / (nI 7) * (nI 7)), .int (nI 0)]) (st := [.int (aEx S.1 y4 (y2 - y2 / (nI 7) * (nI 7)))]) (fun w => WO cy A S H13 ++ w) (fun sz => mC_Extra l hX.1 g cy tt sa sz B y4 (y2 - y2 / (nI 7) * (nI 7)) (nI 0) hI12 (by omega)) (WR.appR (WR.full rfl)) (fun w9 h9 => WR.appR (WR.full (WP_fst h9))) (goodIn_w gM_call) rfl rfl rfl (by decide +kernel) ⟨Nat.le_of_ble_eq_true rfl, Nat.le_of_ble_eq_true rfl⟩ rfl (Nat.le_of_ble_eq_true rfl) rfl ⟨by show _ + 2 ≤ 322; omega, by show _ + 12 ≤ 1932; omega⟩ dL_alike_142 rfl (fun w9 h9 => ?_)
              obtain ⟨H15, hI16, rfl⟩ := h9
              refine v_eqw (ws' := WO cy A S H13 ++ WO cy B U H15) rfl ?_
              refine v_icmp_ne hC (tgt := 202) dL_alike_145 (by decide) rfl (fun c => ?_) (fun c => ?_)
              · have h := ite_f c h
                exact v_sub [0, 1, 2, 4] (lv' := [(0, .ref A.1), (1, .ref B.1), (2, .int y2), (4, .int y4)]) rfl (bL_alike_202 hC hr hX hT9 hU9 _ k ih _ _ _ _ _ _ _ _ hI14 hI16 (by omega) (by omega) (by omega) (by omega) h)
              · have h := ite_t c h
                refine v_aload_n hC dL_alike_148 rfl 0 rfl rfl ?_
                refine v_iconst hC (v := (nI 4)) dL_alike_149 (by decide) rfl ?_
                refine v_iload hC dL_alike_150 4 rfl rfl ?_
                refine v_bipush hC (v := (nI 6)) dL_alike_152 (by decide) rfl ?_
                refine v_iconst hC (v := (nI 0)) dL_alike_154 (by decide) rfl ?_
                refine l_callF hC hX (n := 5) (As := [.ref A.1, .int (nI 4), .int y4, .int (nI 6), .int (nI 0)]) (st := []) (fun w => w ++ WO cy B U H15) (fun sz => mC_Scene l hX.1 g cy tt sa sz A y4 (nI 6) (nI 0) hI14 (by omega)) (WR.appL (WR.full rfl)) (fun w9 h9 => WR.appL (WR.full (WP_fst h9))) (goodIn_w gM_call) rfl rfl rfl (by decide +kernel) ⟨Nat.le_of_ble_eq_true rfl, Nat.le_of_ble_eq_true rfl⟩ rfl (Nat.le_of_ble_eq_true rfl) rfl ⟨by show _ + 2 ≤ 322; omega, by show _ + 12 ≤ 1932; omega⟩ dL_alike_155 rfl (fun w9 h9 => ?_)
                obtain ⟨H17, hI18, rfl⟩ := h9
                refine v_eqw (ws' := WO cy A S H17 ++ WO cy B U H15) rfl ?_
                refine v_aload_n hC dL_alike_158 rfl 1 rfl rfl ?_
                refine v_iconst hC (v := (nI 4)) dL_alike_159 (by decide) rfl ?_
                refine v_iload hC dL_alike_160 4 rfl rfl ?_
                refine v_bipush hC (v := (nI 6)) dL_alike_162 (by decide) rfl ?_
                refine v_iconst hC (v := (nI 0)) dL_alike_164 (by decide) rfl ?_
                refine l_callF hC hX (n := 5) (As := [.ref B.1, .int (nI 4), .int y4, .int (nI 6), .int (nI 0)]) (st := [.int (aSc S.1 y4 (nI 6))]) (fun w => WO cy A S H17 ++ w) (fun sz => mC_Scene l hX.1 g cy tt sa sz B y4 (nI 6) (nI 0) hI16 (by omega)) (WR.appR (WR.full rfl)) (fun w9 h9 => WR.appR (WR.full (WP_fst h9))) (goodIn_w gM_call) rfl rfl rfl (by decide +kernel) ⟨Nat.le_of_ble_eq_true rfl, Nat.le_of_ble_eq_true rfl⟩ rfl (Nat.le_of_ble_eq_true rfl) rfl ⟨by show _ + 2 ≤ 322; omega, by show _ + 12 ≤ 1932; omega⟩ dL_alike_165 rfl (fun w9 h9 => ?_)
                obtain ⟨H19, hI20, rfl⟩ := h9
                refine v_eqw (ws' := WO cy A S H17 ++ WO cy B U H19) rfl ?_
                refine v_icmp_ne hC (tgt := 202) dL_alike_168 (by decide) rfl (fun c => ?_) (fun c => ?_)
                · have h := ite_f c h
                  exact v_sub [0, 1, 2, 4] (lv' := [(0, .ref A.1), (1, .ref B.1), (2, .int y2), (4, .int y4)]) rfl (bL_alike_202 hC hr hX hT9 hU9 _ k ih _ _ _ _ _ _ _ _ hI18 hI20 (by omega) (by omega) (by omega) (by omega) h)
                · have h := ite_t c h
                  refine v_aload_n hC dL_alike_171 rfl 0 rfl rfl ?_
                  refine v_iconst hC (v := (nI 4)) dL_alike_172 (by decide) rfl ?_
                  refine v_iload hC dL_alike_173 4 rfl rfl ?_
                  refine v_iload_n hC dL_alike_175 rfl 2 rfl rfl ?_
                  refine v_bipush hC (v := (nI 9)) dL_alike_176 (by decide) rfl ?_
                  refine v_irem hC dL_alike_178 (by decide) rfl ?_
                  refine v_iconst hC (v := (nI 0)) dL_alike_179 (by decide) rfl ?_
                  refine l_callF hC hX (n := 5) (As := [.ref A.1, .int (nI 4), .int y4, .int (y2 - y2 / (nI 9) * (nI 9)), .int (nI 0)]) (st := []) (fun w => w ++ WO cy B U H19) (fun sz => mC_Scene l hX.1 g cy tt sa sz A y4 (y2 - y2 / (nI 9) * (nI 9)) (nI 0) hI18 (by omega)) (WR.appL (WR.full rfl)) (fun w9 h9 => WR.appL (WR.full (WP_fst h9))) (goodIn_w gM_call) rfl rfl rfl (by decide +kernel) ⟨Nat.le_of_ble_eq_true rfl, Nat.le_of_ble_eq_true rfl⟩ rfl (Nat.le_of_ble_eq_true rfl) rfl ⟨by show _ + 2 ≤ 322; omega, by show _ + 12 ≤ 1932; omega⟩ dL_alike_180 rfl (fun w9 h9 => ?_)
                  obtain ⟨H21, hI22, rfl⟩ := h9
                  refine v_eqw (ws' := WO cy A S H21 ++ WO cy B U H19) rfl ?_
                  refine v_aload_n hC dL_alike_183 rfl 1 rfl rfl ?_
                  refine v_iconst hC (v := (nI 4)) dL_alike_184 (by decide) rfl ?_
                  refine v_iload hC dL_alike_185 4 rfl rfl ?_
                  refine v_iload_n hC dL_alike_187 rfl 2 rfl rfl ?_
                  refine v_bipush hC (v := (nI 9)) dL_alike_188 (by decide) rfl ?_
                  refine v_irem hC dL_alike_190 (by decide) rfl ?_
                  refine v_iconst hC (v := (nI 0)) dL_alike_191 (by decide) rfl ?_
                  refine l_callF hC hX (n := 5) (As := [.ref B.1, .int (nI 4), .int y4, .int (y2 - y2 / (nI 9) * (nI 9)), .int (nI 0)]) (st := [.int (aSc S.1 y4 (y2 - y2 / (nI 9) * (nI 9)))]) (fun w => WO cy A S H21 ++ w) (fun sz => mC_Scene l hX.1 g cy tt sa sz B y4 (y2 - y2 / (nI 9) * (nI 9)) (nI 0) hI20 (by omega)) (WR.appR (WR.full rfl)) (fun w9 h9 => WR.appR (WR.full (WP_fst h9))) (goodIn_w gM_call) rfl rfl rfl (by decide +kernel) ⟨Nat.le_of_ble_eq_true rfl, Nat.le_of_ble_eq_true rfl⟩ rfl (Nat.le_of_ble_eq_true rfl) rfl ⟨by show _ + 2 ≤ 322; omega, by show _ + 12 ≤ 1932; omega⟩ dL_alike_192 rfl (fun w9 h9 => ?_)
                  obtain ⟨H23, hI24, rfl⟩ := h9
                  refine v_eqw (ws' := WO cy A S H21 ++ WO cy B U H23) rfl ?_
                  refine v_icmp_ne hC (tgt := 202) dL_alike_195 (by decide) rfl (fun c => ?_) (fun c => ?_)
                  · have h := ite_f c h
                    exact v_sub [0, 1, 2, 4] (lv' := [(0, .ref A.1), (1, .ref B.1), (2, .int y2), (4, .int y4)]) rfl (bL_alike_202 hC hr hX hT9 hU9 _ k ih _ _ _ _ _ _ _ _ hI22 hI24 (by omega) (by omega) (by omega) (by omega) h)
                  · have h := ite_t c h
                    refine v_iconst hC (v := (nI 1)) dL_alike_198 (by decide) rfl ?_
                    refine v_goto hC (tgt := 203) dL_alike_199 (by decide) ?_
                    exact v_sub [0, 1, 2, 4] (lv' := [(0, .ref A.1), (1, .ref B.1), (2, .int y2), (4, .int y4)]) rfl (bL_alike_203 hC hr hX hT9 hU9 _ k ih _ _ _ _ _ _ _ _ _ hI22 hI24 (by omega) (by omega) (by omega) (by omega) h)
set_option maxHeartbeats 4000000 in
set_option maxRecDepth 100000 in
theorem bL_alike_43 {p : Program} {l : Launch} {e : Env} {s : State} {m : MethodId} {args : Array Value} {below : List Frame} {meth : Method} {c9 : Code} {g : va_G} {cy : Nat → ClassId} {tt sa : Nat → Nat} {A9 : Nat → Prop} (hC : CX p s m args meth c9 g cy 5 cL_alike wsM_alike RL) (hr : meth.sig.returnType = some .boolean) (hX : XL l s tt sa A9) {A B : AA} {T T2 : Nat} (hT9 : T < 8000) (hU9 : T2 < 8000) {S U : SS} {res : Int32} : ∀  (y2 : Int32) (s0 : Int32) (H : HH) (I : HH) (t u cells slots : Nat) (hI : RP t S H) (hJ : RP u U I) (ht : t + 0 ≤ T) (hu : u + 0 ≤ T2) (hc : cells + 320 ≤ 322) (hs : slots + 6 * 320 ≤ 1932) (h : pL_alike_43 S.1 U.1  y2 s0 = some res), V p l e (headSpec wsM_alike rmL_alike).room s m args below meth c9 g 5 cells slots (MQ below (QE g A9 res (WP2 cy A B T S T2 U)) args s 322 1932 A9) A9 A9 (WO cy A S H ++ WO cy B U I) 43 [(0, .ref A.1), (1, .ref B.1), (2, .int y2)] [.int s0] := by
  intro  y2 s0 H I t u cells slots hI hJ ht hu hc hs h
  unfold pL_alike_43 at h
  refine v_istore_n hC dL_alike_43 rfl (by decide) [(3, .int s0), (0, .ref A.1), (1, .ref B.1), (2, .int y2)] rfl rfl ?_
  refine v_iconst hC (v := (nI 0)) dL_alike_44 (by decide) rfl ?_
  refine v_istore hC dL_alike_45 (by decide) [(4, .int (nI 0)), (3, .int s0), (0, .ref A.1), (1, .ref B.1), (2, .int y2)] rfl rfl ?_
  exact v_sub [2, 3, 4, 1, 0] (lv' := [(0, .ref A.1), (1, .ref B.1), (2, .int y2), (3, .int s0), (4, .int (nI 0))]) rfl (bL_alike_47 hC hr hX hT9 hU9  16 _ _ _ _ _ _ _ _ _ hI hJ (by omega) (by omega) (by omega) (by omega) h)
set_option maxHeartbeats 4000000 in
set_option maxRecDepth 100000 in
theorem bL_alike_42 {p : Program} {l : Launch} {e : Env} {s : State} {m : MethodId} {args : Array Value} {below : List Frame} {meth : Method} {c9 : Code} {g : va_G} {cy : Nat → ClassId} {tt sa : Nat → Nat} {A9 : Nat → Prop} (hC : CX p s m args meth c9 g cy 5 cL_alike wsM_alike RL) (hr : meth.sig.returnType = some .boolean) (hX : XL l s tt sa A9) {A B : AA} {T T2 : Nat} (hT9 : T < 8000) (hU9 : T2 < 8000) {S U : SS} {res : Int32} : ∀  (y2 : Int32) (H : HH) (I : HH) (t u cells slots : Nat) (hI : RP t S H) (hJ : RP u U I) (ht : t + 0 ≤ T) (hu : u + 0 ≤ T2) (hc : cells + 320 ≤ 322) (hs : slots + 6 * 320 ≤ 1932) (h : pL_alike_42 S.1 U.1  y2 = some res), V p l e (headSpec wsM_alike rmL_alike).room s m args below meth c9 g 5 cells slots (MQ below (QE g A9 res (WP2 cy A B T S T2 U)) args s 322 1932 A9) A9 A9 (WO cy A S H ++ WO cy B U I) 42 [(0, .ref A.1), (1, .ref B.1), (2, .int y2)] [] := by
  intro  y2 H I t u cells slots hI hJ ht hu hc hs h
  unfold pL_alike_42 at h
  refine v_iconst hC (v := (nI 0)) dL_alike_42 (by decide) rfl ?_
  exact bL_alike_43 hC hr hX hT9 hU9  _ _ _ _ _ _ _ _ hI hJ (by omega) (by omega) (by omega) (by omega) h
set_option maxHeartbeats 4000000 in
set_option maxRecDepth 100000 in
theorem mL_alike (l : Launch) (hlst : l.stackTraces = false) (g : va_G) (cy : Nat → ClassId) (tt sa : Nat → Nat) (sz : Nat) (A B : AA) {t u : Nat} {S U : SS} {H I : HH} (x2 : Int32) (hI : RP t S H) (hJ : RP u U I) (ht9 : t < 8000) (hu9 : u < 8000) {res : Int32} (h : pL_alike S.1 U.1 x2 = some res) : Met l yL_alike wsM_alike rmL_alike (PN [.ref A.1, .ref B.1, .int x2] g cy tt sa sz (WO cy A S H ++ WO cy B U I)) (QE g (va_A (WO cy A S H ++ WO cy B U I) sz) res (WP2 cy A B t S u U)) 322 1932 (va_A (WO cy A S H ++ WO cy B U I) sz) := by
  obtain ⟨T, hTe⟩ : ∃ T, T = t := ⟨_, rfl⟩
  have hT9 : T < 8000 := by omega
  have ht : t + 0 ≤ T := by omega
  rw [← hTe]
  obtain ⟨T2, hUe⟩ : ∃ T2, T2 = u := ⟨_, rfl⟩
  have hU9 : T2 < 8000 := by omega
  have hu : u + 0 ≤ T2 := by omega
  rw [← hUe]
  refine m_ofVN (cc := cL_alike) (nL := 5) (ret := some .boolean) hlst RL rfl (by decide) rfl [(0, .ref A.1), (1, .ref B.1), (2, .int x2)] rfl (Nat.le_of_ble_eq_true rfl) ?_
  intro p e s m args below meth c9 hC hr hX
  generalize (va_A (WO cy A S H ++ WO cy B U I) sz) = A9 at hX ⊢
  obtain ⟨cells, hce⟩ : ∃ cells, cells = 0 := ⟨_, rfl⟩
  obtain ⟨slots, hse⟩ : ∃ slots, slots = 0 := ⟨_, rfl⟩
  have hc : cells + 322 ≤ 322 := by omega
  have hs : slots + 6 * 322 ≤ 1932 := by omega
  refine v_widen (k := cells) (n := slots) (by omega) (by omega) ?_
  unfold pL_alike at h
  refine v_aload_n hC dL_alike_0 rfl 0 rfl rfl ?_
  refine v_iload_n hC dL_alike_1 rfl 2 rfl rfl ?_
  refine v_i2l hC dL_alike_2 rfl ?_
  refine v_iconst hC (v := (nI 1)) dL_alike_3 (by decide) rfl ?_
  refine v_iload_n hC dL_alike_4 rfl 2 rfl rfl ?_
  refine v_bipush hC (v := (nI 30)) dL_alike_5 (by decide) rfl ?_
  refine v_irem hC dL_alike_7 (by decide) rfl ?_
  refine v_iadd hC dL_alike_8 rfl ?_
  refine l_callE hC hX (n := 3) (As := [.ref A.1, .long x2.toInt64, .int ((nI 1) + (x2 - x2 / (nI 30) * (nI 30)))]) (st := []) (fun w => w ++ WO cy B U I) (fun sz => mL_doSimulate l hX.1 g cy tt sa sz A x2.toInt64 ((nI 1) + (x2 - x2 / (nI 30) * (nI 30))) hI (by omega)) (WR.appL (WR.full rfl)) (fun w9 h9 => WR.appL (WR.full (WP_fst h9))) (goodIn_w gM_doSimulate) rfl rfl rfl (by decide +kernel) ⟨Nat.le_of_ble_eq_true rfl, Nat.le_of_ble_eq_true rfl⟩ rfl (Nat.le_of_ble_eq_true rfl) rfl ⟨by show _ + 1 ≤ 322; omega, by show _ + 6 ≤ 1932; omega⟩ dL_alike_9 rfl (fun w9 h9 => ?_)
  obtain ⟨H1, hI2, rfl⟩ := h9
  refine v_eqw (ws' := WO cy A S H1 ++ WO cy B U I) rfl ?_
  refine v_aload_n hC dL_alike_12 rfl 1 rfl rfl ?_
  refine v_iload_n hC dL_alike_13 rfl 2 rfl rfl ?_
  refine v_i2l hC dL_alike_14 rfl ?_
  refine v_iconst hC (v := (nI 1)) dL_alike_15 (by decide) rfl ?_
  refine v_iload_n hC dL_alike_16 rfl 2 rfl rfl ?_
  refine v_bipush hC (v := (nI 30)) dL_alike_17 (by decide) rfl ?_
  refine v_irem hC dL_alike_19 (by decide) rfl ?_
  refine v_iadd hC dL_alike_20 rfl ?_
  refine l_callE hC hX (n := 3) (As := [.ref B.1, .long x2.toInt64, .int ((nI 1) + (x2 - x2 / (nI 30) * (nI 30)))]) (st := [.int (aSm S.1 x2.toInt64 ((nI 1) + (x2 - x2 / (nI 30) * (nI 30))))]) (fun w => WO cy A S H1 ++ w) (fun sz => mL_doSimulate l hX.1 g cy tt sa sz B x2.toInt64 ((nI 1) + (x2 - x2 / (nI 30) * (nI 30))) hJ (by omega)) (WR.appR (WR.full rfl)) (fun w9 h9 => WR.appR (WR.full (WP_fst h9))) (goodIn_w gM_doSimulate) rfl rfl rfl (by decide +kernel) ⟨Nat.le_of_ble_eq_true rfl, Nat.le_of_ble_eq_true rfl⟩ rfl (Nat.le_of_ble_eq_true rfl) rfl ⟨by show _ + 1 ≤ 322; omega, by show _ + 6 ≤ 1932; omega⟩ dL_alike_21 rfl (fun w9 h9 => ?_)
  obtain ⟨H3, hI4, rfl⟩ := h9
  refine v_eqw (ws' := WO cy A S H1 ++ WO cy B U H3) rfl ?_
  refine v_icmp_ne hC (tgt := 42) dL_alike_24 (by decide) rfl (fun c => ?_) (fun c => ?_)
  · have h := ite_f c h
    exact bL_alike_42 hC hr hX hT9 hU9  _ _ _ _ _ _ _ hI2 hI4 (by omega) (by omega) (by omega) (by omega) h
  · have h := ite_t c h
    refine v_aload_n hC dL_alike_27 rfl 0 rfl rfl ?_
    refine l_callR hC (n := 0) (As := []) (st := []) (m_cheap l g cy A hI2 (by omega)) (WR.appL (WO_film cy A S _)) (goodIn_w gM_cheapest) rfl rfl rfl (by decide +kernel) ⟨Nat.le_of_ble_eq_true rfl, Nat.le_of_ble_eq_true rfl⟩ 0 rfl rfl rfl (Nat.le_of_ble_eq_true rfl) rfl ⟨by show _ + 0 ≤ 322; omega, by show _ + 0 ≤ 1932; omega⟩ dL_alike_28 rfl ?_
    refine v_aload_n hC dL_alike_31 rfl 1 rfl rfl ?_
    obtain ⟨q9, f9, hq9⟩ := WO_recv (cy := cy) (WO cy A S H1) B U H3
    refine l_callR hC (n := 0) (As := []) (st := [.int (aCh S.1)]) (m_cheap l g cy B hI4 (by omega)) (WR.appR (WO_film cy B U _)) (goodIn_w gM_cheapest) rfl rfl rfl (by decide +kernel) ⟨Nat.le_of_ble_eq_true rfl, Nat.le_of_ble_eq_true rfl⟩ q9 hq9 rfl rfl (Nat.le_of_ble_eq_true rfl) rfl ⟨by show _ + 0 ≤ 322; omega, by show _ + 0 ≤ 1932; omega⟩ dL_alike_32 rfl ?_
    refine v_icmp_ne hC (tgt := 42) dL_alike_35 (by decide) rfl (fun c => ?_) (fun c => ?_)
    · have h := ite_f c h
      exact bL_alike_42 hC hr hX hT9 hU9  _ _ _ _ _ _ _ hI2 hI4 (by omega) (by omega) (by omega) (by omega) h
    · have h := ite_t c h
      refine v_iconst hC (v := (nI 1)) dL_alike_38 (by decide) rfl ?_
      refine v_goto hC (tgt := 43) dL_alike_39 (by decide) ?_
      exact bL_alike_43 hC hr hX hT9 hU9  _ _ _ _ _ _ _ _ hI2 hI4 (by omega) (by omega) (by omega) (by omega) h

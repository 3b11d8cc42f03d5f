/-! ===== the law: behind its constructors ===== -/
def pL_law_134 (Len : Nat) (xs : Nat → Int32) (kk28 : SS → SS → Int32 → Int32 → Int32 → Option (Int32)) (S : SS) (U : SS) (y3 : Int32) (y5 : Int32) (s0 : Int32) : Option (Int32) := kk28 S U y3 s0 (y5 + (nI 1))
def pL_law_133 (Len : Nat) (xs : Nat → Int32) (kk28 : SS → SS → Int32 → Int32 → Int32 → Option (Int32)) (S : SS) (U : SS) (y3 : Int32) (y5 : Int32) : Option (Int32) := pL_law_134 Len xs kk28 S U y3 y5 (nI 0)
def pL_law_308 (Len : Nat) (xs : Nat → Int32) (kk158 : SS → SS → Int32 → Int32 → Int32 → Option (Int32)) (S : SS) (U : SS) (y5 : Int32) (y6 : Int32) (s0 : Int32) : Option (Int32) := kk158 S U s0 y5 (y6 + (nI 1))
def pL_law_303 (Len : Nat) (xs : Nat → Int32) (kk158 : SS → SS → Int32 → Int32 → Int32 → Option (Int32)) (S : SS) (U : SS) (y5 : Int32) (y6 : Int32) : Option (Int32) := pL_law_308 Len xs kk158 S U y5 y6 (nI 1)
def pL_law_307 (Len : Nat) (xs : Nat → Int32) (kk158 : SS → SS → Int32 → Int32 → Int32 → Option (Int32)) (S : SS) (U : SS) (y5 : Int32) (y6 : Int32) : Option (Int32) := pL_law_308 Len xs kk158 S U y5 y6 (nI 0)
def pL_law_270 (Len : Nat) (xs : Nat → Int32) (kk158 : SS → SS → Int32 → Int32 → Int32 → Option (Int32)) (S : SS) (U : SS) (y5 : Int32) (y6 : Int32) (y7 : Int32) : Option (Int32) := (pL_scene S U (y7 / (nI 7))).bind fun v1 => if v1.1 = 0 then pL_law_307 Len xs kk158 v1.2.1 v1.2.2 y5 y6 else if 0 < (y6 - y6 / (nI 3) * (nI 3)) then pL_law_303 Len xs kk158 v1.2.1 v1.2.2 y5 y6 else (pL_both v1.2.1 v1.2.2 (y7 / (nI 11))).bind fun v6 => if v6.1 = 0 then pL_law_307 Len xs kk158 v6.2.1 v6.2.2 y5 y6 else pL_law_303 Len xs kk158 v6.2.1 v6.2.2 y5 y6
def pL_law_316 (Len : Nat) (xs : Nat → Int32)  (S : SS) (U : SS) (y4 : Int32) : Option (Int32) := some y4
def pL_law_158 (Len : Nat) (xs : Nat → Int32)  : Nat → SS → SS → Int32 → Int32 → Int32 → Option (Int32)
  | 0, _, _, _, _, _ => none
  | k + 1, S, U, y4, y5, y6 => if y5 ≤ y6 then pL_law_316 Len xs  S U y4 else if y4 = 0 then pL_law_316 Len xs  S U y4 else (pL_cell Len xs ((nI 2) + y6)).bind fun v1 => (pL_act S v1).bind fun v2 => (pL_refuses U.1 (v1 - v1 / (nI 100000) * (nI 100000))).bind fun v5 => if v5 = 0 then pL_law_307 Len xs (fun u0 u1 u2 u3 u4 => pL_law_158 Len xs  k u0 u1 u2 u3 u4) v2.2 U y5 y6 else (pL_act U v1).bind fun v8 => if v8.1 = v2.1 then (pL_refuses v8.2.1 (v1 - v1 / (nI 1000) * (nI 1000))).bind fun v11 => if v11 = 0 then pL_law_307 Len xs (fun u0 u1 u2 u3 u4 => pL_law_158 Len xs  k u0 u1 u2 u3 u4) v2.2 v8.2 y5 y6 else (pL_alike v2.2.1 v8.2.1 (v1 - v1 / (nI 5000) * (nI 5000))).bind fun v14 => if v14 = 0 then pL_law_307 Len xs (fun u0 u1 u2 u3 u4 => pL_law_158 Len xs  k u0 u1 u2 u3 u4) v2.2 v8.2 y5 y6 else if (y6 - y6 / (nI 2) * (nI 2)) = 0 then (pL_holds v2.2.1 (v1 / (nI 3))).bind fun v22 => if v22 = 0 then pL_law_307 Len xs (fun u0 u1 u2 u3 u4 => pL_law_158 Len xs  k u0 u1 u2 u3 u4) v2.2 v8.2 y5 y6 else pL_law_270 Len xs (fun u0 u1 u2 u3 u4 => pL_law_158 Len xs  k u0 u1 u2 u3 u4) v2.2 v8.2 y5 y6 v1 else (pL_holds v8.2.1 (v1 / (nI 5))).bind fun v19 => if v19 = 0 then pL_law_307 Len xs (fun u0 u1 u2 u3 u4 => pL_law_158 Len xs  k u0 u1 u2 u3 u4) v2.2 v8.2 y5 y6 else pL_law_270 Len xs (fun u0 u1 u2 u3 u4 => pL_law_158 Len xs  k u0 u1 u2 u3 u4) v2.2 v8.2 y5 y6 v1 else pL_law_307 Len xs (fun u0 u1 u2 u3 u4 => pL_law_158 Len xs  k u0 u1 u2 u3 u4) v2.2 v8.2 y5 y6
theorem pL_law_158_s (Len : Nat) (xs : Nat → Int32)  {k : Nat} (S : SS) (U : SS) (y4 : Int32) (y5 : Int32) (y6 : Int32) : pL_law_158 Len xs  (k + 1) S U y4 y5 y6 = if y5 ≤ y6 then pL_law_316 Len xs  S U y4 else if y4 = 0 then pL_law_316 Len xs  S U y4 else (pL_cell Len xs ((nI 2) + y6)).bind fun v1 => (pL_act S v1).bind fun v2 => (pL_refuses U.1 (v1 - v1 / (nI 100000) * (nI 100000))).bind fun v5 => if v5 = 0 then pL_law_307 Len xs (fun u0 u1 u2 u3 u4 => pL_law_158 Len xs  k u0 u1 u2 u3 u4) v2.2 U y5 y6 else (pL_act U v1).bind fun v8 => if v8.1 = v2.1 then (pL_refuses v8.2.1 (v1 - v1 / (nI 1000) * (nI 1000))).bind fun v11 => if v11 = 0 then pL_law_307 Len xs (fun u0 u1 u2 u3 u4 => pL_law_158 Len xs  k u0 u1 u2 u3 u4) v2.2 v8.2 y5 y6 else (pL_alike v2.2.1 v8.2.1 (v1 - v1 / (nI 5000) * (nI 5000))).bind fun v14 => if v14 = 0 then pL_law_307 Len xs (fun u0 u1 u2 u3 u4 => pL_law_158 Len xs  k u0 u1 u2 u3 u4) v2.2 v8.2 y5 y6 else if (y6 - y6 / (nI 2) * (nI 2)) = 0 then (pL_holds v2.2.1 (v1 / (nI 3))).bind fun v22 => if v22 = 0 then pL_law_307 Len xs (fun u0 u1 u2 u3 u4 => pL_law_158 Len xs  k u0 u1 u2 u3 u4) v2.2 v8.2 y5 y6 else pL_law_270 Len xs (fun u0 u1 u2 u3 u4 => pL_law_158 Len xs  k u0 u1 u2 u3 u4) v2.2 v8.2 y5 y6 v1 else (pL_holds v8.2.1 (v1 / (nI 5))).bind fun v19 => if v19 = 0 then pL_law_307 Len xs (fun u0 u1 u2 u3 u4 => pL_law_158 Len xs  k u0 u1 u2 u3 u4) v2.2 v8.2 y5 y6 else pL_law_270 Len xs (fun u0 u1 u2 u3 u4 => pL_law_158 Len xs  k u0 u1 u2 u3 u4) v2.2 v8.2 y5 y6 v1 else pL_law_307 Len xs (fun u0 u1 u2 u3 u4 => pL_law_158 Len xs  k u0 u1 u2 u3 u4) v2.2 v8.2 y5 y6 := rfl
def pL_law_142 (Len : Nat) (xs : Nat → Int32)  (S : SS) (U : SS) (y4 : Int32) : Option (Int32) := (pL_cell Len xs (nI 1)).bind fun v1 => pL_law_158 Len xs  30 S U y4 ((nI 8) + (v1 - v1 / (nI 21) * (nI 21))) (nI 0)
def pL_law_28 (Len : Nat) (xs : Nat → Int32)  : Nat → SS → SS → Int32 → Int32 → Int32 → Option (Int32)
  | 0, _, _, _, _, _ => none
  | k + 1, S, U, y3, y4, y5 => if (nI 2) ≤ y5 then pL_law_142 Len xs  S U y4 else if y4 = 0 then pL_law_142 Len xs  S U y4 else if ((fEx S (nI 0) (y5 + (y3 - y3 / (nI 9) * (nI 9)))).1) = y5 then if ((fEx U (nI 0) (y5 + (y3 - y3 / (nI 9) * (nI 9)))).1) = y5 then if ((fSc ((fEx S (nI 0) (y5 + (y3 - y3 / (nI 9) * (nI 9)))).2) (nI 0) ((nI 1) + (y3 - y3 / (nI 2) * (nI 2))) y5 (nI 0) ((nI 30) + (y3 - y3 / (nI 99) * (nI 99)))).1) = y5 then if ((fSc ((fEx U (nI 0) (y5 + (y3 - y3 / (nI 9) * (nI 9)))).2) (nI 0) ((nI 1) + (y3 - y3 / (nI 2) * (nI 2))) y5 (nI 0) ((nI 30) + (y3 - y3 / (nI 99) * (nI 99)))).1) = y5 then pL_law_134 Len xs (fun u0 u1 u2 u3 u4 => pL_law_28 Len xs  k u0 u1 u2 u3 u4) ((fSc ((fEx S (nI 0) (y5 + (y3 - y3 / (nI 9) * (nI 9)))).2) (nI 0) ((nI 1) + (y3 - y3 / (nI 2) * (nI 2))) y5 (nI 0) ((nI 30) + (y3 - y3 / (nI 99) * (nI 99)))).2) ((fSc ((fEx U (nI 0) (y5 + (y3 - y3 / (nI 9) * (nI 9)))).2) (nI 0) ((nI 1) + (y3 - y3 / (nI 2) * (nI 2))) y5 (nI 0) ((nI 30) + (y3 - y3 / (nI 99) * (nI 99)))).2) y3 y5 (nI 1) else pL_law_133 Len xs (fun u0 u1 u2 u3 u4 => pL_law_28 Len xs  k u0 u1 u2 u3 u4) ((fSc ((fEx S (nI 0) (y5 + (y3 - y3 / (nI 9) * (nI 9)))).2) (nI 0) ((nI 1) + (y3 - y3 / (nI 2) * (nI 2))) y5 (nI 0) ((nI 30) + (y3 - y3 / (nI 99) * (nI 99)))).2) ((fSc ((fEx U (nI 0) (y5 + (y3 - y3 / (nI 9) * (nI 9)))).2) (nI 0) ((nI 1) + (y3 - y3 / (nI 2) * (nI 2))) y5 (nI 0) ((nI 30) + (y3 - y3 / (nI 99) * (nI 99)))).2) y3 y5 else pL_law_133 Len xs (fun u0 u1 u2 u3 u4 => pL_law_28 Len xs  k u0 u1 u2 u3 u4) ((fSc ((fEx S (nI 0) (y5 + (y3 - y3 / (nI 9) * (nI 9)))).2) (nI 0) ((nI 1) + (y3 - y3 / (nI 2) * (nI 2))) y5 (nI 0) ((nI 30) + (y3 - y3 / (nI 99) * (nI 99)))).2) ((fEx U (nI 0) (y5 + (y3 - y3 / (nI 9) * (nI 9)))).2) y3 y5 else pL_law_133 Len xs (fun u0 u1 u2 u3 u4 => pL_law_28 Len xs  k u0 u1 u2 u3 u4) ((fEx S (nI 0) (y5 + (y3 - y3 / (nI 9) * (nI 9)))).2) ((fEx U (nI 0) (y5 + (y3 - y3 / (nI 9) * (nI 9)))).2) y3 y5 else pL_law_133 Len xs (fun u0 u1 u2 u3 u4 => pL_law_28 Len xs  k u0 u1 u2 u3 u4) ((fEx S (nI 0) (y5 + (y3 - y3 / (nI 9) * (nI 9)))).2) U y3 y5
theorem pL_law_28_s (Len : Nat) (xs : Nat → Int32)  {k : Nat} (S : SS) (U : SS) (y3 : Int32) (y4 : Int32) (y5 : Int32) : pL_law_28 Len xs  (k + 1) S U y3 y4 y5 = if (nI 2) ≤ y5 then pL_law_142 Len xs  S U y4 else if y4 = 0 then pL_law_142 Len xs  S U y4 else if ((fEx S (nI 0) (y5 + (y3 - y3 / (nI 9) * (nI 9)))).1) = y5 then if ((fEx U (nI 0) (y5 + (y3 - y3 / (nI 9) * (nI 9)))).1) = y5 then if ((fSc ((fEx S (nI 0) (y5 + (y3 - y3 / (nI 9) * (nI 9)))).2) (nI 0) ((nI 1) + (y3 - y3 / (nI 2) * (nI 2))) y5 (nI 0) ((nI 30) + (y3 - y3 / (nI 99) * (nI 99)))).1) = y5 then if ((fSc ((fEx U (nI 0) (y5 + (y3 - y3 / (nI 9) * (nI 9)))).2) (nI 0) ((nI 1) + (y3 - y3 / (nI 2) * (nI 2))) y5 (nI 0) ((nI 30) + (y3 - y3 / (nI 99) * (nI 99)))).1) = y5 then pL_law_134 Len xs (fun u0 u1 u2 u3 u4 => pL_law_28 Len xs  k u0 u1 u2 u3 u4) ((fSc ((fEx S (nI 0) (y5 + (y3 - y3 / (nI 9) * (nI 9)))).2) (nI 0) ((nI 1) + (y3 - y3 / (nI 2) * (nI 2))) y5 (nI 0) ((nI 30) + (y3 - y3 / (nI 99) * (nI 99)))).2) ((fSc ((fEx U (nI 0) (y5 + (y3 - y3 / (nI 9) * (nI 9)))).2) (nI 0) ((nI 1) + (y3 - y3 / (nI 2) * (nI 2))) y5 (nI 0) ((nI 30) + (y3 - y3 / (nI 99) * (nI 99)))).2) y3 y5 (nI 1) else pL_law_133 Len xs (fun u0 u1 u2 u3 u4 => pL_law_28 Len xs  k u0 u1 u2 u3 u4) ((fSc ((fEx S (nI 0) (y5 + (y3 - y3 / (nI 9) * (nI 9)))).2) (nI 0) ((nI 1) + (y3 - y3 / (nI 2) * (nI 2))) y5 (nI 0) ((nI 30) + (y3 - y3 / (nI 99) * (nI 99)))).2) ((fSc ((fEx U (nI 0) (y5 + (y3 - y3 / (nI 9) * (nI 9)))).2) (nI 0) ((nI 1) + (y3 - y3 / (nI 2) * (nI 2))) y5 (nI 0) ((nI 30) + (y3 - y3 / (nI 99) * (nI 99)))).2) y3 y5 else pL_law_133 Len xs (fun u0 u1 u2 u3 u4 => pL_law_28 Len xs  k u0 u1 u2 u3 u4) ((fSc ((fEx S (nI 0) (y5 + (y3 - y3 / (nI 9) * (nI 9)))).2) (nI 0) ((nI 1) + (y3 - y3 / (nI 2) * (nI 2))) y5 (nI 0) ((nI 30) + (y3 - y3 / (nI 99) * (nI 99)))).2) ((fEx U (nI 0) (y5 + (y3 - y3 / (nI 9) * (nI 9)))).2) y3 y5 else pL_law_133 Len xs (fun u0 u1 u2 u3 u4 => pL_law_28 Len xs  k u0 u1 u2 u3 u4) ((fEx S (nI 0) (y5 + (y3 - y3 / (nI 9) * (nI 9)))).2) ((fEx U (nI 0) (y5 + (y3 - y3 / (nI 9) * (nI 9)))).2) y3 y5 else pL_law_133 Len xs (fun u0 u1 u2 u3 u4 => pL_law_28 Len xs  k u0 u1 u2 u3 u4) ((fEx S (nI 0) (y5 + (y3 - y3 / (nI 9) * (nI 9)))).2) U y3 y5 := rfl
def pL_law (Len : Nat) (xs : Nat → Int32) (S : SS) (U : SS) : Option Int32 := (pL_cell Len xs (nI 0)).bind fun v1 => pL_law_28 Len xs  4 S U v1 (nI 1) (nI 0)
set_option maxHeartbeats 4000000 in
set_option maxRecDepth 100000 in
theorem bL_law_134 {p : Program} {l : Launch} {e : Env} {s : State} {m : MethodId} {args : Array Value} {below : List Frame} {meth : Method} {c9 : Code} {Q : State → Prop} {g : va_G} {cy : Nat → ClassId} {tt sa : Nat → Nat} {A9 : Nat → Prop} (hC : CX p s m args meth c9 g cy 9 cL_law wsL_law RL) (hX : XL l s tt sa A9) {b Len : Nat} {xs : Nat → Int32} (hX9 : va_X b Len xs s s.heap) (hbl : b < s.heap.size) (hbA : ¬ A9 b) (kE : ∀ (ws : va_W) (lv : List (Nat × Value)) (cells slots : Nat), cells ≤ 701487 → slots ≤ 6997236 → V p l e room_1 s m args below meth c9 g 9 cells slots Q A9 A9 ws 318 lv [.int (nI 1)]) {A B : AA} {T T2 : Nat} (hT9 : T < 8000) (hU9 : T2 < 8000) {res : Int32} (h1 : res = nI 1) : ∀ (kk28 : SS → SS → Int32 → Int32 → Int32 → Option (Int32)) (n28 : Nat) (hk28 : ∀ (S : SS) (U : SS) (y3 : Int32) (y4 : Int32) (y5 : Int32) (H : HH) (I : HH) (t u cells slots : Nat), RP t S H → RP u U I → t + (360 + 2 * n28) ≤ T → u + (1410 + 2 * n28) ≤ T2 → cells + (84270 + 8 * n28) ≤ 701487 → slots + 6 * (84270 + 8 * n28) ≤ 6997236 → kk28 S U y3 y4 y5 = some res → V p l e room_1 s m args below meth c9 g 9 cells slots Q A9 A9 (WO cy A S H ++ WO cy B U I) 28 [(0, .ref b), (1, .ref A.1), (2, .ref B.1), (3, .int y3), (4, .int y4), (5, .int y5)] []) (S : SS) (U : SS) (y3 : Int32) (y5 : Int32) (s0 : Int32) (H : HH) (I : HH) (t u cells slots : Nat) (hI : RP t S H) (hJ : RP u U I) (ht : t + (360 + 2 * n28) ≤ T) (hu : u + (1410 + 2 * n28) ≤ T2) (hc : cells + (84270 + 8 * n28) ≤ 701487) (hs : slots + 6 * (84270 + 8 * n28) ≤ 6997236) (h : pL_law_134 Len xs kk28 S U y3 y5 s0 = some res), V p l e room_1 s m args below meth c9 g 9 cells slots Q A9 A9 (WO cy A S H ++ WO cy B U I) 134 [(0, .ref b), (1, .ref A.1), (2, .ref B.1), (3, .int y3), (5, .int y5)] [.int s0] := by
  intro kk28 n28 hk28 S U y3 y5 s0 H I t u cells slots hI hJ ht hu hc hs h
  unfold pL_law_134 at h
  refine v_istore hC dL_law_134 (by decide) [(4, .int s0), (0, .ref b), (1, .ref A.1), (2, .ref B.1), (3, .int y3), (5, .int y5)] rfl rfl ?_
  refine v_iinc hC dL_law_136 5 rfl (v := (y5 + (nI 1))) rfl (by decide) [(5, .int (y5 + (nI 1))), (4, .int s0), (0, .ref b), (1, .ref A.1), (2, .ref B.1), (3, .int y3)] rfl rfl ?_
  refine v_goto hC (tgt := 28) dL_law_139 (by decide) ?_
  exact v_sub [2, 3, 4, 5, 1, 0] (lv' := [(0, .ref b), (1, .ref A.1), (2, .ref B.1), (3, .int y3), (4, .int s0), (5, .int (y5 + (nI 1)))]) rfl (hk28 _ _ _ _ _ _ _ _ _ _ _ hI hJ (by omega) (by omega) (by omega) (by omega) h)
set_option maxHeartbeats 4000000 in
set_option maxRecDepth 100000 in
theorem bL_law_133 {p : Program} {l : Launch} {e : Env} {s : State} {m : MethodId} {args : Array Value} {below : List Frame} {meth : Method} {c9 : Code} {Q : State → Prop} {g : va_G} {cy : Nat → ClassId} {tt sa : Nat → Nat} {A9 : Nat → Prop} (hC : CX p s m args meth c9 g cy 9 cL_law wsL_law RL) (hX : XL l s tt sa A9) {b Len : Nat} {xs : Nat → Int32} (hX9 : va_X b Len xs s s.heap) (hbl : b < s.heap.size) (hbA : ¬ A9 b) (kE : ∀ (ws : va_W) (lv : List (Nat × Value)) (cells slots : Nat), cells ≤ 701487 → slots ≤ 6997236 → V p l e room_1 s m args below meth c9 g 9 cells slots Q A9 A9 ws 318 lv [.int (nI 1)]) {A B : AA} {T T2 : Nat} (hT9 : T < 8000) (hU9 : T2 < 8000) {res : Int32} (h1 : res = nI 1) : ∀ (kk28 : SS → SS → Int32 → Int32 → Int32 → Option (Int32)) (n28 : Nat) (hk28 : ∀ (S : SS) (U : SS) (y3 : Int32) (y4 : Int32) (y5 : Int32) (H : HH) (I : HH) (t u cells slots : Nat), RP t S H → RP u U I → t + (360 + 2 * n28) ≤ T → u + (1410 + 2 * n28) ≤ T2 → cells + (84270 + 8 * n28) ≤ 701487 → slots + 6 * (84270 + 8 * n28) ≤ 6997236 → kk28 S U y3 y4 y5 = some res → V p l e room_1 s m args below meth c9 g 9 cells slots Q A9 A9 (WO cy A S H ++ WO cy B U I) 28 [(0, .ref b), (1, .ref A.1), (2, .ref B.1), (3, .int y3), (4, .int y4), (5, .int y5)] []) (S : SS) (U : SS) (y3 : Int32) (y5 : Int32) (H : HH) (I : HH) (t u cells slots : Nat) (hI : RP t S H) (hJ : RP u U I) (ht : t + (360 + 2 * n28) ≤ T) (hu : u + (1410 + 2 * n28) ≤ T2) (hc : cells + (84270 + 8 * n28) ≤ 701487) (hs : slots + 6 * (84270 + 8 * n28) ≤ 6997236) (h : pL_law_133 Len xs kk28 S U y3 y5 = some res), V p l e room_1 s m args below meth c9 g 9 cells slots Q A9 A9 (WO cy A S H ++ WO cy B U I) 133 [(0, .ref b), (1, .ref A.1), (2, .ref B.1), (3, .int y3), (5, .int y5)] [] := by
  intro kk28 n28 hk28 S U y3 y5 H I t u cells slots hI hJ ht hu hc hs h
  unfold pL_law_133 at h
  refine v_iconst hC (v := (nI 0)) dL_law_133 (by decide) rfl ?_
  exact bL_law_134 hC hX hX9 hbl hbA kE hT9 hU9 h1 _ n28 hk28 _ _ _ _ _ _ _ _ _ _ _ hI hJ (by omega) (by omega) (by omega) (by omega) h
set_option maxHeartbeats 4000000 in
set_option maxRecDepth 100000 in
theorem bL_law_308 {p : Program} {l : Launch} {e : Env} {s : State} {m : MethodId} {args : Array Value} {below : List Frame} {meth : Method} {c9 : Code} {Q : State → Prop} {g : va_G} {cy : Nat → ClassId} {tt sa : Nat → Nat} {A9 : Nat → Prop} (hC : CX p s m args meth c9 g cy 9 cL_law wsL_law RL) (hX : XL l s tt sa A9) {b Len : Nat} {xs : Nat → Int32} (hX9 : va_X b Len xs s s.heap) (hbl : b < s.heap.size) (hbA : ¬ A9 b) (kE : ∀ (ws : va_W) (lv : List (Nat × Value)) (cells slots : Nat), cells ≤ 701487 → slots ≤ 6997236 → V p l e room_1 s m args below meth c9 g 9 cells slots Q A9 A9 ws 318 lv [.int (nI 1)]) {A B : AA} {T T2 : Nat} (hT9 : T < 8000) (hU9 : T2 < 8000) {res : Int32} (h1 : res = nI 1) : ∀ (kk158 : SS → SS → Int32 → Int32 → Int32 → Option (Int32)) (n158 : Nat) (hk158 : ∀ (S : SS) (U : SS) (y4 : Int32) (y5 : Int32) (y6 : Int32) (H : HH) (I : HH) (t u cells slots : Nat), RP t S H → RP u U I → t + (0 + 12 * n158) ≤ T → u + (0 + 47 * n158) ≤ T2 → cells + (0 + 2809 * n158) ≤ 701487 → slots + 6 * (0 + 2809 * n158) ≤ 6997236 → kk158 S U y4 y5 y6 = some res → V p l e room_1 s m args below meth c9 g 9 cells slots Q A9 A9 (WO cy A S H ++ WO cy B U I) 158 [(0, .ref b), (1, .ref A.1), (2, .ref B.1), (4, .int y4), (5, .int y5), (6, .int y6)] []) (S : SS) (U : SS) (y5 : Int32) (y6 : Int32) (s0 : Int32) (H : HH) (I : HH) (t u cells slots : Nat) (hI : RP t S H) (hJ : RP u U I) (ht : t + (0 + 12 * n158) ≤ T) (hu : u + (0 + 47 * n158) ≤ T2) (hc : cells + (0 + 2809 * n158) ≤ 701487) (hs : slots + 6 * (0 + 2809 * n158) ≤ 6997236) (h : pL_law_308 Len xs kk158 S U y5 y6 s0 = some res), V p l e room_1 s m args below meth c9 g 9 cells slots Q A9 A9 (WO cy A S H ++ WO cy B U I) 308 [(0, .ref b), (1, .ref A.1), (2, .ref B.1), (5, .int y5), (6, .int y6)] [.int s0] := by
  intro kk158 n158 hk158 S U y5 y6 s0 H I t u cells slots hI hJ ht hu hc hs h
  unfold pL_law_308 at h
  refine v_istore hC dL_law_308 (by decide) [(4, .int s0), (0, .ref b), (1, .ref A.1), (2, .ref B.1), (5, .int y5), (6, .int y6)] rfl rfl ?_
  refine v_iinc hC dL_law_310 5 rfl (v := (y6 + (nI 1))) rfl (by decide) [(6, .int (y6 + (nI 1))), (4, .int s0), (0, .ref b), (1, .ref A.1), (2, .ref B.1), (5, .int y5)] rfl rfl ?_
  refine v_goto hC (tgt := 158) dL_law_313 (by decide) ?_
  exact v_sub [2, 3, 4, 1, 5, 0] (lv' := [(0, .ref b), (1, .ref A.1), (2, .ref B.1), (4, .int s0), (5, .int y5), (6, .int (y6 + (nI 1)))]) rfl (hk158 _ _ _ _ _ _ _ _ _ _ _ hI hJ (by omega) (by omega) (by omega) (by omega) h)
set_option maxHeartbeats 4000000 in
set_option maxRecDepth 100000 in
theorem bL_law_303 {p : Program} {l : Launch} {e : Env} {s : State} {m : MethodId} {args : Array Value} {below : List Frame} {meth : Method} {c9 : Code} {Q : State → Prop} {g : va_G} {cy : Nat → ClassId} {tt sa : Nat → Nat} {A9 : Nat → Prop} (hC : CX p s m args meth c9 g cy 9 cL_law wsL_law RL) (hX : XL l s tt sa A9) {b Len : Nat} {xs : Nat → Int32} (hX9 : va_X b Len xs s s.heap) (hbl : b < s.heap.size) (hbA : ¬ A9 b) (kE : ∀ (ws : va_W) (lv : List (Nat × Value)) (cells slots : Nat), cells ≤ 701487 → slots ≤ 6997236 → V p l e room_1 s m args below meth c9 g 9 cells slots Q A9 A9 ws 318 lv [.int (nI 1)]) {A B : AA} {T T2 : Nat} (hT9 : T < 8000) (hU9 : T2 < 8000) {res : Int32} (h1 : res = nI 1) : ∀ (kk158 : SS → SS → Int32 → Int32 → Int32 → Option (Int32)) (n158 : Nat) (hk158 : ∀ (S : SS) (U : SS) (y4 : Int32) (y5 : Int32) (y6 : Int32) (H : HH) (I : HH) (t u cells slots : Nat), RP t S H → RP u U I → t + (0 + 12 * n158) ≤ T → u + (0 + 47 * n158) ≤ T2 → cells + (0 + 2809 * n158) ≤ 701487 → slots + 6 * (0 + 2809 * n158) ≤ 6997236 → kk158 S U y4 y5 y6 = some res → V p l e room_1 s m args below meth c9 g 9 cells slots Q A9 A9 (WO cy A S H ++ WO cy B U I) 158 [(0, .ref b), (1, .ref A.1), (2, .ref B.1), (4, .int y4), (5, .int y5), (6, .int y6)] []) (S : SS) (U : SS) (y5 : Int32) (y6 : Int32) (H : HH) (I : HH) (t u cells slots : Nat) (hI : RP t S H) (hJ : RP u U I) (ht : t + (0 + 12 * n158) ≤ T) (hu : u + (0 + 47 * n158) ≤ T2) (hc : cells + (0 + 2809 * n158) ≤ 701487) (hs : slots + 6 * (0 + 2809 * n158) ≤ 6997236) (h : pL_law_303 Len xs kk158 S U y5 y6 = some res), V p l e room_1 s m args below meth c9 g 9 cells slots Q A9 A9 (WO cy A S H ++ WO cy B U I) 303 [(0, .ref b), (1, .ref A.1), (2, .ref B.1), (5, .int y5), (6, .int y6)] [] := by
  intro kk158 n158 hk158 S U y5 y6 H I t u cells slots hI hJ ht hu hc hs h
  unfold pL_law_303 at h
  refine v_iconst hC (v := (nI 1)) dL_law_303 (by decide) rfl ?_
  refine v_goto hC (tgt := 308) dL_law_304 (by decide) ?_
  exact bL_law_308 hC hX hX9 hbl hbA kE hT9 hU9 h1 _ n158 hk158 _ _ _ _ _ _ _ _ _ _ _ hI hJ (by omega) (by omega) (by omega) (by omega) h
set_option maxHeartbeats 4000000 in
set_option maxRecDepth 100000 in
theorem bL_law_307 {p : Program} {l : Launch} {e : Env} {s : State} {m : MethodId} {args : Array Value} {below : List Frame} {meth : Method} {c9 : Code} {Q : State → Prop} {g : va_G} {cy : Nat → ClassId} {tt sa : Nat → Nat} {A9 : Nat → Prop} (hC : CX p s m args meth c9 g cy 9 cL_law wsL_law RL) (hX : XL l s tt sa A9) {b Len : Nat} {xs : Nat → Int32} (hX9 : va_X b Len xs s s.heap) (hbl : b < s.heap.size) (hbA : ¬ A9 b) (kE : ∀ (ws : va_W) (lv : List (Nat × Value)) (cells slots : Nat), cells ≤ 701487 → slots ≤ 6997236 → V p l e room_1 s m args below meth c9 g 9 cells slots Q A9 A9 ws 318 lv [.int (nI 1)]) {A B : AA} {T T2 : Nat} (hT9 : T < 8000) (hU9 : T2 < 8000) {res : Int32} (h1 : res = nI 1) : ∀ (kk158 : SS → SS → Int32 → Int32 → Int32 → Option (Int32)) (n158 : Nat) (hk158 : ∀ (S : SS) (U : SS) (y4 : Int32) (y5 : Int32) (y6 : Int32) (H : HH) (I : HH) (t u cells slots : Nat), RP t S H → RP u U I → t + (0 + 12 * n158) ≤ T → u + (0 + 47 * n158) ≤ T2 → cells + (0 + 2809 * n158) ≤ 701487 → slots + 6 * (0 + 2809 * n158) ≤ 6997236 → kk158 S U y4 y5 y6 = some res → V p l e room_1 s m args below meth c9 g 9 cells slots Q A9 A9 (WO cy A S H ++ WO cy B U I) 158 [(0, .ref b), (1, .ref A.1), (2, .ref B.1), (4, .int y4), (5, .int y5), (6, .int y6)] []) (S : SS) (U : SS) (y5 : Int32) (y6 : Int32) (H : HH) (I : HH) (t u cells slots : Nat) (hI : RP t S H) (hJ : RP u U I) (ht : t + (0 + 12 * n158) ≤ T) (hu : u + (0 + 47 * n158) ≤ T2) (hc : cells + (0 + 2809 * n158) ≤ 701487) (hs : slots + 6 * (0 + 2809 * n158) ≤ 6997236) (h : pL_law_307 Len xs kk158 S U y5 y6 = some res), V p l e room_1 s m args below meth c9 g 9 cells slots Q A9 A9 (WO cy A S H ++ WO cy B U I) 307 [(0, .ref b), (1, .ref A.1), (2, .ref B.1), (5, .int y5), (6, .int y6)] [] := by
  intro kk158 n158 hk158 S U y5 y6 H I t u cells slots hI hJ ht hu hc hs h
  unfold pL_law_307 at h
  refine v_iconst hC (v := (nI 0)) dL_law_307 (by decide) rfl ?_
  exact bL_law_308 hC hX hX9 hbl hbA kE hT9 hU9 h1 _ n158 hk158 _ _ _ _ _ _ _ _ _ _ _ hI hJ (by omega) (by omega) (by omega) (by omega) h
set_option maxHeartbeats 4000000 in
set_option maxRecDepth 100000 in
theorem bL_law_270 {p : Program} {l : Launch} {e : Env} {s : State} {m : MethodId} {args : Array Value} {below : List Frame} {meth : Method} {c9 : Code} {Q : State → Prop} {g : va_G} {cy : Nat → ClassId} {tt sa : Nat → Nat} {A9 : Nat → Prop} (hC : CX p s m args meth c9 g cy 9 cL_law wsL_law RL) (hX : XL l s tt sa A9) {b Len : Nat} {xs : Nat → Int32} (hX9 : va_X b Len xs s s.heap) (hbl : b < s.heap.size) (hbA : ¬ A9 b) (kE : ∀ (ws : va_W) (lv : List (Nat × Value)) (cells slots : Nat), cells ≤ 701487 → slots ≤ 6997236 → V p l e room_1 s m args below meth c9 g 9 cells slots Q A9 A9 ws 318 lv [.int (nI 1)]) {A B : AA} {T T2 : Nat} (hT9 : T < 8000) (hU9 : T2 < 8000) {res : Int32} (h1 : res = nI 1) : ∀ (kk158 : SS → SS → Int32 → Int32 → Int32 → Option (Int32)) (n158 : Nat) (hk158 : ∀ (S : SS) (U : SS) (y4 : Int32) (y5 : Int32) (y6 : Int32) (H : HH) (I : HH) (t u cells slots : Nat), RP t S H → RP u U I → t + (0 + 12 * n158) ≤ T → u + (0 + 47 * n158) ≤ T2 → cells + (0 + 2809 * n158) ≤ 701487 → slots + 6 * (0 + 2809 * n158) ≤ 6997236 → kk158 S U y4 y5 y6 = some res → V p l e room_1 s m args below meth c9 g 9 cells slots Q A9 A9 (WO cy A S H ++ WO cy B U I) 158 [(0, .ref b), (1, .ref A.1), (2, .ref B.1), (4, .int y4), (5, .int y5), (6, .int y6)] []) (S : SS) (U : SS) (y5 : Int32) (y6 : Int32) (y7 : Int32) (H : HH) (I : HH) (t u cells slots : Nat) (hI : RP t S H) (hJ : RP u U I) (ht : t + (11 + 12 * n158) ≤ T) (hu : u + (10 + 47 * n158) ≤ T2) (hc : cells + (78 + 2809 * n158) ≤ 701487) (hs : slots + 6 * (78 + 2809 * n158) ≤ 6997236) (h : pL_law_270 Len xs kk158 S U y5 y6 y7 = some res), V p l e room_1 s m args below meth c9 g 9 cells slots Q A9 A9 (WO cy A S H ++ WO cy B U I) 270 [(0, .ref b), (1, .ref A.1), (2, .ref B.1), (5, .int y5), (6, .int y6), (7, .int y7)] [] := by
  intro kk158 n158 hk158 S U y5 y6 y7 H I t u cells slots hI hJ ht hu hc hs h
  unfold pL_law_270 at h
  refine v_aload_n hC dL_law_270 rfl 1 rfl rfl ?_
  refine v_aload_n hC dL_law_271 rfl 2 rfl rfl ?_
  refine v_iload hC dL_law_272 5 rfl rfl ?_
  refine v_bipush hC (v := (nI 7)) dL_law_274 (by decide) rfl ?_
  refine v_idiv hC dL_law_276 (by decide) rfl ?_
  obtain ⟨v1, hv1, h⟩ := bind_g h
  refine l_callF hC hX (n := 3) (As := [.ref A.1, .ref B.1, .int (y7 / (nI 7))]) (st := []) (fun w => w) (fun sz => mL_scene l hX.1 g cy tt sa sz A B (y7 / (nI 7)) hI hJ (by omega) (by omega) hv1) (WR.full rfl) (fun w9 h9 => WR.full (WP2_fst h9)) gM_scene rfl rfl rfl (by decide +kernel) ⟨Nat.le_of_ble_eq_true rfl, Nat.le_of_ble_eq_true rfl⟩ rfl (Nat.le_of_ble_eq_true rfl) rfl ⟨by show _ + 31 ≤ 701487; omega, by show _ + 186 ≤ 6997236; omega⟩ dL_law_277 rfl (fun w9 h9 => ?_)
  obtain ⟨H2, I3, hI4, hJ5, rfl⟩ := h9
  refine v_eqw (ws' := WO cy A v1.2.1 H2 ++ WO cy B v1.2.2 I3) rfl ?_
  refine v_if_eq hC (tgt := 307) dL_law_280 (by decide) rfl (fun c => ?_) (fun c => ?_)
  · have h := ite_t c h
    exact v_sub [0, 1, 2, 3, 4] (lv' := [(0, .ref b), (1, .ref A.1), (2, .ref B.1), (5, .int y5), (6, .int y6)]) rfl (bL_law_307 hC hX hX9 hbl hbA kE hT9 hU9 h1 _ n158 hk158 _ _ _ _ _ _ _ _ _ _ hI4 hJ5 (by omega) (by omega) (by omega) (by omega) h)
  · have h := ite_f c h
    refine v_iload hC dL_law_283 4 rfl rfl ?_
    refine v_iconst hC (v := (nI 3)) dL_law_285 (by decide) rfl ?_
    refine v_irem hC dL_law_286 (by decide) rfl ?_
    refine v_if_gt hC (tgt := 303) dL_law_287 (by decide) rfl (fun c => ?_) (fun c => ?_)
    · have h := ite_t c h
      exact v_sub [0, 1, 2, 3, 4] (lv' := [(0, .ref b), (1, .ref A.1), (2, .ref B.1), (5, .int y5), (6, .int y6)]) rfl (bL_law_303 hC hX hX9 hbl hbA kE hT9 hU9 h1 _ n158 hk158 _ _ _ _ _ _ _ _ _ _ hI4 hJ5 (by omega) (by omega) (by omega) (by omega) h)
    · have h := ite_f c h
      refine v_aload_n hC dL_law_290 rfl 1 rfl rfl ?_
      refine v_aload_n hC dL_law_291 rfl 2 rfl rfl ?_
      refine v_iload hC dL_law_292 5 rfl rfl ?_
      refine v_bipush hC (v := (nI 11)) dL_law_294 (by decide) rfl ?_
      refine v_idiv hC dL_law_296 (by decide) rfl ?_
      obtain ⟨v6, hv6, h⟩ := bind_g h
      refine l_callF hC hX (n := 3) (As := [.ref A.1, .ref B.1, .int (y7 / (nI 11))]) (st := []) (fun w => w) (fun sz => mL_both l hX.1 g cy tt sa sz A B (y7 / (nI 11)) hI4 hJ5 (by omega) (by omega) hv6) (WR.full rfl) (fun w9 h9 => WR.full (WP2_fst h9)) gM_both rfl rfl rfl (by decide +kernel) ⟨Nat.le_of_ble_eq_true rfl, Nat.le_of_ble_eq_true rfl⟩ rfl (Nat.le_of_ble_eq_true rfl) rfl ⟨by show _ + 47 ≤ 701487; omega, by show _ + 282 ≤ 6997236; omega⟩ dL_law_297 rfl (fun w9 h9 => ?_)
      obtain ⟨H7, I8, hI9, hJ10, rfl⟩ := h9
      refine v_eqw (ws' := WO cy A v6.2.1 H7 ++ WO cy B v6.2.2 I8) rfl ?_
      refine v_if_eq hC (tgt := 307) dL_law_300 (by decide) rfl (fun c => ?_) (fun c => ?_)
      · have h := ite_t c h
        exact v_sub [0, 1, 2, 3, 4] (lv' := [(0, .ref b), (1, .ref A.1), (2, .ref B.1), (5, .int y5), (6, .int y6)]) rfl (bL_law_307 hC hX hX9 hbl hbA kE hT9 hU9 h1 _ n158 hk158 _ _ _ _ _ _ _ _ _ _ hI9 hJ10 (by omega) (by omega) (by omega) (by omega) h)
      · have h := ite_f c h
        exact v_sub [0, 1, 2, 3, 4] (lv' := [(0, .ref b), (1, .ref A.1), (2, .ref B.1), (5, .int y5), (6, .int y6)]) rfl (bL_law_303 hC hX hX9 hbl hbA kE hT9 hU9 h1 _ n158 hk158 _ _ _ _ _ _ _ _ _ _ hI9 hJ10 (by omega) (by omega) (by omega) (by omega) h)
set_option maxHeartbeats 4000000 in
set_option maxRecDepth 100000 in
theorem bL_law_316 {p : Program} {l : Launch} {e : Env} {s : State} {m : MethodId} {args : Array Value} {below : List Frame} {meth : Method} {c9 : Code} {Q : State → Prop} {g : va_G} {cy : Nat → ClassId} {tt sa : Nat → Nat} {A9 : Nat → Prop} (hC : CX p s m args meth c9 g cy 9 cL_law wsL_law RL) (hX : XL l s tt sa A9) {b Len : Nat} {xs : Nat → Int32} (hX9 : va_X b Len xs s s.heap) (hbl : b < s.heap.size) (hbA : ¬ A9 b) (kE : ∀ (ws : va_W) (lv : List (Nat × Value)) (cells slots : Nat), cells ≤ 701487 → slots ≤ 6997236 → V p l e room_1 s m args below meth c9 g 9 cells slots Q A9 A9 ws 318 lv [.int (nI 1)]) {A B : AA} {T T2 : Nat} (hT9 : T < 8000) (hU9 : T2 < 8000) {res : Int32} (h1 : res = nI 1) : ∀  (S : SS) (U : SS) (y4 : Int32) (H : HH) (I : HH) (t u cells slots : Nat) (hI : RP t S H) (hJ : RP u U I) (ht : t + 0 ≤ T) (hu : u + 0 ≤ T2) (hc : cells + 0 ≤ 701487) (hs : slots + 6 * 0 ≤ 6997236) (h : pL_law_316 Len xs  S U y4 = some res), V p l e room_1 s m args below meth c9 g 9 cells slots Q A9 A9 (WO cy A S H ++ WO cy B U I) 316 [(4, .int y4)] [] := by
  intro  S U y4 H I t u cells slots hI hJ ht hu hc hs h
  unfold pL_law_316 at h
  refine v_iload hC dL_law_316 0 rfl rfl ?_
  exact v_eqs (st' := [.int (nI 1)]) (by rw [Option.some.inj h, h1]) (kE _ _ _ _ (by omega) (by omega))
set_option maxHeartbeats 4000000 in
set_option maxRecDepth 100000 in
theorem bL_law_158 {p : Program} {l : Launch} {e : Env} {s : State} {m : MethodId} {args : Array Value} {below : List Frame} {meth : Method} {c9 : Code} {Q : State → Prop} {g : va_G} {cy : Nat → ClassId} {tt sa : Nat → Nat} {A9 : Nat → Prop} (hC : CX p s m args meth c9 g cy 9 cL_law wsL_law RL) (hX : XL l s tt sa A9) {b Len : Nat} {xs : Nat → Int32} (hX9 : va_X b Len xs s s.heap) (hbl : b < s.heap.size) (hbA : ¬ A9 b) (kE : ∀ (ws : va_W) (lv : List (Nat × Value)) (cells slots : Nat), cells ≤ 701487 → slots ≤ 6997236 → V p l e room_1 s m args below meth c9 g 9 cells slots Q A9 A9 ws 318 lv [.int (nI 1)]) {A B : AA} {T T2 : Nat} (hT9 : T < 8000) (hU9 : T2 < 8000) {res : Int32} (h1 : res = nI 1) : ∀  (k : Nat) (S : SS) (U : SS) (y4 : Int32) (y5 : Int32) (y6 : Int32) (H : HH) (I : HH) (t u cells slots : Nat) (hI : RP t S H) (hJ : RP u U I) (ht : t + (0 + 12 * k) ≤ T) (hu : u + (0 + 47 * k) ≤ T2) (hc : cells + (0 + 2809 * k) ≤ 701487) (hs : slots + 6 * (0 + 2809 * k) ≤ 6997236) (h : pL_law_158 Len xs  k S U y4 y5 y6 = some res), V p l e room_1 s m args below meth c9 g 9 cells slots Q A9 A9 (WO cy A S H ++ WO cy B U I) 158 [(0, .ref b), (1, .ref A.1), (2, .ref B.1), (4, .int y4), (5, .int y5), (6, .int y6)] [] := by
  intro  k
  induction k with
  | zero =>
    intro S U y4 y5 y6 H I t u cells slots hI hJ ht hu hc hs h
    have h : (none : Option _) = some res := h
    cases h
  | succ k ih =>
    intro S U y4 y5 y6 H I t u cells slots hI hJ ht hu hc hs h
    rw [pL_law_158_s] at h
    refine v_iload hC dL_law_158 5 rfl rfl ?_
    refine v_iload hC dL_law_160 4 rfl rfl ?_
    refine v_icmp_ge hC (tgt := 316) dL_law_162 (by decide) rfl (fun c => ?_) (fun c => ?_)
    · have h := ite_t c h
      exact v_sub [3] (lv' := [(4, .int y4)]) rfl (bL_law_316 hC hX hX9 hbl hbA kE hT9 hU9 h1  _ _ _ _ _ _ _ _ _ hI hJ (by omega) (by omega) (by omega) (by omega) h)
    · have h := ite_f c h
      refine v_iload hC dL_law_165 3 rfl rfl ?_
      refine v_if_eq hC (tgt := 316) dL_law_167 (by decide) rfl (fun c => ?_) (fun c => ?_)
      · have h := ite_t c h
        exact v_sub [3] (lv' := [(4, .int y4)]) rfl (bL_law_316 hC hX hX9 hbl hbA kE hT9 hU9 h1  _ _ _ _ _ _ _ _ _ hI hJ (by omega) (by omega) (by omega) (by omega) h)
      · have h := ite_f c h
        refine v_aload_n hC dL_law_170 rfl 0 rfl rfl ?_
        refine v_iconst hC (v := (nI 2)) dL_law_171 (by decide) rfl ?_
        refine v_iload hC dL_law_172 5 rfl rfl ?_
        refine v_iadd hC dL_law_174 rfl ?_
        obtain ⟨v1, hv1, h⟩ := bind_g h
        refine l_callB hC hX9 hbl hbA (n := 2) (As := [.ref b, .int ((nI 2) + y6)]) (st := []) (mL_cell l g cy b Len xs ((nI 2) + y6) hv1) gM_cell rfl rfl rfl (by decide +kernel) ⟨Nat.le_of_ble_eq_true rfl, Nat.le_of_ble_eq_true rfl⟩ rfl (Nat.le_of_ble_eq_true rfl) rfl ⟨by show _ + 0 ≤ 701487; omega, by show _ + 0 ≤ 6997236; omega⟩ dL_law_175 rfl ?_
        refine v_istore hC dL_law_178 (by decide) [(7, .int v1), (0, .ref b), (1, .ref A.1), (2, .ref B.1), (4, .int y4), (5, .int y5), (6, .int y6)] rfl rfl ?_
        refine v_aload_n hC dL_law_180 rfl 2 rfl rfl ?_
        refine v_iload hC dL_law_181 0 rfl rfl ?_
        obtain ⟨v2, hv2, h⟩ := bind_g h
        refine l_callF hC hX (n := 2) (As := [.ref A.1, .int v1]) (st := []) (fun w => w ++ WO cy B U I) (fun sz => mL_act l hX.1 g cy tt sa sz A v1 hI (by omega) hv2) (WR.appL (WR.full rfl)) (fun w9 h9 => WR.appL (WR.full (WP_fst h9))) gM_act rfl rfl rfl (by decide +kernel) ⟨Nat.le_of_ble_eq_true rfl, Nat.le_of_ble_eq_true rfl⟩ rfl (Nat.le_of_ble_eq_true rfl) rfl ⟨by show _ + 6 ≤ 701487; omega, by show _ + 36 ≤ 6997236; omega⟩ dL_law_183 rfl (fun w9 h9 => ?_)
        obtain ⟨H3, hI4, rfl⟩ := h9
        refine v_eqw (ws' := WO cy A v2.2 H3 ++ WO cy B U I) rfl ?_
        refine v_istore hC dL_law_186 (by decide) [(8, .int v2.1), (7, .int v1), (0, .ref b), (1, .ref A.1), (2, .ref B.1), (4, .int y4), (5, .int y5), (6, .int y6)] rfl rfl ?_
        refine v_aload_n hC dL_law_188 rfl 4 rfl rfl ?_
        refine v_iload hC dL_law_189 1 rfl rfl ?_
        refine v_ldc hC (v := (nI 100000)) dL_law_191 kW_185 rfl ?_
        refine v_irem hC dL_law_193 (by decide) rfl ?_
        obtain ⟨v5, hv5, h⟩ := bind_g h
        refine l_callF hC hX (n := 2) (As := [.ref B.1, .int (v1 - v1 / (nI 100000) * (nI 100000))]) (st := []) (fun w => WO cy A v2.2 H3 ++ w) (fun sz => mL_refuses l hX.1 g cy tt sa sz B (v1 - v1 / (nI 100000) * (nI 100000)) hJ (by omega) hv5) (WR.appR (WR.full rfl)) (fun w9 h9 => WR.appR (WR.full (WP_fst h9))) gM_refuses rfl rfl rfl (by decide +kernel) ⟨Nat.le_of_ble_eq_true rfl, Nat.le_of_ble_eq_true rfl⟩ rfl (Nat.le_of_ble_eq_true rfl) rfl ⟨by show _ + 73 ≤ 701487; omega, by show _ + 438 ≤ 6997236; omega⟩ dL_law_194 rfl (fun w9 h9 => ?_)
        obtain ⟨H6, hI7, rfl⟩ := h9
        refine v_eqw (ws' := WO cy A v2.2 H3 ++ WO cy B U H6) rfl ?_
        refine v_if_eq hC (tgt := 307) dL_law_197 (by decide) rfl (fun c => ?_) (fun c => ?_)
        · have h := ite_t c h
          exact v_sub [2, 3, 4, 6, 7] (lv' := [(0, .ref b), (1, .ref A.1), (2, .ref B.1), (5, .int y5), (6, .int y6)]) rfl (bL_law_307 hC hX hX9 hbl hbA kE hT9 hU9 h1 _ k ih _ _ _ _ _ _ _ _ _ _ hI4 hI7 (by omega) (by omega) (by omega) (by omega) h)
        · have h := ite_f c h
          refine v_aload_n hC dL_law_200 rfl 4 rfl rfl ?_
          refine v_iload hC dL_law_201 1 rfl rfl ?_
          obtain ⟨v8, hv8, h⟩ := bind_g h
          refine l_callF hC hX (n := 2) (As := [.ref B.1, .int v1]) (st := []) (fun w => WO cy A v2.2 H3 ++ w) (fun sz => mL_act l hX.1 g cy tt sa sz B v1 hI7 (by omega) hv8) (WR.appR (WR.full rfl)) (fun w9 h9 => WR.appR (WR.full (WP_fst h9))) gM_act rfl rfl rfl (by decide +kernel) ⟨Nat.le_of_ble_eq_true rfl, Nat.le_of_ble_eq_true rfl⟩ rfl (Nat.le_of_ble_eq_true rfl) rfl ⟨by show _ + 6 ≤ 701487; omega, by show _ + 36 ≤ 6997236; omega⟩ dL_law_203 rfl (fun w9 h9 => ?_)
          obtain ⟨H9, hI10, rfl⟩ := h9
          refine v_eqw (ws' := WO cy A v2.2 H3 ++ WO cy B v8.2 H9) rfl ?_
          refine v_iload hC dL_law_206 0 rfl rfl ?_
          refine v_icmp_ne hC (tgt := 307) dL_law_208 (by decide) rfl (fun c => ?_) (fun c => ?_)
          · have h := ite_f c h
            exact v_sub [2, 3, 4, 6, 7] (lv' := [(0, .ref b), (1, .ref A.1), (2, .ref B.1), (5, .int y5), (6, .int y6)]) rfl (bL_law_307 hC hX hX9 hbl hbA kE hT9 hU9 h1 _ k ih _ _ _ _ _ _ _ _ _ _ hI4 hI10 (by omega) (by omega) (by omega) (by omega) h)
          · have h := ite_t c h
            refine v_aload_n hC dL_law_211 rfl 4 rfl rfl ?_
            refine v_iload hC dL_law_212 1 rfl rfl ?_
            refine v_sipush hC (v := (nI 1000)) dL_law_214 (by decide) rfl ?_
            refine v_irem hC dL_law_217 (by decide) rfl ?_
            obtain ⟨v11, hv11, h⟩ := bind_g h
            refine l_callF hC hX (n := 2) (As := [.ref B.1, .int (v1 - v1 / (nI 1000) * (nI 1000))]) (st := []) (fun w => WO cy A v2.2 H3 ++ w) (fun sz => mL_refuses l hX.1 g cy tt sa sz B (v1 - v1 / (nI 1000) * (nI 1000)) hI10 (by omega) hv11) (WR.appR (WR.full rfl)) (fun w9 h9 => WR.appR (WR.full (WP_fst h9))) gM_refuses rfl rfl rfl (by decide +kernel) ⟨Nat.le_of_ble_eq_true rfl, Nat.le_of_ble_eq_true rfl⟩ rfl (Nat.le_of_ble_eq_true rfl) rfl ⟨by show _ + 73 ≤ 701487; omega, by show _ + 438 ≤ 6997236; omega⟩ dL_law_218 rfl (fun w9 h9 => ?_)
            obtain ⟨H12, hI13, rfl⟩ := h9
            refine v_eqw (ws' := WO cy A v2.2 H3 ++ WO cy B v8.2 H12) rfl ?_
            refine v_if_eq hC (tgt := 307) dL_law_221 (by decide) rfl (fun c => ?_) (fun c => ?_)
            · have h := ite_t c h
              exact v_sub [2, 3, 4, 6, 7] (lv' := [(0, .ref b), (1, .ref A.1), (2, .ref B.1), (5, .int y5), (6, .int y6)]) rfl (bL_law_307 hC hX hX9 hbl hbA kE hT9 hU9 h1 _ k ih _ _ _ _ _ _ _ _ _ _ hI4 hI13 (by omega) (by omega) (by omega) (by omega) h)
            · have h := ite_f c h
              refine v_aload_n hC dL_law_224 rfl 3 rfl rfl ?_
              refine v_aload_n hC dL_law_225 rfl 4 rfl rfl ?_
              refine v_iload hC dL_law_226 1 rfl rfl ?_
              refine v_sipush hC (v := (nI 5000)) dL_law_228 (by decide) rfl ?_
              refine v_irem hC dL_law_231 (by decide) rfl ?_
              obtain ⟨v14, hv14, h⟩ := bind_g h
              refine l_callF hC hX (n := 3) (As := [.ref A.1, .ref B.1, .int (v1 - v1 / (nI 5000) * (nI 5000))]) (st := []) (fun w => w) (fun sz => mL_alike l hX.1 g cy tt sa sz A B (v1 - v1 / (nI 5000) * (nI 5000)) hI4 hI13 (by omega) (by omega) hv14) (WR.full rfl) (fun w9 h9 => WR.full (WP2_fst h9)) gM_alike rfl rfl rfl (by decide +kernel) ⟨Nat.le_of_ble_eq_true rfl, Nat.le_of_ble_eq_true rfl⟩ rfl (Nat.le_of_ble_eq_true rfl) rfl ⟨by show _ + 322 ≤ 701487; omega, by show _ + 1932 ≤ 6997236; omega⟩ dL_law_232 rfl (fun w9 h9 => ?_)
              obtain ⟨H15, I16, hI17, hJ18, rfl⟩ := h9
              refine v_eqw (ws' := WO cy A v2.2 H15 ++ WO cy B v8.2 I16) rfl ?_
              refine v_if_eq hC (tgt := 307) dL_law_235 (by decide) rfl (fun c => ?_) (fun c => ?_)
              · have h := ite_t c h
                exact v_sub [2, 3, 4, 6, 7] (lv' := [(0, .ref b), (1, .ref A.1), (2, .ref B.1), (5, .int y5), (6, .int y6)]) rfl (bL_law_307 hC hX hX9 hbl hbA kE hT9 hU9 h1 _ k ih _ _ _ _ _ _ _ _ _ _ hI17 hJ18 (by omega) (by omega) (by omega) (by omega) h)
              · have h := ite_f c h
                refine v_iload hC dL_law_238 7 rfl rfl ?_
                refine v_iconst hC (v := (nI 2)) dL_law_240 (by decide) rfl ?_
                refine v_irem hC dL_law_241 (by decide) rfl ?_
                refine v_if_ne hC (tgt := 259) dL_law_242 (by decide) rfl (fun c => ?_) (fun c => ?_)
                · have h := ite_f c h
                  refine v_aload_n hC dL_law_259 rfl 4 rfl rfl ?_
                  refine v_iload hC dL_law_260 1 rfl rfl ?_
                  refine v_iconst hC (v := (nI 5)) dL_law_262 (by decide) rfl ?_
                  refine v_idiv hC dL_law_263 (by decide) rfl ?_
                  obtain ⟨v19, hv19, h⟩ := bind_g h
                  refine l_callF hC hX (n := 2) (As := [.ref B.1, .int (v1 / (nI 5))]) (st := []) (fun w => WO cy A v2.2 H15 ++ w) (fun sz => mL_holds l hX.1 g cy tt sa sz B (v1 / (nI 5)) hJ18 (by omega) hv19) (WR.appR (WR.full rfl)) (fun w9 h9 => WR.appR (WR.full (WP_fst h9))) gM_holds rfl rfl rfl (by decide +kernel) ⟨Nat.le_of_ble_eq_true rfl, Nat.le_of_ble_eq_true rfl⟩ rfl (Nat.le_of_ble_eq_true rfl) rfl ⟨by show _ + 2251 ≤ 701487; omega, by show _ + 13506 ≤ 6997236; omega⟩ dL_law_264 rfl (fun w9 h9 => ?_)
                  obtain ⟨H20, hI21, rfl⟩ := h9
                  refine v_eqw (ws' := WO cy A v2.2 H15 ++ WO cy B v8.2 H20) rfl ?_
                  refine v_if_eq hC (tgt := 307) dL_law_267 (by decide) rfl (fun c => ?_) (fun c => ?_)
                  · have h := ite_t c h
                    exact v_sub [2, 3, 4, 6, 7] (lv' := [(0, .ref b), (1, .ref A.1), (2, .ref B.1), (5, .int y5), (6, .int y6)]) rfl (bL_law_307 hC hX hX9 hbl hbA kE hT9 hU9 h1 _ k ih _ _ _ _ _ _ _ _ _ _ hI17 hI21 (by omega) (by omega) (by omega) (by omega) h)
                  · have h := ite_f c h
                    exact v_sub [2, 3, 4, 6, 7, 1] (lv' := [(0, .ref b), (1, .ref A.1), (2, .ref B.1), (5, .int y5), (6, .int y6), (7, .int v1)]) rfl (bL_law_270 hC hX hX9 hbl hbA kE hT9 hU9 h1 _ k ih _ _ _ _ _ _ _ _ _ _ _ hI17 hI21 (by omega) (by omega) (by omega) (by omega) h)
                · have h := ite_t c h
                  refine v_aload_n hC dL_law_245 rfl 3 rfl rfl ?_
                  refine v_iload hC dL_law_246 1 rfl rfl ?_
                  refine v_iconst hC (v := (nI 3)) dL_law_248 (by decide) rfl ?_
                  refine v_idiv hC dL_law_249 (by decide) rfl ?_
                  obtain ⟨v22, hv22, h⟩ := bind_g h
                  refine l_callF hC hX (n := 2) (As := [.ref A.1, .int (v1 / (nI 3))]) (st := []) (fun w => w ++ WO cy B v8.2 I16) (fun sz => mL_holds l hX.1 g cy tt sa sz A (v1 / (nI 3)) hI17 (by omega) hv22) (WR.appL (WR.full rfl)) (fun w9 h9 => WR.appL (WR.full (WP_fst h9))) gM_holds rfl rfl rfl (by decide +kernel) ⟨Nat.le_of_ble_eq_true rfl, Nat.le_of_ble_eq_true rfl⟩ rfl (Nat.le_of_ble_eq_true rfl) rfl ⟨by show _ + 2251 ≤ 701487; omega, by show _ + 13506 ≤ 6997236; omega⟩ dL_law_250 rfl (fun w9 h9 => ?_)
                  obtain ⟨H23, hI24, rfl⟩ := h9
                  refine v_eqw (ws' := WO cy A v2.2 H23 ++ WO cy B v8.2 I16) rfl ?_
                  refine v_if_eq hC (tgt := 307) dL_law_253 (by decide) rfl (fun c => ?_) (fun c => ?_)
                  · have h := ite_t c h
                    exact v_sub [2, 3, 4, 6, 7] (lv' := [(0, .ref b), (1, .ref A.1), (2, .ref B.1), (5, .int y5), (6, .int y6)]) rfl (bL_law_307 hC hX hX9 hbl hbA kE hT9 hU9 h1 _ k ih _ _ _ _ _ _ _ _ _ _ hI24 hJ18 (by omega) (by omega) (by omega) (by omega) h)
                  · have h := ite_f c h
                    refine v_goto hC (tgt := 270) dL_law_256 (by decide) ?_
                    exact v_sub [2, 3, 4, 6, 7, 1] (lv' := [(0, .ref b), (1, .ref A.1), (2, .ref B.1), (5, .int y5), (6, .int y6), (7, .int v1)]) rfl (bL_law_270 hC hX hX9 hbl hbA kE hT9 hU9 h1 _ k ih _ _ _ _ _ _ _ _ _ _ _ hI24 hJ18 (by omega) (by omega) (by omega) (by omega) h)
set_option maxHeartbeats 4000000 in
set_option maxRecDepth 100000 in
theorem bL_law_142 {p : Program} {l : Launch} {e : Env} {s : State} {m : MethodId} {args : Array Value} {below : List Frame} {meth : Method} {c9 : Code} {Q : State → Prop} {g : va_G} {cy : Nat → ClassId} {tt sa : Nat → Nat} {A9 : Nat → Prop} (hC : CX p s m args meth c9 g cy 9 cL_law wsL_law RL) (hX : XL l s tt sa A9) {b Len : Nat} {xs : Nat → Int32} (hX9 : va_X b Len xs s s.heap) (hbl : b < s.heap.size) (hbA : ¬ A9 b) (kE : ∀ (ws : va_W) (lv : List (Nat × Value)) (cells slots : Nat), cells ≤ 701487 → slots ≤ 6997236 → V p l e room_1 s m args below meth c9 g 9 cells slots Q A9 A9 ws 318 lv [.int (nI 1)]) {A B : AA} {T T2 : Nat} (hT9 : T < 8000) (hU9 : T2 < 8000) {res : Int32} (h1 : res = nI 1) : ∀  (S : SS) (U : SS) (y4 : Int32) (H : HH) (I : HH) (t u cells slots : Nat) (hI : RP t S H) (hJ : RP u U I) (ht : t + 360 ≤ T) (hu : u + 1410 ≤ T2) (hc : cells + 84270 ≤ 701487) (hs : slots + 6 * 84270 ≤ 6997236) (h : pL_law_142 Len xs  S U y4 = some res), V p l e room_1 s m args below meth c9 g 9 cells slots Q A9 A9 (WO cy A S H ++ WO cy B U I) 142 [(0, .ref b), (1, .ref A.1), (2, .ref B.1), (4, .int y4)] [] := by
  intro  S U y4 H I t u cells slots hI hJ ht hu hc hs h
  unfold pL_law_142 at h
  refine v_bipush hC (v := (nI 8)) dL_law_142 (by decide) rfl ?_
  refine v_aload_n hC dL_law_144 rfl 0 rfl rfl ?_
  refine v_iconst hC (v := (nI 1)) dL_law_145 (by decide) rfl ?_
  obtain ⟨v1, hv1, h⟩ := bind_g h
  refine l_callB hC hX9 hbl hbA (n := 2) (As := [.ref b, .int (nI 1)]) (st := [.int (nI 8)]) (mL_cell l g cy b Len xs (nI 1) hv1) gM_cell rfl rfl rfl (by decide +kernel) ⟨Nat.le_of_ble_eq_true rfl, Nat.le_of_ble_eq_true rfl⟩ rfl (Nat.le_of_ble_eq_true rfl) rfl ⟨by show _ + 0 ≤ 701487; omega, by show _ + 0 ≤ 6997236; omega⟩ dL_law_146 rfl ?_
  refine v_bipush hC (v := (nI 21)) dL_law_149 (by decide) rfl ?_
  refine v_irem hC dL_law_151 (by decide) rfl ?_
  refine v_iadd hC dL_law_152 rfl ?_
  refine v_istore hC dL_law_153 (by decide) [(5, .int ((nI 8) + (v1 - v1 / (nI 21) * (nI 21)))), (0, .ref b), (1, .ref A.1), (2, .ref B.1), (4, .int y4)] rfl rfl ?_
  refine v_iconst hC (v := (nI 0)) dL_law_155 (by decide) rfl ?_
  refine v_istore hC dL_law_156 (by decide) [(6, .int (nI 0)), (5, .int ((nI 8) + (v1 - v1 / (nI 21) * (nI 21)))), (0, .ref b), (1, .ref A.1), (2, .ref B.1), (4, .int y4)] rfl rfl ?_
  exact v_sub [2, 3, 4, 5, 1, 0] (lv' := [(0, .ref b), (1, .ref A.1), (2, .ref B.1), (4, .int y4), (5, .int ((nI 8) + (v1 - v1 / (nI 21) * (nI 21)))), (6, .int (nI 0))]) rfl (bL_law_158 hC hX hX9 hbl hbA kE hT9 hU9 h1  30 _ _ _ _ _ _ _ _ _ _ _ hI hJ (by omega) (by omega) (by omega) (by omega) h)
set_option maxHeartbeats 4000000 in
set_option maxRecDepth 100000 in
theorem bL_law_28 {p : Program} {l : Launch} {e : Env} {s : State} {m : MethodId} {args : Array Value} {below : List Frame} {meth : Method} {c9 : Code} {Q : State → Prop} {g : va_G} {cy : Nat → ClassId} {tt sa : Nat → Nat} {A9 : Nat → Prop} (hC : CX p s m args meth c9 g cy 9 cL_law wsL_law RL) (hX : XL l s tt sa A9) {b Len : Nat} {xs : Nat → Int32} (hX9 : va_X b Len xs s s.heap) (hbl : b < s.heap.size) (hbA : ¬ A9 b) (kE : ∀ (ws : va_W) (lv : List (Nat × Value)) (cells slots : Nat), cells ≤ 701487 → slots ≤ 6997236 → V p l e room_1 s m args below meth c9 g 9 cells slots Q A9 A9 ws 318 lv [.int (nI 1)]) {A B : AA} {T T2 : Nat} (hT9 : T < 8000) (hU9 : T2 < 8000) {res : Int32} (h1 : res = nI 1) : ∀  (k : Nat) (S : SS) (U : SS) (y3 : Int32) (y4 : Int32) (y5 : Int32) (H : HH) (I : HH) (t u cells slots : Nat) (hI : RP t S H) (hJ : RP u U I) (ht : t + (360 + 2 * k) ≤ T) (hu : u + (1410 + 2 * k) ≤ T2) (hc : cells + (84270 + 8 * k) ≤ 701487) (hs : slots + 6 * (84270 + 8 * k) ≤ 6997236) (h : pL_law_28 Len xs  k S U y3 y4 y5 = some res), V p l e room_1 s m args below meth c9 g 9 cells slots Q A9 A9 (WO cy A S H ++ WO cy B U I) 28 [(0, .ref b), (1, .ref A.1), (2, .ref B.1), (3, .int y3), (4, .int y4), (5, .int y5)] [] := by
  intro  k
  induction k with
  | zero =>
    intro S U y3 y4 y5 H I t u cells slots hI hJ ht hu hc hs h
    have h : (none : Option _) = some res := h
    cases h
  | succ k ih =>
    intro S U y3 y4 y5 H I t u cells slots hI hJ ht hu hc hs h
    rw [pL_law_28_s] at h
    refine v_iload hC dL_law_28 5 rfl rfl ?_
    refine v_iconst hC (v := (nI 2)) dL_law_30 (by decide) rfl ?_
    refine v_icmp_ge hC (tgt := 142) dL_law_31 (by decide) rfl (fun c => ?_) (fun c => ?_)
    · have h := ite_t c h
      exact v_sub [0, 1, 2, 4] (lv' := [(0, .ref b), (1, .ref A.1), (2, .ref B.1), (4, .int y4)]) rfl (bL_law_142 hC hX hX9 hbl hbA kE hT9 hU9 h1  _ _ _ _ _ _ _ _ _ hI hJ (by omega) (by omega) (by omega) (by omega) h)
    · have h := ite_f c h
      refine v_iload hC dL_law_34 4 rfl rfl ?_
      refine v_if_eq hC (tgt := 142) dL_law_36 (by decide) rfl (fun c => ?_) (fun c => ?_)
      · have h := ite_t c h
        exact v_sub [0, 1, 2, 4] (lv' := [(0, .ref b), (1, .ref A.1), (2, .ref B.1), (4, .int y4)]) rfl (bL_law_142 hC hX hX9 hbl hbA kE hT9 hU9 h1  _ _ _ _ _ _ _ _ _ hI hJ (by omega) (by omega) (by omega) (by omega) h)
      · have h := ite_f c h
        refine v_aload_n hC dL_law_39 rfl 1 rfl rfl ?_
        refine v_bipush hC (v := (nI 6)) dL_law_40 (by decide) rfl ?_
        refine v_iconst hC (v := (nI 0)) dL_law_42 (by decide) rfl ?_
        refine v_iload hC dL_law_43 5 rfl rfl ?_
        refine v_iload_n hC dL_law_45 rfl 3 rfl rfl ?_
        refine v_bipush hC (v := (nI 9)) dL_law_46 (by decide) rfl ?_
        refine v_irem hC dL_law_48 (by decide) rfl ?_
        refine v_iadd hC dL_law_49 rfl ?_
        refine v_iconst hC (v := (nI 0)) dL_law_50 (by decide) rfl ?_
        refine l_callF hC hX (n := 5) (As := [.ref A.1, .int (nI 6), .int (nI 0), .int (y5 + (y3 - y3 / (nI 9) * (nI 9))), .int (nI 0)]) (st := []) (fun w => w ++ WO cy B U I) (fun sz => mC_Add l hX.1 g cy tt sa sz A (nI 0) (y5 + (y3 - y3 / (nI 9) * (nI 9))) (nI 0) hI (by omega)) (WR.appL (WR.full rfl)) (fun w9 h9 => WR.appL (WR.full (WP_fst h9))) gM_call rfl rfl rfl (by decide +kernel) ⟨Nat.le_of_ble_eq_true rfl, Nat.le_of_ble_eq_true rfl⟩ rfl (Nat.le_of_ble_eq_true rfl) rfl ⟨by show _ + 2 ≤ 701487; omega, by show _ + 12 ≤ 6997236; omega⟩ dL_law_51 rfl (fun w9 h9 => ?_)
        obtain ⟨H1, hI2, rfl⟩ := h9
        refine v_eqw (ws' := WO cy A ((fEx S (nI 0) (y5 + (y3 - y3 / (nI 9) * (nI 9)))).2) H1 ++ WO cy B U I) rfl ?_
        refine v_iload hC dL_law_54 5 rfl rfl ?_
        refine v_icmp_ne hC (tgt := 133) dL_law_56 (by decide) rfl (fun c => ?_) (fun c => ?_)
        · have h := ite_f c h
          exact v_sub [0, 1, 2, 3, 5] (lv' := [(0, .ref b), (1, .ref A.1), (2, .ref B.1), (3, .int y3), (5, .int y5)]) rfl (bL_law_133 hC hX hX9 hbl hbA kE hT9 hU9 h1 _ k ih _ _ _ _ _ _ _ _ _ _ hI2 hJ (by omega) (by omega) (by omega) (by omega) h)
        · have h := ite_t c h
          refine v_aload_n hC dL_law_59 rfl 2 rfl rfl ?_
          refine v_bipush hC (v := (nI 6)) dL_law_60 (by decide) rfl ?_
          refine v_iconst hC (v := (nI 0)) dL_law_62 (by decide) rfl ?_
          refine v_iload hC dL_law_63 5 rfl rfl ?_
          refine v_iload_n hC dL_law_65 rfl 3 rfl rfl ?_
          refine v_bipush hC (v := (nI 9)) dL_law_66 (by decide) rfl ?_
          refine v_irem hC dL_law_68 (by decide) rfl ?_
          refine v_iadd hC dL_law_69 rfl ?_
          refine v_iconst hC (v := (nI 0)) dL_law_70 (by decide) rfl ?_
          refine l_callF hC hX (n := 5) (As := [.ref B.1, .int (nI 6), .int (nI 0), .int (y5 + (y3 - y3 / (nI 9) * (nI 9))), .int (nI 0)]) (st := []) (fun w => WO cy A ((fEx S (nI 0) (y5 + (y3 - y3 / (nI 9) * (nI 9)))).2) H1 ++ w) (fun sz => mC_Add l hX.1 g cy tt sa sz B (nI 0) (y5 + (y3 - y3 / (nI 9) * (nI 9))) (nI 0) hJ (by omega)) (WR.appR (WR.full rfl)) (fun w9 h9 => WR.appR (WR.full (WP_fst h9))) gM_call rfl rfl rfl (by decide +kernel) ⟨Nat.le_of_ble_eq_true rfl, Nat.le_of_ble_eq_true rfl⟩ rfl (Nat.le_of_ble_eq_true rfl) rfl ⟨by show _ + 2 ≤ 701487; omega, by show _ + 12 ≤ 6997236; omega⟩ dL_law_71 rfl (fun w9 h9 => ?_)
          obtain ⟨H3, hI4, rfl⟩ := h9
          refine v_eqw (ws' := WO cy A ((fEx S (nI 0) (y5 + (y3 - y3 / (nI 9) * (nI 9)))).2) H1 ++ WO cy B ((fEx U (nI 0) (y5 + (y3 - y3 / (nI 9) * (nI 9)))).2) H3) rfl ?_
          refine v_iload hC dL_law_74 5 rfl rfl ?_
          refine v_icmp_ne hC (tgt := 133) dL_law_76 (by decide) rfl (fun c => ?_) (fun c => ?_)
          · have h := ite_f c h
            exact v_sub [0, 1, 2, 3, 5] (lv' := [(0, .ref b), (1, .ref A.1), (2, .ref B.1), (3, .int y3), (5, .int y5)]) rfl (bL_law_133 hC hX hX9 hbl hbA kE hT9 hU9 h1 _ k ih _ _ _ _ _ _ _ _ _ _ hI2 hI4 (by omega) (by omega) (by omega) (by omega) h)
          · have h := ite_t c h
            refine v_aload_n hC dL_law_79 rfl 1 rfl rfl ?_
            refine v_iconst hC (v := (nI 0)) dL_law_80 (by decide) rfl ?_
            refine v_iconst hC (v := (nI 1)) dL_law_81 (by decide) rfl ?_
            refine v_iload_n hC dL_law_82 rfl 3 rfl rfl ?_
            refine v_iconst hC (v := (nI 2)) dL_law_83 (by decide) rfl ?_
            refine v_irem hC dL_law_84 (by decide) rfl ?_
            refine v_iadd hC dL_law_85 rfl ?_
            refine v_iload hC dL_law_86 5 rfl rfl ?_
            refine v_iconst hC (v := (nI 0)) dL_law_88 (by decide) rfl ?_
            refine v_bipush hC (v := (nI 30)) dL_law_89 (by decide) rfl ?_
            refine v_iload_n hC dL_law_91 rfl 3 rfl rfl ?_
            refine v_bipush hC (v := (nI 99)) dL_law_92 (by decide) rfl ?_
            refine v_irem hC dL_law_94 (by decide) rfl ?_
            refine v_iadd hC dL_law_95 rfl ?_
            refine l_callE hC hX (n := 6) (As := [.ref A.1, .int (nI 0), .int ((nI 1) + (y3 - y3 / (nI 2) * (nI 2))), .int y5, .int (nI 0), .int ((nI 30) + (y3 - y3 / (nI 99) * (nI 99)))]) (st := []) (fun w => w ++ WO cy B ((fEx U (nI 0) (y5 + (y3 - y3 / (nI 9) * (nI 9)))).2) H3) (fun sz => mL_adds l hX.1 g cy tt sa sz A (nI 0) ((nI 1) + (y3 - y3 / (nI 2) * (nI 2))) y5 (nI 0) ((nI 30) + (y3 - y3 / (nI 99) * (nI 99))) hI2 (by omega)) (WR.appL (WR.full rfl)) (fun w9 h9 => WR.appL (WR.full (WP_fst h9))) gM_adds rfl rfl rfl (by decide +kernel) ⟨Nat.le_of_ble_eq_true rfl, Nat.le_of_ble_eq_true rfl⟩ rfl (Nat.le_of_ble_eq_true rfl) rfl ⟨by show _ + 2 ≤ 701487; omega, by show _ + 12 ≤ 6997236; omega⟩ dL_law_96 rfl (fun w9 h9 => ?_)
            obtain ⟨H5, hI6, rfl⟩ := h9
            refine v_eqw (ws' := WO cy A ((fSc ((fEx S (nI 0) (y5 + (y3 - y3 / (nI 9) * (nI 9)))).2) (nI 0) ((nI 1) + (y3 - y3 / (nI 2) * (nI 2))) y5 (nI 0) ((nI 30) + (y3 - y3 / (nI 99) * (nI 99)))).2) H5 ++ WO cy B ((fEx U (nI 0) (y5 + (y3 - y3 / (nI 9) * (nI 9)))).2) H3) rfl ?_
            refine v_iload hC dL_law_99 5 rfl rfl ?_
            refine v_icmp_ne hC (tgt := 133) dL_law_101 (by decide) rfl (fun c => ?_) (fun c => ?_)
            · have h := ite_f c h
              exact v_sub [0, 1, 2, 3, 5] (lv' := [(0, .ref b), (1, .ref A.1), (2, .ref B.1), (3, .int y3), (5, .int y5)]) rfl (bL_law_133 hC hX hX9 hbl hbA kE hT9 hU9 h1 _ k ih _ _ _ _ _ _ _ _ _ _ hI6 hI4 (by omega) (by omega) (by omega) (by omega) h)
            · have h := ite_t c h
              refine v_aload_n hC dL_law_104 rfl 2 rfl rfl ?_
              refine v_iconst hC (v := (nI 0)) dL_law_105 (by decide) rfl ?_
              refine v_iconst hC (v := (nI 1)) dL_law_106 (by decide) rfl ?_
              refine v_iload_n hC dL_law_107 rfl 3 rfl rfl ?_
              refine v_iconst hC (v := (nI 2)) dL_law_108 (by decide) rfl ?_
              refine v_irem hC dL_law_109 (by decide) rfl ?_
              refine v_iadd hC dL_law_110 rfl ?_
              refine v_iload hC dL_law_111 5 rfl rfl ?_
              refine v_iconst hC (v := (nI 0)) dL_law_113 (by decide) rfl ?_
              refine v_bipush hC (v := (nI 30)) dL_law_114 (by decide) rfl ?_
              refine v_iload_n hC dL_law_116 rfl 3 rfl rfl ?_
              refine v_bipush hC (v := (nI 99)) dL_law_117 (by decide) rfl ?_
              refine v_irem hC dL_law_119 (by decide) rfl ?_
              refine v_iadd hC dL_law_120 rfl ?_
              refine l_callE hC hX (n := 6) (As := [.ref B.1, .int (nI 0), .int ((nI 1) + (y3 - y3 / (nI 2) * (nI 2))), .int y5, .int (nI 0), .int ((nI 30) + (y3 - y3 / (nI 99) * (nI 99)))]) (st := []) (fun w => WO cy A ((fSc ((fEx S (nI 0) (y5 + (y3 - y3 / (nI 9) * (nI 9)))).2) (nI 0) ((nI 1) + (y3 - y3 / (nI 2) * (nI 2))) y5 (nI 0) ((nI 30) + (y3 - y3 / (nI 99) * (nI 99)))).2) H5 ++ w) (fun sz => mL_adds l hX.1 g cy tt sa sz B (nI 0) ((nI 1) + (y3 - y3 / (nI 2) * (nI 2))) y5 (nI 0) ((nI 30) + (y3 - y3 / (nI 99) * (nI 99))) hI4 (by omega)) (WR.appR (WR.full rfl)) (fun w9 h9 => WR.appR (WR.full (WP_fst h9))) gM_adds rfl rfl rfl (by decide +kernel) ⟨Nat.le_of_ble_eq_true rfl, Nat.le_of_ble_eq_true rfl⟩ rfl (Nat.le_of_ble_eq_true rfl) rfl ⟨by show _ + 2 ≤ 701487; omega, by show _ + 12 ≤ 6997236; omega⟩ dL_law_121 rfl (fun w9 h9 => ?_)
              obtain ⟨H7, hI8, rfl⟩ := h9
              refine v_eqw (ws' := WO cy A ((fSc ((fEx S (nI 0) (y5 + (y3 - y3 / (nI 9) * (nI 9)))).2) (nI 0) ((nI 1) + (y3 - y3 / (nI 2) * (nI 2))) y5 (nI 0) ((nI 30) + (y3 - y3 / (nI 99) * (nI 99)))).2) H5 ++ WO cy B ((fSc ((fEx U (nI 0) (y5 + (y3 - y3 / (nI 9) * (nI 9)))).2) (nI 0) ((nI 1) + (y3 - y3 / (nI 2) * (nI 2))) y5 (nI 0) ((nI 30) + (y3 - y3 / (nI 99) * (nI 99)))).2) H7) rfl ?_
              refine v_iload hC dL_law_124 5 rfl rfl ?_
              refine v_icmp_ne hC (tgt := 133) dL_law_126 (by decide) rfl (fun c => ?_) (fun c => ?_)
              · have h := ite_f c h
                exact v_sub [0, 1, 2, 3, 5] (lv' := [(0, .ref b), (1, .ref A.1), (2, .ref B.1), (3, .int y3), (5, .int y5)]) rfl (bL_law_133 hC hX hX9 hbl hbA kE hT9 hU9 h1 _ k ih _ _ _ _ _ _ _ _ _ _ hI6 hI8 (by omega) (by omega) (by omega) (by omega) h)
              · have h := ite_t c h
                refine v_iconst hC (v := (nI 1)) dL_law_129 (by decide) rfl ?_
                refine v_goto hC (tgt := 134) dL_law_130 (by decide) ?_
                exact v_sub [0, 1, 2, 3, 5] (lv' := [(0, .ref b), (1, .ref A.1), (2, .ref B.1), (3, .int y3), (5, .int y5)]) rfl (bL_law_134 hC hX hX9 hbl hbA kE hT9 hU9 h1 _ k ih _ _ _ _ _ _ _ _ _ _ _ hI6 hI8 (by omega) (by omega) (by omega) (by omega) h)
set_option maxHeartbeats 4000000 in
set_option maxRecDepth 100000 in
theorem law_16 {p : Program} {l : Launch} {e : Env} {s : State} {m : MethodId} {args : Array Value} {below : List Frame} {meth : Method} {c9 : Code} {Q : State → Prop} {g : va_G} {cy : Nat → ClassId} {tt sa : Nat → Nat} {A9 : Nat → Prop} (hC : CX p s m args meth c9 g cy 9 cL_law wsL_law RL) (hX : XL l s tt sa A9) {b Len : Nat} {xs : Nat → Int32} (hX9 : va_X b Len xs s s.heap) (hbl : b < s.heap.size) (hbA : ¬ A9 b) (kE : ∀ (ws : va_W) (lv : List (Nat × Value)) (cells slots : Nat), cells ≤ 701487 → slots ≤ 6997236 → V p l e room_1 s m args below meth c9 g 9 cells slots Q A9 A9 ws 318 lv [.int (nI 1)]) {A B : AA} {T T2 : Nat} (hT9 : T < 8000) (hU9 : T2 < 8000) {res : Int32} (h1 : res = nI 1) : ∀ (S : SS) (U : SS) (H : HH) (I : HH) (t u cells slots : Nat) (hI : RP t S H) (hJ : RP u U I) (ht : t + 368 ≤ T) (hu : u + 1418 ≤ T2) (hc : cells + 84302 ≤ 701487) (hs : slots + 6 * 84302 ≤ 6997236) (h : pL_law Len xs S U = some res), V p l e room_1 s m args below meth c9 g 9 cells slots Q A9 A9 (WO cy A S H ++ WO cy B U I) 16 [(0, .ref b), (1, .ref A.1), (2, .ref B.1)] [] := by
  intro S U H I t u cells slots hI hJ ht hu hc hs h
  unfold pL_law at h
  refine v_aload_n hC dL_law_16 rfl 0 rfl rfl ?_
  refine v_iconst hC (v := (nI 0)) dL_law_17 (by decide) rfl ?_
  obtain ⟨v1, hv1, h⟩ := bind_g h
  refine l_callB hC hX9 hbl hbA (n := 2) (As := [.ref b, .int (nI 0)]) (st := []) (mL_cell l g cy b Len xs (nI 0) hv1) gM_cell rfl rfl rfl (by decide +kernel) ⟨Nat.le_of_ble_eq_true rfl, Nat.le_of_ble_eq_true rfl⟩ rfl (Nat.le_of_ble_eq_true rfl) rfl ⟨by show _ + 0 ≤ 701487; omega, by show _ + 0 ≤ 6997236; omega⟩ dL_law_18 rfl ?_
  refine v_istore_n hC dL_law_21 rfl (by decide) [(3, .int v1), (0, .ref b), (1, .ref A.1), (2, .ref B.1)] rfl rfl ?_
  refine v_iconst hC (v := (nI 1)) dL_law_22 (by decide) rfl ?_
  refine v_istore hC dL_law_23 (by decide) [(4, .int (nI 1)), (3, .int v1), (0, .ref b), (1, .ref A.1), (2, .ref B.1)] rfl rfl ?_
  refine v_iconst hC (v := (nI 0)) dL_law_25 (by decide) rfl ?_
  refine v_istore hC dL_law_26 (by decide) [(5, .int (nI 0)), (4, .int (nI 1)), (3, .int v1), (0, .ref b), (1, .ref A.1), (2, .ref B.1)] rfl rfl ?_
  exact v_sub [3, 4, 5, 2, 1, 0] (lv' := [(0, .ref b), (1, .ref A.1), (2, .ref B.1), (3, .int v1), (4, .int (nI 1)), (5, .int (nI 0))]) rfl (bL_law_28 hC hX hX9 hbl hbA kE hT9 hU9 h1  4 _ _ _ _ _ _ _ _ _ _ _ hI hJ (by omega) (by omega) (by omega) (by omega) h)

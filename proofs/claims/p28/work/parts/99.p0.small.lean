/-! ===== the law: small functions; refusals; the calls that it makes itself ===== -/
def pL_bits_4 : Nat → Int32 → Int32 → Int32 → Option (Int32)
  | 0, _, _, _ => none
  | k + 1, y0, y1, y2 => if (nI 14) ≤ y2 then some y1 else pL_bits_4 k y0 (y1 + ((y0 >>> (y2 &&& 31)) &&& (nI 1))) (y2 + (nI 1))
theorem pL_bits_4_s {k : Nat} (y0 : Int32) (y1 : Int32) (y2 : Int32) : pL_bits_4 (k + 1) y0 y1 y2 = if (nI 14) ≤ y2 then some y1 else pL_bits_4 k y0 (y1 + ((y0 >>> (y2 &&& 31)) &&& (nI 1))) (y2 + (nI 1)) := rfl
def pL_bits (x0 : Int32) : Option (Int32) := pL_bits_4 FU x0 (nI 0) (nI 0)
abbrev rmL_bits : Room := { frames := 0, cells := 0, slots := 0, locals := 0 }
set_option maxHeartbeats 4000000 in
set_option maxRecDepth 100000 in
theorem bL_bits_4 {p : Program} {l : Launch} {e : Env} {s : State} {m : MethodId} {args : Array Value} {below : List Frame} {meth : Method} {c : Code} {g : va_G} {cy : Nat → ClassId} (hC : CX p s m args meth c g cy 3 cL_bits wsL_bits RL) (hr : meth.sig.returnType = (some .int)) {res : Int32} : ∀ (k : Nat)  (y0 : Int32) (y1 : Int32) (y2 : Int32) (h : pL_bits_4 k y0 y1 y2 = some res), V p l e (headSpec wsL_bits rmL_bits).room s m args below meth c g 3 0 0 (MQ below (QRi res) args s 0 0 nF) nF (fun _ => True) [] 4 [(0, .int y0), (1, .int y1), (2, .int y2)] [] := by
  intro k
  induction k with
  | zero =>
    intro  y0 y1 y2 h
    have h : (none : Option _) = some res := h
    cases h
  | succ k ih =>
    intro  y0 y1 y2 h
    rw [pL_bits_4_s] at h
    refine v_iload_n hC dL_bits_4 rfl 2 rfl rfl ?_
    refine v_bipush hC (v := (nI 14)) dL_bits_5 (by decide) rfl ?_
    refine v_icmp_ge hC (tgt := 24) dL_bits_7 (by decide) rfl (fun c => ?_) (fun c => ?_)
    · have h := ite_t c h
      refine v_iload_n hC dL_bits_24 rfl 1 rfl rfl ?_
      obtain rfl := Option.some.inj h
      exact v_irt hC hr rfl rfl dL_bits_25
    · have h := ite_f c h
      refine v_iload_n hC dL_bits_10 rfl 1 rfl rfl ?_
      refine v_iload_n hC dL_bits_11 rfl 0 rfl rfl ?_
      refine v_iload_n hC dL_bits_12 rfl 2 rfl rfl ?_
      refine v_ishr hC dL_bits_13 rfl ?_
      refine v_iconst hC (v := (nI 1)) dL_bits_14 (by decide) rfl ?_
      refine v_iand hC dL_bits_15 rfl ?_
      refine v_iadd hC dL_bits_16 rfl ?_
      refine v_istore_n hC dL_bits_17 rfl (by decide) [(1, .int (y1 + ((y0 >>> (y2 &&& 31)) &&& (nI 1)))), (0, .int y0), (2, .int y2)] rfl rfl ?_
      refine v_iinc hC dL_bits_18 2 rfl (v := (y2 + (nI 1))) rfl (by decide) [(2, .int (y2 + (nI 1))), (1, .int (y1 + ((y0 >>> (y2 &&& 31)) &&& (nI 1)))), (0, .int y0)] rfl rfl ?_
      refine v_goto hC (tgt := 4) dL_bits_21 (by decide) ?_
      exact v_sub [2, 1, 0] (lv' := [(0, .int y0), (1, .int (y1 + ((y0 >>> (y2 &&& 31)) &&& (nI 1)))), (2, .int (y2 + (nI 1)))]) rfl (ih _ _ _ h)
set_option maxHeartbeats 4000000 in
set_option maxRecDepth 100000 in
theorem mL_bits (l : Launch) (g : va_G) (cy : Nat → ClassId)  (x0 : Int32) {res : Int32} (h : pL_bits x0 = some res) : Met l yL_bits wsL_bits rmL_bits (PW [.int x0] g cy []) (QRi res) 0 0 nF := by
  refine m_ofV (cc := cL_bits) (nL := 3) (ret := (some .int)) (B := fun _ => True) RL rfl (by decide) rfl [(0, .int x0)] rfl (Nat.le_of_ble_eq_true rfl) (fun h => h) ?_
  intro p e s m args below meth c hC hr
  unfold pL_bits at h
  refine v_iconst hC (v := (nI 0)) dL_bits_0 (by decide) rfl ?_
  refine v_istore_n hC dL_bits_1 rfl (by decide) [(1, .int (nI 0)), (0, .int x0)] rfl rfl ?_
  refine v_iconst hC (v := (nI 0)) dL_bits_2 (by decide) rfl ?_
  refine v_istore_n hC dL_bits_3 rfl (by decide) [(2, .int (nI 0)), (1, .int (nI 0)), (0, .int x0)] rfl rfl ?_
  exact v_sub [2, 1, 0] (lv' := [(0, .int x0), (1, .int (nI 0)), (2, .int (nI 0))]) rfl (bL_bits_4 hC hr FU _ _ _ h)
theorem kL_thrown_15 : Cond.constant RL 15 (-9999002) ∈ wsL_thrown := by decide +kernel
theorem kL_thrown_18 : Cond.constant RL 18 (-9999003) ∈ wsL_thrown := by decide +kernel
theorem kL_thrown_44 : Cond.constant RL 44 (-9999001) ∈ wsL_thrown := by decide +kernel
def pL_thrown_23 (s0 : Int32) : Option (Int32) := bz s0
def pL_thrown_18  : Option (Int32) := pL_thrown_23 (nI 1)
def pL_thrown (x0 : Int32) : Option (Int32) := if x0 = (-9999001) then pL_thrown_18  else if x0 = (-9999002) then pL_thrown_18  else if x0 = (-9999003) then pL_thrown_18  else pL_thrown_23 (nI 0)
abbrev rmL_thrown : Room := { frames := 0, cells := 0, slots := 0, locals := 0 }
set_option maxHeartbeats 4000000 in
set_option maxRecDepth 100000 in
theorem bL_thrown_23 {p : Program} {l : Launch} {e : Env} {s : State} {m : MethodId} {args : Array Value} {below : List Frame} {meth : Method} {c : Code} {g : va_G} {cy : Nat → ClassId} (hC : CX p s m args meth c g cy 1 cL_thrown wsL_thrown RL) (hr : meth.sig.returnType = (some .boolean)) {res : Int32} : ∀  (s0 : Int32)(h : pL_thrown_23 s0 = some res), V p l e (headSpec wsL_thrown rmL_thrown).room s m args below meth c g 1 0 0 (MQ below (QRi res) args s 0 0 nF) nF (fun _ => True) [] 23 [] [.int s0] := by
  intro  s0 h
  unfold pL_thrown_23 at h
  obtain ⟨e9, hn⟩ := bz_g h
  exact v_irt hC hr hn e9 dL_thrown_23
set_option maxHeartbeats 4000000 in
set_option maxRecDepth 100000 in
theorem bL_thrown_18 {p : Program} {l : Launch} {e : Env} {s : State} {m : MethodId} {args : Array Value} {below : List Frame} {meth : Method} {c : Code} {g : va_G} {cy : Nat → ClassId} (hC : CX p s m args meth c g cy 1 cL_thrown wsL_thrown RL) (hr : meth.sig.returnType = (some .boolean)) {res : Int32} : ∀ (h : pL_thrown_18  = some res), V p l e (headSpec wsL_thrown rmL_thrown).room s m args below meth c g 1 0 0 (MQ below (QRi res) args s 0 0 nF) nF (fun _ => True) [] 18 [] [] := by
  intro   h
  unfold pL_thrown_18 at h
  refine v_iconst hC (v := (nI 1)) dL_thrown_18 (by decide) rfl ?_
  refine v_goto hC (tgt := 23) dL_thrown_19 (by decide) ?_
  exact bL_thrown_23 hC hr _ h
set_option maxHeartbeats 4000000 in
set_option maxRecDepth 100000 in
theorem mL_thrown (l : Launch) (g : va_G) (cy : Nat → ClassId)  (x0 : Int32) {res : Int32} (h : pL_thrown x0 = some res) : Met l yL_thrown wsL_thrown rmL_thrown (PW [.int x0] g cy []) (QRi res) 0 0 nF := by
  refine m_ofV (cc := cL_thrown) (nL := 1) (ret := (some .boolean)) (B := fun _ => True) RL rfl (by decide) rfl [(0, .int x0)] rfl (Nat.le_of_ble_eq_true rfl) (fun h => h) ?_
  intro p e s m args below meth c hC hr
  unfold pL_thrown at h
  refine v_iload_n hC dL_thrown_0 rfl 0 rfl rfl ?_
  refine v_ldc hC (v := (-9999001)) dL_thrown_1 kL_thrown_44 rfl ?_
  refine v_icmp_eq hC (tgt := 18) dL_thrown_3 (by decide) rfl (fun c => ?_) (fun c => ?_)
  · have h := ite_t c h
    exact v_sub [] (lv' := []) rfl (bL_thrown_18 hC hr  h)
  · have h := ite_f c h
    refine v_iload_n hC dL_thrown_6 rfl 0 rfl rfl ?_
    refine v_ldc hC (v := (-9999002)) dL_thrown_7 kL_thrown_15 rfl ?_
    refine v_icmp_eq hC (tgt := 18) dL_thrown_9 (by decide) rfl (fun c => ?_) (fun c => ?_)
    · have h := ite_t c h
      exact v_sub [] (lv' := []) rfl (bL_thrown_18 hC hr  h)
    · have h := ite_f c h
      refine v_iload_n hC dL_thrown_12 rfl 0 rfl rfl ?_
      refine v_ldc hC (v := (-9999003)) dL_thrown_13 kL_thrown_18 rfl ?_
      refine v_icmp_ne hC (tgt := 22) dL_thrown_15 (by decide) rfl (fun c => ?_) (fun c => ?_)
      · have h := ite_f c h
        refine v_iconst hC (v := (nI 0)) dL_thrown_22 (by decide) rfl ?_
        exact v_sub [] (lv' := []) rfl (bL_thrown_23 hC hr _ h)
      · have h := ite_t c h
        exact v_sub [] (lv' := []) rfl (bL_thrown_18 hC hr  h)
def gEx (x y : Int32) : Option Int32 := if nb x 5 = true ∧ nb y 14 = true then none else some (-9999002)
theorem gEx_ok {S : SS} {x y v : Int32} (h : gEx x y = some v) : fEx S x y = (v, S) := by
  unfold gEx at h
  unfold fEx
  by_cases c : nb x 5 = true ∧ nb y 14 = true
  · rw [if_pos c] at h
    cases h
  · rw [if_neg c] at h ⊢
    cases h
    rfl
def gSc (x1 x2 x3 x4 x5 : Int32) : Option Int32 := if nsB x1 x2 x3 x4 x5 = true then none else some (-9999002)
theorem gSc_ok {S : SS} {x1 x2 x3 x4 x5 v : Int32} (h : gSc x1 x2 x3 x4 x5 = some v) : fSc S x1 x2 x3 x4 x5 = (v, S) := by
  unfold gSc at h
  unfold fSc
  by_cases c : nsB x1 x2 x3 x4 x5 = true
  · rw [if_pos c] at h
    cases h
  · rw [if_neg c] at h ⊢
    cases h
    rfl
def gSh (N : Nat → Nat) (x : Int32) : Option Int32 := if nb x (N 1) = true then none else some (-9999001)
theorem gSh_ok {S : SS} {x v : Int32} (h : gSh S.1 x = some v) : fSh S x = (v, S) := by
  unfold gSh at h
  unfold fSh
  by_cases c : nb x (S.1 1) = true
  · rw [if_pos c] at h
    cases h
  · rw [if_neg c] at h ⊢
    cases h
    rfl
def gRe (N : Nat → Nat) (x a b : Int32) : Option Int32 := if nb x (N 1) = true ∧ nb a (N 0) = true ∧ nb b (N 0) = true then if crB N x.toInt.toNat a.toInt.toNat b.toInt.toNat = true then none else some (-9999003) else some (-9999001)
theorem gRe_ok {S : SS} {x a b v : Int32} (h : gRe S.1 x a b = some v) : fRe S x a b = (v, S) := by
  unfold gRe at h
  unfold fRe
  by_cases c : nb x (S.1 1) = true ∧ nb a (S.1 0) = true ∧ nb b (S.1 0) = true
  · rw [if_pos c] at h ⊢
    by_cases d : crB S.1 x.toInt.toNat a.toInt.toNat b.toInt.toNat = true
    · rw [if_pos d] at h
      cases h
    · rw [if_neg d] at h ⊢
      cases h
      rfl
  · rw [if_neg c] at h ⊢
    cases h
    rfl
def gSe (x y : Int32) : Option Int32 := if stB x y = true then none else some (-9999002)
theorem gSe_ok {S : SS} {x y v : Int32} (h : gSe x y = some v) : fSe S x y = (v, S) := by
  unfold gSe at h
  unfold fSe
  by_cases c : stB x y = true
  · rw [if_pos c] at h
    cases h
  · rw [if_neg c] at h ⊢
    cases h
    rfl
def gSl (x : Int32) : Option Int32 := if nb x 2 = true then none else some (-9999001)
theorem gSl_ok {S : SS} {x v : Int32} (h : gSl x = some v) : fSa S x = (v, S) ∧ fBa S x = (v, S) := by
  unfold gSl at h
  unfold fSa fBa
  by_cases c : nb x 2 = true
  · rw [if_pos c] at h
    cases h
  · rw [if_neg c] at h
    cases h
    exact ⟨if_neg c, if_neg c⟩
theorem mR_Add (l : Launch) (hlst : l.stackTraces = false) (g : va_G) (cy : Nat → ClassId) (tt sa : Nat → Nat) (sz : Nat) (A : AA) {t : Nat} {S : SS} {H : HH} (x1 x2 x3 : Int32) (hI : RP t S H) (ht : t < 9000) {v : Int32} (hv : gEx x1 x2 = some v) : Met l yL_call wsL_call rmC_Add (PN [.ref A.1, .int (nI 6), .int x1, .int x2, .int x3] g cy tt sa sz (WO cy A S H)) (QE g (va_A (WO cy A S H) sz) v (WP cy A (t + 1) S)) 2 12 (va_A (WO cy A S H) sz) := by
  have hM := mC_Add l hlst g cy tt sa sz A x1 x2 x3 hI ht
  rw [gEx_ok hv] at hM
  exact hM
theorem mR_Shoot (l : Launch) (hlst : l.stackTraces = false) (g : va_G) (cy : Nat → ClassId) (tt sa : Nat → Nat) (sz : Nat) (A : AA) {t : Nat} {S : SS} {H : HH} (x1 x2 x3 : Int32) (hI : RP t S H) (ht : t < 9000) {v : Int32} (hv : gSh S.1 x1 = some v) : Met l yL_call wsL_call rmC_Shoot (PN [.ref A.1, .int (nI 7), .int x1, .int x2, .int x3] g cy tt sa sz (WO cy A S H)) (QE g (va_A (WO cy A S H) sz) v (WP cy A (t + 1) S)) 2 12 (va_A (WO cy A S H) sz) := by
  have hM := mC_Shoot l hlst g cy tt sa sz A x1 x2 x3 hI ht
  rw [gSh_ok hv] at hM
  exact hM
theorem mR_Replace (l : Launch) (hlst : l.stackTraces = false) (g : va_G) (cy : Nat → ClassId) (tt sa : Nat → Nat) (sz : Nat) (A : AA) {t : Nat} {S : SS} {H : HH} (x1 x2 x3 : Int32) (hI : RP t S H) (ht : t < 9000) {v : Int32} (hv : gRe S.1 x1 x2 x3 = some v) : Met l yL_call wsL_call rmC_Replace (PN [.ref A.1, .int (nI 8), .int x1, .int x2, .int x3] g cy tt sa sz (WO cy A S H)) (QE g (va_A (WO cy A S H) sz) v (WP cy A (t + 1) S)) 4 24 (va_A (WO cy A S H) sz) := by
  have hM := mC_Replace l hlst g cy tt sa sz A x1 x2 x3 hI ht
  rw [gRe_ok hv] at hM
  exact hM
theorem mR_Lay (l : Launch) (hlst : l.stackTraces = false) (g : va_G) (cy : Nat → ClassId) (tt sa : Nat → Nat) (sz : Nat) (A : AA) {t : Nat} {S : SS} {H : HH} (x1 x2 x3 : Int32) (hI : RP t S H) (ht : t < 9000) {v : Int32} (hv : gSe x1 x2 = some v) : Met l yL_call wsL_call rmC_Lay (PN [.ref A.1, .int (nI 9), .int x1, .int x2, .int x3] g cy tt sa sz (WO cy A S H)) (QE g (va_A (WO cy A S H) sz) v (WP cy A (t + 1) S)) 1 6 (va_A (WO cy A S H) sz) := by
  have hM := mC_Lay l hlst g cy tt sa sz A x1 x2 x3 hI ht
  rw [gSe_ok hv] at hM
  exact hM
theorem mR_Keep (l : Launch) (hlst : l.stackTraces = false) (g : va_G) (cy : Nat → ClassId) (tt sa : Nat → Nat) (sz : Nat) (A : AA) {t : Nat} {S : SS} {H : HH} (x1 x2 x3 : Int32) (hI : RP t S H) (ht : t < 9000) {v : Int32} (hv : gSl x1 = some v) : Met l yL_call wsL_call rmC_Keep (PN [.ref A.1, .int (nI 15), .int x1, .int x2, .int x3] g cy tt sa sz (WO cy A S H)) (QE g (va_A (WO cy A S H) sz) v (WP cy A (t + 1) S)) 1 6 (va_A (WO cy A S H) sz) := by
  have hM := mC_Keep l hlst g cy tt sa sz A x1 x2 x3 hI ht
  rw [(gSl_ok hv).1] at hM
  exact hM
theorem mR_Back (l : Launch) (hlst : l.stackTraces = false) (g : va_G) (cy : Nat → ClassId) (tt sa : Nat → Nat) (sz : Nat) (A : AA) {t : Nat} {S : SS} {H : HH} (x1 x2 x3 : Int32) (hI : RP t S H) (ht : t < 9000) {v : Int32} (hv : gSl x1 = some v) : Met l yL_call wsL_call rmC_Back (PN [.ref A.1, .int (nI 16), .int x1, .int x2, .int x3] g cy tt sa sz (WO cy A S H)) (QE g (va_A (WO cy A S H) sz) v (WP cy A (t + 1) S)) 2 12 (va_A (WO cy A S H) sz) := by
  have hM := mC_Back l hlst g cy tt sa sz A x1 x2 x3 hI ht
  rw [(gSl_ok hv).2] at hM
  exact hM
theorem mR_adds (l : Launch) (hlst : l.stackTraces = false) (g : va_G) (cy : Nat → ClassId) (tt sa : Nat → Nat) (sz : Nat) (A : AA) {t : Nat} {S : SS} {H : HH} (x1 x2 x3 x4 x5 : Int32) (hI : RP t S H) (ht : t < 9000) {v : Int32} (hv : gSc x1 x2 x3 x4 x5 = some v) : Met l yL_adds wsL_adds rmL_adds (PN [.ref A.1, .int x1, .int x2, .int x3, .int x4, .int x5] g cy tt sa sz (WO cy A S H)) (QE g (va_A (WO cy A S H) sz) v (WP cy A (t + 1) S)) 2 12 (va_A (WO cy A S H) sz) := by
  have hM := mL_adds l hlst g cy tt sa sz A x1 x2 x3 x4 x5 hI ht
  rw [gSc_ok hv] at hM
  exact hM
/-- the cells of the film -/
def fcW (cy : Nat → ClassId) (A : AA) (S : SS) : va_W := wsel [true, false, false, false, false, false, false, false, false, false, false, false, false, false, false, false, false, false, false, true, true, true, true, true, true, true, false, false, false, false, false, false, false, false, false, false] (OX cy A.1 A.2.1 A.2.2 (FT S.1) (FT S.1) (nI 0) (nI 0) (nI 0) (nI 0) (FT S.1) (FT S.1) (nI 0) (rI (fun _ => 0)))
theorem WO_film (cy : Nat → ClassId) (A : AA) (S : SS) (H : HH) : WR (WO cy A S H) (fcW cy A S) (fcW cy A S) (WO cy A S H) := by
  have h : WR (OX cy A.1 A.2.1 A.2.2 (FT S.1) (FT H.1) (nI H.2.1) (nI S.2.1) (nI (S.2.2.2.1 0)) (nI (S.2.2.2.1 1)) (FT (H.2.2.2 0)) (FT (H.2.2.2 1)) (nI 0) (rI (fun _ => 0)) ++ HF cy A.2.2 (rgD H.2.2.1)) (fcW cy A S) (fcW cy A S) (wput [true, false, false, false, false, false, false, false, false, false, false, false, false, false, false, false, false, false, false, true, true, true, true, true, true, true, false, false, false, false, false, false, false, false, false, false] (OX cy A.1 A.2.1 A.2.2 (FT S.1) (FT H.1) (nI H.2.1) (nI S.2.1) (nI (S.2.2.2.1 0)) (nI (S.2.2.2.1 1)) (FT (H.2.2.2 0)) (FT (H.2.2.2 1)) (nI 0) (rI (fun _ => 0))) (fcW cy A S) ++ HF cy A.2.2 (rgD H.2.2.1)) := WR.sel [true, false, false, false, false, false, false, false, false, false, false, false, false, false, false, false, false, false, false, true, true, true, true, true, true, true, false, false, false, false, false, false, false, false, false, false] rfl
  exact h
theorem m_cheap (l : Launch) (g : va_G) (cy : Nat → ClassId) (A : AA) {t : Nat} {S : SS} {H : HH} (hI : RP t S H) (ht : t < 9000) : Met l yX7_cheapest wsX7_cheapest rmX7_cheapest (PW [.ref A.1] g cy (fcW cy A S)) (QRi (aCh S.1)) 0 0 nF := by
  obtain ⟨h0, a, AD⟩ := A
  obtain ⟨N, S2⟩ := S
  exact mX7_cheapest l g cy h0 (a 0) (a 7) (a 14) (a 16) (a 24) (a 32) (a 1) (a 2) (a 3) (a 4) (a 5) (a 6) (nI (N 0)) (nI (N 1)) (nI (N 2)) (nI (N 3)) (nI (N 4)) (nI (N 5)) (nI (N 6)) (rI (exR N)) (rI (scR N)) (rI (seR N)) (e_cheapest hI.1 (by omega))
theorem WO_recv {cy : Nat → ClassId} (W : va_W) (A : AA) (S : SS) (H : HH) : ∃ (q : Nat) (fs : List Value), (W ++ WO cy A S H)[q]? = some (A.1, .inr (5, fs)) := by
  refine ⟨W.length, [.ref (A.2.1 0), .ref (A.2.1 7), .ref (A.2.1 14), .ref (A.2.1 16), .ref (A.2.1 24), .ref (A.2.1 32)], ?_⟩
  rw [List.getElem?_append_right (Nat.le_refl _), Nat.sub_self]
  rfl
set_option maxHeartbeats 4000000 in
set_option maxRecDepth 100000 in
theorem v_meal {p : Program} {l : Launch} {e : Env} {R9 : Room} {s : State} {m : MethodId} {args : Array Value} {below : List Frame} {meth : Method} {c9 : Code} {cells slots : Nat} {Q : State → Prop} {g : va_G} {cy : Nat → ClassId} {nL : Nat} {cc : ByteArray} {Ts : List Cond} {own : String} {A9 : Nat → Prop} {pc pc' : Nat} {lv : List (Nat × Value)} {st : List Value} {index : Nat} {A : AA} {t : Nat} {S : SS} {H : HH} (hC : CX p s m args meth c9 g cy nL cc Ts own) (hI : RP t S H) (ht : t < 9000) (hG : GoodIn Ts (wsV own index RX7 yX7_meal wsX7_meal)) (hR : rmX7_meal.frames + 1 ≤ R9.frames ∧ 8 + (1 + 11) + rmX7_meal.locals ≤ R9.locals) (hst : (st.map fun v => v.category).sum ≤ 8) (hf : cells + 0 ≤ R9.cells ∧ slots + 0 ≤ R9.slots) (hd : decode cc pc = .ok (.invokevirtual index, 3)) (hp : pc + 3 = pc') (k : ∀ H2, RP (t + 1) (fMe S).2 H2 → V p l e R9 s m args below meth c9 g nL cells slots Q A9 A9 (WO cy A (fMe S).2 H2) pc' lv (.int (fMe S).1 :: st)) : V p l e R9 s m args below meth c9 g nL cells slots Q A9 A9 (WO cy A S H) pc lv (.ref A.1 :: st) := by
  obtain ⟨h0, a, AD⟩ := A
  obtain ⟨N, c, D, F, K⟩ := S
  obtain ⟨M, o, R, P⟩ := H
  have hN : Inv t N := hI.1
  have hH : HR o c R D := hI.2.1
  obtain ⟨v, N2, hN2, hF, h7, h8⟩ := e_meal (FK := (F, K)) hN (by omega) hH
  rw [h8] at k
  refine v_eqw (ws' := OX cy h0 a AD (FT N) (FT M) (nI o) (nI c) (nI (F 0)) (nI (F 1)) (FT (P 0)) (FT (P 1)) (nI 0) (rI (fun _ => 0)) ++ HF cy AD (rgD R)) rfl ?_
  refine l_callV hC (n := 0) (As := []) (st := st) (ws' := OX cy h0 a AD (nI (N 0), nI (N 1), nI (N 2), nI (N 3), nI (N 4), nI (N 5), nI (N 6), rI (exR N2), rI (scR N), rI (seR N)) (FT M) (nI (remO o c)) (nI (remC c)) (nI (F 0)) (nI (F 1)) (FT (P 0)) (FT (P 1)) (nI 0) (rI (fun _ => 0)) ++ HF cy AD (rgD (remR R o c N))) (mX7_meal l g cy h0 (a 0) (a 7) (a 14) (a 16) (a 24) (a 32) (a 15) (a 1) (a 2) (a 3) (a 4) (a 5) (a 6) AD (nI o) (nI c) (nI (N 0)) (nI (N 1)) (nI (N 2)) (nI (N 3)) (nI (N 4)) (nI (N 5)) (nI (N 6)) (rI (exR N)) (rI (scR N)) (rI (seR N)) (rgD R) h7) (WR.selH (Y := wsel [true, true, true, false, false, false, false, false, false, false, false, false, false, false, false, false, false, false, false, true, true, true, true, true, true, true, false, false, false, false, false, false, false, false, false, false] (OX cy h0 a AD (nI (N 0), nI (N 1), nI (N 2), nI (N 3), nI (N 4), nI (N 5), nI (N 6), rI (exR N2), rI (scR N), rI (seR N)) (FT M) (nI (remO o c)) (nI (remC c)) (nI (F 0)) (nI (F 1)) (FT (P 0)) (FT (P 1)) (nI 0) (rI (fun _ => 0)))) (RD2 := (rgD (remR R o c N))) [true, true, true, false, false, false, false, false, false, false, false, false, false, false, false, false, false, false, false, true, true, true, true, true, true, true, false, false, false, false, false, false, false, false, false, false] rfl) hG rfl rfl rfl (by decide +kernel) hR 0 rfl rfl rfl hst rfl hf hd hp ?_
  rw [← hF]
  exact k _ (hI.act hN2)
set_option maxHeartbeats 4000000 in
set_option maxRecDepth 100000 in
theorem v_nextDay {p : Program} {l : Launch} {e : Env} {R9 : Room} {s : State} {m : MethodId} {args : Array Value} {below : List Frame} {meth : Method} {c9 : Code} {cells slots : Nat} {Q : State → Prop} {g : va_G} {cy : Nat → ClassId} {nL : Nat} {cc : ByteArray} {Ts : List Cond} {own : String} {A9 : Nat → Prop} {pc pc' : Nat} {lv : List (Nat × Value)} {st : List Value} {index : Nat} {A : AA} {t : Nat} {S : SS} {H : HH} (hC : CX p s m args meth c9 g cy nL cc Ts own) (hI : RP t S H) (ht : t < 9000) (hG : GoodIn Ts (wsV own index RX7 yX7_nextDay wsX7_nextDay)) (hR : rmX7_nextDay.frames + 1 ≤ R9.frames ∧ 8 + (1 + 11) + rmX7_nextDay.locals ≤ R9.locals) (hst : (st.map fun v => v.category).sum ≤ 8) (hf : cells + 0 ≤ R9.cells ∧ slots + 0 ≤ R9.slots) (hd : decode cc pc = .ok (.invokevirtual index, 3)) (hp : pc + 3 = pc') (k : ∀ H2, RP (t + 1) (fNx S).2 H2 → V p l e R9 s m args below meth c9 g nL cells slots Q A9 A9 (WO cy A (fNx S).2 H2) pc' lv (.int (fNx S).1 :: st)) : V p l e R9 s m args below meth c9 g nL cells slots Q A9 A9 (WO cy A S H) pc lv (.ref A.1 :: st) := by
  obtain ⟨h0, a, AD⟩ := A
  obtain ⟨N, c, D, F, K⟩ := S
  obtain ⟨M, o, R, P⟩ := H
  have hN : Inv t N := hI.1
  have hH : HR o c R D := hI.2.1
  obtain ⟨v, N2, hN2, hF, h7, h8⟩ := e_nextDay (FK := (F, K)) hN (by omega) hH
  rw [h8] at k
  refine v_eqw (ws' := OX cy h0 a AD (FT N) (FT M) (nI o) (nI c) (nI (F 0)) (nI (F 1)) (FT (P 0)) (FT (P 1)) (nI 0) (rI (fun _ => 0)) ++ HF cy AD (rgD R)) rfl ?_
  refine l_callV hC (n := 0) (As := []) (st := st) (ws' := OX cy h0 a AD (nI (N 0), nI (N 1), nI (N2 2), nI (N 3), nI (N 4), nI (N 5), nI (N 6), rI (exR N2), rI (scR N), rI (seR N)) (FT M) (nI (remO o c)) (nI (remC c)) (nI (F 0)) (nI (F 1)) (FT (P 0)) (FT (P 1)) (nI 0) (rI (fun _ => 0)) ++ HF cy AD (rgD (remR R o c N))) (mX7_nextDay l g cy h0 (a 0) (a 7) (a 14) (a 16) (a 24) (a 32) (a 15) (a 1) (a 2) (a 3) (a 4) (a 5) (a 6) AD (nI o) (nI c) (nI (N 0)) (nI (N 1)) (nI (N 2)) (nI (N 3)) (nI (N 4)) (nI (N 5)) (nI (N 6)) (rI (exR N)) (rI (scR N)) (rI (seR N)) (rgD R) h7) (WR.selH (Y := wsel [true, true, true, false, false, false, false, false, false, false, false, false, false, false, false, false, false, false, false, true, true, true, true, true, true, true, false, false, false, false, false, false, false, false, false, false] (OX cy h0 a AD (nI (N 0), nI (N 1), nI (N2 2), nI (N 3), nI (N 4), nI (N 5), nI (N 6), rI (exR N2), rI (scR N), rI (seR N)) (FT M) (nI (remO o c)) (nI (remC c)) (nI (F 0)) (nI (F 1)) (FT (P 0)) (FT (P 1)) (nI 0) (rI (fun _ => 0)))) (RD2 := (rgD (remR R o c N))) [true, true, true, false, false, false, false, false, false, false, false, false, false, false, false, false, false, false, false, true, true, true, true, true, true, true, false, false, false, false, false, false, false, false, false, false] rfl) hG rfl rfl rfl (by decide +kernel) hR 0 rfl rfl rfl hst rfl hf hd hp ?_
  rw [← hF]
  exact k _ (hI.act hN2)

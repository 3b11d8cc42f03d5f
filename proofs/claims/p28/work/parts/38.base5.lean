/-! ===== methods that throw ===== -/
set_option maxRecDepth 4000
def eNm : Nat → String
  | 0 => "java/lang/IllegalArgumentException"
  | 1 => "java/lang/IllegalStateException"
  | _ => "java/lang/IndexOutOfBoundsException"
def eTx : Nat → String
  | 0 => "an argument is out of its range"
  | 1 => "this cannot be done now"
  | _ => "there is no such extra, scene or slot"
def eIx : Nat → Nat
  | 0 => 230
  | 1 => 237
  | _ => 242
def eUp : List String := ["java/lang/RuntimeException", "java/lang/Exception", Bundle.tN]
def EXc (sa : Nat → Nat) (U : State) : Prop := (∀ k, k < 3 → va_Nw (.castable (eNm k) (eNm k)) U ∧ vk_R RX7 (eIx k) (eTx k) (sa k) U) ∧ ∀ y ∈ eUp, va_Nw (.declares (Bundle.initS y)) U
def EXh (A : Nat → Prop) (U : State) (H : Heap) : Prop := vx_Zq Bundle.tN "UNASSIGNED_STACK" Bundle.steD A U H ∧ vx_Zq Bundle.tN "SUPPRESSED_SENTINEL" Bundle.listD A U H
def EV (tt sa : Nat → Nat) (A : Nat → Prop) (U : State) (H : Heap) : Prop := EXc sa U ∧ EXh A U H ∧ SX tt A U H
theorem EV.warm {tt sa : Nat → Nat} {A : Nat → Prop} {s U : State} {H : Heap} (hW : s.WarmedH U.vm) (h : EV tt sa A s H) : EV tt sa A U H := ⟨⟨fun k hk => ⟨va_Nw.warmC hW (h.1.1 k hk).1, vk_R.warm hW (h.1.1 k hk).2⟩, fun y hy => va_Nw.warmD hW (h.1.2 y hy)⟩, ⟨vx_Zq.moved hW.alike h.2.1.1, vx_Zq.moved hW.alike h.2.1.2⟩, h.2.2.warm hW⟩
theorem EV.same {tt sa : Nat → Nat} {A : Nat → Prop} {u U : State} {H : Heap} (e : U.vm = u.vm) (h : EV tt sa A u H) : EV tt sa A U H := ⟨⟨fun k hk => ⟨va_Nw.same rfl e.symm (h.1.1 k hk).1, vk_R.same e (h.1.1 k hk).2⟩, fun y hy => va_Nw.same rfl e.symm (h.1.2 y hy)⟩, ⟨vx_Zq.moved (by rw [e]; exact Vm.Alike.refl _) h.2.1.1, vx_Zq.moved (by rw [e]; exact Vm.Alike.refl _) h.2.1.2⟩, h.2.2.same e.symm⟩
theorem EV.stay {tt sa : Nat → Nat} {A : Nat → Prop} {s : State} {H : Heap} {locs : List Loc} (hS : va_S A s.heap H locs) (h : EV tt sa A s s.heap) : EV tt sa A s H := ⟨h.1, ⟨h.2.1.1.kept (fun a h1 h2 => hS.2.1 a h1 h2), h.2.1.2.kept (fun a h1 h2 => hS.2.1 a h1 h2)⟩, h.2.2.stay hS⟩
theorem EV.narrow {tt sa : Nat → Nat} {A B : Nat → Prop} {U : State} {H : Heap} (h : EV tt sa A U H) (hAB : ∀ q, B q → A q) : EV tt sa B U H := ⟨h.1, ⟨h.2.1.1.narrow hAB, h.2.1.2.narrow hAB⟩, h.2.2.narrow hAB⟩
theorem va_Z.wide {C n d : String} {v : Value} {A B : Nat → Prop} {U : State} {H : Heap} (hAB : ∀ a, a < H.size → ¬ A a → ¬ B a) (h : va_Z C n d v A U H) : va_Z C n d v B U H := by
  obtain ⟨cf, kf, fi, f, a, cell, h1, h2, h3, h4, h5, h6, h7, h8⟩ := h
  exact ⟨cf, kf, fi, f, a, cell, h1, h2, h3, h4, h5, h6, h7, hAB a (Array.getElem?_eq_some_iff.mp h5).1 h8⟩
theorem va_T.wide {ty : FieldType} {t N : Nat} {f : Nat → Value} {A B : Nat → Prop} {U : State} {H : Heap} (hAB : ∀ a, a < H.size → ¬ A a → ¬ B a) (h : va_T ty t N f A U H) : va_T ty t N f B U H := by
  obtain ⟨cell, h1, h2, h3, h4, h5, h6, h7⟩ := h
  exact ⟨cell, h1, h2, h3, h4, h5, h6, hAB t (Array.getElem?_eq_some_iff.mp h1).1 h7⟩
theorem vx_Zq.wide {C n d : String} {A B : Nat → Prop} {U : State} {H : Heap} (hAB : ∀ a, a < H.size → ¬ A a → ¬ B a) (h : vx_Zq C n d A U H) : vx_Zq C n d B U H := by
  obtain ⟨h1, c, k, i, f, a, cell, g1, g2, g3, g4, g5, g6, g7, g8, g9, g10⟩ := h
  refine ⟨?_, c, k, i, f, a, cell, g1, g2, g3, g4, g5, g6, g7, g8, g9, hAB a (Array.getElem?_eq_some_iff.mp g5).1 g10⟩
  rcases h1 with h | ⟨t, h⟩
  · exact Or.inl (va_Z.wide hAB h)
  · exact Or.inr ⟨t, va_Z.wide hAB h⟩
theorem EV.wide {tt sa : Nat → Nat} {A B : Nat → Prop} {U : State} {H : Heap} (hAB : ∀ a, a < H.size → ¬ A a → ¬ B a) (h : EV tt sa A U H) : EV tt sa B U H := ⟨h.1, ⟨vx_Zq.wide hAB h.2.1.1, vx_Zq.wide hAB h.2.1.2⟩, fun k hk => ⟨va_Z.wide hAB (h.2.2 k hk).1, va_T.wide hAB (h.2.2 k hk).2.1, (h.2.2 k hk).2.2⟩⟩
/-- a start of a method that may throw -/
def PE (av : List Value) (g : va_G) (cy : Nat → ClassId) (tt sa : Nat → Nat) (sz : Nat) (ws : va_W) : Array Value → State → Prop := va_Pc av (fun U => U.heap.size = sz ∧ (va_P g vwCl ws U.heap ∧ va_K g vwCl (tyL cy) U ∧ va_D (fun _ => True) ws ∧ NX U) ∧ EV tt sa (wA ws) U U.heap)
theorem PE.blind {av : List Value} {g : va_G} {cy : Nat → ClassId} {tt sa : Nat → Nat} {sz : Nat} {ws : va_W} : FrameBlind (PE av g cy tt sa sz ws) := fun a U fr mk h => by
  obtain ⟨q0, qs, ⟨qP, qK, qD, qN⟩, qT⟩ := h
  exact ⟨q0, qs, ⟨qP, va_K.moved (u := U) (U := U.calling fr mk a) (Vm.Alike.refl U.vm) qK, qD, NX.same (u := U) (U := U.calling fr mk a) rfl qN⟩, EV.same (u := U) (U := U.calling fr mk a) rfl qT⟩
theorem va_Aof {ws : va_W} {sz : Nat} {q : Nat} : va_A ws sz q ↔ wA ws q ∨ sz ≤ q := Iff.rfl
def QXv {RES : Type} (g : va_G) (A : Nat → Prop) (res : Sum Nat RES) (W : RES → va_W) : Array Value → State → Outcome → State → Prop := va_Qv (fun u : RES => res = .inr u) (fun u t => va_P g vwCl (W u) t.heap) A
def QXi {RES : Type} (g : va_G) (A : Nat → Prop) (res : Sum Nat RES) (f : RES → Int32) (W : RES → va_W) : Array Value → State → Outcome → State → Prop := va_Qi (fun x (u : RES) => res = .inr u ∧ x = f u) (fun u t => va_P g vwCl (W u) t.heap) A
def XX {RES : Type} (g : va_G) (A : Nat → Prop) (res : Sum Nat RES) (ws : va_W) : String → State → State → Prop := vx_X (fun k : Nat => res = .inl k) (fun E k t => E = eNm k ∧ va_P g vwCl ws t.heap) A
section VROWS5
variable {p : Program} {l : Launch} {e : Env} {R : Room} {s : State} {m : MethodId} {args : Array Value} {below : List Frame} {meth : Method} {c : Code} {cells slots : Nat} {Q : State → Prop}
variable {g : va_G} {cy : Nat → ClassId} {nL : Nat} {cc : ByteArray} {Ts : List Cond} {own : String} {A B : Nat → Prop} {ws : va_W} {pc pc' : Nat} {lv lv' : List (Nat × Value)} {st : List Value} {tt sa : Nat → Nat}
variable {RES : Type} {res : Sum Nat RES} {Qc : Array Value → State → Outcome → State → Prop} {mc ms : Nat}
/-- what else stands fast in a method that may throw -/
def XE (l : Launch) (s : State) (c : Code) (tt sa : Nat → Nat) (A : Nat → Prop) : Prop := l.stackTraces = false ∧ EV tt sa A s s.heap ∧ (∀ q, s.heap.size ≤ q → A q) ∧ ∀ x ∈ c.exceptionTable.toList, False
theorem v_widen {k n : Nat} (h1 : cells ≤ k) (h2 : slots ≤ n) (kk : V p l e R s m args below meth c g nL k n Q A B ws pc lv st) : V p l e R s m args below meth c g nL cells slots Q A B ws pc lv st :=
  fun H locs ls hD hP hS hl => W.widen h1 h2 (kk H locs ls hD hP hS hl)
theorem v_xend {wc : va_W} {v : Sum Nat Unit} (hX : XE l s c tt sa A) (hC : CX p s m args meth c g cy nL cc Ts own) (isC isR : List Nat) (hm : isC.map (fun i => ws[i]?) = wc.map some) (hall : (List.range ws.length).all (fun i => isC.contains i || isR.contains i) = true) (hdis : isR.all (fun i => !isC.contains i) = true)
    (hx : ∀ k, v = .inl k → res = .inl k) (hmc : cells + 1 ≤ mc ∧ slots + 6 ≤ ms) {H : Heap} {locs : List Loc} {ls : Array Slot} (hD : va_D A ws) (hP : va_P g vwCl ws H) (hS : va_S A s.heap H locs) (hl : lv_has ls nL lv) {st0 : List Value} {a : Array Value}
    (k : (∃ u, v = .inr u) → V p l e R s m args below meth c g nL (cells + 1) (slots + 6) (vx_MQ below Qc (XX g A res ws) args s mc ms A) A A ws (pc + 3) lv st)
    (hr : vx_Run p l e R s m args below meth c H locs cells slots 1 6 (F0 m pc ls st0) st (QXv g (va_A wc H.size) v (fun _ => wc) a) (XX g (va_A wc H.size) v wc) (va_A wc H.size)) :
    W p l e R s m args below meth c H locs cells slots (vx_MQ below Qc (XX g A res ws) args s mc ms A) (F0 m pc ls st0) := by
  have hin : ∀ q, va_A wc H.size q → A q := fun q h => by
    rcases h with h | h
    · exact v_inA isC hm hD q h
    · exact hX.2.2.1 q (Nat.le_trans hS.1 h)
  have rep : ∀ {H1 : Heap}, va_P g vwCl wc H1 → (∀ q : Nat, q < H.size → ¬ va_A wc H.size q → H1[q]? = H[q]?) → va_P g vwCl ws H1 ∧ va_D A ws := fun {H1} hB hk => by
    refine v_rep (ws' := ws) (wc' := wc) isC isR hm hm rfl hall hdis rfl hD hP hB (fun q h1 h2 => hk q h1 (fun h3 => ?_))
    rcases h3 with h3 | h3
    · exact h2 h3
    · omega
  refine vx_callv hr hS (fun q _ h => hin q h) hin (fun q _ h => hin q h) (fun E ce q9 k9 t H1 locs1 ht hvm hpx hB hz hk hS1 hc1 hc2 hc3 => ?_) (fun u t H1 locs1 ht hvm hpost hB hz hk hS1 => ?_)
  · obtain ⟨hE, hB⟩ := hB
    rw [ht] at hB
    obtain ⟨hP1, hD1⟩ := rep hB hk
    exact vx_out (fun x h => (hX.2.2.2 x h).elim) hC.2.2.2.2.2.1 hc1 hc2 hc3 (fun t2 ht2 hvm2 => ⟨k9, hx k9 hpx, ⟨hE, by rw [ht2]; exact hP1⟩, hS1.F ht2⟩) hS1.2.2 hmc.1 hmc.2
  · have hB : va_P g vwCl wc t.heap := hB
    rw [ht] at hB
    obtain ⟨hP1, hD1⟩ := rep hB hk
    exact k ⟨u, hpost⟩ H1 locs1 ls hD1 hP1 hS1 hl
theorem v_xendH {wc : va_W} {v : Sum Nat Unit} (hX : XE l s c tt sa A) (hC : CX p s m args meth c g cy nL cc Ts own) (isC : List Nat) (hm : isC.map (fun i => ws[i]?) = wc.map some)
    (hx : ∀ k, v = .inl k → res = .inl k) (hmc : cells + 1 ≤ mc ∧ slots + 6 ≤ ms) {H : Heap} {locs : List Loc} {ls : Array Slot} (hD : va_D A ws) (hP : va_P g vwCl ws H) (hS : va_S A s.heap H locs) (hl : lv_has ls nL lv) {st0 : List Value} {a : Array Value}
    (k : (∃ u, v = .inr u) → V p l e R s m args below meth c g nL (cells + 1) (slots + 6) (vx_MQ below Qc (XX g A res ws) args s mc ms A) A A ws (pc + 3) lv st)
    (hr : vx_Run p l e R s m args below meth c H locs cells slots 1 6 (F0 m pc ls st0) st (QXv g (va_A wc H.size) v (fun _ => wc) a) (XX g (va_A wc H.size) v wc) (va_A wc H.size)) :
    W p l e R s m args below meth c H locs cells slots (vx_MQ below Qc (XX g A res ws) args s mc ms A) (F0 m pc ls st0) := by
  have hin : ∀ q, va_A wc H.size q → A q := fun q h => by
    rcases h with h | h
    · exact v_inA isC hm hD q h
    · exact hX.2.2.1 q (Nat.le_trans hS.1 h)
  have hsub : ∀ z ∈ wc, z ∈ ws := fun z hz => by
    obtain ⟨j, hj⟩ := List.getElem?_of_mem hz
    have h1 : (isC.map (fun i => ws[i]?))[j]? = some (some z) := by rw [hm, List.getElem?_map, hj]; rfl
    rw [List.getElem?_map] at h1
    cases hi : isC[j]? with
    | none => rw [hi] at h1; cases h1
    | some i => rw [hi] at h1; exact List.mem_of_getElem? (Option.some.inj h1)
  have rep : ∀ {H1 : Heap}, va_P g vwCl wc H1 → (∀ q : Nat, q < H.size → ¬ va_A wc H.size q → H1[q]? = H[q]?) → va_P g vwCl ws H1 ∧ va_D A ws := fun {H1} hB hk => by
    refine v_repM (ws' := ws) (wc' := wc) (wc := wc) rfl (fun q hq => ?_) hD hP hB (fun q h1 h2 => hk q h1 (fun h3 => ?_))
    · by_cases h9 : ∃ z ∈ wc, z.1 = q.1
      · obtain ⟨z, hz, e9⟩ := h9
        exact Or.inl ((nd_inj hD.nodup (hsub z hz) hq e9) ▸ hz)
      · exact Or.inr ⟨hq, fun z hz e9 => h9 ⟨z, hz, e9⟩⟩
    · rcases h3 with h3 | h3
      · exact h2 h3
      · omega
  refine vx_callv hr hS (fun q _ h => hin q h) hin (fun q _ h => hin q h) (fun E ce q9 k9 t H1 locs1 ht hvm hpx hB hz hk hS1 hc1 hc2 hc3 => ?_) (fun u t H1 locs1 ht hvm hpost hB hz hk hS1 => ?_)
  · obtain ⟨hE, hB⟩ := hB
    rw [ht] at hB
    obtain ⟨hP1, hD1⟩ := rep hB hk
    exact vx_out (fun x h => (hX.2.2.2 x h).elim) hC.2.2.2.2.2.1 hc1 hc2 hc3 (fun t2 ht2 hvm2 => ⟨k9, hx k9 hpx, ⟨hE, by rw [ht2]; exact hP1⟩, hS1.F ht2⟩) hS1.2.2 hmc.1 hmc.2
  · have hB : va_P g vwCl wc t.heap := hB
    rw [ht] at hB
    obtain ⟨hP1, hD1⟩ := rep hB hk
    exact k ⟨u, hpost⟩ H1 locs1 ls hD1 hP1 hS1 hl
theorem v_startE {av : List Value} {wc : va_W} (hC : CX p s m args meth c g cy nL cc Ts own) (hX : XE l s c tt sa A) {locs : List Loc} (isC : List Nat) (hsub : isC.filterMap (fun i => ws[i]?) = wc) (hnd : va_nd isC = true) (hm : isC.map (fun i => ws[i]?) = wc.map some) {H : Heap} (hD : va_D A ws) (hP : va_P g vwCl ws H) (hS : va_S A s.heap H locs) (U : State) (hU : U.heap = H) (hW : s.WarmedH U.vm) : PE av g cy tt sa H.size wc av.toArray U :=
  ⟨rfl, by rw [hU], (v_start (av := av) hC isC hsub hnd hm hD hP U hU hW).2, by rw [hU]; exact ((hX.2.1.stay hS).narrow (v_inA isC hm hD)).warm hW⟩
theorem v_callSx (hC : CX p s m args meth c g cy nL cc Ts own) (hX : XE l s c tt sa A) {y : MethodName} {bytes : ByteArray} {maxL n index : Nat} {ret : Option FieldType} {wy wy' : List Cond} {rm : Room} {As : List Value} {wc : va_W} {v : Sum Nat Unit} {stk : List Value} (hM : ∀ sz, vx_Met l y wy rm (PE As g cy tt sa sz wc) (QXv g (va_A wc sz) v (fun _ => wc)) (XX g (va_A wc sz) v wc) 1 6 (va_A wc sz)) (hG : GoodIn Ts (va_wsS own index y wy)) (hw : wy = Cond.code y bytes maxL ret :: wy') (hrc : rm.cells = 1) (hrs : rm.slots = 6) (hy : y.cls ≠ "java/lang/invoke/MethodHandle" ∧ y.cls ≠ "java/lang/invoke/VarHandle" ∧ (parseMethodDescriptor y.desc).map (fun d => d.parameters.length) = some n) (hR : rm.frames + 1 ≤ R.frames ∧ 8 + (maxL + 11) + rm.locals ≤ R.locals)  (isC isR : List Nat) (hm : isC.map (fun i => ws[i]?) = wc.map some) (hsub : isC.filterMap (fun i => ws[i]?) = wc) (hnd : va_nd isC = true) (hall : (List.range ws.length).all (fun i => isC.contains i || isR.contains i) = true) (hdis : isR.all (fun i => !isC.contains i) = true) (hstk : stk = As.reverse ++ st) (hst : (st.map fun v => v.category).sum ≤ 8) (hn : As.length = n) (hf : cells + 1 ≤ R.cells ∧ slots + 6 ≤ R.slots) (hd : decode cc pc = .ok (.invokestatic index, 3)) (hx : ∀ k, v = .inl k → res = .inl k) (hmc : cells + 1 ≤ mc ∧ slots + 6 ≤ ms) (hp : pc + 3 = pc') (k : (∃ u, v = .inr u) → V p l e R s m args below meth c g nL (cells + 1) (slots + 6) (vx_MQ below Qc (XX g A res ws) args s mc ms A) A A ws pc' lv st) : V p l e R s m args below meth c g nL cells slots (vx_MQ below Qc (XX g A res ws) args s mc ms A) A A ws pc lv stk := by
  subst hp
  intro H locs ls hD hP hS hl
  exact v_xend hX hC isC isR hm hall hdis hx hmc hD hP hS hl k (vx_runS (As := As) (rest := st) hC.fix (hM H.size) (v_cwS n hC.2.2.2.2.1 hG hw hrc hrs hy hR) ⟨PE.blind, fun U hU hW => v_startE hC hX isC hsub hnd hm hD hP hS U hU hW⟩ rfl hn hl.1 hstk (lv_room hst) hd hf)
theorem v_callVx (hC : CX p s m args meth c g cy nL cc Ts own) (hX : XE l s c tt sa A) {y : MethodName} {bytes : ByteArray} {maxL n index : Nat} {ret : Option FieldType} {wy wy' : List Cond} {rm : Room} {As : List Value} {wc : va_W} {v : Sum Nat Unit} {stk : List Value} {b ci N : Nat} {fs : List Value} {C : String} {T : u_T} (hM : ∀ sz, vx_Met l y wy rm (PE (.ref b :: As) g cy tt sa sz wc) (QXv g (va_A wc sz) v (fun _ => wc)) (XX g (va_A wc sz) v wc) 1 6 (va_A wc sz)) (hG : GoodIn Ts (wsV own index C y wy)) (hw : wy = Cond.code y bytes maxL ret :: wy') (hrc : rm.cells = 1) (hrs : rm.slots = 6) (hy : y.cls = C ∧ y.cls ≠ "java/lang/invoke/MethodHandle" ∧ y.cls ≠ "java/lang/invoke/VarHandle" ∧ (parseMethodDescriptor y.desc).map (fun d => d.parameters.length) = some n) (hR : rm.frames + 1 ≤ R.frames ∧ 8 + (maxL + 11) + rm.locals ≤ R.locals) (qb : Nat) (hb : ws[qb]? = some (b, .inr (ci, fs))) (hc : vwCl[ci]? = some (C, T, N)) (isC isR : List Nat) (hm : isC.map (fun i => ws[i]?) = wc.map some) (hsub : isC.filterMap (fun i => ws[i]?) = wc) (hnd : va_nd isC = true) (hall : (List.range ws.length).all (fun i => isC.contains i || isR.contains i) = true) (hdis : isR.all (fun i => !isC.contains i) = true) (hstk : stk = As.reverse ++ .ref b :: st) (hst : (st.map fun v => v.category).sum ≤ 8) (hn : As.length = n) (hf : cells + 1 ≤ R.cells ∧ slots + 6 ≤ R.slots) (hd : decode cc pc = .ok (.invokevirtual index, 3)) (hx : ∀ k, v = .inl k → res = .inl k) (hmc : cells + 1 ≤ mc ∧ slots + 6 ≤ ms) (hp : pc + 3 = pc') (k : (∃ u, v = .inr u) → V p l e R s m args below meth c g nL (cells + 1) (slots + 6) (vx_MQ below Qc (XX g A res ws) args s mc ms A) A A ws pc' lv st) : V p l e R s m args below meth c g nL cells slots (vx_MQ below Qc (XX g A res ws) args s mc ms A) A A ws pc lv stk := by
  subst hp
  intro H locs ls hD hP hS hl
  exact v_xend hX hC isC isR hm hall hdis hx hmc hD hP hS hl k (vx_runV (As := As) (rest := st) hC.fix (hM H.size) (cwV n hC.2.2.2.2.1 hG hw hrc hrs hy hR) ⟨PE.blind, va_recv hC.2.2.2.2.2.2.1 hP hc hb, fun U hU hW => v_startE hC hX isC hsub hnd hm hD hP hS U hU hW⟩ rfl hn hl.1 hstk (lv_room hst) hd hf)
theorem v_callSxH (hC : CX p s m args meth c g cy nL cc Ts own) (hX : XE l s c tt sa A) {y : MethodName} {bytes : ByteArray} {maxL n index : Nat} {ret : Option FieldType} {wy wy' : List Cond} {rm : Room} {As : List Value} {wc : va_W} {v : Sum Nat Unit} {stk : List Value} (hM : ∀ sz, vx_Met l y wy rm (PE As g cy tt sa sz wc) (QXv g (va_A wc sz) v (fun _ => wc)) (XX g (va_A wc sz) v wc) 1 6 (va_A wc sz)) (hG : GoodIn Ts (va_wsS own index y wy)) (hw : wy = Cond.code y bytes maxL ret :: wy') (hrc : rm.cells = 1) (hrs : rm.slots = 6) (hy : y.cls ≠ "java/lang/invoke/MethodHandle" ∧ y.cls ≠ "java/lang/invoke/VarHandle" ∧ (parseMethodDescriptor y.desc).map (fun d => d.parameters.length) = some n) (hR : rm.frames + 1 ≤ R.frames ∧ 8 + (maxL + 11) + rm.locals ≤ R.locals)  (isC : List Nat) (hm : isC.map (fun i => ws[i]?) = wc.map some) (hsub : isC.filterMap (fun i => ws[i]?) = wc) (hnd : va_nd isC = true) (hstk : stk = As.reverse ++ st) (hst : (st.map fun v => v.category).sum ≤ 8) (hn : As.length = n) (hf : cells + 1 ≤ R.cells ∧ slots + 6 ≤ R.slots) (hd : decode cc pc = .ok (.invokestatic index, 3)) (hx : ∀ k, v = .inl k → res = .inl k) (hmc : cells + 1 ≤ mc ∧ slots + 6 ≤ ms) (hp : pc + 3 = pc') (k : (∃ u, v = .inr u) → V p l e R s m args below meth c g nL (cells + 1) (slots + 6) (vx_MQ below Qc (XX g A res ws) args s mc ms A) A A ws pc' lv st) : V p l e R s m args below meth c g nL cells slots (vx_MQ below Qc (XX g A res ws) args s mc ms A) A A ws pc lv stk := by
  subst hp
  intro H locs ls hD hP hS hl
  exact v_xendH hX hC isC hm hx hmc hD hP hS hl k (vx_runS (As := As) (rest := st) hC.fix (hM H.size) (v_cwS n hC.2.2.2.2.1 hG hw hrc hrs hy hR) ⟨PE.blind, fun U hU hW => v_startE hC hX isC hsub hnd hm hD hP hS U hU hW⟩ rfl hn hl.1 hstk (lv_room hst) hd hf)
theorem v_callVxH (hC : CX p s m args meth c g cy nL cc Ts own) (hX : XE l s c tt sa A) {y : MethodName} {bytes : ByteArray} {maxL n index : Nat} {ret : Option FieldType} {wy wy' : List Cond} {rm : Room} {As : List Value} {wc : va_W} {v : Sum Nat Unit} {stk : List Value} {b ci N : Nat} {fs : List Value} {C : String} {T : u_T} (hM : ∀ sz, vx_Met l y wy rm (PE (.ref b :: As) g cy tt sa sz wc) (QXv g (va_A wc sz) v (fun _ => wc)) (XX g (va_A wc sz) v wc) 1 6 (va_A wc sz)) (hG : GoodIn Ts (wsV own index C y wy)) (hw : wy = Cond.code y bytes maxL ret :: wy') (hrc : rm.cells = 1) (hrs : rm.slots = 6) (hy : y.cls = C ∧ y.cls ≠ "java/lang/invoke/MethodHandle" ∧ y.cls ≠ "java/lang/invoke/VarHandle" ∧ (parseMethodDescriptor y.desc).map (fun d => d.parameters.length) = some n) (hR : rm.frames + 1 ≤ R.frames ∧ 8 + (maxL + 11) + rm.locals ≤ R.locals) (qb : Nat) (hb : ws[qb]? = some (b, .inr (ci, fs))) (hc : vwCl[ci]? = some (C, T, N)) (isC : List Nat) (hm : isC.map (fun i => ws[i]?) = wc.map some) (hsub : isC.filterMap (fun i => ws[i]?) = wc) (hnd : va_nd isC = true) (hstk : stk = As.reverse ++ .ref b :: st) (hst : (st.map fun v => v.category).sum ≤ 8) (hn : As.length = n) (hf : cells + 1 ≤ R.cells ∧ slots + 6 ≤ R.slots) (hd : decode cc pc = .ok (.invokevirtual index, 3)) (hx : ∀ k, v = .inl k → res = .inl k) (hmc : cells + 1 ≤ mc ∧ slots + 6 ≤ ms) (hp : pc + 3 = pc') (k : (∃ u, v = .inr u) → V p l e R s m args below meth c g nL (cells + 1) (slots + 6) (vx_MQ below Qc (XX g A res ws) args s mc ms A) A A ws pc' lv st) : V p l e R s m args below meth c g nL cells slots (vx_MQ below Qc (XX g A res ws) args s mc ms A) A A ws pc lv stk := by
  subst hp
  intro H locs ls hD hP hS hl
  exact v_xendH hX hC isC hm hx hmc hD hP hS hl k (vx_runV (As := As) (rest := st) hC.fix (hM H.size) (cwV n hC.2.2.2.2.1 hG hw hrc hrs hy hR) ⟨PE.blind, va_recv hC.2.2.2.2.2.2.1 hP hc hb, fun U hU hW => v_startE hC hX isC hsub hnd hm hD hP hS U hU hW⟩ rfl hn hl.1 hstk (lv_room hst) hd hf)
theorem v_mmin (hC : CX p s m args meth c g cy nL cc Ts own) {index : Nat} {x y : Int32} {A B : Nat → Prop} (hk : Cond.methodLink own index Lib.Math.min.name ∈ Ts) (h1 : Cond.static Lib.Math.min.name ∈ Ts) (h2 : Cond.initialized "java/lang/Math" ∈ Ts) (h3 : Cond.code Lib.Math.min.name Lib.Math.min.code 2 (some .int) ∈ Ts) (hfr : 1 ≤ R.frames) (hlo : (st.map fun v => v.category).sum + 13 ≤ R.locals) (hf : cells ≤ R.cells ∧ slots ≤ R.slots) (hd : decode cc pc = .ok (.invokestatic index, 3)) (hp : pc + 3 = pc') (k : V p l e R s m args below meth c g nL cells slots Q A B ws pc' lv (.int (if y < x then y else x) :: st)) : V p l e R s m args below meth c g nL cells slots Q A B ws pc lv (.int y :: .int x :: st) := by
  subst hp
  intro H locs ls hD hP hS hl
  exact va_mmin hC.1 hC.2.1 (hC.2.2.1.trans hl.1.symm) hC.2.2.2.1 (hC.2.2.2.2.1 _ hk) (hC.2.2.2.2.1 _ h1) (hC.2.2.2.2.1 _ h2) (hC.2.2.2.2.1 _ h3) hfr hlo hf.1 hf.2 hd (k H locs ls hD hP hS hl)
theorem v_mmax (hC : CX p s m args meth c g cy nL cc Ts own) {index : Nat} {x y : Int32} {A B : Nat → Prop} (hk : Cond.methodLink own index Lib.Math.max.name ∈ Ts) (h1 : Cond.static Lib.Math.max.name ∈ Ts) (h2 : Cond.initialized "java/lang/Math" ∈ Ts) (h3 : Cond.code Lib.Math.max.name Lib.Math.max.code 2 (some .int) ∈ Ts) (hfr : 1 ≤ R.frames) (hlo : (st.map fun v => v.category).sum + 13 ≤ R.locals) (hf : cells ≤ R.cells ∧ slots ≤ R.slots) (hd : decode cc pc = .ok (.invokestatic index, 3)) (hp : pc + 3 = pc') (k : V p l e R s m args below meth c g nL cells slots Q A B ws pc' lv (.int (if x < y then y else x) :: st)) : V p l e R s m args below meth c g nL cells slots Q A B ws pc lv (.int y :: .int x :: st) := by
  subst hp
  intro H locs ls hD hP hS hl
  exact va_mmax hC.1 hC.2.1 (hC.2.2.1.trans hl.1.symm) hC.2.2.2.1 (hC.2.2.2.2.1 _ hk) (hC.2.2.2.2.1 _ h1) (hC.2.2.2.2.1 _ h2) (hC.2.2.2.2.1 _ h3) hfr hlo hf.1 hf.2 hd (k H locs ls hD hP hS hl)
theorem v_irX (hC : CX p s m args meth c g cy nL cc Ts own) {u : RES} {v : Int32} {ty : FieldType} {f : RES → Int32} {Wf : RES → va_W} {XC : String → State → State → Prop} (hr : meth.sig.returnType = some ty) (hu : res = .inr u) (hn : narrow ty (.int v) = .int v) (hv : v = f u) (hW : ws = Wf u) (hmc : cells ≤ mc ∧ slots ≤ ms) (hd : decode cc pc = .ok (.ireturn, 1)) : V p l e R s m args below meth c g nL cells slots (vx_MQ below (QXi g A res f Wf) XC args s mc ms A) A B ws pc lv [.int v] := by
  subst hW
  intro H locs ls hD hP hS hl
  refine W.widen hmc.1 hmc.2 (vx_ret ?_)
  exact W.zret hC.1 hC.2.1 hr hn (fun t ht hW2 => ⟨⟨v, u, rfl, ⟨hu, hv⟩, by show va_P g vwCl (Wf u) t.heap; rw [ht]; exact hP⟩, hS.F ht⟩) hS.2.2 hd hC.2.2.2.2.2.1
theorem v_vrX (hC : CX p s m args meth c g cy nL cc Ts own) {u : RES} {Wf : RES → va_W} {XC : String → State → State → Prop} (hr : meth.sig.returnType = none) (hu : res = .inr u) (hW : ws = Wf u) (hmc : cells ≤ mc ∧ slots ≤ ms) (hd : decode cc pc = .ok (.return_, 1)) : V p l e R s m args below meth c g nL cells slots (vx_MQ below (QXv g A res Wf) XC args s mc ms A) A B ws pc lv [] := by
  subst hW
  intro H locs ls hD hP hS hl
  refine W.widen hmc.1 hmc.2 (vx_ret ?_)
  exact W.vret hC.1 hC.2.1 hr (fun t ht hW2 => ⟨⟨u, rfl, hu, by show va_P g vwCl (Wf u) t.heap; rw [ht]; exact hP⟩, hS.F ht⟩) hS.2.2 hd hC.2.2.2.2.2.1
end VROWS5
/-- a contract out of a walk that may throw -/
theorem m_ofVX {l : Launch} {y : MethodName} {Ts ws' : List Cond} {rm : Room} {cc : ByteArray} {nL : Nat} {ret : Option FieldType} {av : List Value} {g : va_G} {cy : Nat → ClassId} {tt sa : Nat → Nat} {sz : Nat} {ws : va_W} {Qc : Array Value → State → Outcome → State → Prop} {XC : String → State → State → Prop} {mc ms : Nat} (hlst : l.stackTraces = false) (own : String) (ho : y.cls = own) (hy : plainName y.cls = true) (hw : Ts = Cond.code y cc nL ret :: ws') (lv : List (Nat × Value)) (hlv : lv_args 0 av = lv) (hlen : (lg_sl av).length ≤ nL)
    (body : ∀ (p : Program) (e : Env) (s : State) (m : MethodId) (args : Array Value) (below : List Frame) (meth : Method) (c : Code), CX p s m args meth c g cy nL cc Ts own → meth.sig.returnType = ret → XE l s c tt sa (va_A ws sz) → V p l e (headSpec Ts rm).room s m args below meth c g nL 0 0 (vx_MQ below Qc XC args s mc ms (va_A ws sz)) (va_A ws sz) (va_A ws sz) ws 0 lv []) : vx_Met l y Ts rm (PE av g cy tt sa sz ws) Qc XC mc ms (va_A ws sz) := by
  refine vx_ofW (cc := cc) (maxL := nL) (ret := ret) hy hw ?_
  intro p e s m args below meth c s₁ X hml htab hv
  obtain ⟨rfl, hsz, ⟨hP, hK, hD0, hN⟩, hE⟩ := hv
  have hown : s.vm.findClass own = some m.cls := ho ▸ findClass_of_methodNamed X.named
  have hC : CX p s m av.toArray meth c g cy nL cc Ts own := ⟨X.exec, X.bytes, hml, hown, atoms_spec X.pre, X.notSynchronized, hK, hN⟩
  have hl := lv_entry av (n := nL) hlen
  rw [lg_entry_eq]
  rw [hlv] at hl
  have hX : XE l s c tt sa (va_A ws sz) := ⟨hlst, hE.wide (fun a h1 h2 h3 => by
    rcases h3 with h3 | h3
    · exact h2 h3
    · omega), fun q h => Or.inr (by omega), fun x h => htab x h⟩
  exact body p e s m av.toArray below meth c hC X.returns hX s.heap [] _ (hD0.self) hP va_S.rf hl
def pX7_requireArgument (x0 : Int32) : Option (Sum Nat Unit) := if x0 = 0 then some (.inl 0) else some (.inr ())
abbrev rmX7_requireArgument : Room := { frames := 6, cells := 1, slots := 6, locals := 90 }
set_option maxHeartbeats 4000000 in
theorem mX7_requireArgument (l : Launch) (hlst : l.stackTraces = false) (g : va_G) (cy : Nat → ClassId) (tt sa : Nat → Nat) (sz : Nat) (x0 : Int32) {res : Sum Nat Unit} (h : pX7_requireArgument x0 = some res) : vx_Met l yX7_requireArgument wsX7_requireArgument rmX7_requireArgument (PE [.int x0] g cy tt sa sz []) (QXv g (va_A [] sz) res (fun _ => [])) (XX g (va_A [] sz) res []) 1 6 (va_A [] sz) := by
  refine m_ofVX (cc := cX7_requireArgument) (nL := 1) (ret := none) hlst RX7 rfl (by decide) rfl [(0, .int x0)] rfl (Nat.le_of_ble_eq_true rfl) ?_
  intro p e s m args below meth c hC hr hX
  generalize hAe : va_A ([] : va_W) sz = A at hX ⊢
  unfold pX7_requireArgument at h
  refine v_iload_n hC dX7_requireArgument_0 rfl 0 rfl rfl ?_
  refine v_if_ne hC (tgt := 14) dX7_requireArgument_1 (by decide) rfl (fun c => ?_) (fun c => ?_)
  · have h := ite_f c h
    obtain rfl := Option.some.inj h
    exact v_vrX hC hr rfl rfl ⟨Nat.zero_le _, Nat.zero_le _⟩ dX7_requireArgument_14
  · have h := ite_t c h
    obtain rfl := Option.some.inj h
    intro H locs ls hD hP hS hl
    obtain ⟨h1, h2⟩ := hX.2.1.1.1 0 (by decide)
    have h3 := hX.2.1.1.2
    exact vx_throwS (cls := "java/lang/IllegalArgumentException") (names := ["java/lang/RuntimeException", "java/lang/Exception"]) (text := eTx 0) (ik := 228) (is := eIx 0) (ic := 232) (sa := sa 0) hC.1 hC.2.1 hX.1 hC.2.2.2.1 (by decide +kernel) (by decide +kernel) (hC.2.2.2.2.1 _ (List.mem_cons_of_mem _ (List.mem_append_left _ List.mem_cons_self))) (hC.2.2.2.2.1 _ (List.mem_cons_of_mem _ (List.mem_append_left _ (List.mem_cons_of_mem _ List.mem_cons_self)))) h2
      (vx_hat (fun w hw => hC.2.2.2.2.1 w (List.mem_cons_of_mem _ (List.mem_append_right _ hw))) (by decide +kernel) (vx_c (w := .declares (Bundle.initS "java/lang/RuntimeException")) (va_Nw.use rfl (h3 _ (by decide))) (vx_c (w := .declares (Bundle.initS "java/lang/Exception")) (va_Nw.use rfl (h3 _ (by decide))) (vx_c (w := .declares (Bundle.initS Bundle.tN)) (va_Nw.use rfl (h3 _ (by decide))) (vx_c (va_Nw.use rfl h1) vx_n))))) (by decide +kernel) hX.2.1.2.1.1 hX.2.1.2.1.2 hS (hl.1.trans hC.2.2.1.symm) dX7_requireArgument_4 dX7_requireArgument_7 dX7_requireArgument_8 dX7_requireArgument_10 dX7_requireArgument_13 (fun x h => (hX.2.2.2 x h).elim)
      (Nat.le_of_ble_eq_true rfl) (Nat.le_of_ble_eq_true rfl) (Nat.le_of_ble_eq_true rfl) (Nat.le_of_ble_eq_true rfl) hC.2.2.2.2.2.1
      (fun t hvm hz hk => ⟨0, rfl, ⟨rfl, fun i q hq => by simp at hq⟩, ⟨by show s.heap.size ≤ t.heap.size; exact Nat.le_trans hS.1 hz, fun q h3 h4 => (hk q (Nat.lt_of_lt_of_le h3 hS.1)).trans (hS.2.1 q h3 h4)⟩⟩) hS.2.2 (Nat.le_of_ble_eq_true rfl) (Nat.le_of_ble_eq_true rfl)
def pX7_requireState (x0 : Int32) : Option (Sum Nat Unit) := if x0 = 0 then some (.inl 1) else some (.inr ())
abbrev rmX7_requireState : Room := { frames := 6, cells := 1, slots := 6, locals := 90 }
set_option maxHeartbeats 4000000 in
theorem mX7_requireState (l : Launch) (hlst : l.stackTraces = false) (g : va_G) (cy : Nat → ClassId) (tt sa : Nat → Nat) (sz : Nat) (x0 : Int32) {res : Sum Nat Unit} (h : pX7_requireState x0 = some res) : vx_Met l yX7_requireState wsX7_requireState rmX7_requireState (PE [.int x0] g cy tt sa sz []) (QXv g (va_A [] sz) res (fun _ => [])) (XX g (va_A [] sz) res []) 1 6 (va_A [] sz) := by
  refine m_ofVX (cc := cX7_requireState) (nL := 1) (ret := none) hlst RX7 rfl (by decide) rfl [(0, .int x0)] rfl (Nat.le_of_ble_eq_true rfl) ?_
  intro p e s m args below meth c hC hr hX
  generalize hAe : va_A ([] : va_W) sz = A at hX ⊢
  unfold pX7_requireState at h
  refine v_iload_n hC dX7_requireState_0 rfl 0 rfl rfl ?_
  refine v_if_ne hC (tgt := 14) dX7_requireState_1 (by decide) rfl (fun c => ?_) (fun c => ?_)
  · have h := ite_f c h
    obtain rfl := Option.some.inj h
    exact v_vrX hC hr rfl rfl ⟨Nat.zero_le _, Nat.zero_le _⟩ dX7_requireState_14
  · have h := ite_t c h
    obtain rfl := Option.some.inj h
    intro H locs ls hD hP hS hl
    obtain ⟨h1, h2⟩ := hX.2.1.1.1 1 (by decide)
    have h3 := hX.2.1.1.2
    exact vx_throwS (cls := "java/lang/IllegalStateException") (names := ["java/lang/RuntimeException", "java/lang/Exception"]) (text := eTx 1) (ik := 235) (is := eIx 1) (ic := 239) (sa := sa 1) hC.1 hC.2.1 hX.1 hC.2.2.2.1 (by decide +kernel) (by decide +kernel) (hC.2.2.2.2.1 _ (List.mem_cons_of_mem _ (List.mem_append_left _ List.mem_cons_self))) (hC.2.2.2.2.1 _ (List.mem_cons_of_mem _ (List.mem_append_left _ (List.mem_cons_of_mem _ List.mem_cons_self)))) h2
      (vx_hat (fun w hw => hC.2.2.2.2.1 w (List.mem_cons_of_mem _ (List.mem_append_right _ hw))) (by decide +kernel) (vx_c (w := .declares (Bundle.initS "java/lang/RuntimeException")) (va_Nw.use rfl (h3 _ (by decide))) (vx_c (w := .declares (Bundle.initS "java/lang/Exception")) (va_Nw.use rfl (h3 _ (by decide))) (vx_c (w := .declares (Bundle.initS Bundle.tN)) (va_Nw.use rfl (h3 _ (by decide))) (vx_c (va_Nw.use rfl h1) vx_n))))) (by decide +kernel) hX.2.1.2.1.1 hX.2.1.2.1.2 hS (hl.1.trans hC.2.2.1.symm) dX7_requireState_4 dX7_requireState_7 dX7_requireState_8 dX7_requireState_10 dX7_requireState_13 (fun x h => (hX.2.2.2 x h).elim)
      (Nat.le_of_ble_eq_true rfl) (Nat.le_of_ble_eq_true rfl) (Nat.le_of_ble_eq_true rfl) (Nat.le_of_ble_eq_true rfl) hC.2.2.2.2.2.1
      (fun t hvm hz hk => ⟨1, rfl, ⟨rfl, fun i q hq => by simp at hq⟩, ⟨by show s.heap.size ≤ t.heap.size; exact Nat.le_trans hS.1 hz, fun q h3 h4 => (hk q (Nat.lt_of_lt_of_le h3 hS.1)).trans (hS.2.1 q h3 h4)⟩⟩) hS.2.2 (Nat.le_of_ble_eq_true rfl) (Nat.le_of_ble_eq_true rfl)
def pX7_requireIndex (x0 : Int32) : Option (Sum Nat Unit) := if x0 = 0 then some (.inl 2) else some (.inr ())
abbrev rmX7_requireIndex : Room := { frames := 6, cells := 1, slots := 6, locals := 90 }
set_option maxHeartbeats 4000000 in
theorem mX7_requireIndex (l : Launch) (hlst : l.stackTraces = false) (g : va_G) (cy : Nat → ClassId) (tt sa : Nat → Nat) (sz : Nat) (x0 : Int32) {res : Sum Nat Unit} (h : pX7_requireIndex x0 = some res) : vx_Met l yX7_requireIndex wsX7_requireIndex rmX7_requireIndex (PE [.int x0] g cy tt sa sz []) (QXv g (va_A [] sz) res (fun _ => [])) (XX g (va_A [] sz) res []) 1 6 (va_A [] sz) := by
  refine m_ofVX (cc := cX7_requireIndex) (nL := 1) (ret := none) hlst RX7 rfl (by decide) rfl [(0, .int x0)] rfl (Nat.le_of_ble_eq_true rfl) ?_
  intro p e s m args below meth c hC hr hX
  generalize hAe : va_A ([] : va_W) sz = A at hX ⊢
  unfold pX7_requireIndex at h
  refine v_iload_n hC dX7_requireIndex_0 rfl 0 rfl rfl ?_
  refine v_if_ne hC (tgt := 14) dX7_requireIndex_1 (by decide) rfl (fun c => ?_) (fun c => ?_)
  · have h := ite_f c h
    obtain rfl := Option.some.inj h
    exact v_vrX hC hr rfl rfl ⟨Nat.zero_le _, Nat.zero_le _⟩ dX7_requireIndex_14
  · have h := ite_t c h
    obtain rfl := Option.some.inj h
    intro H locs ls hD hP hS hl
    obtain ⟨h1, h2⟩ := hX.2.1.1.1 2 (by decide)
    have h3 := hX.2.1.1.2
    exact vx_throwS (cls := "java/lang/IndexOutOfBoundsException") (names := ["java/lang/RuntimeException", "java/lang/Exception"]) (text := eTx 2) (ik := 240) (is := eIx 2) (ic := 244) (sa := sa 2) hC.1 hC.2.1 hX.1 hC.2.2.2.1 (by decide +kernel) (by decide +kernel) (hC.2.2.2.2.1 _ (List.mem_cons_of_mem _ (List.mem_append_left _ List.mem_cons_self))) (hC.2.2.2.2.1 _ (List.mem_cons_of_mem _ (List.mem_append_left _ (List.mem_cons_of_mem _ List.mem_cons_self)))) h2
      (vx_hat (fun w hw => hC.2.2.2.2.1 w (List.mem_cons_of_mem _ (List.mem_append_right _ hw))) (by decide +kernel) (vx_c (w := .declares (Bundle.initS "java/lang/RuntimeException")) (va_Nw.use rfl (h3 _ (by decide))) (vx_c (w := .declares (Bundle.initS "java/lang/Exception")) (va_Nw.use rfl (h3 _ (by decide))) (vx_c (w := .declares (Bundle.initS Bundle.tN)) (va_Nw.use rfl (h3 _ (by decide))) (vx_c (va_Nw.use rfl h1) vx_n))))) (by decide +kernel) hX.2.1.2.1.1 hX.2.1.2.1.2 hS (hl.1.trans hC.2.2.1.symm) dX7_requireIndex_4 dX7_requireIndex_7 dX7_requireIndex_8 dX7_requireIndex_10 dX7_requireIndex_13 (fun x h => (hX.2.2.2 x h).elim)
      (Nat.le_of_ble_eq_true rfl) (Nat.le_of_ble_eq_true rfl) (Nat.le_of_ble_eq_true rfl) (Nat.le_of_ble_eq_true rfl) hC.2.2.2.2.2.1
      (fun t hvm hz hk => ⟨2, rfl, ⟨rfl, fun i q hq => by simp at hq⟩, ⟨by show s.heap.size ≤ t.heap.size; exact Nat.le_trans hS.1 hz, fun q h3 h4 => (hk q (Nat.lt_of_lt_of_le h3 hS.1)).trans (hS.2.1 q h3 h4)⟩⟩) hS.2.2 (Nat.le_of_ble_eq_true rfl) (Nat.le_of_ble_eq_true rfl)
abbrev rmX7_slotOf : Room := { frames := 0, cells := 0, slots := 0, locals := 0 }
theorem kX7_slotOf_29 : Cond.fieldLink RX7 29 "CrowdFaces" "firstSlot" "LCrowdFaces$Slot;" ∈ wsX7_slotOf := by decide +kernel
theorem kX7_slotOf_33 : Cond.fieldLink RX7 33 "CrowdFaces" "secondSlot" "LCrowdFaces$Slot;" ∈ wsX7_slotOf := by decide +kernel
theorem iX7_slotOf_X7 : ∀ w ∈ wsX70, w ∈ wsX7_slotOf := by decide +kernel
theorem mX7_slotOf (l : Launch) (g : va_G) (cy : Nat → ClassId) (h0 f0 t0 g0 k1 k2 w0 : Nat) (x1 : Int32) {r : Nat} (h : (if x1 = 0 then k1 else k2) = r) : Met l yX7_slotOf wsX7_slotOf rmX7_slotOf (PW [.ref h0, .int x1] g cy [(h0, .inr (5, [.ref f0, .ref t0, .ref g0, .ref k1, .ref k2, .ref w0]))]) (QRa r) 0 0 nF := by
  refine m_ofV (cc := cX7_slotOf) (nL := 2) (ret := some (.object "CrowdFaces$Slot")) (B := fun _ => True) RX7 rfl (by decide) rfl [(0, .ref h0), (1, .int x1)] rfl (Nat.le_of_ble_eq_true rfl) (fun h => h) ?_
  intro p e s m args below meth c hC hr
  refine v_iload_n hC dX7_slotOf_0 rfl 1 rfl rfl ?_
  refine v_if_ne hC (tgt := 11) dX7_slotOf_1 (by decide) rfl (fun c => ?_) (fun c => ?_)
  · refine v_aload_n hC dX7_slotOf_11 rfl 0 rfl rfl ?_
    refine v_get hC iX7_slotOf_X7 0 rfl rfl 4 (by decide) kX7_slotOf_33 rfl rfl dX7_slotOf_12 rfl ?_
    exact v_art hC hr (Or.inl ⟨_, rfl⟩) (ite_f c h) dX7_slotOf_15
  · refine v_aload_n hC dX7_slotOf_4 rfl 0 rfl rfl ?_
    refine v_get hC iX7_slotOf_X7 0 rfl rfl 3 (by decide) kX7_slotOf_29 rfl rfl dX7_slotOf_5 rfl ?_
    refine v_goto hC (tgt := 15) dX7_slotOf_8 (by decide) ?_
    exact v_art hC hr (Or.inl ⟨_, rfl⟩) (ite_t c h) dX7_slotOf_15

/-! ===== rows for the law and its helpers: worlds by membership ===== -/
/-- of the world ws the cells wc go into a call and wc' come out: ws' stands behind it -/
def WR (ws wc wc' ws' : va_W) : Prop := (ws.map Prod.fst).Nodup → (∀ q ∈ wc, q ∈ ws) ∧ (wc.map Prod.fst).Nodup ∧ ws'.map Prod.fst = ws.map Prod.fst ∧ ∀ q ∈ ws', q ∈ wc' ∨ (q ∈ ws ∧ ∀ z ∈ wc, z.1 ≠ q.1)
theorem WR.sel {X Y TT : va_W} (bs : List Bool) (hY : Y.map Prod.fst = (wsel bs X).map Prod.fst) : WR (X ++ TT) (wsel bs X) Y (wput bs X Y ++ TT) := by
  intro hnd
  have hnd0 := hnd
  rw [List.map_append, List.nodup_append] at hnd
  obtain ⟨hnX, hnT, hxt⟩ := hnd
  obtain ⟨i1, i2⟩ := wput_mem bs X Y hnX hY
  have hdis : ∀ x ∈ X, ∀ z ∈ TT, x.1 ≠ z.1 := fun x hx z hz => hxt x.1 (List.mem_map.mpr ⟨x, hx, rfl⟩) z.1 (List.mem_map.mpr ⟨z, hz, rfl⟩)
  have hselX : ∀ q ∈ wsel bs X, q ∈ X := fun q hq => (wsel_sub bs X).subset hq
  have hsubl : (wsel bs X).Sublist (X ++ TT) := (wsel_sub bs X).trans (List.sublist_append_left X TT)
  refine ⟨fun q hq => hsubl.subset hq, (hsubl.map Prod.fst).nodup hnd0, by rw [List.map_append, List.map_append, i1], fun q hq => ?_⟩
  rcases List.mem_append.mp hq with h | h
  · rcases i2 q h with h | ⟨h1, h2⟩
    · exact Or.inl h
    · exact Or.inr ⟨List.mem_append_left _ h1, h2⟩
  · exact Or.inr ⟨List.mem_append_right _ h, fun z hz => hdis z (hselX z hz) q h⟩
theorem WR.selH {cy : Nat → ClassId} {AD : Nat → Nat → Nat} {RD RD2 : Nat → Nat → Nat → Int32} {X Y : va_W} (bs : List Bool) (hY : Y.map Prod.fst = (wsel bs X).map Prod.fst) : WR (X ++ HF cy AD RD) (wsel bs X ++ HF cy AD RD) (Y ++ HF cy AD RD2) (wput bs X Y ++ HF cy AD RD2) := by
  intro hnd
  have hnd0 := hnd
  rw [List.map_append, List.nodup_append] at hnd
  obtain ⟨hnX, hnT, hxt⟩ := hnd
  obtain ⟨i1, i2⟩ := wput_mem bs X Y hnX hY
  have hdis : ∀ x ∈ X, ∀ z ∈ HF cy AD RD, x.1 ≠ z.1 := fun x hx z hz => hxt x.1 (List.mem_map.mpr ⟨x, hx, rfl⟩) z.1 (List.mem_map.mpr ⟨z, hz, rfl⟩)
  have hsubl : (wsel bs X ++ HF cy AD RD).Sublist (X ++ HF cy AD RD) := (wsel_sub bs X).append (List.Sublist.refl _)
  refine ⟨fun q hq => hsubl.subset hq, (hsubl.map Prod.fst).nodup hnd0, by rw [List.map_append, List.map_append, i1, HF_fst (RD := RD2) (RD2 := RD)], fun q hq => ?_⟩
  rcases List.mem_append.mp hq with h | h
  · rcases i2 q h with h | ⟨h1, h2⟩
    · exact Or.inl (List.mem_append_left _ h)
    · refine Or.inr ⟨List.mem_append_left _ h1, fun z hz => ?_⟩
      rcases List.mem_append.mp hz with h3 | h3
      · exact h2 z h3
      · exact fun e => hdis q h1 z h3 e.symm
  · exact Or.inl (List.mem_append_right _ h)
theorem WR.cons {z : Nat × va_E} {wc wc' : va_W} (hY : wc'.map Prod.fst = wc.map Prod.fst) : WR (z :: wc) wc wc' (z :: wc') := by
  intro hnd
  rw [List.map_cons, List.nodup_cons] at hnd
  refine ⟨fun q hq => List.mem_cons_of_mem _ hq, hnd.2, by rw [List.map_cons, List.map_cons, hY], fun q hq => ?_⟩
  rcases List.mem_cons.mp hq with h | h
  · subst h
    exact Or.inr ⟨List.mem_cons_self, fun x hx e => hnd.1 (List.mem_map.mpr ⟨x, hx, e⟩)⟩
  · exact Or.inl h
theorem WR.stay {ws wc wc' ws' : va_W} (h : WR ws wc wc' ws') : WR ws wc wc ws := fun hn => ⟨(h hn).1, (h hn).2.1, rfl, fun q hq => by
  by_cases h9 : ∃ z ∈ wc, z.1 = q.1
  · obtain ⟨z, hz, e9⟩ := h9
    exact Or.inl ((nd_inj hn ((h hn).1 z hz) hq e9) ▸ hz)
  · exact Or.inr ⟨hq, fun z hz e9 => h9 ⟨z, hz, e9⟩⟩⟩
theorem WR.inA {A : Nat → Prop} {ws wc wc' ws' : va_W} (h : WR ws wc wc' ws') (hD : va_D A ws) : ∀ q, wA wc q → A q := fun q hq => by
  obtain ⟨z, hz, e⟩ := wA.mem.mp hq
  rw [← e]
  exact hD.memB ((h hD.nodup).1 z hz)
theorem WR.after {g : va_G} {B : Nat → Prop} {ws wc wc' ws' : va_W} {H H1 : Heap} (h : WR ws wc wc' ws') (hD : va_D B ws) (hP : va_P g vwCl ws H) (hP1 : va_P g vwCl wc' H1) (hk : ∀ q : Nat, q < H.size → ¬ wA wc q → H1[q]? = H[q]?) : va_P g vwCl ws' H1 ∧ va_D B ws' :=
  v_repM (h hD.nodup).2.2.1 (h hD.nodup).2.2.2 hD hP hP1 hk
theorem WR.afterA {g : va_G} {B : Nat → Prop} {ws wc wc' ws' : va_W} {H H1 : Heap} (h : WR ws wc wc' ws') (hD : va_D B ws) (hP : va_P g vwCl ws H) (hP1 : va_P g vwCl wc' H1) (hk : ∀ q : Nat, q < H.size → ¬ va_A wc H.size q → H1[q]? = H[q]?) : va_P g vwCl ws' H1 ∧ va_D B ws' :=
  h.after hD hP hP1 (fun q h1 h2 => hk q h1 (fun h3 => by
    rcases h3 with h3 | h3
    · exact h2 h3
    · omega))
/-- exceptions that a handler of another kind does not take -/
def NCx (U : State) : Prop := va_Nc (eNm 1) (eNm 0) U ∧ va_Nc (eNm 0) (eNm 2) U ∧ va_Nc (eNm 1) (eNm 2) U
theorem NCx.moved {u U : State} (hvm : u.vm.Alike U.vm) (h : NCx u) : NCx U := ⟨h.1.moved hvm, h.2.1.moved hvm, h.2.2.moved hvm⟩
def PN (av : List Value) (g : va_G) (cy : Nat → ClassId) (tt sa : Nat → Nat) (sz : Nat) (ws : va_W) : Array Value → State → Prop := va_Pc av (fun U => U.heap.size = sz ∧ (va_P g vwCl ws U.heap ∧ va_K g vwCl (tyL cy) U ∧ va_D (fun _ => True) ws ∧ NX U) ∧ EV tt sa (wA ws) U U.heap ∧ NCx U)
theorem PN.blind {av : List Value} {g : va_G} {cy : Nat → ClassId} {tt sa : Nat → Nat} {sz : Nat} {ws : va_W} : FrameBlind (PN av g cy tt sa sz ws) := fun a U fr mk h => by
  obtain ⟨q0, qs, ⟨qP, qK, qD, qN⟩, qT, qC⟩ := h
  exact ⟨q0, qs, ⟨qP, va_K.moved (u := U) (U := U.calling fr mk a) (Vm.Alike.refl U.vm) qK, qD, NX.same (u := U) (U := U.calling fr mk a) rfl qN⟩, EV.same (u := U) (U := U.calling fr mk a) rfl qT, NCx.moved (u := U) (U := U.calling fr mk a) (Vm.Alike.refl U.vm) qC⟩
def XL (l : Launch) (s : State) (tt sa : Nat → Nat) (A : Nat → Prop) : Prop := l.stackTraces = false ∧ EV tt sa A s s.heap ∧ (∀ q, s.heap.size ≤ q → A q) ∧ NCx s
section LROWS
variable {p : Program} {l : Launch} {e : Env} {R : Room} {s : State} {m : MethodId} {args : Array Value} {below : List Frame} {meth : Method} {c : Code} {cells slots : Nat} {Q : State → Prop}
variable {g : va_G} {cy : Nat → ClassId} {nL : Nat} {cc : ByteArray} {Ts : List Cond} {own : String} {A B : Nat → Prop} {ws : va_W} {pc pc' : Nat} {lv lv' : List (Nat × Value)} {st : List Value} {tt sa : Nat → Nat}
theorem l_startW {av : List Value} {wc wc' ws' : va_W} (hC : CX p s m args meth c g cy nL cc Ts own) (hW : WR ws wc wc' ws') {H : Heap} (hD : va_D A ws) (hP : va_P g vwCl ws H) (U : State) (hU : U.heap = H) (hWm : s.WarmedH U.vm) : PW av g cy wc av.toArray U :=
  v_startM (B := A) hC (fun q hq => (hW hD.nodup).1 q hq) (hW hD.nodup).2.1 hP U hU hWm
theorem l_startE {av : List Value} {wc wc' ws' : va_W} (hC : CX p s m args meth c g cy nL cc Ts own) (hX : XL l s tt sa A) {locs : List Loc} (hW : WR ws wc wc' ws') {H : Heap} (hD : va_D A ws) (hP : va_P g vwCl ws H) (hS : va_S A s.heap H locs) (U : State) (hU : U.heap = H) (hWm : s.WarmedH U.vm) : PE av g cy tt sa H.size wc av.toArray U :=
  ⟨rfl, by rw [hU], (l_startW (av := av) hC hW hD hP U hU hWm).2, by rw [hU]; exact ((hX.2.1.stay hS).narrow (hW.inA hD)).warm hWm⟩
theorem l_startN {av : List Value} {wc wc' ws' : va_W} (hC : CX p s m args meth c g cy nL cc Ts own) (hX : XL l s tt sa A) {locs : List Loc} (hW : WR ws wc wc' ws') {H : Heap} (hD : va_D A ws) (hP : va_P g vwCl ws H) (hS : va_S A s.heap H locs) (U : State) (hU : U.heap = H) (hWm : s.WarmedH U.vm) : PN av g cy tt sa H.size wc av.toArray U :=
  ⟨rfl, by rw [hU], (l_startW (av := av) hC hW hD hP U hU hWm).2, by rw [hU]; exact ((hX.2.1.stay hS).narrow (hW.inA hD)).warm hWm, hX.2.2.2.moved hWm.alike⟩
theorem l_startT {av : List Value} {wc wc' ws' : va_W} (hC : CX p s m args meth c g cy nL cc Ts own) (hX : XL l s tt sa A) {locs : List Loc} (hW : WR ws wc wc' ws') {H : Heap} (hD : va_D A ws) (hP : va_P g vwCl ws H) (hS : va_S A s.heap H locs) (U : State) (hU : U.heap = H) (hWm : s.WarmedH U.vm) : PWT av g cy tt wc av.toArray U :=
  ⟨rfl, (l_startW (av := av) hC hW hD hP U hU hWm).2, by rw [hU]; exact ((hX.2.1.2.2.stay hS).narrow (fun _ h => h.elim)).warm hWm⟩
/-- an instance method that answers an int and leaves a world, making nothing -/
theorem l_callV (hC : CX p s m args meth c g cy nL cc Ts own) {y : MethodName} {bytes : ByteArray} {maxL n index : Nat} {ret : Option FieldType} {wy wy' : List Cond} {rm : Room} {As : List Value} {b ci N : Nat} {fs : List Value} {C : String} {T : u_T} {stk : List Value} {wc wc' ws' : va_W} {r : Int32} (hM : Met l y wy rm (PW (.ref b :: As) g cy wc) (QWi g (wA wc) r wc') 0 0 (wA wc)) (hW : WR ws wc wc' ws') (hG : GoodIn Ts (wsV own index C y wy)) (hw : wy = Cond.code y bytes maxL ret :: wy') (hrc : rm.cells = 0) (hrs : rm.slots = 0) (hy : y.cls = C ∧ y.cls ≠ "java/lang/invoke/MethodHandle" ∧ y.cls ≠ "java/lang/invoke/VarHandle" ∧ (parseMethodDescriptor y.desc).map (fun d => d.parameters.length) = some n) (hR : rm.frames + 1 ≤ R.frames ∧ 8 + (maxL + 11) + rm.locals ≤ R.locals) (qb : Nat) (hb : ws[qb]? = some (b, .inr (ci, fs))) (hc : vwCl[ci]? = some (C, T, N)) (hstk : stk = As.reverse ++ .ref b :: st) (hst : (st.map fun v => v.category).sum ≤ 8) (hn : As.length = n) (hf : cells + 0 ≤ R.cells ∧ slots + 0 ≤ R.slots) (hd : decode cc pc = .ok (.invokevirtual index, 3)) (hp : pc + 3 = pc') (k : V p l e R s m args below meth c g nL cells slots Q A A ws' pc' lv (.int r :: st)) : V p l e R s m args below meth c g nL cells slots Q A A ws pc lv stk := by
  subst hp
  intro H locs ls hD hP hS hl
  exact va_calli (va_runV (As := As) (rest := st) hC.fix hM (cwV n hC.2.2.2.2.1 hG hw hrc hrs hy hR) ⟨PW.blind, va_recv hC.2.2.2.2.2.2.1 hP hc hb, fun U hU hWm => l_startW hC hW hD hP U hU hWm⟩ rfl hn hl.1 hstk (lv_room hst) hd hf) hS (fun q _ h => hW.inA hD q h) (hW.inA hD) (fun x _ t H1 locs1 ht hvm hx hB hz hk hS1 => by
    subst hx
    rw [ht] at hB
    obtain ⟨hP1, hD1⟩ := hW.after hD hP hB hk
    exact k H1 locs1 ls hD1 hP1 hS1 hl)
/-- an instance method that only answers an int -/
theorem l_callR (hC : CX p s m args meth c g cy nL cc Ts own) {y : MethodName} {bytes : ByteArray} {maxL n index : Nat} {ret : Option FieldType} {wy wy' : List Cond} {rm : Room} {As : List Value} {b ci N : Nat} {fs : List Value} {C : String} {T : u_T} {stk : List Value} {wc wc' ws' : va_W} {r : Int32} (hM : Met l y wy rm (PW (.ref b :: As) g cy wc) (QRi r) 0 0 nF) (hW : WR ws wc wc' ws') (hG : GoodIn Ts (wsV own index C y wy)) (hw : wy = Cond.code y bytes maxL ret :: wy') (hrc : rm.cells = 0) (hrs : rm.slots = 0) (hy : y.cls = C ∧ y.cls ≠ "java/lang/invoke/MethodHandle" ∧ y.cls ≠ "java/lang/invoke/VarHandle" ∧ (parseMethodDescriptor y.desc).map (fun d => d.parameters.length) = some n) (hR : rm.frames + 1 ≤ R.frames ∧ 8 + (maxL + 11) + rm.locals ≤ R.locals) (qb : Nat) (hb : ws[qb]? = some (b, .inr (ci, fs))) (hc : vwCl[ci]? = some (C, T, N)) (hstk : stk = As.reverse ++ .ref b :: st) (hst : (st.map fun v => v.category).sum ≤ 8) (hn : As.length = n) (hf : cells + 0 ≤ R.cells ∧ slots + 0 ≤ R.slots) (hd : decode cc pc = .ok (.invokevirtual index, 3)) (hp : pc + 3 = pc') (k : V p l e R s m args below meth c g nL cells slots Q A A ws pc' lv (.int r :: st)) : V p l e R s m args below meth c g nL cells slots Q A A ws pc lv stk := by
  subst hp
  intro H locs ls hD hP hS hl
  exact v_ro k hD hP hS hl (va_runV (As := As) (rest := st) hC.fix hM (cwV n hC.2.2.2.2.1 hG hw hrc hrs hy hR) ⟨PW.blind, va_recv hC.2.2.2.2.2.2.1 hP hc hb, fun U hU hWm => l_startW hC hW hD hP U hU hWm⟩ rfl hn hl.1 hstk (lv_room hst) hd hf)
theorem l_callT (hC : CX p s m args meth c g cy nL cc Ts own) (hX : XL l s tt sa A) {y : MethodName} {bytes : ByteArray} {maxL n index : Nat} {ret : Option FieldType} {wy wy' : List Cond} {rm : Room} {As : List Value} {b ci N : Nat} {fs : List Value} {C : String} {T : u_T} {stk : List Value} {wc wc' ws' : va_W} {r : Int32} (hM : Met l y wy rm (PWT (.ref b :: As) g cy tt wc) (QRi r) 0 0 nF) (hW : WR ws wc wc' ws') (hG : GoodIn Ts (wsV own index C y wy)) (hw : wy = Cond.code y bytes maxL ret :: wy') (hrc : rm.cells = 0) (hrs : rm.slots = 0) (hy : y.cls = C ∧ y.cls ≠ "java/lang/invoke/MethodHandle" ∧ y.cls ≠ "java/lang/invoke/VarHandle" ∧ (parseMethodDescriptor y.desc).map (fun d => d.parameters.length) = some n) (hR : rm.frames + 1 ≤ R.frames ∧ 8 + (maxL + 11) + rm.locals ≤ R.locals) (qb : Nat) (hb : ws[qb]? = some (b, .inr (ci, fs))) (hc : vwCl[ci]? = some (C, T, N)) (hstk : stk = As.reverse ++ .ref b :: st) (hst : (st.map fun v => v.category).sum ≤ 8) (hn : As.length = n) (hf : cells + 0 ≤ R.cells ∧ slots + 0 ≤ R.slots) (hd : decode cc pc = .ok (.invokevirtual index, 3)) (hp : pc + 3 = pc') (k : V p l e R s m args below meth c g nL cells slots Q A A ws pc' lv (.int r :: st)) : V p l e R s m args below meth c g nL cells slots Q A A ws pc lv stk := by
  subst hp
  intro H locs ls hD hP hS hl
  exact v_ro k hD hP hS hl (va_runV (As := As) (rest := st) hC.fix hM (cwV n hC.2.2.2.2.1 hG hw hrc hrs hy hR) ⟨PWT.blind, va_recv hC.2.2.2.2.2.2.1 hP hc hb, fun U hU hWm => l_startT hC hX hW hD hP hS U hU hWm⟩ rfl hn hl.1 hstk (lv_room hst) hd hf)
/-- a helper of the law: it answers an int and leaves a world, and may make some cells -/
theorem l_callS (hC : CX p s m args meth c g cy nL cc Ts own) (hX : XL l s tt sa A) {y : MethodName} {bytes : ByteArray} {maxL n index mc1 ms1 : Nat} {ret : Option FieldType} {hh : List (Nat × Nat × Nat × Nat)} {wy wy' : List Cond} {rm : Room} {As : List Value} {stk : List Value} {wc wc' ws' : va_W} {r : Int32} (hM : ∀ sz, Met l y wy rm (PN As g cy tt sa sz wc) (QWi g (va_A wc sz) r wc') mc1 ms1 (va_A wc sz)) (hW : WR ws wc wc' ws') (hG : GoodIn Ts (va_wsS own index y wy)) (hw : wy = Cond.codeWith y bytes maxL ret hh :: wy') (hrc : rm.cells = mc1) (hrs : rm.slots = ms1) (hy : y.cls ≠ "java/lang/invoke/MethodHandle" ∧ y.cls ≠ "java/lang/invoke/VarHandle" ∧ (parseMethodDescriptor y.desc).map (fun d => d.parameters.length) = some n) (hR : rm.frames + 1 ≤ R.frames ∧ 8 + (maxL + 11) + rm.locals ≤ R.locals) (hstk : stk = As.reverse ++ st) (hst : (st.map fun v => v.category).sum ≤ 8) (hn : As.length = n) (hf : cells + mc1 ≤ R.cells ∧ slots + ms1 ≤ R.slots) (hd : decode cc pc = .ok (.invokestatic index, 3)) (hp : pc + 3 = pc') (k : V p l e R s m args below meth c g nL (cells + mc1) (slots + ms1) Q A A ws' pc' lv (.int r :: st)) : V p l e R s m args below meth c g nL cells slots Q A A ws pc lv stk := by
  subst hp
  intro H locs ls hD hP hS hl
  have hin : ∀ q, va_A wc H.size q → A q := fun q h => by
    rcases h with h | h
    · exact hW.inA hD q h
    · exact hX.2.2.1 q (Nat.le_trans hS.1 h)
  exact va_calli (vx_runSW (As := As) (rest := st) hC.fix (hM H.size) (vx_cwSW n hC.2.2.2.2.1 hG hw hrc hrs hy hR) ⟨PN.blind, fun U hU hWm => l_startN hC hX hW hD hP hS U hU hWm⟩ rfl hn hl.1 hstk (lv_room hst) hd hf) hS (fun q _ h => hin q h) hin (fun x _ t H1 locs1 ht hvm hx hB hz hk hS1 => by
    subst hx
    rw [ht] at hB
    obtain ⟨hP1, hD1⟩ := hW.afterA hD hP hB hk
    exact k H1 locs1 ls hD1 hP1 hS1 hl)
/-- a method that may throw, called under handlers -/
theorem l_callX (hC : CX p s m args meth c g cy nL cc Ts own) (hX : XL l s tt sa A) {y : MethodName} {bytes : ByteArray} {maxL n index mc1 ms1 : Nat} {ret : Option FieldType} {wy wy' : List Cond} {rm : Room} {As : List Value} {b ci N : Nat} {fs : List Value} {C : String} {T : u_T} {stk : List Value} {wc wc' ws' : va_W} {RES : Type} {res : Sum Nat RES} {f : RES → Int32} {Wf : RES → va_W} (hM : ∀ sz, vx_Met l y wy rm (PE (.ref b :: As) g cy tt sa sz wc) (QXi g (va_A wc sz) res f Wf) (XX g (va_A wc sz) res wc) mc1 ms1 (va_A wc sz)) (hW : WR ws wc wc' ws') (hG : GoodIn Ts (wsV own index C y wy)) (hw : wy = Cond.code y bytes maxL ret :: wy') (hrc : rm.cells = mc1) (hrs : rm.slots = ms1) (hy : y.cls = C ∧ y.cls ≠ "java/lang/invoke/MethodHandle" ∧ y.cls ≠ "java/lang/invoke/VarHandle" ∧ (parseMethodDescriptor y.desc).map (fun d => d.parameters.length) = some n) (hR : rm.frames + 1 ≤ R.frames ∧ 8 + (maxL + 11) + rm.locals ≤ R.locals) (qb : Nat) (hb : ws[qb]? = some (b, .inr (ci, fs))) (hc : vwCl[ci]? = some (C, T, N)) (hstk : stk = As.reverse ++ .ref b :: st) (hst : (st.map fun v => v.category).sum ≤ 8) (hn : As.length = n) (hf : cells + mc1 ≤ R.cells ∧ slots + ms1 ≤ R.slots) (hd : decode cc pc = .ok (.invokevirtual index, 3)) (hp : pc + 3 = pc')
    (kr : ∀ u, res = .inr u → wc' = Wf u ∧ V p l e R s m args below meth c g nL (cells + mc1) (slots + ms1) Q A A ws' pc' lv (.int (f u) :: st))
    (kx : ∀ k, res = .inl k → k < 3 ∧ ∃ (pre : List ExceptionTableEntry) (x : ExceptionTableEntry) (suf : List ExceptionTableEntry), c.exceptionTable.toList = pre ++ x :: suf ∧ (∀ z ∈ pre, covers z pc = false ∨ (z.catchType ≠ 0 ∧ ∃ nm : String, (Cond.classLink own z.catchType nm).before args s = true ∧ va_Nc (eNm k) nm s)) ∧ covers x pc = true ∧ x.catchType ≠ 0 ∧ (Cond.classLink own x.catchType (eNm k)).before args s = true ∧ ∀ q : Nat, V p l e R s m args below meth c g nL (cells + mc1) (slots + ms1) Q A A ws x.handlerPc lv [.ref q]) : V p l e R s m args below meth c g nL cells slots Q A A ws pc lv stk := by
  subst hp
  intro H locs ls hD hP hS hl
  have hin : ∀ q, va_A wc H.size q → A q := fun q h => by
    rcases h with h | h
    · exact hW.inA hD q h
    · exact hX.2.2.1 q (Nat.le_trans hS.1 h)
  refine vx_calli (vx_runV (As := As) (rest := st) hC.fix (hM H.size) (cwV n hC.2.2.2.2.1 hG hw hrc hrs hy hR) ⟨PE.blind, va_recv hC.2.2.2.2.2.2.1 hP hc hb, fun U hU hWm => l_startE hC hX hW hD hP hS U hU hWm⟩ rfl hn hl.1 hstk (lv_room hst) hd hf) hS (fun q _ h => hin q h) hin (fun q _ h => hin q h) (fun E ce q9 k9 t H1 locs1 ht hvm hpx hB hz hk hS1 hc1 hc2 hc3 => ?_) (fun r u t H1 locs1 ht hvm hpost hB hz hk hS1 => ?_)
  · obtain ⟨hE, hB⟩ := hB
    rw [ht] at hB
    obtain ⟨hP1, hD1⟩ := hW.stay.afterA hD hP hB hk
    obtain ⟨hk3, pre, x, suf, h1, h2, h3, h4, h5, h6⟩ := kx k9 hpx
    subst hE
    exact vx_catch hC.2.2.2.1 pre x suf h1 h2 h3 h4 h5 ((hX.2.1.1.1 k9 hk3).1.use rfl) hc1 hc2 hc3 (h6 q9 H1 locs1 ls hD1 hP1 hS1 hl)
  · obtain ⟨hpost, hr⟩ := hpost
    subst hr
    obtain ⟨hw9, k9⟩ := kr u hpost
    have hB : va_P g vwCl (Wf u) t.heap := hB
    rw [ht, ← hw9] at hB
    obtain ⟨hP1, hD1⟩ := hW.afterA hD hP hB hk
    exact k9 H1 locs1 ls hD1 hP1 hS1 hl
end LROWS
/-- a helper's contract out of its walk -/
theorem m_ofVL {l : Launch} {y : MethodName} {Ts ws' : List Cond} {rm : Room} {cc : ByteArray} {nL : Nat} {ret : Option FieldType} {hh : List (Nat × Nat × Nat × Nat)} {av : List Value} {g : va_G} {cy : Nat → ClassId} {tt sa : Nat → Nat} {sz : Nat} {ws : va_W} {Qc : Array Value → State → Outcome → State → Prop} {mc ms : Nat} (hlst : l.stackTraces = false) (own : String) (ho : y.cls = own) (hy : plainName y.cls = true) (hw : Ts = Cond.codeWith y cc nL ret hh :: ws') (lv : List (Nat × Value)) (hlv : lv_args 0 av = lv) (hlen : (lg_sl av).length ≤ nL)
    (body : ∀ (p : Program) (e : Env) (s : State) (m : MethodId) (args : Array Value) (below : List Frame) (meth : Method) (c : Code), CX p s m args meth c g cy nL cc Ts own → meth.sig.returnType = ret → XL l s tt sa (va_A ws sz) → c.exceptionTable.toList = tableOf hh → V p l e (headSpec Ts rm).room s m args below meth c g nL 0 0 (MQ below Qc args s mc ms (va_A ws sz)) (va_A ws sz) (va_A ws sz) ws 0 lv []) : Met l y Ts rm (PN av g cy tt sa sz ws) Qc mc ms (va_A ws sz) := by
  refine MetFree.of_bodyS (code := cc) (maxLocals := nL) (ret := ret) hy ?_ ?_
  · intro args s m h hn
    obtain ⟨m9, meth, c, hn9, h1, h2, h3, h4, -, h5, h6, -⟩ := Cond.codeWith_spec (atoms_spec (ws := Ts) h _ (by rw [hw]; exact List.mem_cons_self))
    cases hn.symm.trans hn9
    exact ⟨meth, c, h1, h2, h3, h4, h5, h6⟩
  · intro p e s m args below meth c s₁ X hml hv _
    have hh0 : s₁.heap = s.heap := by rw [X.state]; rfl
    have hcw : (Cond.codeWith y cc nL ret hh).before args s = true := atoms_spec X.pre _ (by rw [hw]; exact List.mem_cons_self)
    have htab := vx_table (x := y) X hcw
    obtain ⟨rfl, hsz, ⟨hP, hK, hD0, hN⟩, hE, hNc⟩ := hv
    have hown : s.vm.findClass own = some m.cls := ho ▸ findClass_of_methodNamed X.named
    have hC : CX p s m av.toArray meth c g cy nL cc Ts own := ⟨X.exec, X.bytes, hml, hown, atoms_spec X.pre, X.notSynchronized, hK, hN⟩
    have hl := lv_entry av (n := nL) hlen
    rw [hlv] at hl
    have hX : XL l s tt sa (va_A ws sz) := ⟨hlst, hE.wide (fun a h1 h2 h3 => by
      rcases h3 with h3 | h3
      · exact h2 h3
      · omega), fun q h => Or.inr (by omega), hNc⟩
    have K : W p l e (headSpec Ts rm).room s m av.toArray below meth c s.heap [] 0 0 (MQ below Qc av.toArray s mc ms (va_A ws sz)) (entryFrame m av.toArray nL) := by
      rw [lg_entry_eq]
      exact body p e s m av.toArray below meth c hC X.returns hX htab s.heap [] _ (hD0.self) hP va_S.rf hl
    obtain ⟨t, a1, o, b1, b2, b3⟩ := K s₁ hh0 (Stand.of_body X)
    exact ⟨t, o, a1, b1, b2, b3⟩

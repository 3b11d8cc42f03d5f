/-! ===== the static rows of numbers behind a command's letter ===== -/
set_option maxRecDepth 4000
def fNm : Nat → String
  | 0 => "EXTRA_FIELDS"
  | 1 => "SCENE_FIELDS"
  | 2 => "SHOOT_FIELDS"
  | _ => "NO_FIELDS"
def fLn : Nat → Nat
  | 0 => 6
  | 1 => 15
  | 2 => 3
  | _ => 0
def fLs : Nat → List Nat
  | 0 => [1, 0, 4, 2, 0, 13]
  | 1 => [1, 0, 4, 1, 1, 6, 1, 0, 9, 1, 0, 3, 3, 10, 240]
  | 2 => [1, 0, 9]
  | _ => []
def fRw (k j : Nat) : Int32 := nI ((fLs k).getD j 0)
def fIx : Nat → Nat
  | 0 => 46
  | 1 => 50
  | 2 => 53
  | _ => 56
def SX (tt : Nat → Nat) (A : Nat → Prop) (U : State) (H : Heap) : Prop := ∀ k, k < 4 → va_Z "CrowdFaces" (fNm k) "[I" (.ref (tt k)) A U H ∧ va_T .int (tt k) (fLn k) (fun j => .int (fRw k j)) A U H ∧ va_Nw (.fieldLinkNest RX6 (fIx k) "CrowdFaces" (fNm k) "[I" "CrowdFaces") U
theorem SX.warm {tt : Nat → Nat} {A : Nat → Prop} {s U : State} {H : Heap} (hW : s.WarmedH U.vm) (h : SX tt A s H) : SX tt A U H := fun k hk => ⟨va_Z.moved hW.alike (h k hk).1, va_T.moved hW.alike (h k hk).2.1, va_Nw.warmF hW (h k hk).2.2⟩
theorem SX.same {tt : Nat → Nat} {A : Nat → Prop} {u U : State} {H : Heap} (e : u.vm = U.vm) (h : SX tt A u H) : SX tt A U H := fun k hk => ⟨va_Z.moved (by rw [e]; exact Vm.Alike.refl _) (h k hk).1, va_T.moved (by rw [e]; exact Vm.Alike.refl _) (h k hk).2.1, va_Nw.same rfl e (h k hk).2.2⟩
theorem va_Z.stay {C n d : String} {v : Value} {A : Nat → Prop} {s : State} {H : Heap} {locs : List Loc} (hS : va_S A s.heap H locs) (h : va_Z C n d v A s s.heap) : va_Z C n d v A s H := h.kept (fun a h1 h2 => hS.2.1 a h1 h2)
theorem SX.stay {tt : Nat → Nat} {A : Nat → Prop} {s : State} {H : Heap} {locs : List Loc} (hS : va_S A s.heap H locs) (h : SX tt A s s.heap) : SX tt A s H := fun k hk => ⟨(h k hk).1.kept (fun a h1 h2 => hS.2.1 a h1 h2), (h k hk).2.1.kept (fun a h1 h2 => hS.2.1 a h1 h2), (h k hk).2.2⟩
theorem SX.narrow {tt : Nat → Nat} {A B : Nat → Prop} {U : State} {H : Heap} (h : SX tt A U H) (hAB : ∀ q, B q → A q) : SX tt B U H := fun k hk => ⟨(h k hk).1.narrow hAB, (h k hk).2.1.narrow hAB, (h k hk).2.2⟩
def PWT (av : List Value) (g : va_G) (cy : Nat → ClassId) (tt : Nat → Nat) (ws : va_W) : Array Value → State → Prop := va_Pc av (fun U => (va_P g vwCl ws U.heap ∧ va_K g vwCl (tyL cy) U ∧ va_D (fun _ => True) ws ∧ NX U) ∧ SX tt nF U U.heap)
theorem PWT.blind {av : List Value} {g : va_G} {cy : Nat → ClassId} {tt : Nat → Nat} {ws : va_W} : FrameBlind (PWT av g cy tt ws) := fun a U fr mk h => by
  obtain ⟨q0, ⟨qP, qK, qD, qN⟩, qT⟩ := h
  exact ⟨q0, ⟨qP, va_K.moved (u := U) (U := U.calling fr mk a) (Vm.Alike.refl U.vm) qK, qD, NX.same (u := U) (U := U.calling fr mk a) rfl qN⟩, SX.same (u := U) (U := U.calling fr mk a) rfl qT⟩
section VROWS4
variable {p : Program} {l : Launch} {e : Env} {R : Room} {s : State} {m : MethodId} {args : Array Value} {below : List Frame} {meth : Method} {c : Code} {cells slots : Nat} {Q : State → Prop}
variable {g : va_G} {cy : Nat → ClassId} {nL : Nat} {cc : ByteArray} {Ts : List Cond} {own : String} {A B : Nat → Prop} {ws : va_W} {pc pc' : Nat} {lv lv' : List (Nat × Value)} {st : List Value} {tt : Nat → Nat}
theorem v_gst (hC : CX p s m args meth c g cy nL cc Ts RX6) (hT : SX tt A s s.heap) {k index : Nat} (hk : k < 4) (hi : index = fIx k) (hd : decode cc pc = .ok (.getstatic index, 3)) (hp : pc + 3 = pc') (kk : V p l e R s m args below meth c g nL cells slots Q A B ws pc' lv (.ref (tt k) :: st)) : V p l e R s m args below meth c g nL cells slots Q A B ws pc lv st := by
  subst hp
  subst hi
  intro H locs ls hD hP hS hl
  obtain ⟨h1, h2, h3⟩ := hT k hk
  exact va_getsN hC.1 hC.2.1 h1 hS hC.2.2.2.1 (va_Nw.use rfl h3) (fun _ h => h) hd (kk H locs ls hD hP hS hl)
theorem v_tiald (hC : CX p s m args meth c g cy nL cc Ts own) (hT : SX tt A s s.heap) {k : Nat} (hk : k < 4) {i : Int32} (hin : nb i (fLn k) = true) (hd : decode cc pc = .ok (.iaload, 1)) (hp : pc + 1 = pc') (kk : V p l e R s m args below meth c g nL cells slots Q A B ws pc' lv (.int (fRw k i.toNatClampNeg) :: st)) : V p l e R s m args below meth c g nL cells slots Q A B ws pc lv (.int i :: .ref (tt k) :: st) := by
  subst hp
  intro H locs ls hD hP hS hl
  exact va_ti hC.1 hC.2.1 (hT k hk).2.1 hS (nb_in hin) rfl hd (kk H locs ls hD hP hS hl)
theorem v_talen (hC : CX p s m args meth c g cy nL cc Ts own) (hT : SX tt A s s.heap) {k : Nat} (hk : k < 4) {v : Int32} (hv : Int32.ofNat (fLn k) = v) (hd : decode cc pc = .ok (.arraylength, 1)) (hp : pc + 1 = pc') (kk : V p l e R s m args below meth c g nL cells slots Q A B ws pc' lv (.int v :: st)) : V p l e R s m args below meth c g nL cells slots Q A B ws pc lv (.ref (tt k) :: st) := by
  subst hp
  intro H locs ls hD hP hS hl
  exact va_tlen hC.1 hC.2.1 (hT k hk).2.1 hS hv hd (kk H locs ls hD hP hS hl)
theorem v_lswI (hC : CX p s m args meth c g cy nL cc Ts own) {dflt : Int} {ps : Array (Int × Int)} {len : Nat} {x v : Int32} {off : Int} {tgt : Nat} (hd : decode cc pc = .ok (.lookupswitch dflt ps, len)) (hx : x = v) (hq : (ps.toList.zip (ps.toList.drop 1)).all (fun (a, next) => a.1 < next.1) = true) (ho : Op.lookupswitch.offset ps.toList dflt v.toInt = off) (ht : (pc : Int) + off = (tgt : Int)) (k : V p l e R s m args below meth c g nL cells slots Q A B ws tgt lv st) : V p l e R s m args below meth c g nL cells slots Q A B ws pc lv (.int x :: st) := by
  subst hx
  exact v_lsw hC hd hq ho ht k
theorem v_startT {av : List Value} {wc : va_W} (hC : CX p s m args meth c g cy nL cc Ts own) (hT : SX tt A s s.heap) {locs : List Loc} (isC : List Nat) (hsub : isC.filterMap (fun i => ws[i]?) = wc) (hnd : va_nd isC = true) (hm : isC.map (fun i => ws[i]?) = wc.map some) {H : Heap} (hD : va_D B ws) (hP : va_P g vwCl ws H) (hS : va_S A s.heap H locs) (U : State) (hU : U.heap = H) (hW : s.WarmedH U.vm) : PWT av g cy tt wc av.toArray U :=
  ⟨rfl, (v_start (av := av) hC isC hsub hnd hm hD hP U hU hW).2, by rw [hU]; exact ((hT.stay hS).narrow (fun _ h => h.elim)).warm hW⟩
theorem v_callVriT (hC : CX p s m args meth c g cy nL cc Ts own) (hT : SX tt A s s.heap) {y : MethodName} {bytes : ByteArray} {maxL n index : Nat} {ret : Option FieldType} {wy wy' : List Cond} {rm : Room} {As : List Value} {wc : va_W} {b ci N : Nat} {fs : List Value} {C : String} {T : u_T} {r : Int32} {stk : List Value} (hM : Met l y wy rm (PWT (.ref b :: As) g cy tt wc) (QRi r) 0 0 nF) (hG : GoodIn Ts (wsV own index C y wy)) (hw : wy = Cond.code y bytes maxL ret :: wy') (hrc : rm.cells = 0) (hrs : rm.slots = 0) (hy : y.cls = C ∧ y.cls ≠ "java/lang/invoke/MethodHandle" ∧ y.cls ≠ "java/lang/invoke/VarHandle" ∧ (parseMethodDescriptor y.desc).map (fun d => d.parameters.length) = some n) (hR : rm.frames + 1 ≤ R.frames ∧ 8 + (maxL + 11) + rm.locals ≤ R.locals) (qb : Nat) (hb : ws[qb]? = some (b, .inr (ci, fs))) (hc : vwCl[ci]? = some (C, T, N)) (isC : List Nat) (hm : isC.map (fun i => ws[i]?) = wc.map some) (hsub : isC.filterMap (fun i => ws[i]?) = wc) (hnd : va_nd isC = true) (hstk : stk = As.reverse ++ .ref b :: st) (hst : (st.map fun v => v.category).sum ≤ 8) (hn : As.length = n) (hf : cells + 0 ≤ R.cells ∧ slots + 0 ≤ R.slots) (hd : decode cc pc = .ok (.invokevirtual index, 3)) (hp : pc + 3 = pc') (k : V p l e R s m args below meth c g nL cells slots Q A B ws pc' lv (.int r :: st)) : V p l e R s m args below meth c g nL cells slots Q A B ws pc lv stk := by
  subst hp
  intro H locs ls hD hP hS hl
  exact v_ro k hD hP hS hl (va_runV (As := As) (rest := st) hC.fix hM (cwV n hC.2.2.2.2.1 hG hw hrc hrs hy hR) ⟨PWT.blind, va_recv hC.2.2.2.2.2.2.1 hP hc hb, fun U hU hW => v_startT hC hT isC hsub hnd hm hD hP hS U hU hW⟩ rfl hn hl.1 hstk (lv_room hst) hd hf)
theorem v_callSriT (hC : CX p s m args meth c g cy nL cc Ts own) (hT : SX tt A s s.heap) {y : MethodName} {bytes : ByteArray} {maxL n index : Nat} {ret : Option FieldType} {wy wy' : List Cond} {rm : Room} {As : List Value} {wc : va_W}  {r : Int32} {stk : List Value} (hM : Met l y wy rm (PWT As g cy tt wc) (QRi r) 0 0 nF) (hG : GoodIn Ts (va_wsS own index y wy)) (hw : wy = Cond.code y bytes maxL ret :: wy') (hrc : rm.cells = 0) (hrs : rm.slots = 0) (hy : y.cls ≠ "java/lang/invoke/MethodHandle" ∧ y.cls ≠ "java/lang/invoke/VarHandle" ∧ (parseMethodDescriptor y.desc).map (fun d => d.parameters.length) = some n) (hR : rm.frames + 1 ≤ R.frames ∧ 8 + (maxL + 11) + rm.locals ≤ R.locals)  (isC : List Nat) (hm : isC.map (fun i => ws[i]?) = wc.map some) (hsub : isC.filterMap (fun i => ws[i]?) = wc) (hnd : va_nd isC = true) (hstk : stk = As.reverse ++ st) (hst : (st.map fun v => v.category).sum ≤ 8) (hn : As.length = n) (hf : cells + 0 ≤ R.cells ∧ slots + 0 ≤ R.slots) (hd : decode cc pc = .ok (.invokestatic index, 3)) (hp : pc + 3 = pc') (k : V p l e R s m args below meth c g nL cells slots Q A B ws pc' lv (.int r :: st)) : V p l e R s m args below meth c g nL cells slots Q A B ws pc lv stk := by
  subst hp
  intro H locs ls hD hP hS hl
  exact v_ro k hD hP hS hl (va_runS (As := As) (rest := st) hC.fix hM (v_cwS n hC.2.2.2.2.1 hG hw hrc hrs hy hR) ⟨PWT.blind, fun U hU hW => v_startT hC hT isC hsub hnd hm hD hP hS U hU hW⟩ rfl hn hl.1 hstk (lv_room hst) hd hf)
theorem v_callVraT (hC : CX p s m args meth c g cy nL cc Ts own) (hT : SX tt A s s.heap) {y : MethodName} {bytes : ByteArray} {maxL n index : Nat} {ret : Option FieldType} {wy wy' : List Cond} {rm : Room} {As : List Value} {wc : va_W} {b ci N : Nat} {fs : List Value} {C : String} {T : u_T} {r : Nat} {stk : List Value} (hM : Met l y wy rm (PWT (.ref b :: As) g cy tt wc) (QRa r) 0 0 nF) (hG : GoodIn Ts (wsV own index C y wy)) (hw : wy = Cond.code y bytes maxL ret :: wy') (hrc : rm.cells = 0) (hrs : rm.slots = 0) (hy : y.cls = C ∧ y.cls ≠ "java/lang/invoke/MethodHandle" ∧ y.cls ≠ "java/lang/invoke/VarHandle" ∧ (parseMethodDescriptor y.desc).map (fun d => d.parameters.length) = some n) (hR : rm.frames + 1 ≤ R.frames ∧ 8 + (maxL + 11) + rm.locals ≤ R.locals) (qb : Nat) (hb : ws[qb]? = some (b, .inr (ci, fs))) (hc : vwCl[ci]? = some (C, T, N)) (isC : List Nat) (hm : isC.map (fun i => ws[i]?) = wc.map some) (hsub : isC.filterMap (fun i => ws[i]?) = wc) (hnd : va_nd isC = true) (hstk : stk = As.reverse ++ .ref b :: st) (hst : (st.map fun v => v.category).sum ≤ 8) (hn : As.length = n) (hf : cells + 0 ≤ R.cells ∧ slots + 0 ≤ R.slots) (hd : decode cc pc = .ok (.invokevirtual index, 3)) (hp : pc + 3 = pc') (k : V p l e R s m args below meth c g nL cells slots Q A B ws pc' lv (.ref r :: st)) : V p l e R s m args below meth c g nL cells slots Q A B ws pc lv stk := by
  subst hp
  intro H locs ls hD hP hS hl
  exact v_roa k hD hP hS hl (va_runV (As := As) (rest := st) hC.fix hM (cwV n hC.2.2.2.2.1 hG hw hrc hrs hy hR) ⟨PWT.blind, va_recv hC.2.2.2.2.2.2.1 hP hc hb, fun U hU hW => v_startT hC hT isC hsub hnd hm hD hP hS U hU hW⟩ rfl hn hl.1 hstk (lv_room hst) hd hf)
theorem v_callSraT (hC : CX p s m args meth c g cy nL cc Ts own) (hT : SX tt A s s.heap) {y : MethodName} {bytes : ByteArray} {maxL n index : Nat} {ret : Option FieldType} {wy wy' : List Cond} {rm : Room} {As : List Value} {wc : va_W}  {r : Nat} {stk : List Value} (hM : Met l y wy rm (PWT As g cy tt wc) (QRa r) 0 0 nF) (hG : GoodIn Ts (va_wsS own index y wy)) (hw : wy = Cond.code y bytes maxL ret :: wy') (hrc : rm.cells = 0) (hrs : rm.slots = 0) (hy : y.cls ≠ "java/lang/invoke/MethodHandle" ∧ y.cls ≠ "java/lang/invoke/VarHandle" ∧ (parseMethodDescriptor y.desc).map (fun d => d.parameters.length) = some n) (hR : rm.frames + 1 ≤ R.frames ∧ 8 + (maxL + 11) + rm.locals ≤ R.locals)  (isC : List Nat) (hm : isC.map (fun i => ws[i]?) = wc.map some) (hsub : isC.filterMap (fun i => ws[i]?) = wc) (hnd : va_nd isC = true) (hstk : stk = As.reverse ++ st) (hst : (st.map fun v => v.category).sum ≤ 8) (hn : As.length = n) (hf : cells + 0 ≤ R.cells ∧ slots + 0 ≤ R.slots) (hd : decode cc pc = .ok (.invokestatic index, 3)) (hp : pc + 3 = pc') (k : V p l e R s m args below meth c g nL cells slots Q A B ws pc' lv (.ref r :: st)) : V p l e R s m args below meth c g nL cells slots Q A B ws pc lv stk := by
  subst hp
  intro H locs ls hD hP hS hl
  exact v_roa k hD hP hS hl (va_runS (As := As) (rest := st) hC.fix hM (v_cwS n hC.2.2.2.2.1 hG hw hrc hrs hy hR) ⟨PWT.blind, fun U hU hW => v_startT hC hT isC hsub hnd hm hD hP hS U hU hW⟩ rfl hn hl.1 hstk (lv_room hst) hd hf)
end VROWS4
/-- a contract out of a walk -/
theorem m_ofVT {l : Launch} {y : MethodName} {Ts ws' : List Cond} {rm : Room} {cc : ByteArray} {nL : Nat} {ret : Option FieldType} {av : List Value} {g : va_G} {cy : Nat → ClassId} {tt : Nat → Nat} {ws : va_W} {Qc : Array Value → State → Outcome → State → Prop} {A B : Nat → Prop} (own : String) (ho : y.cls = own) (hy : plainName y.cls = true) (hw : Ts = Cond.code y cc nL ret :: ws') (lv : List (Nat × Value)) (hlv : lv_args 0 av = lv) (hlen : (lg_sl av).length ≤ nL) (hB : va_D (fun _ => True) ws → va_D B ws)
    (body : ∀ (p : Program) (e : Env) (s : State) (m : MethodId) (args : Array Value) (below : List Frame) (meth : Method) (c : Code), CX p s m args meth c g cy nL cc Ts own → meth.sig.returnType = ret → SX tt nF s s.heap → V p l e (headSpec Ts rm).room s m args below meth c g nL 0 0 (MQ below Qc args s 0 0 A) A B ws 0 lv []) : Met l y Ts rm (PWT av g cy tt ws) Qc 0 0 A := by
  refine Met.ofW (cc := cc) (maxL := nL) (ret := ret) hy hw ?_
  intro p e s m args below meth c s₁ X hml hv
  obtain ⟨rfl, ⟨hP, hK, hD0, hN⟩, hT⟩ := hv
  have hown : s.vm.findClass own = some m.cls := ho ▸ findClass_of_methodNamed X.named
  have hC : CX p s m av.toArray meth c g cy nL cc Ts own := ⟨X.exec, X.bytes, hml, hown, atoms_spec X.pre, X.notSynchronized, hK, hN⟩
  have hl := lv_entry av (n := nL) hlen
  rw [lg_entry_eq]
  rw [hlv] at hl
  exact body p e s m av.toArray below meth c hC X.returns hT s.heap [] _ (hB hD0) hP va_S.rf hl

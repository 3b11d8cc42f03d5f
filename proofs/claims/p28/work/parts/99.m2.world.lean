/-! ===== an object's world; what comes back from a helper of the law ===== -/
def OX (cy : Nat → ClassId) (h0 : Nat) (a : Nat → Nat) (AD : Nat → Nat → Nat) (x xt : FTy) (o c f1 f2 : Int32) (x1 x2 : FTy) (tl : Int32) (tc : Nat → Int32) : va_W := [(h0, .inr (5, [.ref (a 0), .ref (a 7), .ref (a 14), .ref (a 16), .ref (a 24), .ref (a 32)])), ((a 14), .inr (1, [.ref (a 15), .int o, .int c])), ((a 15), .inl (cy 2, 14, .inr (.inr (.inr (.inr (fun k => some (AD k 0))))))), ((a 16), .inr (2, [.ref (a 17), .int f1])), ((a 17), .inr (0, [.ref (a 18), .ref (a 20), .ref (a 22), .int x1.1, .int x1.2.1, .int x1.2.2.1, .int x1.2.2.2.1, .int x1.2.2.2.2.1, .int x1.2.2.2.2.2.1, .int x1.2.2.2.2.2.2.1])), ((a 18), .inr (3, [.int (nI 14), .ref (a 19)])), ((a 19), .inl (cy 0, 84, .inl x1.2.2.2.2.2.2.2.1)), ((a 20), .inr (3, [.int (nI 10), .ref (a 21)])), ((a 21), .inl (cy 0, 60, .inl x1.2.2.2.2.2.2.2.2.1)), ((a 22), .inr (3, [.int (nI 1), .ref (a 23)])), ((a 23), .inl (cy 0, 3, .inl x1.2.2.2.2.2.2.2.2.2)), ((a 24), .inr (2, [.ref (a 25), .int f2])), ((a 25), .inr (0, [.ref (a 26), .ref (a 28), .ref (a 30), .int x2.1, .int x2.2.1, .int x2.2.2.1, .int x2.2.2.2.1, .int x2.2.2.2.2.1, .int x2.2.2.2.2.2.1, .int x2.2.2.2.2.2.2.1])), ((a 26), .inr (3, [.int (nI 14), .ref (a 27)])), ((a 27), .inl (cy 0, 84, .inl x2.2.2.2.2.2.2.2.1)), ((a 28), .inr (3, [.int (nI 10), .ref (a 29)])), ((a 29), .inl (cy 0, 60, .inl x2.2.2.2.2.2.2.2.2.1)), ((a 30), .inr (3, [.int (nI 1), .ref (a 31)])), ((a 31), .inl (cy 0, 3, .inl x2.2.2.2.2.2.2.2.2.2)), ((a 0), .inr (0, [.ref (a 1), .ref (a 3), .ref (a 5), .int x.1, .int x.2.1, .int x.2.2.1, .int x.2.2.2.1, .int x.2.2.2.2.1, .int x.2.2.2.2.2.1, .int x.2.2.2.2.2.2.1])), ((a 1), .inr (3, [.int (nI 14), .ref (a 2)])), ((a 2), .inl (cy 0, 84, .inl x.2.2.2.2.2.2.2.1)), ((a 3), .inr (3, [.int (nI 10), .ref (a 4)])), ((a 4), .inl (cy 0, 60, .inl x.2.2.2.2.2.2.2.2.1)), ((a 5), .inr (3, [.int (nI 1), .ref (a 6)])), ((a 6), .inl (cy 0, 3, .inl x.2.2.2.2.2.2.2.2.2)), ((a 7), .inr (0, [.ref (a 8), .ref (a 10), .ref (a 12), .int xt.1, .int xt.2.1, .int xt.2.2.1, .int xt.2.2.2.1, .int xt.2.2.2.2.1, .int xt.2.2.2.2.2.1, .int xt.2.2.2.2.2.2.1])), ((a 8), .inr (3, [.int (nI 14), .ref (a 9)])), ((a 9), .inl (cy 0, 84, .inl xt.2.2.2.2.2.2.2.1)), ((a 10), .inr (3, [.int (nI 10), .ref (a 11)])), ((a 11), .inl (cy 0, 60, .inl xt.2.2.2.2.2.2.2.2.1)), ((a 12), .inr (3, [.int (nI 1), .ref (a 13)])), ((a 13), .inl (cy 0, 3, .inl xt.2.2.2.2.2.2.2.2.2)), ((a 32), .inr (4, [.ref (a 33), .int tl])), ((a 33), .inr (3, [.int (nI 120), .ref (a 34)])), ((a 34), .inl (cy 0, 120, .inl tc))]
def WO (cy : Nat → ClassId) (A : AA) (S : SS) (H : HH) : va_W := OX cy A.1 A.2.1 A.2.2 (FT S.1) (FT H.1) (nI H.2.1) (nI S.2.1) (nI (S.2.2.2.1 0)) (nI (S.2.2.2.1 1)) (FT (H.2.2.2 0)) (FT (H.2.2.2 1)) (nI 0) (rI (fun _ => 0)) ++ HF cy A.2.2 (rgD H.2.2.1)
theorem WO_fst (cy : Nat → ClassId) (A : AA) (S S2 : SS) (H H2 : HH) : (WO cy A S H).map Prod.fst = (WO cy A S2 H2).map Prod.fst := by
  unfold WO
  rw [List.map_append, List.map_append, HF_fst (RD := rgD H.2.2.1) (RD2 := rgD H2.2.2.1)]
  rfl
/-- a world that holds the object A in the state S -/
def WP (cy : Nat → ClassId) (A : AA) (t : Nat) (S : SS) : va_W → Prop := fun w => ∃ H, RP t S H ∧ w = WO cy A S H
/-- two objects -/
def WP2 (cy : Nat → ClassId) (A B : AA) (t : Nat) (S : SS) (u : Nat) (U : SS) : va_W → Prop := fun w => ∃ H I, RP t S H ∧ RP u U I ∧ w = WO cy A S H ++ WO cy B U I
theorem WP_fst {cy : Nat → ClassId} {A : AA} {t : Nat} {S S2 : SS} {H2 : HH} {w : va_W} (h : WP cy A t S w) : w.map Prod.fst = (WO cy A S2 H2).map Prod.fst := by
  obtain ⟨H, -, rfl⟩ := h
  exact WO_fst _ _ _ _ _ _
theorem WP2_fst {cy : Nat → ClassId} {A B : AA} {t u : Nat} {S S2 U U2 : SS} {H2 I2 : HH} {w : va_W} (h : WP2 cy A B t S u U w) : w.map Prod.fst = (WO cy A S2 H2 ++ WO cy B U2 I2).map Prod.fst := by
  obtain ⟨H, I, -, -, rfl⟩ := h
  rw [List.map_append, List.map_append, WO_fst cy A S S2 H H2, WO_fst cy B U U2 I I2]
theorem WR.full {X X2 : va_W} (h : X2.map Prod.fst = X.map Prod.fst) : WR X X X2 X2 := fun hn => ⟨fun _ h => h, hn, h, fun _ h => Or.inl h⟩
theorem WR.appL {X wc wc2 X2 T : va_W} (h : WR X wc wc2 X2) : WR (X ++ T) wc wc2 (X2 ++ T) := by
  intro hn
  have hn0 := hn
  rw [List.map_append, List.nodup_append] at hn
  obtain ⟨hX, hT, hxt⟩ := hn
  obtain ⟨h1, h2, h3, h4⟩ := h hX
  refine ⟨fun q hq => List.mem_append_left _ (h1 q hq), h2, by rw [List.map_append, List.map_append, h3], fun q hq => ?_⟩
  rcases List.mem_append.mp hq with hq | hq
  · rcases h4 q hq with h9 | ⟨h8, h9⟩
    · exact Or.inl h9
    · exact Or.inr ⟨List.mem_append_left _ h8, h9⟩
  · exact Or.inr ⟨List.mem_append_right _ hq, fun z hz => hxt z.1 (List.mem_map.mpr ⟨z, h1 z hz, rfl⟩) q.1 (List.mem_map.mpr ⟨q, hq, rfl⟩)⟩
theorem WR.appR {X wc wc2 X2 T : va_W} (h : WR X wc wc2 X2) : WR (T ++ X) wc wc2 (T ++ X2) := by
  intro hn
  have hn0 := hn
  rw [List.map_append, List.nodup_append] at hn
  obtain ⟨hT, hX, hxt⟩ := hn
  obtain ⟨h1, h2, h3, h4⟩ := h hX
  refine ⟨fun q hq => List.mem_append_right _ (h1 q hq), h2, by rw [List.map_append, List.map_append, h3], fun q hq => ?_⟩
  rcases List.mem_append.mp hq with hq | hq
  · exact Or.inr ⟨List.mem_append_left _ hq, fun z hz e => hxt q.1 (List.mem_map.mpr ⟨q, hq, rfl⟩) z.1 (List.mem_map.mpr ⟨z, h1 z hz, rfl⟩) e.symm⟩
  · rcases h4 q hq with h9 | ⟨h8, h9⟩
    · exact Or.inl h9
    · exact Or.inr ⟨List.mem_append_right _ h8, h9⟩
/-- an int, and a world of a kind -/
def QE (g : va_G) (A : Nat → Prop) (r : Int32) (P : va_W → Prop) : Array Value → State → Outcome → State → Prop := va_Qi (fun x (_ : Unit) => x = r) (fun _ t => ∃ w, P w ∧ va_P g vwCl w t.heap) A
section LROWS2
variable {p : Program} {l : Launch} {e : Env} {R : Room} {s : State} {m : MethodId} {args : Array Value} {below : List Frame} {meth : Method} {c : Code} {cells slots : Nat} {Q : State → Prop}
variable {g : va_G} {cy : Nat → ClassId} {nL : Nat} {cc : ByteArray} {Ts : List Cond} {own : String} {A B : Nat → Prop} {ws : va_W} {pc pc' : Nat} {lv lv' : List (Nat × Value)} {st : List Value} {tt sa : Nat → Nat}
theorem v_irE (hC : CX p s m args meth c g cy nL cc Ts own) {r v : Int32} {ty : FieldType} {P : va_W → Prop} (hr : meth.sig.returnType = some ty) (hn : narrow ty (.int v) = .int v) (hv : v = r) (hd : decode cc pc = .ok (.ireturn, 1)) (hw : P ws) : V p l e R s m args below meth c g nL cells slots (MQ below (QE g A r P) args s cells slots A) A B ws pc lv [.int v] := by
  subst hv
  intro H locs ls hD hP hS hl
  exact W.zret hC.1 hC.2.1 hr hn (fun t ht hW => ⟨⟨v, (), rfl, rfl, ws, hw, by show va_P g vwCl ws t.heap; rw [ht]; exact hP⟩, hS.F ht⟩) hS.2.2 hd hC.2.2.2.2.2.1
/-- its end, in the room that it asks for -/
theorem v_irE2 (hC : CX p s m args meth c g cy nL cc Ts own) {mc ms : Nat} (h1 : cells ≤ mc) (h2 : slots ≤ ms) {r v : Int32} {ty : FieldType} {P : va_W → Prop} (hr : meth.sig.returnType = some ty) (hn : narrow ty (.int v) = .int v) (hv : v = r) (hd : decode cc pc = .ok (.ireturn, 1)) (hw : P ws) : V p l e R s m args below meth c g nL cells slots (MQ below (QE g A r P) args s mc ms A) A B ws pc lv [.int v] :=
  v_widen h1 h2 (v_irE hC hr hn hv hd hw)
/-- a helper with handlers, any world of a kind behind it -/
theorem l_callE (hC : CX p s m args meth c g cy nL cc Ts own) (hX : XL l s tt sa A) {y : MethodName} {bytes : ByteArray} {maxL n index mc1 ms1 : Nat} {ret : Option FieldType} {hh : List (Nat × Nat × Nat × Nat)} {wy wy' : List Cond} {rm : Room} {As : List Value} {stk : List Value} {wc : va_W} {P : va_W → Prop} (put : va_W → va_W) {r : Int32} (hM : ∀ sz, Met l y wy rm (PN As g cy tt sa sz wc) (QE g (va_A wc sz) r P) mc1 ms1 (va_A wc sz)) (hW0 : WR ws wc wc ws) (hW : ∀ w, P w → WR ws wc w (put w)) (hG : GoodIn Ts (va_wsS own index y wy)) (hw : wy = Cond.codeWith y bytes maxL ret hh :: wy') (hrc : rm.cells = mc1) (hrs : rm.slots = ms1) (hy : y.cls ≠ "java/lang/invoke/MethodHandle" ∧ y.cls ≠ "java/lang/invoke/VarHandle" ∧ (parseMethodDescriptor y.desc).map (fun d => d.parameters.length) = some n) (hR : rm.frames + 1 ≤ R.frames ∧ 8 + (maxL + 11) + rm.locals ≤ R.locals) (hstk : stk = As.reverse ++ st) (hst : (st.map fun v => v.category).sum ≤ 8) (hn : As.length = n) (hf : cells + mc1 ≤ R.cells ∧ slots + ms1 ≤ R.slots) (hd : decode cc pc = .ok (.invokestatic index, 3)) (hp : pc + 3 = pc') (k : ∀ w, P w → V p l e R s m args below meth c g nL (cells + mc1) (slots + ms1) Q A A (put w) pc' lv (.int r :: st)) : V p l e R s m args below meth c g nL cells slots Q A A ws pc lv stk := by
  subst hp
  intro H locs ls hD hP hS hl
  have hin : ∀ q, va_A wc H.size q → A q := fun q h => by
    rcases h with h | h
    · exact hW0.inA hD q h
    · exact hX.2.2.1 q (Nat.le_trans hS.1 h)
  exact va_calli (vx_runSW (As := As) (rest := st) hC.fix (hM H.size) (vx_cwSW n hC.2.2.2.2.1 hG hw hrc hrs hy hR) ⟨PN.blind, fun U hU hWm => l_startN hC hX hW0 hD hP hS U hU hWm⟩ rfl hn hl.1 hstk (lv_room hst) hd hf) hS (fun q _ h => hin q h) hin (fun x _ t H1 locs1 ht hvm hx hB hz hk hS1 => by
    subst hx
    obtain ⟨w, hw9, hB⟩ := hB
    rw [ht] at hB
    obtain ⟨hP1, hD1⟩ := (hW w hw9).afterA hD hP hB hk
    exact k w hw9 H1 locs1 ls hD1 hP1 hS1 hl)
/-- a helper without handlers -/
theorem l_callF (hC : CX p s m args meth c g cy nL cc Ts own) (hX : XL l s tt sa A) {y : MethodName} {bytes : ByteArray} {maxL n index mc1 ms1 : Nat} {ret : Option FieldType} {wy wy' : List Cond} {rm : Room} {As : List Value} {stk : List Value} {wc : va_W} {P : va_W → Prop} (put : va_W → va_W) {r : Int32} (hM : ∀ sz, Met l y wy rm (PN As g cy tt sa sz wc) (QE g (va_A wc sz) r P) mc1 ms1 (va_A wc sz)) (hW0 : WR ws wc wc ws) (hW : ∀ w, P w → WR ws wc w (put w)) (hG : GoodIn Ts (va_wsS own index y wy)) (hw : wy = Cond.code y bytes maxL ret :: wy') (hrc : rm.cells = mc1) (hrs : rm.slots = ms1) (hy : y.cls ≠ "java/lang/invoke/MethodHandle" ∧ y.cls ≠ "java/lang/invoke/VarHandle" ∧ (parseMethodDescriptor y.desc).map (fun d => d.parameters.length) = some n) (hR : rm.frames + 1 ≤ R.frames ∧ 8 + (maxL + 11) + rm.locals ≤ R.locals) (hstk : stk = As.reverse ++ st) (hst : (st.map fun v => v.category).sum ≤ 8) (hn : As.length = n) (hf : cells + mc1 ≤ R.cells ∧ slots + ms1 ≤ R.slots) (hd : decode cc pc = .ok (.invokestatic index, 3)) (hp : pc + 3 = pc') (k : ∀ w, P w → V p l e R s m args below meth c g nL (cells + mc1) (slots + ms1) Q A A (put w) pc' lv (.int r :: st)) : V p l e R s m args below meth c g nL cells slots Q A A ws pc lv stk := by
  subst hp
  intro H locs ls hD hP hS hl
  have hin : ∀ q, va_A wc H.size q → A q := fun q h => by
    rcases h with h | h
    · exact hW0.inA hD q h
    · exact hX.2.2.1 q (Nat.le_trans hS.1 h)
  exact va_calli (va_runS (As := As) (rest := st) hC.fix (hM H.size) (v_cwS n hC.2.2.2.2.1 hG hw hrc hrs hy hR) ⟨PN.blind, fun U hU hWm => l_startN hC hX hW0 hD hP hS U hU hWm⟩ rfl hn hl.1 hstk (lv_room hst) hd hf) hS (fun q _ h => hin q h) hin (fun x _ t H1 locs1 ht hvm hx hB hz hk hS1 => by
    subst hx
    obtain ⟨w, hw9, hB⟩ := hB
    rw [ht] at hB
    obtain ⟨hP1, hD1⟩ := (hW w hw9).afterA hD hP hB hk
    exact k w hw9 H1 locs1 ls hD1 hP1 hS1 hl)
/-- a static method that only answers an int, and touches nothing -/
theorem l_callN (hC : CX p s m args meth c g cy nL cc Ts own) {y : MethodName} {bytes : ByteArray} {maxL n index : Nat} {ret : Option FieldType} {wy wy' : List Cond} {rm : Room} {As : List Value} {stk : List Value} {r : Int32} (hM : Met l y wy rm (PW As g cy []) (QRi r) 0 0 nF) (hG : GoodIn Ts (va_wsS own index y wy)) (hw : wy = Cond.code y bytes maxL ret :: wy') (hrc : rm.cells = 0) (hrs : rm.slots = 0) (hy : y.cls ≠ "java/lang/invoke/MethodHandle" ∧ y.cls ≠ "java/lang/invoke/VarHandle" ∧ (parseMethodDescriptor y.desc).map (fun d => d.parameters.length) = some n) (hR : rm.frames + 1 ≤ R.frames ∧ 8 + (maxL + 11) + rm.locals ≤ R.locals) (hstk : stk = As.reverse ++ st) (hst : (st.map fun v => v.category).sum ≤ 8) (hn : As.length = n) (hf : cells + 0 ≤ R.cells ∧ slots + 0 ≤ R.slots) (hd : decode cc pc = .ok (.invokestatic index, 3)) (hp : pc + 3 = pc') (k : V p l e R s m args below meth c g nL cells slots Q A A ws pc' lv (.int r :: st)) : V p l e R s m args below meth c g nL cells slots Q A A ws pc lv stk := by
  subst hp
  intro H locs ls hD hP hS hl
  exact v_ro k hD hP hS hl (va_runS (As := As) (rest := st) hC.fix hM (v_cwS n hC.2.2.2.2.1 hG hw hrc hrs hy hR) ⟨PW.blind, fun U hU hWm => l_startW (wc := []) (wc' := []) (ws' := ws) hC (fun hn => ⟨fun q hq => absurd hq List.not_mem_nil, List.nodup_nil, rfl, fun q hq => Or.inr ⟨hq, fun z hz => absurd hz List.not_mem_nil⟩⟩) hD hP U hU hWm⟩ rfl hn hl.1 hstk (lv_room hst) hd hf)
end LROWS2
/-- a contract out of its walk: no handlers -/
theorem m_ofVN {l : Launch} {y : MethodName} {Ts ws' : List Cond} {rm : Room} {cc : ByteArray} {nL : Nat} {ret : Option FieldType} {av : List Value} {g : va_G} {cy : Nat → ClassId} {tt sa : Nat → Nat} {sz : Nat} {ws : va_W} {Qc : Array Value → State → Outcome → State → Prop} {mc ms : Nat} (hlst : l.stackTraces = false) (own : String) (ho : y.cls = own) (hy : plainName y.cls = true) (hw : Ts = Cond.code y cc nL ret :: ws') (lv : List (Nat × Value)) (hlv : lv_args 0 av = lv) (hlen : (lg_sl av).length ≤ nL)
    (body : ∀ (p : Program) (e : Env) (s : State) (m : MethodId) (args : Array Value) (below : List Frame) (meth : Method) (c : Code), CX p s m args meth c g cy nL cc Ts own → meth.sig.returnType = ret → XL l s tt sa (va_A ws sz) → V p l e (headSpec Ts rm).room s m args below meth c g nL 0 0 (MQ below Qc args s mc ms (va_A ws sz)) (va_A ws sz) (va_A ws sz) ws 0 lv []) : Met l y Ts rm (PN av g cy tt sa sz ws) Qc mc ms (va_A ws sz) := by
  refine Met.ofW (cc := cc) (maxL := nL) (ret := ret) hy hw ?_
  intro p e s m args below meth c s₁ X hml hv
  obtain ⟨rfl, hsz, ⟨hP, hK, hD0, hN⟩, hE, hNc⟩ := hv
  have hown : s.vm.findClass own = some m.cls := ho ▸ findClass_of_methodNamed X.named
  have hC : CX p s m av.toArray meth c g cy nL cc Ts own := ⟨X.exec, X.bytes, hml, hown, atoms_spec X.pre, X.notSynchronized, hK, hN⟩
  have hl := lv_entry av (n := nL) hlen
  rw [lg_entry_eq]
  rw [hlv] at hl
  have hX : XL l s tt sa (va_A ws sz) := ⟨hlst, hE.wide (fun a h1 h2 h3 => by
    rcases h3 with h3 | h3
    · exact h2 h3
    · omega), fun q h => Or.inr (by omega), hNc⟩
  exact body p e s m av.toArray below meth c hC X.returns hX s.heap [] _ (hD0.self) hP va_S.rf hl

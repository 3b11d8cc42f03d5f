/-! ===== the law: its script, cell ===== -/
section LR2
variable {p : Program} {l : Launch} {e : Env} {R : Room} {s : State} {m : MethodId} {args : Array Value} {below : List Frame} {meth : Method} {c : Code} {cells slots : Nat} {Q : State → Prop}
variable {g : va_G} {cy : Nat → ClassId} {nL : Nat} {cc : ByteArray} {Ts : List Cond} {own : String} {A B : Nat → Prop} {ws : va_W} {pc pc' : Nat} {lv lv' : List (Nat × Value)} {st : List Value}
/-- the script -/
theorem l_sld (hC : CX p s m args meth c g cy nL cc Ts own) {b Len : Nat} {xs : Nat → Int32} (hX9 : va_X b Len xs s s.heap) (hbl : b < s.heap.size) (hbA : ¬ A b) {i : Int32} (hin : nb i Len = true) (hd : decode cc pc = .ok (.iaload, 1)) (hp : pc + 1 = pc') (k : V p l e R s m args below meth c g nL cells slots Q A B ws pc' lv (.int (xs i.toNatClampNeg) :: st)) : V p l e R s m args below meth c g nL cells slots Q A B ws pc lv (.int i :: .ref b :: st) := by
  subst hp
  intro H locs ls hD hP hS hl
  exact va_sld hC.1 hC.2.1 hX9 hbl hbA hS (nb_in hin) hd (k H locs ls hD hP hS hl)
theorem l_slen (hC : CX p s m args meth c g cy nL cc Ts own) {b Len : Nat} {xs : Nat → Int32} (hX9 : va_X b Len xs s s.heap) (hbl : b < s.heap.size) (hbA : ¬ A b) (hd : decode cc pc = .ok (.arraylength, 1)) (hp : pc + 1 = pc') (k : V p l e R s m args below meth c g nL cells slots Q A B ws pc' lv (.int (nI Len) :: st)) : V p l e R s m args below meth c g nL cells slots Q A B ws pc lv (.ref b :: st) := by
  subst hp
  intro H locs ls hD hP hS hl
  exact va_slen hC.1 hC.2.1 hX9 hbl hbA hS hd (k H locs ls hD hP hS hl)
end LR2
/-- a method over the script -/
def PB (av : List Value) (g : va_G) (cy : Nat → ClassId) (b Len : Nat) (xs : Nat → Int32) : Array Value → State → Prop := va_Pc av (fun U => (va_K g vwCl (tyL cy) U ∧ NX U) ∧ va_X b Len xs U U.heap ∧ b < U.heap.size)
theorem PB.blind {av : List Value} {g : va_G} {cy : Nat → ClassId} {b Len : Nat} {xs : Nat → Int32} : FrameBlind (PB av g cy b Len xs) := fun a U fr mk h => by
  obtain ⟨q0, ⟨qK, qN⟩, qX, qb⟩ := h
  exact ⟨q0, ⟨va_K.moved (u := U) (U := U.calling fr mk a) (Vm.Alike.refl U.vm) qK, NX.same (u := U) (U := U.calling fr mk a) rfl qN⟩, va_X.moved (u := U) (U := U.calling fr mk a) (Vm.Alike.refl U.vm) qX, qb⟩
theorem l_callB {p : Program} {l : Launch} {e : Env} {R : Room} {s : State} {m : MethodId} {args : Array Value} {below : List Frame} {meth : Method} {c : Code} {cells slots : Nat} {Q : State → Prop} {g : va_G} {cy : Nat → ClassId} {nL : Nat} {cc : ByteArray} {Ts : List Cond} {own : String} {A : Nat → Prop} {ws : va_W} {pc pc' : Nat} {lv : List (Nat × Value)} {st : List Value} (hC : CX p s m args meth c g cy nL cc Ts own) {b Len : Nat} {xs : Nat → Int32} (hX9 : va_X b Len xs s s.heap) (hbl : b < s.heap.size) (hbA : ¬ A b) {y : MethodName} {bytes : ByteArray} {maxL n index : Nat} {ret : Option FieldType} {wy wy' : List Cond} {rm : Room} {As : List Value} {stk : List Value} {r : Int32} (hM : Met l y wy rm (PB As g cy b Len xs) (QRi r) 0 0 nF) (hG : GoodIn Ts (va_wsS own index y wy)) (hw : wy = Cond.code y bytes maxL ret :: wy') (hrc : rm.cells = 0) (hrs : rm.slots = 0) (hy : y.cls ≠ "java/lang/invoke/MethodHandle" ∧ y.cls ≠ "java/lang/invoke/VarHandle" ∧ (parseMethodDescriptor y.desc).map (fun d => d.parameters.length) = some n) (hR : rm.frames + 1 ≤ R.frames ∧ 8 + (maxL + 11) + rm.locals ≤ R.locals) (hstk : stk = As.reverse ++ st) (hst : (st.map fun v => v.category).sum ≤ 8) (hn : As.length = n) (hf : cells + 0 ≤ R.cells ∧ slots + 0 ≤ R.slots) (hd : decode cc pc = .ok (.invokestatic index, 3)) (hp : pc + 3 = pc') (k : V p l e R s m args below meth c g nL cells slots Q A A ws pc' lv (.int r :: st)) : V p l e R s m args below meth c g nL cells slots Q A A ws pc lv stk := by
  subst hp
  intro H locs ls hD hP hS hl
  exact v_ro k hD hP hS hl (va_runS (As := As) (rest := st) hC.fix hM (v_cwS n hC.2.2.2.2.1 hG hw hrc hrs hy hR) ⟨PB.blind, fun U hU hWm => by
    have h0 := (l_startW (av := As) (wc := []) (wc' := []) (ws' := ws) hC (fun hn => ⟨fun q hq => absurd hq List.not_mem_nil, List.nodup_nil, rfl, fun q hq => Or.inr ⟨hq, fun z hz => absurd hz List.not_mem_nil⟩⟩) hD hP U hU hWm).2
    have h1 : va_X b Len xs s H := va_X.kept hX9 (hS.2.1 b hbl hbA)
    exact ⟨rfl, ⟨h0.2.1, h0.2.2.2⟩, by rw [hU]; exact va_X.moved hWm.alike h1, by rw [hU]; exact Nat.lt_of_lt_of_le hbl hS.1⟩⟩ rfl hn hl.1 hstk (lv_room hst) hd hf)
def pL_cell_22 (s0 : Int32) : Option Int32 := some (s0 &&& 2147483647)
def pL_cell (Len : Nat) (xs : Nat → Int32) (x1 : Int32) : Option Int32 := if nI Len ≤ x1 then pL_cell_22 ((15519151 * (x1 + nI 3)) + nI 11311) else if nb x1 Len = true then pL_cell_22 (xs x1.toNatClampNeg) else none
abbrev rmL_cell : Room := { frames := 0, cells := 0, slots := 0, locals := 0 }
theorem kL_cell_142 : Cond.constant RL 142 (15519151) ∈ wsL_cell := by decide +kernel
theorem kL_cell_143 : Cond.constant RL 143 (2147483647) ∈ wsL_cell := by decide +kernel
theorem bL_cell_22 {p : Program} {l : Launch} {e : Env} {s : State} {m : MethodId} {args : Array Value} {below : List Frame} {meth : Method} {c : Code} {g : va_G} {cy : Nat → ClassId} (hC : CX p s m args meth c g cy 2 cL_cell wsL_cell RL) (hr : meth.sig.returnType = some .int) {res s0 : Int32} {lv : List (Nat × Value)} (h : pL_cell_22 s0 = some res) : V p l e (headSpec wsL_cell rmL_cell).room s m args below meth c g 2 0 0 (MQ below (QRi res) args s 0 0 nF) nF (fun _ => True) [] 22 lv [.int s0] := by
  unfold pL_cell_22 at h
  refine v_ldc hC (v := 2147483647) dL_cell_22 kL_cell_143 rfl ?_
  refine v_iand hC dL_cell_24 rfl ?_
  obtain rfl := Option.some.inj h
  exact v_irt hC hr rfl rfl dL_cell_25
theorem mL_cell (l : Launch) (g : va_G) (cy : Nat → ClassId) (b Len : Nat) (xs : Nat → Int32) (x1 : Int32) {res : Int32} (h : pL_cell Len xs x1 = some res) : Met l yL_cell wsL_cell rmL_cell (PB [.ref b, .int x1] g cy b Len xs) (QRi res) 0 0 nF := by
  refine Met.ofW (cc := cL_cell) (maxL := 2) (ret := some .int) rfl rfl ?_
  intro p e s m args below meth c s₁ X hml hv
  obtain ⟨rfl, ⟨hK, hN⟩, hX9, hbl⟩ := hv
  have hown : s.vm.findClass RL = some m.cls := (show yL_cell.cls = RL from rfl) ▸ findClass_of_methodNamed X.named
  have hC : CX p s m ([Value.ref b, .int x1] : List Value).toArray meth c g cy 2 cL_cell wsL_cell RL := ⟨X.exec, X.bytes, hml, hown, atoms_spec X.pre, X.notSynchronized, hK, hN⟩
  have hl := lv_entry ([.ref b, .int x1]) (n := 2) (Nat.le_of_ble_eq_true rfl)
  rw [lg_entry_eq]
  have hr := X.returns
  have key : V p l e (headSpec wsL_cell rmL_cell).room s m ([Value.ref b, .int x1] : List Value).toArray below meth c g 2 0 0 (MQ below (QRi res) ([Value.ref b, .int x1] : List Value).toArray s 0 0 nF) nF (fun _ => True) [] 0 [(0, .ref b), (1, .int x1)] [] := by
    unfold pL_cell at h
    refine v_iload_n hC dL_cell_0 rfl 1 rfl rfl ?_
    refine v_aload_n hC dL_cell_1 rfl 0 rfl rfl ?_
    refine l_slen hC hX9 hbl (fun h => h) dL_cell_2 rfl ?_
    refine v_icmp_ge hC (tgt := 12) dL_cell_3 (by decide) rfl (fun c => ?_) (fun c => ?_)
    · have h := ite_t c h
      refine v_ldc hC (v := 15519151) dL_cell_12 kL_cell_142 rfl ?_
      refine v_iload_n hC dL_cell_14 rfl 1 rfl rfl ?_
      refine v_iconst hC (v := (nI 3)) dL_cell_15 (by decide) rfl ?_
      refine v_iadd hC dL_cell_16 rfl ?_
      refine v_imul hC dL_cell_17 rfl ?_
      refine v_sipush hC (v := (nI 11311)) dL_cell_18 (by decide) rfl ?_
      refine v_iadd hC dL_cell_21 rfl ?_
      exact bL_cell_22 hC hr h
    · have h := ite_f c h
      obtain ⟨hn, h⟩ := ite_g h
      refine v_aload_n hC dL_cell_6 rfl 0 rfl rfl ?_
      refine v_iload_n hC dL_cell_7 rfl 1 rfl rfl ?_
      refine l_sld hC hX9 hbl (fun h => h) hn dL_cell_8 rfl ?_
      refine v_goto hC (tgt := 22) dL_cell_9 (by decide) ?_
      exact bL_cell_22 hC hr h
  exact key s.heap [] _ ⟨fun i j p q h => by simp at h, fun k q h => by simp at h⟩ (fun k q h => by simp at h) va_S.rf hl

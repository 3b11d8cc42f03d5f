/-! ===== rows for constructors: worlds that grow at their end ===== -/
theorem k_ra_one {U : State} {cA cB : ClassId} {ty : FieldType} (h1 : va_RA U cA ty) (h2 : va_RA U cB ty) : cA = cB := by
  cases ty with
  | object C =>
    obtain ⟨_, _, _, _, _, h1⟩ := h1
    obtain ⟨_, _, _, _, _, h2⟩ := h2
    exact Option.some.inj (h1.symm.trans h2)
  | _ => exact Option.some.inj ((show _ = some cA from h1).symm.trans h2)
theorem k_join {g : va_G} {A : Nat → Prop} {ws wc w1 : va_W} {H H1 : Heap} (hP : va_P g vwCl (ws ++ wc) H) (hD : va_D A (ws ++ wc)) (hk : ∀ q : Nat, q < H.size → ¬ va_A wc H.size q → H1[q]? = H[q]?) (hF : ∀ q, va_A wc H.size q → A q) (hP1 : va_P g vwCl w1 H1) (hD1 : va_D (va_A wc H.size) w1) : va_P g vwCl (ws ++ w1) H1 ∧ va_D A (ws ++ w1) := by
  have hDw : va_D A ws := hD.subl (List.sublist_append_left _ _)
  have hsep : ∀ x ∈ ws, x.1 < H.size ∧ ¬ va_A wc H.size x.1 := by
    intro x hx
    have hlt := (hP.mem (List.mem_append_left _ hx)).lt
    refine ⟨hlt, fun h => ?_⟩
    rcases h with h | h
    · obtain ⟨z, hz, e⟩ := wA.mem.mp h
      have hn := hD.nodup
      rw [List.map_append, List.nodup_append] at hn
      exact hn.2.2 x.1 (List.mem_map.mpr ⟨x, hx, rfl⟩) z.1 (List.mem_map.mpr ⟨z, hz, rfl⟩) e.symm
    · omega
  refine ⟨va_P.app (fun k q h => ?_) hP1, va_D.app hDw ⟨hD1.1, fun k q h => hF _ (hD1.2 k q h)⟩ (fun i j x y hx hy e => (hsep x (List.mem_of_getElem? hx)).2 (e ▸ hD1.2 j y hy))⟩
  have hm := List.mem_of_getElem? h
  exact (hP.mem (List.mem_append_left _ hm)).kept (hk q.1 (hsep q hm).1 (hsep q hm).2)
/-- a constructor's start and its end -/
def PK (av : List Value) (g : va_G) (cy : Nat → ClassId) (sz : Nat) (ws : va_W) : Array Value → State → Prop := va_Pc av (fun U => U.heap.size = sz ∧ (va_P g vwCl ws U.heap ∧ va_K g vwCl (tyL cy) U ∧ va_D (fun _ => True) ws ∧ NX U) ∧ va_AO RX0 U)
theorem PK.blind {av : List Value} {g : va_G} {cy : Nat → ClassId} {sz : Nat} {ws : va_W} : FrameBlind (PK av g cy sz ws) := fun a U fr mk h => by
  obtain ⟨q0, qs, ⟨qP, qK, qD, qN⟩, qO⟩ := h
  exact ⟨q0, qs, ⟨qP, va_K.moved (u := U) (U := U.calling fr mk a) (Vm.Alike.refl U.vm) qK, qD, NX.same (u := U) (U := U.calling fr mk a) rfl qN⟩, va_AO.moved (u := U) (U := U.calling fr mk a) (Vm.Alike.refl U.vm) qO⟩
def QK {S : Type} (g : va_G) (A : Nat → Prop) (Wf : S → va_W) : Array Value → State → Outcome → State → Prop := va_Qv (fun (_ : S) => True) (fun u t => va_P g vwCl (Wf u) t.heap ∧ va_D A (Wf u)) A
section KROWS
variable {p : Program} {l : Launch} {e : Env} {R : Room} {s : State} {m : MethodId} {args : Array Value} {below : List Frame} {meth : Method} {c : Code} {cells slots : Nat} {Q : State → Prop}
variable {g : va_G} {cy : Nat → ClassId} {nL : Nat} {cc : ByteArray} {Ts : List Cond} {own : String} {A B : Nat → Prop} {ws : va_W} {pc pc' : Nat} {lv lv' : List (Nat × Value)} {st : List Value}
theorem k_new (hC : CX p s m args meth c g cy nL cc Ts own) (hA : ∀ q, s.heap.size ≤ q → A q) {C : String} {T : u_T} {N ci index : Nat} (hin : ∀ w ∈ u_ws C T N, w ∈ Ts) (ty : Nat → FieldType) (hty : ∀ k, k < N → parseFieldDescriptor (T k).2.2.1 = some (ty k)) (hcl : Cond.classLink own index C ∈ Ts) (hinst : Cond.instantiable C N ∈ Ts) (hini : Cond.initialized C ∈ Ts) (hc : vwCl[ci]? = some (C, T, N)) {fs : List Value} (hfs : ∀ j, j < N → defaultValue (ty j) = vp_V fs j) (hf : cells + 1 ≤ R.cells ∧ slots + N ≤ R.slots) (hd : decode cc pc = .ok (.new index, 3)) (hp : pc + 3 = pc') (k : ∀ q : Nat, V p l e R s m args below meth c g nL (cells + 1) (slots + N) Q A A (ws ++ [(q, .inr (ci, fs))]) pc' lv (.ref q :: st)) : V p l e R s m args below meth c g nL cells slots Q A A ws pc lv st := by
  subst hp
  intro H locs ls hD hP hS hl
  exact va_new hC.1 hC.2.1 hC.2.2.2.2.1 hin ty hty hC.2.2.2.1 (hC.2.2.2.2.1 _ hcl) (hC.2.2.2.2.1 _ hinst) (hC.2.2.2.2.1 _ hini) hC.2.2.2.2.2.2.1 hP hD hS hA hc hfs hf.1 hf.2 hd (fun q H1 hP1 hD1 hS1 => k q H1 locs ls hD1 hP1 hS1 hl)
theorem k_arr (hC : CX p s m args meth c g cy nL cc Ts own) (hA : ∀ q, s.heap.size ≤ q → A q) (atype : ArrayType) (harr : Cond.arrayClass (newarray.typeOf atype) ∈ Ts) {ty : FieldType} (hty : newarray.typeOf atype = ty) (t0 : Nat) (ht0 : t0 < 4) {cA0 : ClassId} (ht : (tyL cy)[t0]? = some (cA0, ty)) {n : Int32} {N' : Nat} (x0 : vp_A) (ha : ∀ cA : ClassId, vp_cell cA x0 = arrV cA N' (fun _ => defaultValue ty)) (hn : ¬ n < 0) (hN : n.toNatClampNeg = N') (hbytes : N' * componentBytes ty ≤ 536870912) (hf : cells + 1 ≤ R.cells ∧ slots + N' ≤ R.slots) (hd : decode cc pc = .ok (.newarray atype, 2)) (hp : pc + 2 = pc') (k : ∀ q : Nat, V p l e R s m args below meth c g nL (cells + 1) (slots + N') Q A A (ws ++ [(q, .inl (cA0, x0))]) pc' lv (.ref q :: st)) : V p l e R s m args below meth c g nL cells slots Q A A ws pc lv (.int n :: st) := by
  subst hp
  intro H locs ls hD hP hS hl
  have hK := hC.2.2.2.2.2.2.1
  refine va_newa hC.1 hC.2.1 (hC.2.2.2.2.1 _ harr) hty hK hP hD hS hA ha hn hN hbytes hf.1 hf.2 hd (fun q cA H1 hK1 hP1 hD1 hS1 => ?_)
  have e9 : cA = cA0 := k_ra_one (hK1.2 4 (cA, ty) rfl).2 (hK.2 t0 _ ht).2
  subst e9
  exact k q H1 locs ls hD1 hP1 hS1 hl
theorem k_arrq (hC : CX p s m args meth c g cy nL cc Ts own) (hA : ∀ q, s.heap.size ≤ q → A q) (hO : va_AO RX0 s) {index : Nat} (hcl : Cond.classLink own index RX0 ∈ Ts) {n : Int32} {N' : Nat} (hn : ¬ n < 0) (hN : n.toNatClampNeg = N') (hbytes : N' * 4 ≤ 536870912) (hf : cells + 1 ≤ R.cells ∧ slots + N' ≤ R.slots) (hd : decode cc pc = .ok (.anewarray index, 3)) (hp : pc + 3 = pc') (k : ∀ q : Nat, V p l e R s m args below meth c g nL (cells + 1) (slots + N') Q A A (ws ++ [(q, .inl (cy 2, N', .inr (.inr (.inr (.inr (fun _ => none))))))]) pc' lv (.ref q :: st)) : V p l e R s m args below meth c g nL cells slots Q A A ws pc lv (.int n :: st) := by
  subst hp
  intro H locs ls hD hP hS hl
  have hK := hC.2.2.2.2.2.2.1
  refine va_newq hC.1 hC.2.1 hC.2.2.2.1 (hC.2.2.2.2.1 _ hcl) hO hK hP hD hS hA hn hN hbytes hf.1 hf.2 hd (fun q cA H1 hK1 hP1 hD1 hS1 => ?_)
  have e9 : cA = cy 2 := k_ra_one (hK1.2 4 (cA, .object RX0) rfl).2 (hK.2 2 _ rfl).2
  subst e9
  exact k q H1 locs ls hD1 hP1 hS1 hl
theorem k_putF (hC : CX p s m args meth c g cy nL cc Ts own) (hin2 : meth.name = "<init>") {ref C : String} {T : u_T} {N ci index : Nat} (hin : ∀ w ∈ u_ws C T N, w ∈ Ts) (ty0 : Nat → FieldType) (hty : ∀ k, k < N → parseFieldDescriptor (T k).2.2.1 = some (ty0 k)) (hnm : ∀ a, a < N → ∀ b, b < N → a ≠ b → (T a).2.1 ≠ (T b).2.1) (q0 : Nat) {a : Nat} {fs : List Value} (he : ws[q0]? = some (a, .inr (ci, fs))) (hc : vwCl[ci]? = some (C, T, N)) (k : Nat) (hk : k < N) (hlink : Cond.fieldLink own index ref (T k).2.1 (T k).2.2.1 ∈ Ts) (hsame : (T k).1 = ref) (hfin : (T k).2.2.2 = true) (hdecl : (T k).1 = own) {ty : FieldType} {v : Value} (hdd : parseFieldDescriptor (T k).2.2.1 = some ty) (hn : narrow ty v = v) (hfit : fits ty v = true) (hl0 : k < fs.length) (hd : decode cc pc = .ok (.putfield index, 3)) (ws' : va_W) (hw : ws.set q0 (a, .inr (ci, fs.set k v)) = ws') (hp : pc + 3 = pc') (kk : V p l e R s m args below meth c g nL cells slots Q A A ws' pc' lv st) : V p l e R s m args below meth c g nL cells slots Q A A ws pc lv (v :: .ref a :: st) := by
  subst hp
  subst hw
  intro H locs ls hD hP hS hl
  exact va_putF hC.1 hC.2.1 hC.2.2.2.2.1 hin ty0 hty hnm hC.2.2.2.1 hC.2.2.2.2.2.2.1 hP hD hS q0 he hc k hk (hC.2.2.2.2.1 _ hlink) (fun _ h9 => hsame ▸ h9) hfin hin2 hdecl hdd hn hfit hl0 hd (fun H1 locs1 hP1 hD1 hS1 => kk H1 locs1 ls hD1 hP1 hS1 hl)
theorem k_obj (hC : CX p s m args meth c g cy nL cc Ts own) {index : Nat} (h1 : Cond.methodLink own index Lib.objectInit ∈ Ts) (h2 : Cond.instanceMethod Lib.objectInit ∈ Ts) (h3 : Cond.code Lib.objectInit ⟨#[0xb1]⟩ 1 none ∈ Ts) {a : Nat} (hfr : 1 ≤ R.frames) (hlo : 12 ≤ R.locals) (hd : decode cc pc = .ok (.invokespecial index, 3)) (hp : pc + 3 = pc') (k : V p l e R s m args below meth c g nL cells slots Q A B ws pc' lv []) : V p l e R s m args below meth c g nL cells slots Q A B ws pc lv [.ref a] := by
  subst hp
  intro H locs ls hD hP hS hl
  refine W.objInit hC.1 hC.2.1 hC.2.2.2.1 (hC.2.2.2.2.1 _ h1) (hC.2.2.2.2.1 _ h2) (hC.2.2.2.2.1 _ h3) rfl (by rw [hC.2.2.1]; exact hl.1) rfl hd hfr (Nat.le_trans (by show 2 * _ + _ + 12 ≤ 12; exact Nat.le_refl _) hlo) ?_
  exact W.eq (g2 := F0 m (pc + 3) ls []) rfl (k H locs ls hD hP hS hl)
/-- new C(..): the constructor of the cell at the world's end -/
theorem k_init (hC : CX p s m args meth c g cy nL cc Ts own) (hA : ∀ q, s.heap.size ≤ q → A q) (hO : va_AO RX0 s) {y : MethodName} {bytes : ByteArray} {maxL n index mc1 ms1 : Nat} {wy wy' : List Cond} {rm : Room} {As : List Value} {stk : List Value} {q ci : Nat} {fs : List Value} {S : Type} {Wf : S → va_W} (hM : ∀ sz, Met l y wy rm (PK (.ref q :: As) g cy sz [(q, .inr (ci, fs))]) (QK g (va_A [(q, .inr (ci, fs))] sz) Wf) mc1 ms1 (va_A [(q, .inr (ci, fs))] sz)) (hG : GoodIn Ts wy) (hw : wy = Cond.code y bytes maxL none :: wy') (hrc : rm.cells = mc1) (hrs : rm.slots = ms1) (hini : Cond.initialized y.cls ∈ Ts) (hlk : Cond.methodLink own index y ∈ Ts) (him : Cond.instanceMethod y ∈ Ts) (hy1 : y.name = "<init>") (hy : y.cls ≠ "java/lang/invoke/MethodHandle" ∧ y.cls ≠ "java/lang/invoke/VarHandle" ∧ (parseMethodDescriptor y.desc).map (fun d => d.parameters.length) = some n) (hR : rm.frames + 1 ≤ R.frames ∧ 8 + (maxL + 11) + rm.locals ≤ R.locals) (hstk : stk = As.reverse ++ .ref q :: st) (hst : (st.map fun v => v.category).sum ≤ 8) (hn : As.length = n) (hf : cells + mc1 ≤ R.cells ∧ slots + ms1 ≤ R.slots) (hd : decode cc pc = .ok (.invokespecial index, 3)) (hp : pc + 3 = pc') (k : ∀ u : S, V p l e R s m args below meth c g nL (cells + mc1) (slots + ms1) Q A A (ws ++ Wf u) pc' lv st) : V p l e R s m args below meth c g nL cells slots Q A A (ws ++ [(q, .inr (ci, fs))]) pc lv stk := by
  subst hp
  intro H locs ls hD hP hS hl
  have hF : ∀ x, va_A [(q, .inr (ci, fs))] H.size x → A x := fun x h => by
    rcases h with h | h
    · obtain ⟨z, hz, e9⟩ := wA.mem.mp h
      rw [← e9]
      exact hD.memB (List.mem_append_right _ hz)
    · exact hA x (Nat.le_trans hS.1 h)
  refine va_callv (va_runI (As := As) (rest := st) hC.fix (hM H.size) (cwI n hC.2.2.2.2.1 hG hw hrc hrs (hC.2.2.2.2.1 _ hini) (hC.2.2.2.2.1 _ hlk) (hC.2.2.2.2.1 _ him) hy1 hy hR) ⟨PK.blind, fun U hU hWm => ?_⟩ rfl hn hl.1 hstk (lv_room hst) hd hf) hS (fun x _ h => hF x h) hF (fun u t H1 locs1 ht hvm _ hB hz hk hS1 => ?_)
  · refine ⟨rfl, by rw [hU], ⟨?_, va_K.moved hWm.alike hC.2.2.2.2.2.2.1, ?_, NX.moved hWm hC.2.2.2.2.2.2.2⟩, va_AO.moved hWm.alike hO⟩
    · rw [hU]
      intro k9 q9 h9
      exact hP.mem (List.mem_append_right _ (List.mem_of_getElem? h9))
    · have h9 := hD.subl (List.sublist_append_right ws [(q, .inr (ci, fs))])
      exact ⟨h9.1, fun _ _ _ => trivial⟩
  · obtain ⟨hP1, hD1⟩ := hB
    rw [ht] at hP1
    obtain ⟨hP2, hD2⟩ := k_join hP hD hk hF hP1 hD1
    exact k u H1 locs1 ls hD2 hP2 hS1 hl
theorem k_ret (hC : CX p s m args meth c g cy nL cc Ts own) {S : Type} {Wf : S → va_W} {mc ms : Nat} (u : S) (hW : ws = Wf u) (hr : meth.sig.returnType = none) (hmc : cells ≤ mc ∧ slots ≤ ms) (hd : decode cc pc = .ok (.return_, 1)) : V p l e R s m args below meth c g nL cells slots (MQ below (QK g A Wf) args s mc ms A) A A ws pc lv [] := by
  subst hW
  intro H locs ls hD hP hS hl
  refine W.widen hmc.1 hmc.2 ?_
  exact W.vret hC.1 hC.2.1 hr (fun t ht hW9 => ⟨⟨u, rfl, trivial, by show va_P g vwCl (Wf u) t.heap ∧ va_D A (Wf u); rw [ht]; exact ⟨hP, hD⟩⟩, hS.F ht⟩) hS.2.2 hd hC.2.2.2.2.2.1
/-- the world in another order, ahead of a part that stays -/
theorem k_perm {X X' Y : va_W} (is : List Nat) (hn : va_nd is = true) (hs : is.map (fun i => X[i]?) = X'.map some) (k : V p l e R s m args below meth c g nL cells slots Q A A (X' ++ Y) pc lv st) : V p l e R s m args below meth c g nL cells slots Q A A (X ++ Y) pc lv st := by
  intro H locs ls hD hP hS hl
  have hsub : ∀ q ∈ X', q ∈ X := fun q hq => by
    obtain ⟨j, hj⟩ := List.getElem?_of_mem hq
    have h1 : (is.map (fun i => X[i]?))[j]? = some (some q) := by rw [hs, List.getElem?_map, hj]; rfl
    rw [List.getElem?_map] at h1
    cases hi : is[j]? with
    | none => rw [hi] at h1; cases h1
    | some i => rw [hi] at h1; exact List.mem_of_getElem? (Option.some.inj h1)
  have hDX : va_D A X' := (hD.subl (List.sublist_append_left X Y)).sub is hn hs
  have hDY : va_D A Y := hD.subl (List.sublist_append_right X Y)
  refine k H locs ls (va_D.app hDX hDY (fun i j x y hx hy e9 => ?_)) (fun k9 q9 h9 => ?_) hS hl
  · have hn9 := hD.nodup
    rw [List.map_append, List.nodup_append] at hn9
    exact hn9.2.2 x.1 (List.mem_map.mpr ⟨x, hsub x (List.mem_of_getElem? hx), rfl⟩) y.1 (List.mem_map.mpr ⟨y, List.mem_of_getElem? hy, rfl⟩) e9
  · rcases List.mem_append.mp (List.mem_of_getElem? h9) with h | h
    · exact hP.mem (List.mem_append_left _ (hsub _ h))
    · exact hP.mem (List.mem_append_right _ h)
/-- two parts of the world change places -/
theorem k_swap {X Y Z : va_W} (k : V p l e R s m args below meth c g nL cells slots Q A A (X ++ Z ++ Y) pc lv st) : V p l e R s m args below meth c g nL cells slots Q A A (X ++ Y ++ Z) pc lv st := by
  intro H locs ls hD hP hS hl
  have hp9 : (X ++ Z ++ Y).Perm (X ++ Y ++ Z) := by
    rw [List.append_assoc, List.append_assoc]
    exact List.Perm.append_left X List.perm_append_comm
  refine k H locs ls (va_D.ofNodup ((hp9.map Prod.fst).nodup_iff.mpr hD.nodup) (fun q hq => hD.memB (hp9.mem_iff.mp hq))) (fun k9 q9 h9 => hP.mem (hp9.mem_iff.mp (List.mem_of_getElem? h9))) hS hl
end KROWS
theorem m_ofVK {l : Launch} {y : MethodName} {Ts ws' : List Cond} {rm : Room} {cc : ByteArray} {nL : Nat} {av : List Value} {g : va_G} {cy : Nat → ClassId} {sz : Nat} {ws : va_W} {S : Type} {Wf : S → va_W} {mc ms : Nat} (own : String) (ho : y.cls = own) (hy : plainName y.cls = true) (hyn : y.name = "<init>") (hw : Ts = Cond.code y cc nL none :: ws') (lv : List (Nat × Value)) (hlv : lv_args 0 av = lv) (hlen : (lg_sl av).length ≤ nL)
    (body : ∀ (p : Program) (e : Env) (s : State) (m : MethodId) (args : Array Value) (below : List Frame) (meth : Method) (c : Code), CX p s m args meth c g cy nL cc Ts own → meth.sig.returnType = none → meth.name = "<init>" → va_AO RX0 s → (∀ q, s.heap.size ≤ q → va_A ws sz q) → V p l e (headSpec Ts rm).room s m args below meth c g nL 0 0 (MQ below (QK g (va_A ws sz) Wf) args s mc ms (va_A ws sz)) (va_A ws sz) (va_A ws sz) ws 0 lv []) : Met l y Ts rm (PK av g cy sz ws) (QK g (va_A ws sz) Wf) mc ms (va_A ws sz) := by
  refine Met.ofW (cc := cc) (maxL := nL) (ret := none) hy hw ?_
  intro p e s m args below meth c s₁ X hml hv
  obtain ⟨rfl, hsz, ⟨hP, hK, hD0, hN⟩, hO⟩ := hv
  have hown : s.vm.findClass own = some m.cls := ho ▸ findClass_of_methodNamed X.named
  have hC : CX p s m av.toArray meth c g cy nL cc Ts own := ⟨X.exec, X.bytes, hml, hown, atoms_spec X.pre, X.notSynchronized, hK, hN⟩
  have hnm : meth.name = "<init>" := (name_of_methodNamed X.named X.method).1.trans hyn
  have hl := lv_entry av (n := nL) hlen
  rw [lg_entry_eq]
  rw [hlv] at hl
  exact body p e s m av.toArray below meth c hC X.returns hnm hO (fun q h => Or.inr (by omega)) s.heap [] _ (hD0.self) hP va_S.rf hl

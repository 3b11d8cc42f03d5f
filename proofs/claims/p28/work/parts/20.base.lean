/-! ===== the walk's own judgement: V (world, place, locals, stack), over the kit's W ===== -/
set_option maxRecDepth 4000
abbrev tyL (cy : Nat → ClassId) : List (ClassId × FieldType) := [(cy 0, .int), (cy 1, .int), (cy 2, .object "CrowdFaces$Film"), (cy 3, .int)]
/-- an index in its bounds, as a program tells it -/
def nb (i : Int32) (n : Nat) : Bool := decide (0 ≤ i.toInt) && decide (i.toInt < (n : Int))
theorem nb_iff {i : Int32} {n : Nat} : nb i n = true ↔ 0 ≤ i.toInt ∧ i.toInt < (n : Int) := by simp [nb]
theorem nb_in {i : Int32} {n : Nat} (h : nb i n = true) : vp_in i n := vp_in_iff.mpr (nb_iff.mp h)
theorem ite_g {α : Type} {c : Prop} {h0 : Decidable c} {a : Option α} {r : α} (h : (@ite _ c h0 a none) = some r) : c ∧ a = some r := by
  by_cases hc : c
  · rw [if_pos hc] at h
    exact ⟨hc, h⟩
  · rw [if_neg hc] at h
    cases h
theorem ite_t {α : Type} {c : Prop} {h0 : Decidable c} {a b r : α} (hc : c) (h : (@ite _ c h0 a b) = r) : a = r := by
  rw [if_pos hc] at h
  exact h
theorem ite_f {α : Type} {c : Prop} {h0 : Decidable c} {a b r : α} (hc : ¬ c) (h : (@ite _ c h0 a b) = r) : b = r := by
  rw [if_neg hc] at h
  exact h
theorem bind_g {α β : Type} {o : Option α} {f : α → Option β} {r : β} (h : o.bind f = some r) : ∃ v, o = some v ∧ f v = some r := by
  cases o with
  | none => cases h
  | some v => exact ⟨v, rfl, h⟩
theorem ne_I {x v : Int32} {z : Int} (hz : v.toInt = z) (h : ¬ x = v) : x.toInt ≠ z := fun e => h (Int32.toInt_inj.mp (e.trans hz.symm))
/-- a boolean's answer -/
def bz (v : Int32) : Option Int32 := if v = 0 then some 0 else if v = 1 then some 1 else none
theorem bz_g {v r : Int32} (h : bz v = some r) : v = r ∧ narrow .boolean (.int v) = .int v := by
  unfold bz at h
  by_cases h0 : v = 0
  · rw [if_pos h0] at h
    cases h
    exact ⟨h0, by rw [h0]; rfl⟩
  · rw [if_neg h0] at h
    by_cases h1 : v = 1
    · rw [if_pos h1] at h
      cases h
      exact ⟨h1, by rw [h1]; rfl⟩
    · rw [if_neg h1] at h
      cases h
/-- the links between nest mates -/
noncomputable def nxW : List (String × Nat × MethodName × String) := [(RX0, 93, yX7_has, "CrowdFaces"), (RX0, 116, yX7_begun, "CrowdFaces"), (RX2, 42, yX7_isSetting, "CrowdFaces"), (RX2, 61, yX7_has, "CrowdFaces"), (RX2, 64, yX7_isIn, "CrowdFaces"), (RX6, 67, yX7_isIn, "CrowdFaces")]
def NX (U : State) : Prop := ∀ q ∈ nxW, va_Nw (.methodLinkNest q.1 q.2.1 q.2.2.1 q.2.2.2) U
theorem NX.moved {s U : State} (hW : s.WarmedH U.vm) (h : NX s) : NX U := fun q hq => va_Nw.warmM hW (h q hq)
theorem NX.same {u U : State} (e : u.vm = U.vm) (h : NX u) : NX U := fun q hq => va_Nw.same rfl e (h q hq)
/-- a method's start: its arguments, its world, the tables -/
def PW (av : List Value) (g : va_G) (cy : Nat → ClassId) (ws : va_W) : Array Value → State → Prop := va_Pc av (fun U => va_P g vwCl ws U.heap ∧ va_K g vwCl (tyL cy) U ∧ va_D (fun _ => True) ws ∧ NX U)
theorem PW.blind {av : List Value} {g : va_G} {cy : Nat → ClassId} {ws : va_W} : FrameBlind (PW av g cy ws) := fun a U fr mk h => by
  obtain ⟨q0, qP, qK, qD, qN⟩ := h
  exact ⟨q0, qP, va_K.moved (u := U) (U := U.calling fr mk a) (Vm.Alike.refl U.vm) qK, qD, NX.same (u := U) (U := U.calling fr mk a) rfl qN⟩
/-- rounds of a loop, more than any can need -/
def FU : Nat := 4000
def nF : Nat → Prop := fun _ => False
/-- the cells of a world -/
def wA (ws : va_W) : Nat → Prop := fun q => ∃ (k : Nat) (e : va_E), ws[k]? = some (q, e)
theorem wA.self {ws : va_W} {B : Nat → Prop} (h : va_D B ws) : va_D (wA ws) ws := ⟨h.1, fun k q hk => ⟨k, q.2, hk⟩⟩
def QRi (r : Int32) : Array Value → State → Outcome → State → Prop := va_Qi (fun x (_ : Unit) => x = r) (fun _ _ => True) nF
def QRl (r : Int64) : Array Value → State → Outcome → State → Prop := va_Ql (fun x (_ : Unit) => x = r) (fun _ _ => True) nF
def QWi (g : va_G) (A : Nat → Prop) (r : Int32) (ws : va_W) : Array Value → State → Outcome → State → Prop := va_Qi (fun x (_ : Unit) => x = r) (fun _ t => va_P g vwCl ws t.heap) A
def QWv (g : va_G) (A : Nat → Prop) (ws : va_W) : Array Value → State → Outcome → State → Prop := va_Qv (fun (_ : Unit) => True) (fun _ t => va_P g vwCl ws t.heap) A

section VROWS
variable {p : Program} {l : Launch} {e : Env} {R : Room} {s : State} {m : MethodId} {args : Array Value} {below : List Frame} {meth : Method} {c : Code} {cells slots : Nat} {Q : State → Prop}
variable {g : va_G} {cy : Nat → ClassId} {nL : Nat} {cc : ByteArray} {Ts : List Cond} {own : String} {A B : Nat → Prop} {ws : va_W} {pc pc' : Nat} {lv lv' : List (Nat × Value)} {st : List Value}
/-- what stands fast during a method's walk -/
def CX (p : Program) (s : State) (m : MethodId) (args : Array Value) (meth : Method) (c : Code) (g : va_G) (cy : Nat → ClassId) (nL : Nat) (cc : ByteArray) (Ts : List Cond) (own : String) : Prop :=
  p.tables.exec = Jvm.exec ∧ c.code = cc ∧ c.maxLocals = nL ∧ s.vm.findClass own = some m.cls ∧ (∀ w ∈ Ts, w.before args s = true) ∧ meth.locks = false ∧ va_K g vwCl (tyL cy) s ∧ NX s
def V (p : Program) (l : Launch) (e : Env) (R : Room) (s : State) (m : MethodId) (args : Array Value) (below : List Frame) (meth : Method) (c : Code) (g : va_G) (nL cells slots : Nat) (Q : State → Prop) (A B : Nat → Prop) (ws : va_W) (pc : Nat) (lv : List (Nat × Value)) (st : List Value) : Prop :=
  ∀ (H : Heap) (locs : List Loc) (ls : Array Slot), va_D B ws → va_P g vwCl ws H → va_S A s.heap H locs → lv_has ls nL lv → W p l e R s m args below meth c H locs cells slots Q (F0 m pc ls st)
theorem CX.fix (h : CX p s m args meth c g cy nL cc Ts own) : CallFix p m c cc nL s args Ts own := ⟨h.1, h.2.1, h.2.2.1, h.2.2.2.1, h.2.2.2.2.1⟩
/-- fewer locals -/
theorem v_sub (ks : List Nat) (hl : lv_pick lv ks = lv') (k : V p l e R s m args below meth c g nL cells slots Q A B ws pc lv' st) : V p l e R s m args below meth c g nL cells slots Q A B ws pc lv st :=
  fun H locs ls hD hP hS h => k H locs ls hD hP hS (lv_sub h ks hl)
theorem v_eqs {st' : List Value} (h : st = st') (k : V p l e R s m args below meth c g nL cells slots Q A B ws pc lv st') : V p l e R s m args below meth c g nL cells slots Q A B ws pc lv st := h ▸ k
theorem v_eqw {ws' : va_W} (h : ws = ws') (k : V p l e R s m args below meth c g nL cells slots Q A B ws' pc lv st) : V p l e R s m args below meth c g nL cells slots Q A B ws pc lv st := h ▸ k

theorem v_iadd (hC : CX p s m args meth c g cy nL cc Ts own) {x y : Int32} (hd : decode cc pc = .ok (.iadd, 1))  (hp : pc + 1 = pc') (k : V p l e R s m args below meth c g nL cells slots Q A B ws pc' lv (.int (x + y) :: st)) : V p l e R s m args below meth c g nL cells slots Q A B ws pc lv (.int y :: .int x :: st) := by
  subst hp
  intro H locs ls hD hP hS hl
  exact lv_iadd hC.1 hC.2.1 hd (k H locs ls hD hP hS hl)
theorem v_isub (hC : CX p s m args meth c g cy nL cc Ts own) {x y : Int32} (hd : decode cc pc = .ok (.isub, 1))  (hp : pc + 1 = pc') (k : V p l e R s m args below meth c g nL cells slots Q A B ws pc' lv (.int (x - y) :: st)) : V p l e R s m args below meth c g nL cells slots Q A B ws pc lv (.int y :: .int x :: st) := by
  subst hp
  intro H locs ls hD hP hS hl
  exact lv_isub hC.1 hC.2.1 hd (k H locs ls hD hP hS hl)
theorem v_imul (hC : CX p s m args meth c g cy nL cc Ts own) {x y : Int32} (hd : decode cc pc = .ok (.imul, 1))  (hp : pc + 1 = pc') (k : V p l e R s m args below meth c g nL cells slots Q A B ws pc' lv (.int (x * y) :: st)) : V p l e R s m args below meth c g nL cells slots Q A B ws pc lv (.int y :: .int x :: st) := by
  subst hp
  intro H locs ls hD hP hS hl
  exact lv_imul hC.1 hC.2.1 hd (k H locs ls hD hP hS hl)
theorem v_iand (hC : CX p s m args meth c g cy nL cc Ts own) {x y : Int32} (hd : decode cc pc = .ok (.iand, 1))  (hp : pc + 1 = pc') (k : V p l e R s m args below meth c g nL cells slots Q A B ws pc' lv (.int (x &&& y) :: st)) : V p l e R s m args below meth c g nL cells slots Q A B ws pc lv (.int y :: .int x :: st) := by
  subst hp
  intro H locs ls hD hP hS hl
  exact lv_iand hC.1 hC.2.1 hd (k H locs ls hD hP hS hl)
theorem v_ior (hC : CX p s m args meth c g cy nL cc Ts own) {x y : Int32} (hd : decode cc pc = .ok (.ior, 1))  (hp : pc + 1 = pc') (k : V p l e R s m args below meth c g nL cells slots Q A B ws pc' lv (.int (x ||| y) :: st)) : V p l e R s m args below meth c g nL cells slots Q A B ws pc lv (.int y :: .int x :: st) := by
  subst hp
  intro H locs ls hD hP hS hl
  exact lv_ior hC.1 hC.2.1 hd (k H locs ls hD hP hS hl)
theorem v_ixor (hC : CX p s m args meth c g cy nL cc Ts own) {x y : Int32} (hd : decode cc pc = .ok (.ixor, 1))  (hp : pc + 1 = pc') (k : V p l e R s m args below meth c g nL cells slots Q A B ws pc' lv (.int (x ^^^ y) :: st)) : V p l e R s m args below meth c g nL cells slots Q A B ws pc lv (.int y :: .int x :: st) := by
  subst hp
  intro H locs ls hD hP hS hl
  exact lv_ixor hC.1 hC.2.1 hd (k H locs ls hD hP hS hl)
theorem v_ishl (hC : CX p s m args meth c g cy nL cc Ts own) {x y : Int32} (hd : decode cc pc = .ok (.ishl, 1))  (hp : pc + 1 = pc') (k : V p l e R s m args below meth c g nL cells slots Q A B ws pc' lv (.int (x <<< (y &&& 31)) :: st)) : V p l e R s m args below meth c g nL cells slots Q A B ws pc lv (.int y :: .int x :: st) := by
  subst hp
  intro H locs ls hD hP hS hl
  exact lv_ishl hC.1 hC.2.1 hd (k H locs ls hD hP hS hl)
theorem v_ishr (hC : CX p s m args meth c g cy nL cc Ts own) {x y : Int32} (hd : decode cc pc = .ok (.ishr, 1))  (hp : pc + 1 = pc') (k : V p l e R s m args below meth c g nL cells slots Q A B ws pc' lv (.int (x >>> (y &&& 31)) :: st)) : V p l e R s m args below meth c g nL cells slots Q A B ws pc lv (.int y :: .int x :: st) := by
  subst hp
  intro H locs ls hD hP hS hl
  exact lv_ishr hC.1 hC.2.1 hd (k H locs ls hD hP hS hl)
theorem v_iushr (hC : CX p s m args meth c g cy nL cc Ts own) {x y : Int32} (hd : decode cc pc = .ok (.iushr, 1))  (hp : pc + 1 = pc') (k : V p l e R s m args below meth c g nL cells slots Q A B ws pc' lv (.int (x.toUInt32 >>> (y.toUInt32 &&& Int32.toUInt32 31)).toInt32 :: st)) : V p l e R s m args below meth c g nL cells slots Q A B ws pc lv (.int y :: .int x :: st) := by
  subst hp
  intro H locs ls hD hP hS hl
  exact lv_iushr hC.1 hC.2.1 hd rfl (k H locs ls hD hP hS hl)
theorem v_idiv (hC : CX p s m args meth c g cy nL cc Ts own) {x y : Int32} (hd : decode cc pc = .ok (.idiv, 1)) (hne : ¬ y = 0) (hp : pc + 1 = pc') (k : V p l e R s m args below meth c g nL cells slots Q A B ws pc' lv (.int (x / y) :: st)) : V p l e R s m args below meth c g nL cells slots Q A B ws pc lv (.int y :: .int x :: st) := by
  subst hp
  intro H locs ls hD hP hS hl
  exact lv_idiv hC.1 hC.2.1 hd hne (k H locs ls hD hP hS hl)
theorem v_irem (hC : CX p s m args meth c g cy nL cc Ts own) {x y : Int32} (hd : decode cc pc = .ok (.irem, 1)) (hne : ¬ y = 0) (hp : pc + 1 = pc') (k : V p l e R s m args below meth c g nL cells slots Q A B ws pc' lv (.int (x - x / y * y) :: st)) : V p l e R s m args below meth c g nL cells slots Q A B ws pc lv (.int y :: .int x :: st) := by
  subst hp
  intro H locs ls hD hP hS hl
  exact lv_irem hC.1 hC.2.1 hd hne (k H locs ls hD hP hS hl)
theorem v_ineg (hC : CX p s m args meth c g cy nL cc Ts own) {x : Int32} (hd : decode cc pc = .ok (.ineg, 1))  (hp : pc + 1 = pc') (k : V p l e R s m args below meth c g nL cells slots Q A B ws pc' lv (.int (-x) :: st)) : V p l e R s m args below meth c g nL cells slots Q A B ws pc lv (.int x :: st) := by
  subst hp
  intro H locs ls hD hP hS hl
  exact lv_ineg hC.1 hC.2.1 hd (k H locs ls hD hP hS hl)
theorem v_i2l (hC : CX p s m args meth c g cy nL cc Ts own) {x : Int32} (hd : decode cc pc = .ok (.i2l, 1))  (hp : pc + 1 = pc') (k : V p l e R s m args below meth c g nL cells slots Q A B ws pc' lv (.long x.toInt64 :: st)) : V p l e R s m args below meth c g nL cells slots Q A B ws pc lv (.int x :: st) := by
  subst hp
  intro H locs ls hD hP hS hl
  exact lv_i2l hC.1 hC.2.1 hd rfl (k H locs ls hD hP hS hl)
theorem v_l2i (hC : CX p s m args meth c g cy nL cc Ts own) {x : Int64} (hd : decode cc pc = .ok (.l2i, 1))  (hp : pc + 1 = pc') (k : V p l e R s m args below meth c g nL cells slots Q A B ws pc' lv (.int x.toInt32 :: st)) : V p l e R s m args below meth c g nL cells slots Q A B ws pc lv (.long x :: st) := by
  subst hp
  intro H locs ls hD hP hS hl
  exact lv_l2i hC.1 hC.2.1 hd rfl (k H locs ls hD hP hS hl)
theorem v_ladd (hC : CX p s m args meth c g cy nL cc Ts own) {x y : Int64} (hd : decode cc pc = .ok (.ladd, 1))  (hp : pc + 1 = pc') (k : V p l e R s m args below meth c g nL cells slots Q A B ws pc' lv (.long (x + y) :: st)) : V p l e R s m args below meth c g nL cells slots Q A B ws pc lv (.long y :: .long x :: st) := by
  subst hp
  intro H locs ls hD hP hS hl
  exact lv_ladd hC.1 hC.2.1 hd (k H locs ls hD hP hS hl)
theorem v_lsub (hC : CX p s m args meth c g cy nL cc Ts own) {x y : Int64} (hd : decode cc pc = .ok (.lsub, 1))  (hp : pc + 1 = pc') (k : V p l e R s m args below meth c g nL cells slots Q A B ws pc' lv (.long (x - y) :: st)) : V p l e R s m args below meth c g nL cells slots Q A B ws pc lv (.long y :: .long x :: st) := by
  subst hp
  intro H locs ls hD hP hS hl
  exact lv_lsub hC.1 hC.2.1 hd (k H locs ls hD hP hS hl)
theorem v_lmul (hC : CX p s m args meth c g cy nL cc Ts own) {x y : Int64} (hd : decode cc pc = .ok (.lmul, 1))  (hp : pc + 1 = pc') (k : V p l e R s m args below meth c g nL cells slots Q A B ws pc' lv (.long (x * y) :: st)) : V p l e R s m args below meth c g nL cells slots Q A B ws pc lv (.long y :: .long x :: st) := by
  subst hp
  intro H locs ls hD hP hS hl
  exact lv_lmul hC.1 hC.2.1 hd (k H locs ls hD hP hS hl)
theorem v_land (hC : CX p s m args meth c g cy nL cc Ts own) {x y : Int64} (hd : decode cc pc = .ok (.land, 1))  (hp : pc + 1 = pc') (k : V p l e R s m args below meth c g nL cells slots Q A B ws pc' lv (.long (x &&& y) :: st)) : V p l e R s m args below meth c g nL cells slots Q A B ws pc lv (.long y :: .long x :: st) := by
  subst hp
  intro H locs ls hD hP hS hl
  exact lv_land hC.1 hC.2.1 hd (k H locs ls hD hP hS hl)
theorem v_lor (hC : CX p s m args meth c g cy nL cc Ts own) {x y : Int64} (hd : decode cc pc = .ok (.lor, 1))  (hp : pc + 1 = pc') (k : V p l e R s m args below meth c g nL cells slots Q A B ws pc' lv (.long (x ||| y) :: st)) : V p l e R s m args below meth c g nL cells slots Q A B ws pc lv (.long y :: .long x :: st) := by
  subst hp
  intro H locs ls hD hP hS hl
  exact lv_lor hC.1 hC.2.1 hd (k H locs ls hD hP hS hl)
theorem v_ldiv (hC : CX p s m args meth c g cy nL cc Ts own) {x y : Int64} (hd : decode cc pc = .ok (.ldiv, 1)) (hne : ¬ y = 0) (hp : pc + 1 = pc') (k : V p l e R s m args below meth c g nL cells slots Q A B ws pc' lv (.long (x / y) :: st)) : V p l e R s m args below meth c g nL cells slots Q A B ws pc lv (.long y :: .long x :: st) := by
  subst hp
  intro H locs ls hD hP hS hl
  exact lv_ldiv hC.1 hC.2.1 hd hne (k H locs ls hD hP hS hl)
theorem v_lrem (hC : CX p s m args meth c g cy nL cc Ts own) {x y : Int64} (hd : decode cc pc = .ok (.lrem, 1)) (hne : ¬ y = 0) (hp : pc + 1 = pc') (k : V p l e R s m args below meth c g nL cells slots Q A B ws pc' lv (.long (x - x / y * y) :: st)) : V p l e R s m args below meth c g nL cells slots Q A B ws pc lv (.long y :: .long x :: st) := by
  subst hp
  intro H locs ls hD hP hS hl
  exact lv_lrem hC.1 hC.2.1 hd hne (k H locs ls hD hP hS hl)
theorem v_lshl (hC : CX p s m args meth c g cy nL cc Ts own) {x : Int64} {y : Int32} (hd : decode cc pc = .ok (.lshl, 1))  (hp : pc + 1 = pc') (k : V p l e R s m args below meth c g nL cells slots Q A B ws pc' lv (.long (x <<< (y.toInt64 &&& 63)) :: st)) : V p l e R s m args below meth c g nL cells slots Q A B ws pc lv (.int y :: .long x :: st) := by
  subst hp
  intro H locs ls hD hP hS hl
  exact lv_lshl hC.1 hC.2.1 hd rfl (k H locs ls hD hP hS hl)
theorem v_lushr (hC : CX p s m args meth c g cy nL cc Ts own) {x : Int64} {y : Int32} (hd : decode cc pc = .ok (.lushr, 1))  (hp : pc + 1 = pc') (k : V p l e R s m args below meth c g nL cells slots Q A B ws pc' lv (.long (x.toUInt64 >>> (y.toInt64.toUInt64 &&& Int64.toUInt64 63)).toInt64 :: st)) : V p l e R s m args below meth c g nL cells slots Q A B ws pc lv (.int y :: .long x :: st) := by
  subst hp
  intro H locs ls hD hP hS hl
  exact lv_lushr hC.1 hC.2.1 hd rfl (k H locs ls hD hP hS hl)
theorem v_lcmp (hC : CX p s m args meth c g cy nL cc Ts own) {x y : Int64} (hd : decode cc pc = .ok (.lcmp, 1))  (hp : pc + 1 = pc') (k : V p l e R s m args below meth c g nL cells slots Q A B ws pc' lv (.int (lg_cmp x y) :: st)) : V p l e R s m args below meth c g nL cells slots Q A B ws pc lv (.long y :: .long x :: st) := by
  subst hp
  intro H locs ls hD hP hS hl
  exact W.lcmp hC.1 hC.2.1 hd (k H locs ls hD hP hS hl)
theorem v_iconst (hC : CX p s m args meth c g cy nL cc Ts own) {n : Int} {v : Int32} (hd : decode cc pc = .ok (.iconst n, 1)) (hv : Int32.ofInt n = v) (hp : pc + 1 = pc') (k : V p l e R s m args below meth c g nL cells slots Q A B ws pc' lv (.int v :: st)) : V p l e R s m args below meth c g nL cells slots Q A B ws pc lv st := by
  subst hp
  intro H locs ls hD hP hS hl
  exact lv_iconst hC.1 hC.2.1 hd hv (k H locs ls hD hP hS hl)
theorem v_bipush (hC : CX p s m args meth c g cy nL cc Ts own) {n : Int} {v : Int32} (hd : decode cc pc = .ok (.bipush n, 2)) (hv : (Int8.ofInt n).toInt32 = v) (hp : pc + 2 = pc') (k : V p l e R s m args below meth c g nL cells slots Q A B ws pc' lv (.int v :: st)) : V p l e R s m args below meth c g nL cells slots Q A B ws pc lv st := by
  subst hp
  intro H locs ls hD hP hS hl
  exact lv_bipush hC.1 hC.2.1 hd hv (k H locs ls hD hP hS hl)
theorem v_sipush (hC : CX p s m args meth c g cy nL cc Ts own) {n : Int} {v : Int32} (hd : decode cc pc = .ok (.sipush n, 3)) (hv : (Int16.ofInt n).toInt32 = v) (hp : pc + 3 = pc') (k : V p l e R s m args below meth c g nL cells slots Q A B ws pc' lv (.int v :: st)) : V p l e R s m args below meth c g nL cells slots Q A B ws pc lv st := by
  subst hp
  intro H locs ls hD hP hS hl
  exact lv_sipush hC.1 hC.2.1 hd hv (k H locs ls hD hP hS hl)
theorem v_lconst (hC : CX p s m args meth c g cy nL cc Ts own) {n : Fin 2} {v : Int64} (hd : decode cc pc = .ok (.lconst n, 1)) (hv : Int64.ofNat (n : Nat) = v) (hp : pc + 1 = pc') (k : V p l e R s m args below meth c g nL cells slots Q A B ws pc' lv (.long v :: st)) : V p l e R s m args below meth c g nL cells slots Q A B ws pc lv st := by
  subst hp
  intro H locs ls hD hP hS hl
  exact lv_lconst hC.1 hC.2.1 hd hv (k H locs ls hD hP hS hl)
theorem v_ldc2 (hC : CX p s m args meth c g cy nL cc Ts own) {index : Nat} {v : Int64} (hd : decode cc pc = .ok (.ldc2_w index, 3)) (hk : Cond.constantLong own index v ∈ Ts) (hp : pc + 3 = pc') (k : V p l e R s m args below meth c g nL cells slots Q A B ws pc' lv (.long v :: st)) : V p l e R s m args below meth c g nL cells slots Q A B ws pc lv st := by
  subst hp
  intro H locs ls hD hP hS hl
  exact lv_ldc2 hC.1 hC.2.1 hC.2.2.2.1 (hC.2.2.2.2.1 _ hk) hd (k H locs ls hD hP hS hl)
theorem v_ldcw (hC : CX p s m args meth c g cy nL cc Ts own) {index : Nat} {v : Int32} (hd : decode cc pc = .ok (.ldc_w index, 3)) (hk : Cond.constant own index v ∈ Ts) (hp : pc + 3 = pc') (k : V p l e R s m args below meth c g nL cells slots Q A B ws pc' lv (.int v :: st)) : V p l e R s m args below meth c g nL cells slots Q A B ws pc lv st := by
  subst hp
  intro H locs ls hD hP hS hl
  exact lv_ldcw hC.1 hC.2.1 hC.2.2.2.1 (hC.2.2.2.2.1 _ hk) hd (k H locs ls hD hP hS hl)
theorem v_ldc (hC : CX p s m args meth c g cy nL cc Ts own) {index : Nat} {v : Int32} (hd : decode cc pc = .ok (.ldc index, 2)) (hk : Cond.constant own index v ∈ Ts) (hp : pc + 2 = pc') (k : V p l e R s m args below meth c g nL cells slots Q A B ws pc' lv (.int v :: st)) : V p l e R s m args below meth c g nL cells slots Q A B ws pc lv st := by
  subst hp
  intro H locs ls hD hP hS hl
  exact lv_ldc hC.1 hC.2.1 hC.2.2.2.1 (hC.2.2.2.2.1 _ hk) hd (k H locs ls hD hP hS hl)
theorem v_null (hC : CX p s m args meth c g cy nL cc Ts own)  (hd : decode cc pc = .ok (.aconst_null, 1))  (hp : pc + 1 = pc') (k : V p l e R s m args below meth c g nL cells slots Q A B ws pc' lv (.null :: st)) : V p l e R s m args below meth c g nL cells slots Q A B ws pc lv st := by
  subst hp
  intro H locs ls hD hP hS hl
  exact lv_null hC.1 hC.2.1 hd (k H locs ls hD hP hS hl)
theorem v_dup (hC : CX p s m args meth c g cy nL cc Ts own) {va : Value} (hd : decode cc pc = .ok (.dup, 1)) (hva : va.category = 1) (hp : pc + 1 = pc') (k : V p l e R s m args below meth c g nL cells slots Q A B ws pc' lv (va :: va :: st)) : V p l e R s m args below meth c g nL cells slots Q A B ws pc lv (va :: st) := by
  subst hp
  intro H locs ls hD hP hS hl
  exact lv_dup hC.1 hC.2.1 hd hva (k H locs ls hD hP hS hl)
theorem v_dup2 (hC : CX p s m args meth c g cy nL cc Ts own) {va vb : Value} (hd : decode cc pc = .ok (.dup2, 1)) (hva : va.category = 1) (hvb : vb.category = 1) (hp : pc + 1 = pc') (k : V p l e R s m args below meth c g nL cells slots Q A B ws pc' lv (va :: vb :: va :: vb :: st)) : V p l e R s m args below meth c g nL cells slots Q A B ws pc lv (va :: vb :: st) := by
  subst hp
  intro H locs ls hD hP hS hl
  exact lv_dup2_11 hC.1 hC.2.1 hd hva hvb (k H locs ls hD hP hS hl)
theorem v_pop (hC : CX p s m args meth c g cy nL cc Ts own) {va : Value} (hd : decode cc pc = .ok (.pop, 1)) (hva : va.category = 1) (hp : pc + 1 = pc') (k : V p l e R s m args below meth c g nL cells slots Q A B ws pc' lv st) : V p l e R s m args below meth c g nL cells slots Q A B ws pc lv (va :: st) := by
  subst hp
  intro H locs ls hD hP hS hl
  exact lv_pop hC.1 hC.2.1 hd hva (k H locs ls hD hP hS hl)
theorem v_iload_n (hC : CX p s m args meth c g cy nL cc Ts own) {kf : Fin 4} {i : Nat} {x : Int32} (hd : decode cc pc = .ok (.iload_n kf, 1)) (hi : (kf : Nat) = i) (k0 : Nat) (he : lv[k0]? = some (i, .int x)) (hp : pc + 1 = pc') (k : V p l e R s m args below meth c g nL cells slots Q A B ws pc' lv (.int x :: st)) : V p l e R s m args below meth c g nL cells slots Q A B ws pc lv st := by
  subst hp
  intro H locs ls hD hP hS hl
  exact lv_iload_n hC.1 hC.2.1 hd hi (lv_at hl k0 he) (k H locs ls hD hP hS hl)
theorem v_iload (hC : CX p s m args meth c g cy nL cc Ts own) {i : Nat} {x : Int32} (hd : decode cc pc = .ok (.iload i, 2)) (k0 : Nat) (he : lv[k0]? = some (i, .int x)) (hp : pc + 2 = pc') (k : V p l e R s m args below meth c g nL cells slots Q A B ws pc' lv (.int x :: st)) : V p l e R s m args below meth c g nL cells slots Q A B ws pc lv st := by
  subst hp
  intro H locs ls hD hP hS hl
  exact lv_iload hC.1 hC.2.1 hd (lv_at hl k0 he) (k H locs ls hD hP hS hl)
theorem v_aload_n (hC : CX p s m args meth c g cy nL cc Ts own) {kf : Fin 4} {i : Nat} {x : Nat} (hd : decode cc pc = .ok (.aload_n kf, 1)) (hi : (kf : Nat) = i) (k0 : Nat) (he : lv[k0]? = some (i, .ref x)) (hp : pc + 1 = pc') (k : V p l e R s m args below meth c g nL cells slots Q A B ws pc' lv (.ref x :: st)) : V p l e R s m args below meth c g nL cells slots Q A B ws pc lv st := by
  subst hp
  intro H locs ls hD hP hS hl
  exact lv_aload_n hC.1 hC.2.1 hd hi (lv_at hl k0 he) (k H locs ls hD hP hS hl)
theorem v_aload (hC : CX p s m args meth c g cy nL cc Ts own) {i : Nat} {x : Nat} (hd : decode cc pc = .ok (.aload i, 2)) (k0 : Nat) (he : lv[k0]? = some (i, .ref x)) (hp : pc + 2 = pc') (k : V p l e R s m args below meth c g nL cells slots Q A B ws pc' lv (.ref x :: st)) : V p l e R s m args below meth c g nL cells slots Q A B ws pc lv st := by
  subst hp
  intro H locs ls hD hP hS hl
  exact lv_aload hC.1 hC.2.1 hd (lv_at hl k0 he) (k H locs ls hD hP hS hl)
theorem v_lload_n (hC : CX p s m args meth c g cy nL cc Ts own) {kf : Fin 4} {i : Nat} {x : Int64} (hd : decode cc pc = .ok (.lload_n kf, 1)) (hi : (kf : Nat) = i) (k0 : Nat) (he : lv[k0]? = some (i, .long x)) (hp : pc + 1 = pc') (k : V p l e R s m args below meth c g nL cells slots Q A B ws pc' lv (.long x :: st)) : V p l e R s m args below meth c g nL cells slots Q A B ws pc lv st := by
  subst hp
  intro H locs ls hD hP hS hl
  exact lv_lload_n hC.1 hC.2.1 hd hi (lv_at hl k0 he) (k H locs ls hD hP hS hl)
theorem v_lload (hC : CX p s m args meth c g cy nL cc Ts own) {i : Nat} {x : Int64} (hd : decode cc pc = .ok (.lload i, 2)) (k0 : Nat) (he : lv[k0]? = some (i, .long x)) (hp : pc + 2 = pc') (k : V p l e R s m args below meth c g nL cells slots Q A B ws pc' lv (.long x :: st)) : V p l e R s m args below meth c g nL cells slots Q A B ws pc lv st := by
  subst hp
  intro H locs ls hD hP hS hl
  exact lv_lload hC.1 hC.2.1 hd (lv_at hl k0 he) (k H locs ls hD hP hS hl)
theorem v_istore_n (hC : CX p s m args meth c g cy nL cc Ts own) {kf : Fin 4} {i : Nat} {x : Int32} (hd : decode cc pc = .ok (.istore_n kf, 1)) (hi : (kf : Nat) = i) (hn : i < nL) (lv' : List (Nat × Value)) (hv : (i, Value.int x) :: lv.filter (fun q => !(q.1 == i) && !(q.1 + 1 == i && q.2.category == 2)) = lv') (hp : pc + 1 = pc') (k : V p l e R s m args below meth c g nL cells slots Q A B ws pc' lv' st) : V p l e R s m args below meth c g nL cells slots Q A B ws pc lv (.int x :: st) := by
  subst hp
  intro H locs ls hD hP hS hl
  exact lv_istore_n hC.1 hC.2.1 hd hi hl hn hv (fun ls2 hl2 => k H locs ls2 hD hP hS hl2)
theorem v_istore (hC : CX p s m args meth c g cy nL cc Ts own) {i : Nat} {x : Int32} (hd : decode cc pc = .ok (.istore i, 2)) (hn : i < nL) (lv' : List (Nat × Value)) (hv : (i, Value.int x) :: lv.filter (fun q => !(q.1 == i) && !(q.1 + 1 == i && q.2.category == 2)) = lv') (hp : pc + 2 = pc') (k : V p l e R s m args below meth c g nL cells slots Q A B ws pc' lv' st) : V p l e R s m args below meth c g nL cells slots Q A B ws pc lv (.int x :: st) := by
  subst hp
  intro H locs ls hD hP hS hl
  exact lv_istore hC.1 hC.2.1 hd hl hn hv (fun ls2 hl2 => k H locs ls2 hD hP hS hl2)
theorem v_astore_n (hC : CX p s m args meth c g cy nL cc Ts own) {kf : Fin 4} {i : Nat} {x : Nat} (hd : decode cc pc = .ok (.astore_n kf, 1)) (hi : (kf : Nat) = i) (hn : i < nL) (lv' : List (Nat × Value)) (hv : (i, Value.ref x) :: lv.filter (fun q => !(q.1 == i) && !(q.1 + 1 == i && q.2.category == 2)) = lv') (hp : pc + 1 = pc') (k : V p l e R s m args below meth c g nL cells slots Q A B ws pc' lv' st) : V p l e R s m args below meth c g nL cells slots Q A B ws pc lv (.ref x :: st) := by
  subst hp
  intro H locs ls hD hP hS hl
  exact lv_astore_n hC.1 hC.2.1 hd hi hl hn hv (fun ls2 hl2 => k H locs ls2 hD hP hS hl2)
theorem v_astore (hC : CX p s m args meth c g cy nL cc Ts own) {i : Nat} {x : Nat} (hd : decode cc pc = .ok (.astore i, 2)) (hn : i < nL) (lv' : List (Nat × Value)) (hv : (i, Value.ref x) :: lv.filter (fun q => !(q.1 == i) && !(q.1 + 1 == i && q.2.category == 2)) = lv') (hp : pc + 2 = pc') (k : V p l e R s m args below meth c g nL cells slots Q A B ws pc' lv' st) : V p l e R s m args below meth c g nL cells slots Q A B ws pc lv (.ref x :: st) := by
  subst hp
  intro H locs ls hD hP hS hl
  exact lv_astore hC.1 hC.2.1 hd hl hn hv (fun ls2 hl2 => k H locs ls2 hD hP hS hl2)
theorem v_lstore_n (hC : CX p s m args meth c g cy nL cc Ts own) {kf : Fin 4} {i : Nat} {x : Int64} (hd : decode cc pc = .ok (.lstore_n kf, 1)) (hi : (kf : Nat) = i) (hn : i + 1 < nL) (lv' : List (Nat × Value)) (hv : (i, Value.long x) :: lv.filter (fun q => !(q.1 == i) && (!(q.1 == i + 1) && !(q.1 + 1 == i && q.2.category == 2))) = lv') (hp : pc + 1 = pc') (k : V p l e R s m args below meth c g nL cells slots Q A B ws pc' lv' st) : V p l e R s m args below meth c g nL cells slots Q A B ws pc lv (.long x :: st) := by
  subst hp
  intro H locs ls hD hP hS hl
  exact lv_lstore_n hC.1 hC.2.1 hd hi hl hn hv (fun ls2 hl2 => k H locs ls2 hD hP hS hl2)
theorem v_lstore (hC : CX p s m args meth c g cy nL cc Ts own) {i : Nat} {x : Int64} (hd : decode cc pc = .ok (.lstore i, 2)) (hn : i + 1 < nL) (lv' : List (Nat × Value)) (hv : (i, Value.long x) :: lv.filter (fun q => !(q.1 == i) && (!(q.1 == i + 1) && !(q.1 + 1 == i && q.2.category == 2))) = lv') (hp : pc + 2 = pc') (k : V p l e R s m args below meth c g nL cells slots Q A B ws pc' lv' st) : V p l e R s m args below meth c g nL cells slots Q A B ws pc lv (.long x :: st) := by
  subst hp
  intro H locs ls hD hP hS hl
  exact lv_lstore hC.1 hC.2.1 hd hl hn hv (fun ls2 hl2 => k H locs ls2 hD hP hS hl2)
theorem v_iinc (hC : CX p s m args meth c g cy nL cc Ts own) {i : Nat} {n : Int} {x : Int32} (hd : decode cc pc = .ok (.iinc i n, 3)) (k0 : Nat) (he : lv[k0]? = some (i, .int x)) {v : Int32} (hv : x + Int32.ofInt n = v) (hn : i < nL) (lv' : List (Nat × Value)) (hf : (i, Value.int v) :: lv.filter (fun q => !(q.1 == i) && !(q.1 + 1 == i && q.2.category == 2)) = lv') (hp : pc + 3 = pc') (k : V p l e R s m args below meth c g nL cells slots Q A B ws pc' lv' st) : V p l e R s m args below meth c g nL cells slots Q A B ws pc lv st := by
  subst hp
  intro H locs ls hD hP hS hl
  exact lv_iinc hC.1 hC.2.1 hd hl he hv hn hf (fun ls2 hl2 => k H locs ls2 hD hP hS hl2)
theorem v_if_eq (hC : CX p s m args meth c g cy nL cc Ts own) {x : Int32} {off : Int} {tgt : Nat} (hd : decode cc pc = .ok (.ifCond .eq off, 3)) (ht : (pc : Int) + off = (tgt : Int)) (hp : pc + 3 = pc') (kt : x = 0 → V p l e R s m args below meth c g nL cells slots Q A B ws tgt lv st) (kf : ¬ x = 0 → V p l e R s m args below meth c g nL cells slots Q A B ws pc' lv st) : V p l e R s m args below meth c g nL cells slots Q A B ws pc lv (.int x :: st) := by
  subst hp
  intro H locs ls hD hP hS hl
  exact lv_if_eq hC.1 hC.2.1 hd ht (fun h => kt h H locs ls hD hP hS hl) (fun h => kf h H locs ls hD hP hS hl)
theorem v_icmp_eq (hC : CX p s m args meth c g cy nL cc Ts own) {x y : Int32} {off : Int} {tgt : Nat} (hd : decode cc pc = .ok (.if_icmp .eq off, 3)) (ht : (pc : Int) + off = (tgt : Int)) (hp : pc + 3 = pc') (kt : x = y → V p l e R s m args below meth c g nL cells slots Q A B ws tgt lv st) (kf : ¬ x = y → V p l e R s m args below meth c g nL cells slots Q A B ws pc' lv st) : V p l e R s m args below meth c g nL cells slots Q A B ws pc lv (.int y :: .int x :: st) := by
  subst hp
  intro H locs ls hD hP hS hl
  exact lv_icmp_eq hC.1 hC.2.1 hd ht (fun h => kt h H locs ls hD hP hS hl) (fun h => kf h H locs ls hD hP hS hl)
theorem v_if_ne (hC : CX p s m args meth c g cy nL cc Ts own) {x : Int32} {off : Int} {tgt : Nat} (hd : decode cc pc = .ok (.ifCond .ne off, 3)) (ht : (pc : Int) + off = (tgt : Int)) (hp : pc + 3 = pc') (kt : ¬ x = 0 → V p l e R s m args below meth c g nL cells slots Q A B ws tgt lv st) (kf : x = 0 → V p l e R s m args below meth c g nL cells slots Q A B ws pc' lv st) : V p l e R s m args below meth c g nL cells slots Q A B ws pc lv (.int x :: st) := by
  subst hp
  intro H locs ls hD hP hS hl
  exact lv_if_ne hC.1 hC.2.1 hd ht (fun h => kt h H locs ls hD hP hS hl) (fun h => kf h H locs ls hD hP hS hl)
theorem v_icmp_ne (hC : CX p s m args meth c g cy nL cc Ts own) {x y : Int32} {off : Int} {tgt : Nat} (hd : decode cc pc = .ok (.if_icmp .ne off, 3)) (ht : (pc : Int) + off = (tgt : Int)) (hp : pc + 3 = pc') (kt : ¬ x = y → V p l e R s m args below meth c g nL cells slots Q A B ws tgt lv st) (kf : x = y → V p l e R s m args below meth c g nL cells slots Q A B ws pc' lv st) : V p l e R s m args below meth c g nL cells slots Q A B ws pc lv (.int y :: .int x :: st) := by
  subst hp
  intro H locs ls hD hP hS hl
  exact lv_icmp_ne hC.1 hC.2.1 hd ht (fun h => kt h H locs ls hD hP hS hl) (fun h => kf h H locs ls hD hP hS hl)
theorem v_if_lt (hC : CX p s m args meth c g cy nL cc Ts own) {x : Int32} {off : Int} {tgt : Nat} (hd : decode cc pc = .ok (.ifCond .lt off, 3)) (ht : (pc : Int) + off = (tgt : Int)) (hp : pc + 3 = pc') (kt : x < 0 → V p l e R s m args below meth c g nL cells slots Q A B ws tgt lv st) (kf : ¬ x < 0 → V p l e R s m args below meth c g nL cells slots Q A B ws pc' lv st) : V p l e R s m args below meth c g nL cells slots Q A B ws pc lv (.int x :: st) := by
  subst hp
  intro H locs ls hD hP hS hl
  exact lv_if_lt hC.1 hC.2.1 hd ht (fun h => kt h H locs ls hD hP hS hl) (fun h => kf h H locs ls hD hP hS hl)
theorem v_icmp_lt (hC : CX p s m args meth c g cy nL cc Ts own) {x y : Int32} {off : Int} {tgt : Nat} (hd : decode cc pc = .ok (.if_icmp .lt off, 3)) (ht : (pc : Int) + off = (tgt : Int)) (hp : pc + 3 = pc') (kt : x < y → V p l e R s m args below meth c g nL cells slots Q A B ws tgt lv st) (kf : ¬ x < y → V p l e R s m args below meth c g nL cells slots Q A B ws pc' lv st) : V p l e R s m args below meth c g nL cells slots Q A B ws pc lv (.int y :: .int x :: st) := by
  subst hp
  intro H locs ls hD hP hS hl
  exact lv_icmp_lt hC.1 hC.2.1 hd ht (fun h => kt h H locs ls hD hP hS hl) (fun h => kf h H locs ls hD hP hS hl)
theorem v_if_ge (hC : CX p s m args meth c g cy nL cc Ts own) {x : Int32} {off : Int} {tgt : Nat} (hd : decode cc pc = .ok (.ifCond .ge off, 3)) (ht : (pc : Int) + off = (tgt : Int)) (hp : pc + 3 = pc') (kt : 0 ≤ x → V p l e R s m args below meth c g nL cells slots Q A B ws tgt lv st) (kf : ¬ 0 ≤ x → V p l e R s m args below meth c g nL cells slots Q A B ws pc' lv st) : V p l e R s m args below meth c g nL cells slots Q A B ws pc lv (.int x :: st) := by
  subst hp
  intro H locs ls hD hP hS hl
  exact lv_if_ge hC.1 hC.2.1 hd ht (fun h => kt h H locs ls hD hP hS hl) (fun h => kf h H locs ls hD hP hS hl)
theorem v_icmp_ge (hC : CX p s m args meth c g cy nL cc Ts own) {x y : Int32} {off : Int} {tgt : Nat} (hd : decode cc pc = .ok (.if_icmp .ge off, 3)) (ht : (pc : Int) + off = (tgt : Int)) (hp : pc + 3 = pc') (kt : y ≤ x → V p l e R s m args below meth c g nL cells slots Q A B ws tgt lv st) (kf : ¬ y ≤ x → V p l e R s m args below meth c g nL cells slots Q A B ws pc' lv st) : V p l e R s m args below meth c g nL cells slots Q A B ws pc lv (.int y :: .int x :: st) := by
  subst hp
  intro H locs ls hD hP hS hl
  exact lv_icmp_ge hC.1 hC.2.1 hd ht (fun h => kt h H locs ls hD hP hS hl) (fun h => kf h H locs ls hD hP hS hl)
theorem v_if_gt (hC : CX p s m args meth c g cy nL cc Ts own) {x : Int32} {off : Int} {tgt : Nat} (hd : decode cc pc = .ok (.ifCond .gt off, 3)) (ht : (pc : Int) + off = (tgt : Int)) (hp : pc + 3 = pc') (kt : 0 < x → V p l e R s m args below meth c g nL cells slots Q A B ws tgt lv st) (kf : ¬ 0 < x → V p l e R s m args below meth c g nL cells slots Q A B ws pc' lv st) : V p l e R s m args below meth c g nL cells slots Q A B ws pc lv (.int x :: st) := by
  subst hp
  intro H locs ls hD hP hS hl
  exact lv_if_gt hC.1 hC.2.1 hd ht (fun h => kt h H locs ls hD hP hS hl) (fun h => kf h H locs ls hD hP hS hl)
theorem v_icmp_gt (hC : CX p s m args meth c g cy nL cc Ts own) {x y : Int32} {off : Int} {tgt : Nat} (hd : decode cc pc = .ok (.if_icmp .gt off, 3)) (ht : (pc : Int) + off = (tgt : Int)) (hp : pc + 3 = pc') (kt : y < x → V p l e R s m args below meth c g nL cells slots Q A B ws tgt lv st) (kf : ¬ y < x → V p l e R s m args below meth c g nL cells slots Q A B ws pc' lv st) : V p l e R s m args below meth c g nL cells slots Q A B ws pc lv (.int y :: .int x :: st) := by
  subst hp
  intro H locs ls hD hP hS hl
  exact lv_icmp_gt hC.1 hC.2.1 hd ht (fun h => kt h H locs ls hD hP hS hl) (fun h => kf h H locs ls hD hP hS hl)
theorem v_if_le (hC : CX p s m args meth c g cy nL cc Ts own) {x : Int32} {off : Int} {tgt : Nat} (hd : decode cc pc = .ok (.ifCond .le off, 3)) (ht : (pc : Int) + off = (tgt : Int)) (hp : pc + 3 = pc') (kt : x ≤ 0 → V p l e R s m args below meth c g nL cells slots Q A B ws tgt lv st) (kf : ¬ x ≤ 0 → V p l e R s m args below meth c g nL cells slots Q A B ws pc' lv st) : V p l e R s m args below meth c g nL cells slots Q A B ws pc lv (.int x :: st) := by
  subst hp
  intro H locs ls hD hP hS hl
  exact lv_if_le hC.1 hC.2.1 hd ht (fun h => kt h H locs ls hD hP hS hl) (fun h => kf h H locs ls hD hP hS hl)
theorem v_icmp_le (hC : CX p s m args meth c g cy nL cc Ts own) {x y : Int32} {off : Int} {tgt : Nat} (hd : decode cc pc = .ok (.if_icmp .le off, 3)) (ht : (pc : Int) + off = (tgt : Int)) (hp : pc + 3 = pc') (kt : x ≤ y → V p l e R s m args below meth c g nL cells slots Q A B ws tgt lv st) (kf : ¬ x ≤ y → V p l e R s m args below meth c g nL cells slots Q A B ws pc' lv st) : V p l e R s m args below meth c g nL cells slots Q A B ws pc lv (.int y :: .int x :: st) := by
  subst hp
  intro H locs ls hD hP hS hl
  exact lv_icmp_le hC.1 hC.2.1 hd ht (fun h => kt h H locs ls hD hP hS hl) (fun h => kf h H locs ls hD hP hS hl)
theorem v_goto (hC : CX p s m args meth c g cy nL cc Ts own) {off : Int} {tgt : Nat} (hd : decode cc pc = .ok (.goto off, 3)) (ht : (pc : Int) + off = (tgt : Int)) (k : V p l e R s m args below meth c g nL cells slots Q A B ws tgt lv st) : V p l e R s m args below meth c g nL cells slots Q A B ws pc lv st := fun H locs ls hD hP hS hl => lv_goto hC.1 hC.2.1 hd ht (k H locs ls hD hP hS hl)
theorem v_tswI (hC : CX p s m args meth c g cy nL cc Ts own) {dflt lo hi : Int} {offs : Array Int} {len : Nat} {x v : Int32} {off : Int} {tgt : Nat} (hd : decode cc pc = .ok (.tableswitch dflt lo hi offs, len)) (hx : x = v) (h1 : ¬ v.toInt < lo) (h2 : ¬ hi < v.toInt) (ho : offs[(v.toInt - lo).toNat]? = some off) (ht : (pc : Int) + off = (tgt : Int)) (k : V p l e R s m args below meth c g nL cells slots Q A B ws tgt lv st) : V p l e R s m args below meth c g nL cells slots Q A B ws pc lv (.int x :: st) := by
  subst hx
  intro H locs ls hD hP hS hl
  exact lv_tableIn hC.1 hC.2.1 hd h1 h2 ho ht (k H locs ls hD hP hS hl)
theorem v_tswO (hC : CX p s m args meth c g cy nL cc Ts own) {dflt lo hi : Int} {offs : Array Int} {len : Nat} {x : Int32} {tgt : Nat} (hd : decode cc pc = .ok (.tableswitch dflt lo hi offs, len)) (h : x.toInt < lo ∨ hi < x.toInt) (ht : (pc : Int) + dflt = (tgt : Int)) (k : V p l e R s m args below meth c g nL cells slots Q A B ws tgt lv st) : V p l e R s m args below meth c g nL cells slots Q A B ws pc lv (.int x :: st) := fun H locs ls hD hP hS hl => lv_tableOut hC.1 hC.2.1 hd h ht (k H locs ls hD hP hS hl)
theorem v_lsw (hC : CX p s m args meth c g cy nL cc Ts own) {dflt : Int} {ps : Array (Int × Int)} {len : Nat} {x : Int32} {off : Int} {tgt : Nat} (hd : decode cc pc = .ok (.lookupswitch dflt ps, len)) (hq : (ps.toList.zip (ps.toList.drop 1)).all (fun (a, next) => a.1 < next.1) = true) (ho : Op.lookupswitch.offset ps.toList dflt x.toInt = off) (ht : (pc : Int) + off = (tgt : Int)) (k : V p l e R s m args below meth c g nL cells slots Q A B ws tgt lv st) : V p l e R s m args below meth c g nL cells slots Q A B ws pc lv (.int x :: st) := fun H locs ls hD hP hS hl => lv_lookup hC.1 hC.2.1 hd hq ho ht (k H locs ls hD hP hS hl)
theorem v_get (hC : CX p s m args meth c g cy nL cc Ts own) {ref C : String} {T : u_T} {N ci index : Nat} (hin : ∀ w ∈ u_ws C T N, w ∈ Ts) (q0 : Nat) {a : Nat} {fs : List Value} (he : ws[q0]? = some (a, .inr (ci, fs))) (hc : vwCl[ci]? = some (C, T, N)) (k : Nat) (hk : k < N) (hlink : Cond.fieldLink own index ref (T k).2.1 (T k).2.2.1 ∈ Ts) (hsame : (T k).1 = ref) {v : Value} (hv : fs[k]? = some v) (hd : decode cc pc = .ok (.getfield index, 3)) (hp : pc + 3 = pc') (kk : V p l e R s m args below meth c g nL cells slots Q A B ws pc' lv (v :: st)) : V p l e R s m args below meth c g nL cells slots Q A B ws pc lv (.ref a :: st) := by
  subst hp
  intro H locs ls hD hP hS hl
  exact va_get hC.1 hC.2.1 hC.2.2.2.2.1 hin hC.2.2.2.1 hC.2.2.2.2.2.2.1 hP q0 he hc k hk (hC.2.2.2.2.1 _ hlink) (fun _ h9 => hsame ▸ h9) hv hd (kk H locs ls hD hP hS hl)
theorem v_put (hC : CX p s m args meth c g cy nL cc Ts own) {ref C : String} {T : u_T} {N ci index : Nat} (hin : ∀ w ∈ u_ws C T N, w ∈ Ts) (ty0 : Nat → FieldType) (hty : ∀ k, k < N → parseFieldDescriptor (T k).2.2.1 = some (ty0 k)) (hnm : ∀ a, a < N → ∀ b, b < N → a ≠ b → (T a).2.1 ≠ (T b).2.1) (q0 : Nat) {a : Nat} {fs : List Value} (he : ws[q0]? = some (a, .inr (ci, fs))) (hc : vwCl[ci]? = some (C, T, N)) (k : Nat) (hk : k < N) (hlink : Cond.fieldLink own index ref (T k).2.1 (T k).2.2.1 ∈ Ts) (hsame : (T k).1 = ref) (hfin : (T k).2.2.2 = false) {ty : FieldType} {v : Value} (hdd : parseFieldDescriptor (T k).2.2.1 = some ty) (hn : narrow ty v = v) (hfit : fits ty v = true) (hl0 : k < fs.length) (hd : decode cc pc = .ok (.putfield index, 3)) (ws' : va_W) (hw : ws.set q0 (a, .inr (ci, fs.set k v)) = ws') (hp : pc + 3 = pc') (kk : V p l e R s m args below meth c g nL cells slots Q A A ws' pc' lv st) : V p l e R s m args below meth c g nL cells slots Q A A ws pc lv (v :: .ref a :: st) := by
  subst hp
  subst hw
  intro H locs ls hD hP hS hl
  exact va_put hC.1 hC.2.1 hC.2.2.2.2.1 hin ty0 hty hnm hC.2.2.2.1 hC.2.2.2.2.2.2.1 hP hD hS q0 he hc k hk (hC.2.2.2.2.1 _ hlink) (fun _ h9 => hsame ▸ h9) hfin hdd hn hfit hl0 hd (fun H1 locs1 hP1 hD1 hS1 => kk H1 locs1 ls hD1 hP1 hS1 hl)
theorem v_iald (hC : CX p s m args meth c g cy nL cc Ts own) (q0 : Nat) {a n : Nat} {f : Nat → Int32} (ha : ws[q0]? = some (a, .inl (cy 0, n, .inl f))) {i : Int32} (hin : nb i n = true) (hd : decode cc pc = .ok (.iaload, 1)) (hp : pc + 1 = pc') (kk : V p l e R s m args below meth c g nL cells slots Q A B ws pc' lv (.int (f i.toNatClampNeg) :: st)) : V p l e R s m args below meth c g nL cells slots Q A B ws pc lv (.int i :: .ref a :: st) := by
  subst hp
  intro H locs ls hD hP hS hl
  exact va_iald hC.1 hC.2.1 hC.2.2.2.2.2.2.1 hP q0 0 ha rfl (nb_in hin) hd (kk H locs ls hD hP hS hl)
theorem v_iast (hC : CX p s m args meth c g cy nL cc Ts own) (q0 : Nat) {a n : Nat} {f : Nat → Int32} (ha : ws[q0]? = some (a, .inl (cy 0, n, .inl f))) {i x : Int32} (hin : nb i n = true) (hd : decode cc pc = .ok (.iastore, 1)) (ws' : va_W) (hw : ws.set q0 (a, .inl (cy 0, n, .inl (upd f i.toNatClampNeg x))) = ws') (hp : pc + 1 = pc') (kk : V p l e R s m args below meth c g nL cells slots Q A A ws' pc' lv st) : V p l e R s m args below meth c g nL cells slots Q A A ws pc lv (.int x :: .int i :: .ref a :: st) := by
  subst hp
  subst hw
  intro H locs ls hD hP hS hl
  exact va_iast hC.1 hC.2.1 hC.2.2.2.2.2.2.1 hP hD hS q0 0 ha rfl (nb_in hin) hd (fun H1 locs1 hP1 hD1 hS1 => kk H1 locs1 ls hD1 hP1 hS1 hl)
theorem v_alen (hC : CX p s m args meth c g cy nL cc Ts own) (q0 t0 : Nat) {a : Nat} {cA : ClassId} {x : vp_A} (ha : ws[q0]? = some (a, .inl (cA, x))) {ty : FieldType} (ht : (tyL cy)[t0]? = some (cA, ty)) {v : Int32} (hv : Int32.ofNat x.1 = v) (hd : decode cc pc = .ok (.arraylength, 1)) (hp : pc + 1 = pc') (kk : V p l e R s m args below meth c g nL cells slots Q A B ws pc' lv (.int v :: st)) : V p l e R s m args below meth c g nL cells slots Q A B ws pc lv (.ref a :: st) := by
  subst hp
  intro H locs ls hD hP hS hl
  exact va_alen hC.1 hC.2.1 hC.2.2.2.2.2.2.1 hP q0 t0 ha ht hv hd (kk H locs ls hD hP hS hl)
theorem v_ro {st0 : List Value} {a : Array Value} {r : Int32} (kk : V p l e R s m args below meth c g nL cells slots Q A B ws (pc + 3) lv (.int r :: st)) {H : Heap} {locs : List Loc} {ls : Array Slot} (hD : va_D B ws) (hP : va_P g vwCl ws H) (hS : va_S A s.heap H locs) (hl : lv_has ls nL lv) (hr : va_Run p l e R s m args below meth c H locs cells slots 0 0 (F0 m pc ls st0) st (QRi r a) nF) : W p l e R s m args below meth c H locs cells slots Q (F0 m pc ls st0) :=
  va_calli hr hS (fun _ _ h => h.elim) (fun _ h => h.elim) (fun x _ t H1 locs1 ht hvm hx _ hz hk hS1 => by
    subst hx
    exact kk H1 locs1 ls hD (hP.kept (fun k q hq => hk q.1 (hP k q hq).lt (fun h => h))) hS1 hl)
theorem v_rol {st0 : List Value} {a : Array Value} {r : Int64} (kk : V p l e R s m args below meth c g nL cells slots Q A B ws (pc + 3) lv (.long r :: st)) {H : Heap} {locs : List Loc} {ls : Array Slot} (hD : va_D B ws) (hP : va_P g vwCl ws H) (hS : va_S A s.heap H locs) (hl : lv_has ls nL lv) (hr : va_Run p l e R s m args below meth c H locs cells slots 0 0 (F0 m pc ls st0) st (QRl r a) nF) : W p l e R s m args below meth c H locs cells slots Q (F0 m pc ls st0) :=
  va_calll hr hS (fun _ _ h => h.elim) (fun _ h => h.elim) (fun x _ t H1 locs1 ht hvm hx _ hz hk hS1 => by
    subst hx
    exact kk H1 locs1 ls hD (hP.kept (fun k q hq => hk q.1 (hP k q hq).lt (fun h => h))) hS1 hl)
theorem v_start {av : List Value} {wc : va_W} (hC : CX p s m args meth c g cy nL cc Ts own) (isC : List Nat) (hsub : isC.filterMap (fun i => ws[i]?) = wc) (hnd : va_nd isC = true) (hm : isC.map (fun i => ws[i]?) = wc.map some) {H : Heap} (hD : va_D B ws) (hP : va_P g vwCl ws H) (U : State) (hU : U.heap = H) (hW : s.WarmedH U.vm) : PW av g cy wc av.toArray U :=
  ⟨rfl, by rw [hU]; exact hP.sub isC hsub, va_K.moved hW.alike hC.2.2.2.2.2.2.1, (hD.sub isC hnd hm).weaken (fun _ _ _ _ => trivial), NX.moved hW hC.2.2.2.2.2.2.2⟩
/-- the cells of a world, and another one's at the same places: what a call leaves behind -/
theorem v_rep {wc wc' ws' : va_W} {H H1 : Heap} (isC isR : List Nat) (hm : isC.map (fun i => ws[i]?) = wc.map some) (hm' : isC.map (fun i => ws'[i]?) = wc'.map some) (hR : isR.map (fun i => ws'[i]?) = isR.map (fun i => ws[i]?)) (hall : (List.range ws'.length).all (fun i => isC.contains i || isR.contains i) = true) (hdis : isR.all (fun i => !isC.contains i) = true) (hfst : ws'.map Prod.fst = ws.map Prod.fst) (hD : va_D B ws) (hP : va_P g vwCl ws H) (hP1 : va_P g vwCl wc' H1) (hk : ∀ q : Nat, q < H.size → ¬ wA wc q → H1[q]? = H[q]?) : va_P g vwCl ws' H1 ∧ va_D B ws' := by
  have at' : ∀ {is : List Nat} {w w2 : va_W}, is.map (fun i => w[i]?) = w2.map some → ∀ (k : Nat) (q : Nat × va_E), w2[k]? = some q → ∃ i, is[k]? = some i ∧ w[i]? = some q := by
    intro is w w2 hs k q hq
    have h1 : (is.map (fun i => w[i]?))[k]? = some (some q) := by rw [hs, List.getElem?_map, hq]; rfl
    rw [List.getElem?_map] at h1
    cases hi : is[k]? with
    | none => rw [hi] at h1; cases h1
    | some i => rw [hi] at h1; exact ⟨i, rfl, Option.some.inj h1⟩
  have hlen : ws'.length = ws.length := by simpa using congrArg List.length hfst
  refine ⟨fun i q hq => ?_, ⟨fun i j x y hx hy hxy => ?_, fun k q hq => ?_⟩⟩
  · have hi : i < ws'.length := (List.getElem?_eq_some_iff.mp hq).1
    have h := List.all_eq_true.mp hall i (List.mem_range.mpr hi)
    rw [Bool.or_eq_true] at h
    by_cases hc : isC.contains i = true
    · obtain ⟨k, hkk⟩ := List.getElem?_of_mem (List.contains_iff_mem.mp hc)
      have h1 : (isC.map (fun i => ws'[i]?))[k]? = some (some q) := by rw [List.getElem?_map, hkk]; simp [hq]
      rw [hm', List.getElem?_map] at h1
      cases h2 : wc'[k]? with
      | none => rw [h2] at h1; cases h1
      | some z =>
        rw [h2] at h1
        have : z = q := Option.some.inj (Option.some.inj h1)
        subst this
        exact hP1 k z h2
    · have hr : isR.contains i = true := h.resolve_left hc
      obtain ⟨k, hkk⟩ := List.getElem?_of_mem (List.contains_iff_mem.mp hr)
      have e1 : (isR.map (fun i => ws'[i]?))[k]? = (isR.map (fun i => ws[i]?))[k]? := by rw [hR]
      rw [List.getElem?_map, List.getElem?_map, hkk] at e1
      have e2 : ws'[i]? = ws[i]? := Option.some.inj e1
      have hq0 : ws[i]? = some q := e2 ▸ hq
      refine (hP i q hq0).kept (hk q.1 (hP i q hq0).lt ?_)
      rintro ⟨k2, e9, h9⟩
      obtain ⟨j, h3, h4⟩ := at' hm k2 (q.1, e9) h9
      have hij := hD.1 i j q (q.1, e9) hq0 h4 rfl
      subst hij
      exact hc (List.contains_iff_mem.mpr (List.mem_of_getElem? h3))
  · have hx' : (ws'.map Prod.fst)[i]? = some x.1 := by rw [List.getElem?_map, hx]; rfl
    have hy' : (ws'.map Prod.fst)[j]? = some y.1 := by rw [List.getElem?_map, hy]; rfl
    rw [hfst, List.getElem?_map] at hx' hy'
    cases h1 : ws[i]? with
    | none => rw [h1] at hx'; cases hx'
    | some x0 =>
      cases h2 : ws[j]? with
      | none => rw [h2] at hy'; cases hy'
      | some y0 =>
        rw [h1] at hx'
        rw [h2] at hy'
        have e1 : x0.1 = x.1 := Option.some.inj hx'
        have e2 : y0.1 = y.1 := Option.some.inj hy'
        exact hD.1 i j x0 y0 h1 h2 (by rw [e1, e2]; exact hxy)
  · have hx' : (ws'.map Prod.fst)[k]? = some q.1 := by rw [List.getElem?_map, hq]; rfl
    rw [hfst, List.getElem?_map] at hx'
    cases h1 : ws[k]? with
    | none => rw [h1] at hx'; cases hx'
    | some x0 =>
      rw [h1] at hx'
      have e1 : x0.1 = q.1 := Option.some.inj hx'
      rw [← e1]
      exact hD.2 k x0 h1
theorem v_inA {wc : va_W} (isC : List Nat) (hm : isC.map (fun i => ws[i]?) = wc.map some) (hD : va_D A ws) : ∀ q, wA wc q → A q := by
  rintro q ⟨k, e9, h⟩
  have h1 : (isC.map (fun i => ws[i]?))[k]? = some (some (q, e9)) := by rw [hm, List.getElem?_map, h]; rfl
  rw [List.getElem?_map] at h1
  cases hi : isC[k]? with
  | none => rw [hi] at h1; cases h1
  | some i => rw [hi] at h1; exact hD.2 i (q, e9) (Option.some.inj h1)

theorem v_cwS {y : MethodName} {bytes : ByteArray} {maxL index : Nat} {ret : Option FieldType} {wy wy' : List Cond} {rm : Room} {mc ms : Nat} (n : Nat) (ht : ∀ w ∈ Ts, w.before args s = true) (hG : GoodIn Ts (va_wsS own index y wy)) (hw : wy = Cond.code y bytes maxL ret :: wy') (hrc : rm.cells = mc) (hrs : rm.slots = ms) (hy : y.cls ≠ "java/lang/invoke/MethodHandle" ∧ y.cls ≠ "java/lang/invoke/VarHandle" ∧ (parseMethodDescriptor y.desc).map (fun d => d.parameters.length) = some n) (hR : rm.frames + 1 ≤ R.frames ∧ 8 + (maxL + 11) + rm.locals ≤ R.locals) : CallB R s args own index y bytes maxL ret wy rm mc ms n ∧ (Cond.static y).before args s = true := by
  have ok : ∀ w ∈ va_wsS own index y wy, w.before args s = true := fun w h => ht w (hG w h).1
  exact ⟨callB_of n ht (fun w h => hG w (by unfold va_wsS; exact List.mem_append_right _ h)) hw hrc hrs (ok _ (by simp [va_wsS])) (ok _ (by simp [va_wsS])) hy hR, ok _ (by simp [va_wsS])⟩

theorem v_callVri (hC : CX p s m args meth c g cy nL cc Ts own) {y : MethodName} {bytes : ByteArray} {maxL n index : Nat} {ret : Option FieldType} {wy wy' : List Cond} {rm : Room} {As : List Value} {wc : va_W} {b ci N : Nat} {fs : List Value} {C : String} {T : u_T} {r : Int32} {stk : List Value} (hM : Met l y wy rm (PW (.ref b :: As) g cy wc) (QRi r) 0 0 nF) (hG : GoodIn Ts (wsV own index C y wy)) (hw : wy = Cond.code y bytes maxL ret :: wy') (hrc : rm.cells = 0) (hrs : rm.slots = 0) (hy : y.cls = C ∧ y.cls ≠ "java/lang/invoke/MethodHandle" ∧ y.cls ≠ "java/lang/invoke/VarHandle" ∧ (parseMethodDescriptor y.desc).map (fun d => d.parameters.length) = some n) (hR : rm.frames + 1 ≤ R.frames ∧ 8 + (maxL + 11) + rm.locals ≤ R.locals) (qb : Nat) (hb : ws[qb]? = some (b, .inr (ci, fs))) (hc : vwCl[ci]? = some (C, T, N)) (isC : List Nat) (hm : isC.map (fun i => ws[i]?) = wc.map some) (hsub : isC.filterMap (fun i => ws[i]?) = wc) (hnd : va_nd isC = true) (hstk : stk = As.reverse ++ .ref b :: st) (hst : (st.map fun v => v.category).sum ≤ 8) (hn : As.length = n) (hf : cells + 0 ≤ R.cells ∧ slots + 0 ≤ R.slots) (hd : decode cc pc = .ok (.invokevirtual index, 3)) (hp : pc + 3 = pc') (k : V p l e R s m args below meth c g nL cells slots Q A B ws pc' lv (.int r :: st)) : V p l e R s m args below meth c g nL cells slots Q A B ws pc lv stk := by
  subst hp
  intro H locs ls hD hP hS hl
  exact v_ro k hD hP hS hl (va_runV (As := As) (rest := st) hC.fix hM (cwV n hC.2.2.2.2.1 hG hw hrc hrs hy hR) ⟨PW.blind, va_recv hC.2.2.2.2.2.2.1 hP hc hb, fun U hU hW => v_start hC isC hsub hnd hm hD hP U hU hW⟩ rfl hn hl.1 hstk (lv_room hst) hd hf)
theorem v_callVrl (hC : CX p s m args meth c g cy nL cc Ts own) {y : MethodName} {bytes : ByteArray} {maxL n index : Nat} {ret : Option FieldType} {wy wy' : List Cond} {rm : Room} {As : List Value} {wc : va_W} {b ci N : Nat} {fs : List Value} {C : String} {T : u_T} {r : Int64} {stk : List Value} (hM : Met l y wy rm (PW (.ref b :: As) g cy wc) (QRl r) 0 0 nF) (hG : GoodIn Ts (wsV own index C y wy)) (hw : wy = Cond.code y bytes maxL ret :: wy') (hrc : rm.cells = 0) (hrs : rm.slots = 0) (hy : y.cls = C ∧ y.cls ≠ "java/lang/invoke/MethodHandle" ∧ y.cls ≠ "java/lang/invoke/VarHandle" ∧ (parseMethodDescriptor y.desc).map (fun d => d.parameters.length) = some n) (hR : rm.frames + 1 ≤ R.frames ∧ 8 + (maxL + 11) + rm.locals ≤ R.locals) (qb : Nat) (hb : ws[qb]? = some (b, .inr (ci, fs))) (hc : vwCl[ci]? = some (C, T, N)) (isC : List Nat) (hm : isC.map (fun i => ws[i]?) = wc.map some) (hsub : isC.filterMap (fun i => ws[i]?) = wc) (hnd : va_nd isC = true) (hstk : stk = As.reverse ++ .ref b :: st) (hst : (st.map fun v => v.category).sum ≤ 8) (hn : As.length = n) (hf : cells + 0 ≤ R.cells ∧ slots + 0 ≤ R.slots) (hd : decode cc pc = .ok (.invokevirtual index, 3)) (hp : pc + 3 = pc') (k : V p l e R s m args below meth c g nL cells slots Q A B ws pc' lv (.long r :: st)) : V p l e R s m args below meth c g nL cells slots Q A B ws pc lv stk := by
  subst hp
  intro H locs ls hD hP hS hl
  exact v_rol k hD hP hS hl (va_runV (As := As) (rest := st) hC.fix hM (cwV n hC.2.2.2.2.1 hG hw hrc hrs hy hR) ⟨PW.blind, va_recv hC.2.2.2.2.2.2.1 hP hc hb, fun U hU hW => v_start hC isC hsub hnd hm hD hP U hU hW⟩ rfl hn hl.1 hstk (lv_room hst) hd hf)
theorem v_callVwi (hC : CX p s m args meth c g cy nL cc Ts own) {y : MethodName} {bytes : ByteArray} {maxL n index : Nat} {ret : Option FieldType} {wy wy' : List Cond} {rm : Room} {As : List Value} {wc : va_W} {b ci N : Nat} {fs : List Value} {C : String} {T : u_T} {r : Int32} (ws' wc' : va_W) {stk : List Value} (hM : Met l y wy rm (PW (.ref b :: As) g cy wc) (QWi g (wA wc) r wc') 0 0 (wA wc)) (hG : GoodIn Ts (wsV own index C y wy)) (hw : wy = Cond.code y bytes maxL ret :: wy') (hrc : rm.cells = 0) (hrs : rm.slots = 0) (hy : y.cls = C ∧ y.cls ≠ "java/lang/invoke/MethodHandle" ∧ y.cls ≠ "java/lang/invoke/VarHandle" ∧ (parseMethodDescriptor y.desc).map (fun d => d.parameters.length) = some n) (hR : rm.frames + 1 ≤ R.frames ∧ 8 + (maxL + 11) + rm.locals ≤ R.locals) (qb : Nat) (hb : ws[qb]? = some (b, .inr (ci, fs))) (hc : vwCl[ci]? = some (C, T, N)) (isC isR : List Nat) (hm : isC.map (fun i => ws[i]?) = wc.map some) (hsub : isC.filterMap (fun i => ws[i]?) = wc) (hnd : va_nd isC = true) (hm' : isC.map (fun i => ws'[i]?) = wc'.map some) (hRr : isR.map (fun i => ws'[i]?) = isR.map (fun i => ws[i]?)) (hall : (List.range ws'.length).all (fun i => isC.contains i || isR.contains i) = true) (hdis : isR.all (fun i => !isC.contains i) = true) (hfst : ws'.map Prod.fst = ws.map Prod.fst) (hstk : stk = As.reverse ++ .ref b :: st) (hst : (st.map fun v => v.category).sum ≤ 8) (hn : As.length = n) (hf : cells + 0 ≤ R.cells ∧ slots + 0 ≤ R.slots) (hd : decode cc pc = .ok (.invokevirtual index, 3)) (hp : pc + 3 = pc') (k : V p l e R s m args below meth c g nL cells slots Q A A ws' pc' lv (.int r :: st)) : V p l e R s m args below meth c g nL cells slots Q A A ws pc lv stk := by
  subst hp
  intro H locs ls hD hP hS hl
  exact va_calli (va_runV (As := As) (rest := st) hC.fix hM (cwV n hC.2.2.2.2.1 hG hw hrc hrs hy hR) ⟨PW.blind, va_recv hC.2.2.2.2.2.2.1 hP hc hb, fun U hU hW => v_start hC isC hsub hnd hm hD hP U hU hW⟩ rfl hn hl.1 hstk (lv_room hst) hd hf) hS (fun q _ h => v_inA isC hm hD q h) (v_inA isC hm hD) (fun x _ t H1 locs1 ht hvm hx hB hz hk hS1 => by
    subst hx
    rw [ht] at hB
    obtain ⟨hP1, hD1⟩ := v_rep isC isR hm hm' hRr hall hdis hfst hD hP hB hk
    exact k H1 locs1 ls hD1 hP1 hS1 hl)
theorem v_callVwv (hC : CX p s m args meth c g cy nL cc Ts own) {y : MethodName} {bytes : ByteArray} {maxL n index : Nat} {ret : Option FieldType} {wy wy' : List Cond} {rm : Room} {As : List Value} {wc : va_W} {b ci N : Nat} {fs : List Value} {C : String} {T : u_T} (ws' wc' : va_W) {stk : List Value} (hM : Met l y wy rm (PW (.ref b :: As) g cy wc) (QWv g (wA wc) wc') 0 0 (wA wc)) (hG : GoodIn Ts (wsV own index C y wy)) (hw : wy = Cond.code y bytes maxL ret :: wy') (hrc : rm.cells = 0) (hrs : rm.slots = 0) (hy : y.cls = C ∧ y.cls ≠ "java/lang/invoke/MethodHandle" ∧ y.cls ≠ "java/lang/invoke/VarHandle" ∧ (parseMethodDescriptor y.desc).map (fun d => d.parameters.length) = some n) (hR : rm.frames + 1 ≤ R.frames ∧ 8 + (maxL + 11) + rm.locals ≤ R.locals) (qb : Nat) (hb : ws[qb]? = some (b, .inr (ci, fs))) (hc : vwCl[ci]? = some (C, T, N)) (isC isR : List Nat) (hm : isC.map (fun i => ws[i]?) = wc.map some) (hsub : isC.filterMap (fun i => ws[i]?) = wc) (hnd : va_nd isC = true) (hm' : isC.map (fun i => ws'[i]?) = wc'.map some) (hRr : isR.map (fun i => ws'[i]?) = isR.map (fun i => ws[i]?)) (hall : (List.range ws'.length).all (fun i => isC.contains i || isR.contains i) = true) (hdis : isR.all (fun i => !isC.contains i) = true) (hfst : ws'.map Prod.fst = ws.map Prod.fst) (hstk : stk = As.reverse ++ .ref b :: st) (hst : (st.map fun v => v.category).sum ≤ 8) (hn : As.length = n) (hf : cells + 0 ≤ R.cells ∧ slots + 0 ≤ R.slots) (hd : decode cc pc = .ok (.invokevirtual index, 3)) (hp : pc + 3 = pc') (k : V p l e R s m args below meth c g nL cells slots Q A A ws' pc' lv st) : V p l e R s m args below meth c g nL cells slots Q A A ws pc lv stk := by
  subst hp
  intro H locs ls hD hP hS hl
  exact va_callv (va_runV (As := As) (rest := st) hC.fix hM (cwV n hC.2.2.2.2.1 hG hw hrc hrs hy hR) ⟨PW.blind, va_recv hC.2.2.2.2.2.2.1 hP hc hb, fun U hU hW => v_start hC isC hsub hnd hm hD hP U hU hW⟩ rfl hn hl.1 hstk (lv_room hst) hd hf) hS (fun q _ h => v_inA isC hm hD q h) (v_inA isC hm hD) (fun _ t H1 locs1 ht hvm _ hB hz hk hS1 => by
    rw [ht] at hB
    obtain ⟨hP1, hD1⟩ := v_rep isC isR hm hm' hRr hall hdis hfst hD hP hB hk
    exact k H1 locs1 ls hD1 hP1 hS1 hl)
theorem v_callSri (hC : CX p s m args meth c g cy nL cc Ts own) {y : MethodName} {bytes : ByteArray} {maxL n index : Nat} {ret : Option FieldType} {wy wy' : List Cond} {rm : Room} {As : List Value} {wc : va_W}  {r : Int32} {stk : List Value} (hM : Met l y wy rm (PW As g cy wc) (QRi r) 0 0 nF) (hG : GoodIn Ts (va_wsS own index y wy)) (hw : wy = Cond.code y bytes maxL ret :: wy') (hrc : rm.cells = 0) (hrs : rm.slots = 0) (hy : y.cls ≠ "java/lang/invoke/MethodHandle" ∧ y.cls ≠ "java/lang/invoke/VarHandle" ∧ (parseMethodDescriptor y.desc).map (fun d => d.parameters.length) = some n) (hR : rm.frames + 1 ≤ R.frames ∧ 8 + (maxL + 11) + rm.locals ≤ R.locals)  (isC : List Nat) (hm : isC.map (fun i => ws[i]?) = wc.map some) (hsub : isC.filterMap (fun i => ws[i]?) = wc) (hnd : va_nd isC = true) (hstk : stk = As.reverse ++ st) (hst : (st.map fun v => v.category).sum ≤ 8) (hn : As.length = n) (hf : cells + 0 ≤ R.cells ∧ slots + 0 ≤ R.slots) (hd : decode cc pc = .ok (.invokestatic index, 3)) (hp : pc + 3 = pc') (k : V p l e R s m args below meth c g nL cells slots Q A B ws pc' lv (.int r :: st)) : V p l e R s m args below meth c g nL cells slots Q A B ws pc lv stk := by
  subst hp
  intro H locs ls hD hP hS hl
  exact v_ro k hD hP hS hl (va_runS (As := As) (rest := st) hC.fix hM (v_cwS n hC.2.2.2.2.1 hG hw hrc hrs hy hR) ⟨PW.blind, fun U hU hW => v_start hC isC hsub hnd hm hD hP U hU hW⟩ rfl hn hl.1 hstk (lv_room hst) hd hf)
theorem v_callSrl (hC : CX p s m args meth c g cy nL cc Ts own) {y : MethodName} {bytes : ByteArray} {maxL n index : Nat} {ret : Option FieldType} {wy wy' : List Cond} {rm : Room} {As : List Value} {wc : va_W}  {r : Int64} {stk : List Value} (hM : Met l y wy rm (PW As g cy wc) (QRl r) 0 0 nF) (hG : GoodIn Ts (va_wsS own index y wy)) (hw : wy = Cond.code y bytes maxL ret :: wy') (hrc : rm.cells = 0) (hrs : rm.slots = 0) (hy : y.cls ≠ "java/lang/invoke/MethodHandle" ∧ y.cls ≠ "java/lang/invoke/VarHandle" ∧ (parseMethodDescriptor y.desc).map (fun d => d.parameters.length) = some n) (hR : rm.frames + 1 ≤ R.frames ∧ 8 + (maxL + 11) + rm.locals ≤ R.locals)  (isC : List Nat) (hm : isC.map (fun i => ws[i]?) = wc.map some) (hsub : isC.filterMap (fun i => ws[i]?) = wc) (hnd : va_nd isC = true) (hstk : stk = As.reverse ++ st) (hst : (st.map fun v => v.category).sum ≤ 8) (hn : As.length = n) (hf : cells + 0 ≤ R.cells ∧ slots + 0 ≤ R.slots) (hd : decode cc pc = .ok (.invokestatic index, 3)) (hp : pc + 3 = pc') (k : V p l e R s m args below meth c g nL cells slots Q A B ws pc' lv (.long r :: st)) : V p l e R s m args below meth c g nL cells slots Q A B ws pc lv stk := by
  subst hp
  intro H locs ls hD hP hS hl
  exact v_rol k hD hP hS hl (va_runS (As := As) (rest := st) hC.fix hM (v_cwS n hC.2.2.2.2.1 hG hw hrc hrs hy hR) ⟨PW.blind, fun U hU hW => v_start hC isC hsub hnd hm hD hP U hU hW⟩ rfl hn hl.1 hstk (lv_room hst) hd hf)
theorem v_callSwi (hC : CX p s m args meth c g cy nL cc Ts own) {y : MethodName} {bytes : ByteArray} {maxL n index : Nat} {ret : Option FieldType} {wy wy' : List Cond} {rm : Room} {As : List Value} {wc : va_W}  {r : Int32} (ws' wc' : va_W) {stk : List Value} (hM : Met l y wy rm (PW As g cy wc) (QWi g (wA wc) r wc') 0 0 (wA wc)) (hG : GoodIn Ts (va_wsS own index y wy)) (hw : wy = Cond.code y bytes maxL ret :: wy') (hrc : rm.cells = 0) (hrs : rm.slots = 0) (hy : y.cls ≠ "java/lang/invoke/MethodHandle" ∧ y.cls ≠ "java/lang/invoke/VarHandle" ∧ (parseMethodDescriptor y.desc).map (fun d => d.parameters.length) = some n) (hR : rm.frames + 1 ≤ R.frames ∧ 8 + (maxL + 11) + rm.locals ≤ R.locals)  (isC isR : List Nat) (hm : isC.map (fun i => ws[i]?) = wc.map some) (hsub : isC.filterMap (fun i => ws[i]?) = wc) (hnd : va_nd isC = true) (hm' : isC.map (fun i => ws'[i]?) = wc'.map some) (hRr : isR.map (fun i => ws'[i]?) = isR.map (fun i => ws[i]?)) (hall : (List.range ws'.length).all (fun i => isC.contains i || isR.contains i) = true) (hdis : isR.all (fun i => !isC.contains i) = true) (hfst : ws'.map Prod.fst = ws.map Prod.fst) (hstk : stk = As.reverse ++ st) (hst : (st.map fun v => v.category).sum ≤ 8) (hn : As.length = n) (hf : cells + 0 ≤ R.cells ∧ slots + 0 ≤ R.slots) (hd : decode cc pc = .ok (.invokestatic index, 3)) (hp : pc + 3 = pc') (k : V p l e R s m args below meth c g nL cells slots Q A A ws' pc' lv (.int r :: st)) : V p l e R s m args below meth c g nL cells slots Q A A ws pc lv stk := by
  subst hp
  intro H locs ls hD hP hS hl
  exact va_calli (va_runS (As := As) (rest := st) hC.fix hM (v_cwS n hC.2.2.2.2.1 hG hw hrc hrs hy hR) ⟨PW.blind, fun U hU hW => v_start hC isC hsub hnd hm hD hP U hU hW⟩ rfl hn hl.1 hstk (lv_room hst) hd hf) hS (fun q _ h => v_inA isC hm hD q h) (v_inA isC hm hD) (fun x _ t H1 locs1 ht hvm hx hB hz hk hS1 => by
    subst hx
    rw [ht] at hB
    obtain ⟨hP1, hD1⟩ := v_rep isC isR hm hm' hRr hall hdis hfst hD hP hB hk
    exact k H1 locs1 ls hD1 hP1 hS1 hl)
theorem v_callSwv (hC : CX p s m args meth c g cy nL cc Ts own) {y : MethodName} {bytes : ByteArray} {maxL n index : Nat} {ret : Option FieldType} {wy wy' : List Cond} {rm : Room} {As : List Value} {wc : va_W}  (ws' wc' : va_W) {stk : List Value} (hM : Met l y wy rm (PW As g cy wc) (QWv g (wA wc) wc') 0 0 (wA wc)) (hG : GoodIn Ts (va_wsS own index y wy)) (hw : wy = Cond.code y bytes maxL ret :: wy') (hrc : rm.cells = 0) (hrs : rm.slots = 0) (hy : y.cls ≠ "java/lang/invoke/MethodHandle" ∧ y.cls ≠ "java/lang/invoke/VarHandle" ∧ (parseMethodDescriptor y.desc).map (fun d => d.parameters.length) = some n) (hR : rm.frames + 1 ≤ R.frames ∧ 8 + (maxL + 11) + rm.locals ≤ R.locals)  (isC isR : List Nat) (hm : isC.map (fun i => ws[i]?) = wc.map some) (hsub : isC.filterMap (fun i => ws[i]?) = wc) (hnd : va_nd isC = true) (hm' : isC.map (fun i => ws'[i]?) = wc'.map some) (hRr : isR.map (fun i => ws'[i]?) = isR.map (fun i => ws[i]?)) (hall : (List.range ws'.length).all (fun i => isC.contains i || isR.contains i) = true) (hdis : isR.all (fun i => !isC.contains i) = true) (hfst : ws'.map Prod.fst = ws.map Prod.fst) (hstk : stk = As.reverse ++ st) (hst : (st.map fun v => v.category).sum ≤ 8) (hn : As.length = n) (hf : cells + 0 ≤ R.cells ∧ slots + 0 ≤ R.slots) (hd : decode cc pc = .ok (.invokestatic index, 3)) (hp : pc + 3 = pc') (k : V p l e R s m args below meth c g nL cells slots Q A A ws' pc' lv st) : V p l e R s m args below meth c g nL cells slots Q A A ws pc lv stk := by
  subst hp
  intro H locs ls hD hP hS hl
  exact va_callv (va_runS (As := As) (rest := st) hC.fix hM (v_cwS n hC.2.2.2.2.1 hG hw hrc hrs hy hR) ⟨PW.blind, fun U hU hW => v_start hC isC hsub hnd hm hD hP U hU hW⟩ rfl hn hl.1 hstk (lv_room hst) hd hf) hS (fun q _ h => v_inA isC hm hD q h) (v_inA isC hm hD) (fun _ t H1 locs1 ht hvm _ hB hz hk hS1 => by
    rw [ht] at hB
    obtain ⟨hP1, hD1⟩ := v_rep isC isR hm hm' hRr hall hdis hfst hD hP hB hk
    exact k H1 locs1 ls hD1 hP1 hS1 hl)
theorem v_callNri (hC : CX p s m args meth c g cy nL cc Ts own) {y : MethodName} {bytes : ByteArray} {maxL n index : Nat} {ret : Option FieldType} {wy wy' : List Cond} {rm : Room} {As : List Value} {wc : va_W} {host : String} {r : Int32} {stk : List Value} (hM : Met l y wy rm (PW As g cy wc) (QRi r) 0 0 nF) (hG : GoodIn Ts wy) (kx : Nat) (hx : nxW[kx]? = some (own, index, y, host)) (hsi : Cond.static y ∈ Ts ∧ Cond.initialized y.cls ∈ Ts) (hw : wy = Cond.code y bytes maxL ret :: wy') (hrc : rm.cells = 0) (hrs : rm.slots = 0) (hy : y.cls ≠ "java/lang/invoke/MethodHandle" ∧ y.cls ≠ "java/lang/invoke/VarHandle" ∧ (parseMethodDescriptor y.desc).map (fun d => d.parameters.length) = some n) (hR : rm.frames + 1 ≤ R.frames ∧ 8 + (maxL + 11) + rm.locals ≤ R.locals)  (isC : List Nat) (hm : isC.map (fun i => ws[i]?) = wc.map some) (hsub : isC.filterMap (fun i => ws[i]?) = wc) (hnd : va_nd isC = true) (hstk : stk = As.reverse ++ st) (hst : (st.map fun v => v.category).sum ≤ 8) (hn : As.length = n) (hf : cells + 0 ≤ R.cells ∧ slots + 0 ≤ R.slots) (hd : decode cc pc = .ok (.invokestatic index, 3)) (hp : pc + 3 = pc') (k : V p l e R s m args below meth c g nL cells slots Q A B ws pc' lv (.int r :: st)) : V p l e R s m args below meth c g nL cells slots Q A B ws pc lv stk := by
  subst hp
  intro H locs ls hD hP hS hl
  exact v_ro k hD hP hS hl (va_runSN (As := As) (rest := st) hC.fix hM ⟨va_cnB (host := host) n hC.2.2.2.2.1 hG hw hrc hrs (hC.2.2.2.2.2.2.2 _ (List.mem_of_getElem? hx)) (hC.2.2.2.2.1 _ hsi.2) hy hR, hC.2.2.2.2.1 _ hsi.1, trivial⟩ ⟨PW.blind, fun U hU hW => v_start hC isC hsub hnd hm hD hP U hU hW⟩ rfl hn hl.1 hstk (lv_room hst) hd hf)
theorem v_callNrl (hC : CX p s m args meth c g cy nL cc Ts own) {y : MethodName} {bytes : ByteArray} {maxL n index : Nat} {ret : Option FieldType} {wy wy' : List Cond} {rm : Room} {As : List Value} {wc : va_W} {host : String} {r : Int64} {stk : List Value} (hM : Met l y wy rm (PW As g cy wc) (QRl r) 0 0 nF) (hG : GoodIn Ts wy) (kx : Nat) (hx : nxW[kx]? = some (own, index, y, host)) (hsi : Cond.static y ∈ Ts ∧ Cond.initialized y.cls ∈ Ts) (hw : wy = Cond.code y bytes maxL ret :: wy') (hrc : rm.cells = 0) (hrs : rm.slots = 0) (hy : y.cls ≠ "java/lang/invoke/MethodHandle" ∧ y.cls ≠ "java/lang/invoke/VarHandle" ∧ (parseMethodDescriptor y.desc).map (fun d => d.parameters.length) = some n) (hR : rm.frames + 1 ≤ R.frames ∧ 8 + (maxL + 11) + rm.locals ≤ R.locals)  (isC : List Nat) (hm : isC.map (fun i => ws[i]?) = wc.map some) (hsub : isC.filterMap (fun i => ws[i]?) = wc) (hnd : va_nd isC = true) (hstk : stk = As.reverse ++ st) (hst : (st.map fun v => v.category).sum ≤ 8) (hn : As.length = n) (hf : cells + 0 ≤ R.cells ∧ slots + 0 ≤ R.slots) (hd : decode cc pc = .ok (.invokestatic index, 3)) (hp : pc + 3 = pc') (k : V p l e R s m args below meth c g nL cells slots Q A B ws pc' lv (.long r :: st)) : V p l e R s m args below meth c g nL cells slots Q A B ws pc lv stk := by
  subst hp
  intro H locs ls hD hP hS hl
  exact v_rol k hD hP hS hl (va_runSN (As := As) (rest := st) hC.fix hM ⟨va_cnB (host := host) n hC.2.2.2.2.1 hG hw hrc hrs (hC.2.2.2.2.2.2.2 _ (List.mem_of_getElem? hx)) (hC.2.2.2.2.1 _ hsi.2) hy hR, hC.2.2.2.2.1 _ hsi.1, trivial⟩ ⟨PW.blind, fun U hU hW => v_start hC isC hsub hnd hm hD hP U hU hW⟩ rfl hn hl.1 hstk (lv_room hst) hd hf)
theorem v_callNwi (hC : CX p s m args meth c g cy nL cc Ts own) {y : MethodName} {bytes : ByteArray} {maxL n index : Nat} {ret : Option FieldType} {wy wy' : List Cond} {rm : Room} {As : List Value} {wc : va_W} {host : String} {r : Int32} (ws' wc' : va_W) {stk : List Value} (hM : Met l y wy rm (PW As g cy wc) (QWi g (wA wc) r wc') 0 0 (wA wc)) (hG : GoodIn Ts wy) (kx : Nat) (hx : nxW[kx]? = some (own, index, y, host)) (hsi : Cond.static y ∈ Ts ∧ Cond.initialized y.cls ∈ Ts) (hw : wy = Cond.code y bytes maxL ret :: wy') (hrc : rm.cells = 0) (hrs : rm.slots = 0) (hy : y.cls ≠ "java/lang/invoke/MethodHandle" ∧ y.cls ≠ "java/lang/invoke/VarHandle" ∧ (parseMethodDescriptor y.desc).map (fun d => d.parameters.length) = some n) (hR : rm.frames + 1 ≤ R.frames ∧ 8 + (maxL + 11) + rm.locals ≤ R.locals)  (isC isR : List Nat) (hm : isC.map (fun i => ws[i]?) = wc.map some) (hsub : isC.filterMap (fun i => ws[i]?) = wc) (hnd : va_nd isC = true) (hm' : isC.map (fun i => ws'[i]?) = wc'.map some) (hRr : isR.map (fun i => ws'[i]?) = isR.map (fun i => ws[i]?)) (hall : (List.range ws'.length).all (fun i => isC.contains i || isR.contains i) = true) (hdis : isR.all (fun i => !isC.contains i) = true) (hfst : ws'.map Prod.fst = ws.map Prod.fst) (hstk : stk = As.reverse ++ st) (hst : (st.map fun v => v.category).sum ≤ 8) (hn : As.length = n) (hf : cells + 0 ≤ R.cells ∧ slots + 0 ≤ R.slots) (hd : decode cc pc = .ok (.invokestatic index, 3)) (hp : pc + 3 = pc') (k : V p l e R s m args below meth c g nL cells slots Q A A ws' pc' lv (.int r :: st)) : V p l e R s m args below meth c g nL cells slots Q A A ws pc lv stk := by
  subst hp
  intro H locs ls hD hP hS hl
  exact va_calli (va_runSN (As := As) (rest := st) hC.fix hM ⟨va_cnB (host := host) n hC.2.2.2.2.1 hG hw hrc hrs (hC.2.2.2.2.2.2.2 _ (List.mem_of_getElem? hx)) (hC.2.2.2.2.1 _ hsi.2) hy hR, hC.2.2.2.2.1 _ hsi.1, trivial⟩ ⟨PW.blind, fun U hU hW => v_start hC isC hsub hnd hm hD hP U hU hW⟩ rfl hn hl.1 hstk (lv_room hst) hd hf) hS (fun q _ h => v_inA isC hm hD q h) (v_inA isC hm hD) (fun x _ t H1 locs1 ht hvm hx hB hz hk hS1 => by
    subst hx
    rw [ht] at hB
    obtain ⟨hP1, hD1⟩ := v_rep isC isR hm hm' hRr hall hdis hfst hD hP hB hk
    exact k H1 locs1 ls hD1 hP1 hS1 hl)
theorem v_callNwv (hC : CX p s m args meth c g cy nL cc Ts own) {y : MethodName} {bytes : ByteArray} {maxL n index : Nat} {ret : Option FieldType} {wy wy' : List Cond} {rm : Room} {As : List Value} {wc : va_W} {host : String} (ws' wc' : va_W) {stk : List Value} (hM : Met l y wy rm (PW As g cy wc) (QWv g (wA wc) wc') 0 0 (wA wc)) (hG : GoodIn Ts wy) (kx : Nat) (hx : nxW[kx]? = some (own, index, y, host)) (hsi : Cond.static y ∈ Ts ∧ Cond.initialized y.cls ∈ Ts) (hw : wy = Cond.code y bytes maxL ret :: wy') (hrc : rm.cells = 0) (hrs : rm.slots = 0) (hy : y.cls ≠ "java/lang/invoke/MethodHandle" ∧ y.cls ≠ "java/lang/invoke/VarHandle" ∧ (parseMethodDescriptor y.desc).map (fun d => d.parameters.length) = some n) (hR : rm.frames + 1 ≤ R.frames ∧ 8 + (maxL + 11) + rm.locals ≤ R.locals)  (isC isR : List Nat) (hm : isC.map (fun i => ws[i]?) = wc.map some) (hsub : isC.filterMap (fun i => ws[i]?) = wc) (hnd : va_nd isC = true) (hm' : isC.map (fun i => ws'[i]?) = wc'.map some) (hRr : isR.map (fun i => ws'[i]?) = isR.map (fun i => ws[i]?)) (hall : (List.range ws'.length).all (fun i => isC.contains i || isR.contains i) = true) (hdis : isR.all (fun i => !isC.contains i) = true) (hfst : ws'.map Prod.fst = ws.map Prod.fst) (hstk : stk = As.reverse ++ st) (hst : (st.map fun v => v.category).sum ≤ 8) (hn : As.length = n) (hf : cells + 0 ≤ R.cells ∧ slots + 0 ≤ R.slots) (hd : decode cc pc = .ok (.invokestatic index, 3)) (hp : pc + 3 = pc') (k : V p l e R s m args below meth c g nL cells slots Q A A ws' pc' lv st) : V p l e R s m args below meth c g nL cells slots Q A A ws pc lv stk := by
  subst hp
  intro H locs ls hD hP hS hl
  exact va_callv (va_runSN (As := As) (rest := st) hC.fix hM ⟨va_cnB (host := host) n hC.2.2.2.2.1 hG hw hrc hrs (hC.2.2.2.2.2.2.2 _ (List.mem_of_getElem? hx)) (hC.2.2.2.2.1 _ hsi.2) hy hR, hC.2.2.2.2.1 _ hsi.1, trivial⟩ ⟨PW.blind, fun U hU hW => v_start hC isC hsub hnd hm hD hP U hU hW⟩ rfl hn hl.1 hstk (lv_room hst) hd hf) hS (fun q _ h => v_inA isC hm hD q h) (v_inA isC hm hD) (fun _ t H1 locs1 ht hvm _ hB hz hk hS1 => by
    rw [ht] at hB
    obtain ⟨hP1, hD1⟩ := v_rep isC isR hm hm' hRr hall hdis hfst hD hP hB hk
    exact k H1 locs1 ls hD1 hP1 hS1 hl)
theorem v_irt (hC : CX p s m args meth c g cy nL cc Ts own) {r v : Int32} {ty : FieldType} (hr : meth.sig.returnType = some ty) (hn : narrow ty (.int v) = .int v) (hv : v = r) (hd : decode cc pc = .ok (.ireturn, 1)) : V p l e R s m args below meth c g nL cells slots (MQ below (QRi r) args s cells slots nF) nF B ws pc lv [.int v] := by
  subst hv
  intro H locs ls hD hP hS hl
  exact W.zret hC.1 hC.2.1 hr hn (fun t ht hW => ⟨⟨v, (), rfl, rfl, trivial⟩, hS.F ht⟩) hS.2.2 hd hC.2.2.2.2.2.1
theorem v_lrt (hC : CX p s m args meth c g cy nL cc Ts own) {r v : Int64} (hr : meth.sig.returnType = some .long) (hv : v = r) (hd : decode cc pc = .ok (.lreturn, 1)) : V p l e R s m args below meth c g nL cells slots (MQ below (QRl r) args s cells slots nF) nF B ws pc lv [.long v] := by
  subst hv
  intro H locs ls hD hP hS hl
  exact W.lret hC.1 hC.2.1 hr (fun t ht hW => ⟨⟨v, (), rfl, rfl, trivial⟩, hS.F ht⟩) hS.2.2 hd hC.2.2.2.2.2.1
theorem v_irw (hC : CX p s m args meth c g cy nL cc Ts own) {r v : Int32} {ty : FieldType} (hr : meth.sig.returnType = some ty) (hn : narrow ty (.int v) = .int v) (hv : v = r) (hd : decode cc pc = .ok (.ireturn, 1)) : V p l e R s m args below meth c g nL cells slots (MQ below (QWi g A r ws) args s cells slots A) A B ws pc lv [.int v] := by
  subst hv
  intro H locs ls hD hP hS hl
  exact W.zret hC.1 hC.2.1 hr hn (fun t ht hW => ⟨⟨v, (), rfl, rfl, by show va_P g vwCl ws t.heap; rw [ht]; exact hP⟩, hS.F ht⟩) hS.2.2 hd hC.2.2.2.2.2.1
theorem v_vrw (hC : CX p s m args meth c g cy nL cc Ts own) (hr : meth.sig.returnType = none) (hd : decode cc pc = .ok (.return_, 1)) : V p l e R s m args below meth c g nL cells slots (MQ below (QWv g A ws) args s cells slots A) A B ws pc lv [] := by
  intro H locs ls hD hP hS hl
  exact W.vret hC.1 hC.2.1 hr (fun t ht hW => ⟨⟨(), rfl, trivial, by show va_P g vwCl ws t.heap; rw [ht]; exact hP⟩, hS.F ht⟩) hS.2.2 hd hC.2.2.2.2.2.1
end VROWS
/-- a contract out of a walk -/
theorem m_ofV {l : Launch} {y : MethodName} {Ts ws' : List Cond} {rm : Room} {cc : ByteArray} {nL : Nat} {ret : Option FieldType} {av : List Value} {g : va_G} {cy : Nat → ClassId} {ws : va_W} {Qc : Array Value → State → Outcome → State → Prop} {A B : Nat → Prop} (own : String) (ho : y.cls = own) (hy : plainName y.cls = true) (hw : Ts = Cond.code y cc nL ret :: ws') (lv : List (Nat × Value)) (hlv : lv_args 0 av = lv) (hlen : (lg_sl av).length ≤ nL) (hB : va_D (fun _ => True) ws → va_D B ws)
    (body : ∀ (p : Program) (e : Env) (s : State) (m : MethodId) (args : Array Value) (below : List Frame) (meth : Method) (c : Code), CX p s m args meth c g cy nL cc Ts own → meth.sig.returnType = ret → V p l e (headSpec Ts rm).room s m args below meth c g nL 0 0 (MQ below Qc args s 0 0 A) A B ws 0 lv []) : Met l y Ts rm (PW av g cy ws) Qc 0 0 A := by
  refine Met.ofW (cc := cc) (maxL := nL) (ret := ret) hy hw ?_
  intro p e s m args below meth c s₁ X hml hv
  obtain ⟨rfl, hP, hK, hD0, hN⟩ := hv
  have hown : s.vm.findClass own = some m.cls := ho ▸ findClass_of_methodNamed X.named
  have hC : CX p s m av.toArray meth c g cy nL cc Ts own := ⟨X.exec, X.bytes, hml, hown, atoms_spec X.pre, X.notSynchronized, hK, hN⟩
  have hl := lv_entry av (n := nL) hlen
  rw [lg_entry_eq]
  rw [hlv] at hl
  exact body p e s m av.toArray below meth c hC X.returns s.heap [] _ (hB hD0) hP va_S.rf hl

/-! ===== more rows of V: references that are answered, the ring's films ===== -/
set_option maxRecDepth 4000
/-- what a film holds: 0, 1, 2 its tables' rows; 3 its counters -/
def mkD (ex sc se : Nat → Int32) (c0 c1 c2 c3 c4 c5 c6 : Int32) : Nat → Nat → Int32 := fun a b => match a with
  | 0 => ex b
  | 1 => sc b
  | 2 => se b
  | _ => match b with
    | 0 => c0
    | 1 => c1
    | 2 => c2
    | 3 => c3
    | 4 => c4
    | 5 => c5
    | _ => c6
/-- a film's seven cells -/
def fW (cy : Nat → ClassId) (a : Nat → Nat) (D : Nat → Nat → Int32) : va_W := [(a 0, .inr (0, [.ref (a 1), .ref (a 3), .ref (a 5), .int (D 3 0), .int (D 3 1), .int (D 3 2), .int (D 3 3), .int (D 3 4), .int (D 3 5), .int (D 3 6)])), (a 1, .inr (3, [.int (nI 14), .ref (a 2)])), (a 2, .inl (cy 0, 84, .inl (D 0))), (a 3, .inr (3, [.int (nI 10), .ref (a 4)])), (a 4, .inl (cy 0, 60, .inl (D 1))), (a 5, .inr (3, [.int (nI 1), .ref (a 6)])), (a 6, .inl (cy 0, 3, .inl (D 2)))]
/-- the fourteen films of the ring -/
def HF (cy : Nat → ClassId) (AD : Nat → Nat → Nat) (RD : Nat → Nat → Nat → Int32) : va_W := (List.range 14).flatMap (fun k => fW cy (AD k) (RD k))
theorem va_P.mem {D : va_G} {cl : List vw_C} {ws : va_W} {H : Heap} (h : va_P D cl ws H) {q : Nat × va_E} (hq : q ∈ ws) : va_at D cl q H := by
  obtain ⟨i, hi⟩ := List.getElem?_of_mem hq
  exact h i q hi
theorem va_P.ofMem {D : va_G} {cl : List vw_C} {ws : va_W} {H : Heap} (h : ∀ q ∈ ws, va_at D cl q H) : va_P D cl ws H := fun _ q hq => h q (List.mem_of_getElem? hq)
theorem va_D.nodup {B : Nat → Prop} {ws : va_W} (h : va_D B ws) : (ws.map Prod.fst).Nodup := by
  refine List.pairwise_iff_getElem.mpr (fun i j hi hj hij he => ?_)
  rw [List.length_map] at hi hj
  rw [List.getElem_map, List.getElem_map] at he
  have := h.1 i j ws[i] ws[j] (List.getElem?_eq_getElem hi) (List.getElem?_eq_getElem hj) he
  omega
theorem va_D.ofNodup {B : Nat → Prop} {ws : va_W} (h : (ws.map Prod.fst).Nodup) (hB : ∀ q ∈ ws, B q.1) : va_D B ws := by
  refine ⟨fun i j x y hx hy hxy => ?_, fun k q hq => hB q (List.mem_of_getElem? hq)⟩
  obtain ⟨hi, ex⟩ := List.getElem?_eq_some_iff.mp hx
  obtain ⟨hj, ey⟩ := List.getElem?_eq_some_iff.mp hy
  have key := List.pairwise_iff_getElem.mp h
  rcases Nat.lt_trichotomy i j with c | c | c
  · exact absurd (by rw [List.getElem_map, List.getElem_map, ex, ey, hxy]) (key i j (by rw [List.length_map]; exact hi) (by rw [List.length_map]; exact hj) c)
  · exact c
  · exact absurd (by rw [List.getElem_map, List.getElem_map, ex, ey, hxy]) (key j i (by rw [List.length_map]; exact hj) (by rw [List.length_map]; exact hi) c)
theorem va_D.memB {B : Nat → Prop} {ws : va_W} (h : va_D B ws) {q : Nat × va_E} (hq : q ∈ ws) : B q.1 := by
  obtain ⟨i, hi⟩ := List.getElem?_of_mem hq
  exact h.2 i q hi
theorem va_D.subl {B : Nat → Prop} {ws wc : va_W} (h : va_D B ws) (hs : wc.Sublist ws) : va_D B wc := va_D.ofNodup (h.nodup.sublist (hs.map Prod.fst)) (fun q hq => h.memB (hs.subset hq))
theorem wA.mem {wc : va_W} {q : Nat} : wA wc q ↔ ∃ z ∈ wc, z.1 = q := by
  constructor
  · rintro ⟨k, e, h⟩
    exact ⟨(q, e), List.mem_of_getElem? h, rfl⟩
  · rintro ⟨z, hz, rfl⟩
    obtain ⟨i, hi⟩ := List.getElem?_of_mem hz
    exact ⟨i, z.2, hi⟩
/-- what a call leaves behind, by members -/
theorem v_repM {g : va_G} {B : Nat → Prop} {wc wc' ws ws' : va_W} {H H1 : Heap} (hfst : ws'.map Prod.fst = ws.map Prod.fst) (haft : ∀ q ∈ ws', q ∈ wc' ∨ (q ∈ ws ∧ ∀ z ∈ wc, z.1 ≠ q.1)) (hD : va_D B ws) (hP : va_P g vwCl ws H) (hP1 : va_P g vwCl wc' H1) (hk : ∀ q : Nat, q < H.size → ¬ wA wc q → H1[q]? = H[q]?) : va_P g vwCl ws' H1 ∧ va_D B ws' := by
  refine ⟨va_P.ofMem fun q hq => ?_, va_D.ofNodup (by rw [hfst]; exact hD.nodup) (fun q hq => ?_)⟩
  · rcases haft q hq with h | ⟨h1, h2⟩
    · exact hP1.mem h
    · refine (hP.mem h1).kept (hk q.1 (hP.mem h1).lt (fun hA => ?_))
      obtain ⟨z, hz, e⟩ := wA.mem.mp hA
      exact h2 z hz e
  · have : q.1 ∈ ws'.map Prod.fst := List.mem_map.mpr ⟨q, hq, rfl⟩
    rw [hfst] at this
    obtain ⟨z, hz, e⟩ := List.mem_map.mp this
    rw [← e]
    exact hD.memB hz
/-- some cells of a world, and others put in their places -/
def wsel : List Bool → va_W → va_W
  | true :: bs, x :: xs => x :: wsel bs xs
  | false :: bs, _ :: xs => wsel bs xs
  | _, _ => []
def wput : List Bool → va_W → va_W → va_W
  | true :: bs, _ :: xs, y :: ys => y :: wput bs xs ys
  | false :: bs, x :: xs, ys => x :: wput bs xs ys
  | _, xs, _ => xs
theorem wsel_sub : ∀ (bs : List Bool) (X : va_W), (wsel bs X).Sublist X := by
  intro bs
  induction bs with
  | nil => intro X; simp [wsel]
  | cons b bs ih =>
    intro X
    cases X with
    | nil => cases b <;> simp [wsel]
    | cons x xs =>
      cases b with
      | true => exact (ih xs).cons₂ x
      | false => exact (ih xs).cons x
theorem wput_mem : ∀ (bs : List Bool) (X Y : va_W), (X.map Prod.fst).Nodup → Y.map Prod.fst = (wsel bs X).map Prod.fst → (wput bs X Y).map Prod.fst = X.map Prod.fst ∧ ∀ q ∈ wput bs X Y, q ∈ Y ∨ (q ∈ X ∧ ∀ z ∈ wsel bs X, z.1 ≠ q.1) := by
  intro bs
  induction bs with
  | nil => intro X Y hn hY; exact ⟨by simp [wput], fun q hq => Or.inr ⟨by simpa [wput] using hq, by simp [wsel]⟩⟩
  | cons b bs ih =>
    intro X Y hn hY
    cases X with
    | nil => cases b <;> exact ⟨by simp [wput], fun q hq => Or.inr ⟨by simpa [wput] using hq, by simp [wsel]⟩⟩
    | cons x xs =>
      rw [List.map_cons, List.nodup_cons] at hn
      have sub : ∀ z ∈ wsel bs xs, z.1 ∈ xs.map Prod.fst := fun z hz => List.mem_map.mpr ⟨z, (wsel_sub bs xs).subset hz, rfl⟩
      cases b with
      | true =>
        cases Y with
        | nil => simp [wsel] at hY
        | cons y ys =>
          have hY2 : y.1 = x.1 ∧ ys.map Prod.fst = (wsel bs xs).map Prod.fst := by simpa [wsel] using hY
          obtain ⟨i1, i2⟩ := ih xs ys hn.2 hY2.2
          refine ⟨by simp [wput, i1, hY2.1], fun q hq => ?_⟩
          rcases List.mem_cons.mp (show q ∈ y :: wput bs xs ys from hq) with e | hq
          · exact Or.inl (by rw [e]; exact List.mem_cons_self)
          · rcases i2 q hq with h | ⟨h1, h2⟩
            · exact Or.inl (List.mem_cons_of_mem _ h)
            · refine Or.inr ⟨List.mem_cons_of_mem _ h1, fun z hz => ?_⟩
              rcases List.mem_cons.mp (show z ∈ x :: wsel bs xs from hz) with e | hz
              · intro e2
                exact hn.1 (by rw [e] at e2; rw [e2]; exact List.mem_map.mpr ⟨q, h1, rfl⟩)
              · exact h2 z hz
      | false =>
        obtain ⟨i1, i2⟩ := ih xs Y hn.2 (by simpa [wsel] using hY)
        refine ⟨by simp [wput, i1], fun q hq => ?_⟩
        rcases List.mem_cons.mp (show q ∈ x :: wput bs xs Y from hq) with e | hq
        · refine Or.inr ⟨by rw [e]; exact List.mem_cons_self, fun z hz => ?_⟩
          intro e2
          exact hn.1 (by rw [← e, ← e2]; exact sub z hz)
        · rcases i2 q hq with h | ⟨h1, h2⟩
          · exact Or.inl h
          · exact Or.inr ⟨List.mem_cons_of_mem _ h1, h2⟩
theorem v_startM {p : Program} {s : State} {m : MethodId} {args : Array Value} {meth : Method} {c : Code} {g : va_G} {cy : Nat → ClassId} {nL : Nat} {cc : ByteArray} {Ts : List Cond} {own : String} {av : List Value} {wc ws : va_W} {B : Nat → Prop} (hC : CX p s m args meth c g cy nL cc Ts own) (hs : ∀ q ∈ wc, q ∈ ws) (hn : (wc.map Prod.fst).Nodup) {H : Heap} (hP : va_P g vwCl ws H) (U : State) (hU : U.heap = H) (hW : s.WarmedH U.vm) : PW av g cy wc av.toArray U :=
  ⟨rfl, by rw [hU]; exact va_P.ofMem fun q hq => hP.mem (hs q hq), va_K.moved hW.alike hC.2.2.2.2.2.2.1, va_D.ofNodup hn (fun _ _ => trivial), NX.moved hW hC.2.2.2.2.2.2.2⟩

def QRa (a : Nat) : Array Value → State → Outcome → State → Prop := va_Qr (fun (_ : Unit) => True) (fun _ x _ => x = a) nF
section VROWS2
variable {p : Program} {l : Launch} {e : Env} {R : Room} {s : State} {m : MethodId} {args : Array Value} {below : List Frame} {meth : Method} {c : Code} {cells slots : Nat} {Q : State → Prop}
variable {g : va_G} {cy : Nat → ClassId} {nL : Nat} {cc : ByteArray} {Ts : List Cond} {own : String} {A B : Nat → Prop} {ws : va_W} {pc pc' : Nat} {lv lv' : List (Nat × Value)} {st : List Value}
theorem v_ifnull (hC : CX p s m args meth c g cy nL cc Ts own) {x : Nat} {off : Int} (hd : decode cc pc = .ok (.ifnull off, 3)) (hp : pc + 3 = pc') (k : V p l e R s m args below meth c g nL cells slots Q A B ws pc' lv st) : V p l e R s m args below meth c g nL cells slots Q A B ws pc lv (.ref x :: st) := by
  subst hp
  exact fun H locs ls hD hP hS hl => lv_ifnull hC.1 hC.2.1 hd (k H locs ls hD hP hS hl)
theorem v_aldq (hC : CX p s m args meth c g cy nL cc Ts own) (q0 : Nat) {a n r : Nat} {f : Nat → Option Nat} (ha : ws[q0]? = some (a, .inl (cy 2, n, .inr (.inr (.inr (.inr f)))))) {i : Int32} (hin : nb i n = true) (hf : f i.toNatClampNeg = some r) (hd : decode cc pc = .ok (.aaload, 1)) (hp : pc + 1 = pc') (kk : V p l e R s m args below meth c g nL cells slots Q A B ws pc' lv (.ref r :: st)) : V p l e R s m args below meth c g nL cells slots Q A B ws pc lv (.int i :: .ref a :: st) := by
  subst hp
  intro H locs ls hD hP hS hl
  refine va_aldq hC.1 hC.2.1 hC.2.2.2.2.2.2.1 hP q0 2 ha rfl (nb_in hin) hd ?_
  rw [hf]
  exact kk H locs ls hD hP hS hl
theorem v_roa {st0 : List Value} {a : Array Value} {r : Nat} (kk : V p l e R s m args below meth c g nL cells slots Q A B ws (pc + 3) lv (.ref r :: st)) {H : Heap} {locs : List Loc} {ls : Array Slot} (hD : va_D B ws) (hP : va_P g vwCl ws H) (hS : va_S A s.heap H locs) (hl : lv_has ls nL lv) (hr : va_Run p l e R s m args below meth c H locs cells slots 0 0 (F0 m pc ls st0) st (QRa r a) nF) : W p l e R s m args below meth c H locs cells slots Q (F0 m pc ls st0) :=
  va_callr hr hS (fun _ _ h => h.elim) (fun _ h => h.elim) (fun _ x t H1 locs1 ht hvm _ hx hz hk hS1 => by
    have hx : x = r := hx
    subst hx
    exact kk H1 locs1 ls hD (hP.kept (fun k q hq => hk q.1 (hP k q hq).lt (fun h => h))) hS1 hl)
theorem v_callVra (hC : CX p s m args meth c g cy nL cc Ts own) {y : MethodName} {bytes : ByteArray} {maxL n index : Nat} {ret : Option FieldType} {wy wy' : List Cond} {rm : Room} {As : List Value} {wc : va_W} {b ci N : Nat} {fs : List Value} {C : String} {T : u_T} {r : Nat} {stk : List Value} (hM : Met l y wy rm (PW (.ref b :: As) g cy wc) (QRa r) 0 0 nF) (hG : GoodIn Ts (wsV own index C y wy)) (hw : wy = Cond.code y bytes maxL ret :: wy') (hrc : rm.cells = 0) (hrs : rm.slots = 0) (hy : y.cls = C ∧ y.cls ≠ "java/lang/invoke/MethodHandle" ∧ y.cls ≠ "java/lang/invoke/VarHandle" ∧ (parseMethodDescriptor y.desc).map (fun d => d.parameters.length) = some n) (hR : rm.frames + 1 ≤ R.frames ∧ 8 + (maxL + 11) + rm.locals ≤ R.locals) (qb : Nat) (hb : ws[qb]? = some (b, .inr (ci, fs))) (hc : vwCl[ci]? = some (C, T, N)) (isC : List Nat) (hm : isC.map (fun i => ws[i]?) = wc.map some) (hsub : isC.filterMap (fun i => ws[i]?) = wc) (hnd : va_nd isC = true) (hstk : stk = As.reverse ++ .ref b :: st) (hst : (st.map fun v => v.category).sum ≤ 8) (hn : As.length = n) (hf : cells + 0 ≤ R.cells ∧ slots + 0 ≤ R.slots) (hd : decode cc pc = .ok (.invokevirtual index, 3)) (hp : pc + 3 = pc') (k : V p l e R s m args below meth c g nL cells slots Q A B ws pc' lv (.ref r :: st)) : V p l e R s m args below meth c g nL cells slots Q A B ws pc lv stk := by
  subst hp
  intro H locs ls hD hP hS hl
  exact v_roa k hD hP hS hl (va_runV (As := As) (rest := st) hC.fix hM (cwV n hC.2.2.2.2.1 hG hw hrc hrs hy hR) ⟨PW.blind, va_recv hC.2.2.2.2.2.2.1 hP hc hb, fun U hU hW => v_start hC isC hsub hnd hm hD hP U hU hW⟩ rfl hn hl.1 hstk (lv_room hst) hd hf)
theorem v_callSra (hC : CX p s m args meth c g cy nL cc Ts own) {y : MethodName} {bytes : ByteArray} {maxL n index : Nat} {ret : Option FieldType} {wy wy' : List Cond} {rm : Room} {As : List Value} {wc : va_W}  {r : Nat} {stk : List Value} (hM : Met l y wy rm (PW As g cy wc) (QRa r) 0 0 nF) (hG : GoodIn Ts (va_wsS own index y wy)) (hw : wy = Cond.code y bytes maxL ret :: wy') (hrc : rm.cells = 0) (hrs : rm.slots = 0) (hy : y.cls ≠ "java/lang/invoke/MethodHandle" ∧ y.cls ≠ "java/lang/invoke/VarHandle" ∧ (parseMethodDescriptor y.desc).map (fun d => d.parameters.length) = some n) (hR : rm.frames + 1 ≤ R.frames ∧ 8 + (maxL + 11) + rm.locals ≤ R.locals)  (isC : List Nat) (hm : isC.map (fun i => ws[i]?) = wc.map some) (hsub : isC.filterMap (fun i => ws[i]?) = wc) (hnd : va_nd isC = true) (hstk : stk = As.reverse ++ st) (hst : (st.map fun v => v.category).sum ≤ 8) (hn : As.length = n) (hf : cells + 0 ≤ R.cells ∧ slots + 0 ≤ R.slots) (hd : decode cc pc = .ok (.invokestatic index, 3)) (hp : pc + 3 = pc') (k : V p l e R s m args below meth c g nL cells slots Q A B ws pc' lv (.ref r :: st)) : V p l e R s m args below meth c g nL cells slots Q A B ws pc lv stk := by
  subst hp
  intro H locs ls hD hP hS hl
  exact v_roa k hD hP hS hl (va_runS (As := As) (rest := st) hC.fix hM (v_cwS n hC.2.2.2.2.1 hG hw hrc hrs hy hR) ⟨PW.blind, fun U hU hW => v_start hC isC hsub hnd hm hD hP U hU hW⟩ rfl hn hl.1 hstk (lv_room hst) hd hf)
theorem v_callUwi (hC : CX p s m args meth c g cy nL cc Ts own) {y : MethodName} {bytes : ByteArray} {maxL n index : Nat} {ret : Option FieldType} {wy wy' : List Cond} {rm : Room} {As : List Value} {b ci N : Nat} {fs : List Value} {C : String} {T : u_T} {stk : List Value} {X Y : va_W} {TT : va_W} {r : Int32} (bs : List Bool) (hM : Met l y wy rm (PW (.ref b :: As) g cy (wsel bs X)) (QWi g (wA (wsel bs X)) r Y) 0 0 (wA (wsel bs X))) (hY : Y.map Prod.fst = (wsel bs X).map Prod.fst) (hG : GoodIn Ts (wsV own index C y wy)) (hw : wy = Cond.code y bytes maxL ret :: wy') (hrc : rm.cells = 0) (hrs : rm.slots = 0) (hy : y.cls = C ∧ y.cls ≠ "java/lang/invoke/MethodHandle" ∧ y.cls ≠ "java/lang/invoke/VarHandle" ∧ (parseMethodDescriptor y.desc).map (fun d => d.parameters.length) = some n) (hR : rm.frames + 1 ≤ R.frames ∧ 8 + (maxL + 11) + rm.locals ≤ R.locals) (qb : Nat) (hb : (X ++ TT)[qb]? = some (b, .inr (ci, fs))) (hc : vwCl[ci]? = some (C, T, N)) (hstk : stk = As.reverse ++ .ref b :: st) (hst : (st.map fun v => v.category).sum ≤ 8) (hn : As.length = n) (hf : cells + 0 ≤ R.cells ∧ slots + 0 ≤ R.slots) (hd : decode cc pc = .ok (.invokevirtual index, 3)) (hp : pc + 3 = pc') (ws' : va_W) (hws : wput bs X Y ++ TT = ws') (k : V p l e R s m args below meth c g nL cells slots Q A A ws' pc' lv (.int r :: st)) : V p l e R s m args below meth c g nL cells slots Q A A (X ++ TT) pc lv stk := by
  subst hp
  subst hws
  intro H locs ls hD hP hS hl
  have hnd := hD.nodup
  rw [List.map_append, List.nodup_append] at hnd
  obtain ⟨hnX, hnT, hxt⟩ := hnd
  obtain ⟨i1, i2⟩ := wput_mem bs X Y hnX hY
  have hdis : ∀ x ∈ X, ∀ z ∈ TT, x.1 ≠ z.1 := fun x hx z hz => hxt x.1 (List.mem_map.mpr ⟨x, hx, rfl⟩) z.1 (List.mem_map.mpr ⟨z, hz, rfl⟩)
  have hselX : ∀ q ∈ wsel bs X, q ∈ X := fun q hq => (wsel_sub bs X).subset hq
  have hfst : (wput bs X Y ++ TT).map Prod.fst = (X ++ TT).map Prod.fst := by rw [List.map_append, List.map_append, i1]
  have haft : ∀ q ∈ wput bs X Y ++ TT, q ∈ Y ∨ (q ∈ X ++ TT ∧ ∀ z ∈ wsel bs X, z.1 ≠ q.1) := by
    intro q hq
    rcases List.mem_append.mp hq with h | h
    · rcases i2 q h with h | ⟨h1, h2⟩
      · exact Or.inl h
      · exact Or.inr ⟨List.mem_append_left _ h1, h2⟩
    · exact Or.inr ⟨List.mem_append_right _ h, fun z hz => hdis z (hselX z hz) q h⟩
  have hsubl : (wsel bs X).Sublist (X ++ TT) := (wsel_sub bs X).trans (List.sublist_append_left X TT)
  have hDc := hD.subl hsubl
  have hinA : ∀ q, wA (wsel bs X) q → A q := fun q hq => by
    obtain ⟨z, hz, e⟩ := wA.mem.mp hq
    rw [← e]
    exact hDc.memB hz
  exact va_calli (va_runV (As := As) (rest := st) hC.fix hM (cwV n hC.2.2.2.2.1 hG hw hrc hrs hy hR) ⟨PW.blind, va_recv hC.2.2.2.2.2.2.1 hP hc hb, fun U hU hW => v_startM (B := A) hC (fun q hq => hsubl.subset hq) hDc.nodup hP U hU hW⟩ rfl hn hl.1 hstk (lv_room hst) hd hf) hS (fun q _ h => hinA q h) hinA (fun x _ t H1 locs1 ht hvm hx hB hz hk hS1 => by
    subst hx
    rw [ht] at hB
    obtain ⟨hP1, hD1⟩ := v_repM hfst haft hD hP hB hk
    exact k H1 locs1 ls hD1 hP1 hS1 hl)
theorem v_callUwv (hC : CX p s m args meth c g cy nL cc Ts own) {y : MethodName} {bytes : ByteArray} {maxL n index : Nat} {ret : Option FieldType} {wy wy' : List Cond} {rm : Room} {As : List Value} {b ci N : Nat} {fs : List Value} {C : String} {T : u_T} {stk : List Value} {X Y : va_W} {TT : va_W} (bs : List Bool) (hM : Met l y wy rm (PW (.ref b :: As) g cy (wsel bs X)) (QWv g (wA (wsel bs X)) Y) 0 0 (wA (wsel bs X))) (hY : Y.map Prod.fst = (wsel bs X).map Prod.fst) (hG : GoodIn Ts (wsV own index C y wy)) (hw : wy = Cond.code y bytes maxL ret :: wy') (hrc : rm.cells = 0) (hrs : rm.slots = 0) (hy : y.cls = C ∧ y.cls ≠ "java/lang/invoke/MethodHandle" ∧ y.cls ≠ "java/lang/invoke/VarHandle" ∧ (parseMethodDescriptor y.desc).map (fun d => d.parameters.length) = some n) (hR : rm.frames + 1 ≤ R.frames ∧ 8 + (maxL + 11) + rm.locals ≤ R.locals) (qb : Nat) (hb : (X ++ TT)[qb]? = some (b, .inr (ci, fs))) (hc : vwCl[ci]? = some (C, T, N)) (hstk : stk = As.reverse ++ .ref b :: st) (hst : (st.map fun v => v.category).sum ≤ 8) (hn : As.length = n) (hf : cells + 0 ≤ R.cells ∧ slots + 0 ≤ R.slots) (hd : decode cc pc = .ok (.invokevirtual index, 3)) (hp : pc + 3 = pc') (ws' : va_W) (hws : wput bs X Y ++ TT = ws') (k : V p l e R s m args below meth c g nL cells slots Q A A ws' pc' lv st) : V p l e R s m args below meth c g nL cells slots Q A A (X ++ TT) pc lv stk := by
  subst hp
  subst hws
  intro H locs ls hD hP hS hl
  have hnd := hD.nodup
  rw [List.map_append, List.nodup_append] at hnd
  obtain ⟨hnX, hnT, hxt⟩ := hnd
  obtain ⟨i1, i2⟩ := wput_mem bs X Y hnX hY
  have hdis : ∀ x ∈ X, ∀ z ∈ TT, x.1 ≠ z.1 := fun x hx z hz => hxt x.1 (List.mem_map.mpr ⟨x, hx, rfl⟩) z.1 (List.mem_map.mpr ⟨z, hz, rfl⟩)
  have hselX : ∀ q ∈ wsel bs X, q ∈ X := fun q hq => (wsel_sub bs X).subset hq
  have hfst : (wput bs X Y ++ TT).map Prod.fst = (X ++ TT).map Prod.fst := by rw [List.map_append, List.map_append, i1]
  have haft : ∀ q ∈ wput bs X Y ++ TT, q ∈ Y ∨ (q ∈ X ++ TT ∧ ∀ z ∈ wsel bs X, z.1 ≠ q.1) := by
    intro q hq
    rcases List.mem_append.mp hq with h | h
    · rcases i2 q h with h | ⟨h1, h2⟩
      · exact Or.inl h
      · exact Or.inr ⟨List.mem_append_left _ h1, h2⟩
    · exact Or.inr ⟨List.mem_append_right _ h, fun z hz => hdis z (hselX z hz) q h⟩
  have hsubl : (wsel bs X).Sublist (X ++ TT) := (wsel_sub bs X).trans (List.sublist_append_left X TT)
  have hDc := hD.subl hsubl
  have hinA : ∀ q, wA (wsel bs X) q → A q := fun q hq => by
    obtain ⟨z, hz, e⟩ := wA.mem.mp hq
    rw [← e]
    exact hDc.memB hz
  exact va_callv (va_runV (As := As) (rest := st) hC.fix hM (cwV n hC.2.2.2.2.1 hG hw hrc hrs hy hR) ⟨PW.blind, va_recv hC.2.2.2.2.2.2.1 hP hc hb, fun U hU hW => v_startM (B := A) hC (fun q hq => hsubl.subset hq) hDc.nodup hP U hU hW⟩ rfl hn hl.1 hstk (lv_room hst) hd hf) hS (fun q _ h => hinA q h) hinA (fun _ t H1 locs1 ht hvm _ hB hz hk hS1 => by
    rw [ht] at hB
    obtain ⟨hP1, hD1⟩ := v_repM hfst haft hD hP hB hk
    exact k H1 locs1 ls hD1 hP1 hS1 hl)
theorem v_callOwi (hC : CX p s m args meth c g cy nL cc Ts own) {y : MethodName} {bytes : ByteArray} {maxL n index : Nat} {ret : Option FieldType} {wy wy' : List Cond} {rm : Room} {As : List Value} {b ci N : Nat} {fs : List Value} {C : String} {T : u_T} {stk : List Value} {X Y : va_W} {TT T2 : va_W} {r : Int32} (bs : List Bool) (hM : Met l y wy rm (PW (.ref b :: As) g cy (wsel bs X ++ TT)) (QWi g (wA (wsel bs X ++ TT)) r (Y ++ T2)) 0 0 (wA (wsel bs X ++ TT))) (hT : T2.map Prod.fst = TT.map Prod.fst) (hY : Y.map Prod.fst = (wsel bs X).map Prod.fst) (hG : GoodIn Ts (wsV own index C y wy)) (hw : wy = Cond.code y bytes maxL ret :: wy') (hrc : rm.cells = 0) (hrs : rm.slots = 0) (hy : y.cls = C ∧ y.cls ≠ "java/lang/invoke/MethodHandle" ∧ y.cls ≠ "java/lang/invoke/VarHandle" ∧ (parseMethodDescriptor y.desc).map (fun d => d.parameters.length) = some n) (hR : rm.frames + 1 ≤ R.frames ∧ 8 + (maxL + 11) + rm.locals ≤ R.locals) (qb : Nat) (hb : (X ++ TT)[qb]? = some (b, .inr (ci, fs))) (hc : vwCl[ci]? = some (C, T, N)) (hstk : stk = As.reverse ++ .ref b :: st) (hst : (st.map fun v => v.category).sum ≤ 8) (hn : As.length = n) (hf : cells + 0 ≤ R.cells ∧ slots + 0 ≤ R.slots) (hd : decode cc pc = .ok (.invokevirtual index, 3)) (hp : pc + 3 = pc') (ws' : va_W) (hws : wput bs X Y ++ T2 = ws') (k : V p l e R s m args below meth c g nL cells slots Q A A ws' pc' lv (.int r :: st)) : V p l e R s m args below meth c g nL cells slots Q A A (X ++ TT) pc lv stk := by
  subst hp
  subst hws
  intro H locs ls hD hP hS hl
  have hnd := hD.nodup
  rw [List.map_append, List.nodup_append] at hnd
  obtain ⟨hnX, hnT, hxt⟩ := hnd
  obtain ⟨i1, i2⟩ := wput_mem bs X Y hnX hY
  have hdis : ∀ x ∈ X, ∀ z ∈ TT, x.1 ≠ z.1 := fun x hx z hz => hxt x.1 (List.mem_map.mpr ⟨x, hx, rfl⟩) z.1 (List.mem_map.mpr ⟨z, hz, rfl⟩)
  have hselX : ∀ q ∈ wsel bs X, q ∈ X := fun q hq => (wsel_sub bs X).subset hq
  have hfst : (wput bs X Y ++ T2).map Prod.fst = (X ++ TT).map Prod.fst := by rw [List.map_append, List.map_append, i1, hT]
  have haft : ∀ q ∈ wput bs X Y ++ T2, q ∈ (Y ++ T2) ∨ (q ∈ X ++ TT ∧ ∀ z ∈ wsel bs X ++ TT, z.1 ≠ q.1) := by
    intro q hq
    rcases List.mem_append.mp hq with h | h
    · rcases i2 q h with h | ⟨h1, h2⟩
      · exact Or.inl (List.mem_append_left _ h)
      · refine Or.inr ⟨List.mem_append_left _ h1, fun z hz => ?_⟩
        rcases List.mem_append.mp hz with hz | hz
        · exact h2 z hz
        · exact fun e => hdis q h1 z hz e.symm
    · exact Or.inl (List.mem_append_right _ h)
  have hsubl : (wsel bs X ++ TT).Sublist (X ++ TT) := (wsel_sub bs X).append (List.Sublist.refl TT)
  have hDc := hD.subl hsubl
  have hinA : ∀ q, wA (wsel bs X ++ TT) q → A q := fun q hq => by
    obtain ⟨z, hz, e⟩ := wA.mem.mp hq
    rw [← e]
    exact hDc.memB hz
  exact va_calli (va_runV (As := As) (rest := st) hC.fix hM (cwV n hC.2.2.2.2.1 hG hw hrc hrs hy hR) ⟨PW.blind, va_recv hC.2.2.2.2.2.2.1 hP hc hb, fun U hU hW => v_startM (B := A) hC (fun q hq => hsubl.subset hq) hDc.nodup hP U hU hW⟩ rfl hn hl.1 hstk (lv_room hst) hd hf) hS (fun q _ h => hinA q h) hinA (fun x _ t H1 locs1 ht hvm hx hB hz hk hS1 => by
    subst hx
    rw [ht] at hB
    obtain ⟨hP1, hD1⟩ := v_repM hfst haft hD hP hB hk
    exact k H1 locs1 ls hD1 hP1 hS1 hl)
theorem v_callOwv (hC : CX p s m args meth c g cy nL cc Ts own) {y : MethodName} {bytes : ByteArray} {maxL n index : Nat} {ret : Option FieldType} {wy wy' : List Cond} {rm : Room} {As : List Value} {b ci N : Nat} {fs : List Value} {C : String} {T : u_T} {stk : List Value} {X Y : va_W} {TT T2 : va_W} (bs : List Bool) (hM : Met l y wy rm (PW (.ref b :: As) g cy (wsel bs X ++ TT)) (QWv g (wA (wsel bs X ++ TT)) (Y ++ T2)) 0 0 (wA (wsel bs X ++ TT))) (hT : T2.map Prod.fst = TT.map Prod.fst) (hY : Y.map Prod.fst = (wsel bs X).map Prod.fst) (hG : GoodIn Ts (wsV own index C y wy)) (hw : wy = Cond.code y bytes maxL ret :: wy') (hrc : rm.cells = 0) (hrs : rm.slots = 0) (hy : y.cls = C ∧ y.cls ≠ "java/lang/invoke/MethodHandle" ∧ y.cls ≠ "java/lang/invoke/VarHandle" ∧ (parseMethodDescriptor y.desc).map (fun d => d.parameters.length) = some n) (hR : rm.frames + 1 ≤ R.frames ∧ 8 + (maxL + 11) + rm.locals ≤ R.locals) (qb : Nat) (hb : (X ++ TT)[qb]? = some (b, .inr (ci, fs))) (hc : vwCl[ci]? = some (C, T, N)) (hstk : stk = As.reverse ++ .ref b :: st) (hst : (st.map fun v => v.category).sum ≤ 8) (hn : As.length = n) (hf : cells + 0 ≤ R.cells ∧ slots + 0 ≤ R.slots) (hd : decode cc pc = .ok (.invokevirtual index, 3)) (hp : pc + 3 = pc') (ws' : va_W) (hws : wput bs X Y ++ T2 = ws') (k : V p l e R s m args below meth c g nL cells slots Q A A ws' pc' lv st) : V p l e R s m args below meth c g nL cells slots Q A A (X ++ TT) pc lv stk := by
  subst hp
  subst hws
  intro H locs ls hD hP hS hl
  have hnd := hD.nodup
  rw [List.map_append, List.nodup_append] at hnd
  obtain ⟨hnX, hnT, hxt⟩ := hnd
  obtain ⟨i1, i2⟩ := wput_mem bs X Y hnX hY
  have hdis : ∀ x ∈ X, ∀ z ∈ TT, x.1 ≠ z.1 := fun x hx z hz => hxt x.1 (List.mem_map.mpr ⟨x, hx, rfl⟩) z.1 (List.mem_map.mpr ⟨z, hz, rfl⟩)
  have hselX : ∀ q ∈ wsel bs X, q ∈ X := fun q hq => (wsel_sub bs X).subset hq
  have hfst : (wput bs X Y ++ T2).map Prod.fst = (X ++ TT).map Prod.fst := by rw [List.map_append, List.map_append, i1, hT]
  have haft : ∀ q ∈ wput bs X Y ++ T2, q ∈ (Y ++ T2) ∨ (q ∈ X ++ TT ∧ ∀ z ∈ wsel bs X ++ TT, z.1 ≠ q.1) := by
    intro q hq
    rcases List.mem_append.mp hq with h | h
    · rcases i2 q h with h | ⟨h1, h2⟩
      · exact Or.inl (List.mem_append_left _ h)
      · refine Or.inr ⟨List.mem_append_left _ h1, fun z hz => ?_⟩
        rcases List.mem_append.mp hz with hz | hz
        · exact h2 z hz
        · exact fun e => hdis q h1 z hz e.symm
    · exact Or.inl (List.mem_append_right _ h)
  have hsubl : (wsel bs X ++ TT).Sublist (X ++ TT) := (wsel_sub bs X).append (List.Sublist.refl TT)
  have hDc := hD.subl hsubl
  have hinA : ∀ q, wA (wsel bs X ++ TT) q → A q := fun q hq => by
    obtain ⟨z, hz, e⟩ := wA.mem.mp hq
    rw [← e]
    exact hDc.memB hz
  exact va_callv (va_runV (As := As) (rest := st) hC.fix hM (cwV n hC.2.2.2.2.1 hG hw hrc hrs hy hR) ⟨PW.blind, va_recv hC.2.2.2.2.2.2.1 hP hc hb, fun U hU hW => v_startM (B := A) hC (fun q hq => hsubl.subset hq) hDc.nodup hP U hU hW⟩ rfl hn hl.1 hstk (lv_room hst) hd hf) hS (fun q _ h => hinA q h) hinA (fun _ t H1 locs1 ht hvm _ hB hz hk hS1 => by
    rw [ht] at hB
    obtain ⟨hP1, hD1⟩ := v_repM hfst haft hD hP hB hk
    exact k H1 locs1 ls hD1 hP1 hS1 hl)
theorem v_art (hC : CX p s m args meth c g cy nL cc Ts own) {a : Nat} {rt : FieldType} (hr : meth.sig.returnType = some rt) (hrt : (∃ n, rt = .object n) ∨ ∃ t, rt = .array t) {r : Nat} (hv : a = r) (hd : decode cc pc = .ok (.areturn, 1)) : V p l e R s m args below meth c g nL cells slots (MQ below (QRa r) args s cells slots nF) nF B ws pc lv [.ref a] := by
  subst hv
  intro H locs ls hD hP hS hl
  exact W.aret hC.1 hC.2.1 hr hrt (Or.inr ⟨a, rfl⟩) (fun t ht hW => ⟨⟨(), a, rfl, trivial, rfl⟩, hS.F ht⟩) hS.2.2 hd hC.2.2.2.2.2.1
end VROWS2

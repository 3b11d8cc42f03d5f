/-! ===== a film of the ring is copied to, or from ===== -/
theorem fW_fst {cy : Nat → ClassId} {a : Nat → Nat} {D : Nat → Nat → Int32} : (fW cy a D).map Prod.fst = [a 0, a 1, a 2, a 3, a 4, a 5, a 6] := rfl
theorem fW_fst_eq {cy : Nat → ClassId} {a : Nat → Nat} {D D2 : Nat → Nat → Int32} : (fW cy a D).map Prod.fst = (fW cy a D2).map Prod.fst := rfl
theorem HF_fst {cy : Nat → ClassId} {AD : Nat → Nat → Nat} {RD RD2 : Nat → Nat → Nat → Int32} : (HF cy AD RD).map Prod.fst = (HF cy AD RD2).map Prod.fst := by
  unfold HF
  rw [List.map_flatMap, List.map_flatMap]
  rfl
theorem HF_mem {cy : Nat → ClassId} {AD : Nat → Nat → Nat} {RD : Nat → Nat → Nat → Int32} {q : Nat × va_E} : q ∈ HF cy AD RD ↔ ∃ k, k < 14 ∧ q ∈ fW cy (AD k) (RD k) := by
  unfold HF
  rw [List.mem_flatMap]
  constructor
  · rintro ⟨k, h1, h2⟩
    exact ⟨k, List.mem_range.mp h1, h2⟩
  · rintro ⟨k, h1, h2⟩
    exact ⟨k, List.mem_range.mpr h1, h2⟩
theorem HF_apart {cy : Nat → ClassId} {AD : Nat → Nat → Nat} {RD : Nat → Nat → Nat → Int32} (hn : ((HF cy AD RD).map Prod.fst).Nodup) {j k : Nat} (hj : j < 14) (hk : k < 14) (hjk : j ≠ k) {D1 D2 : Nat → Nat → Int32} {x z : Nat × va_E} (hx : x ∈ fW cy (AD j) D1) (hz : z ∈ fW cy (AD k) D2) : x.1 ≠ z.1 := by
  have hx1 : x.1 ∈ (fW cy (AD j) (RD j)).map Prod.fst := by rw [fW_fst_eq (D2 := D1)]; exact List.mem_map.mpr ⟨x, hx, rfl⟩
  have hz1 : z.1 ∈ (fW cy (AD k) (RD k)).map Prod.fst := by rw [fW_fst_eq (D2 := D2)]; exact List.mem_map.mpr ⟨z, hz, rfl⟩
  unfold HF at hn
  rw [List.map_flatMap] at hn
  obtain ⟨-, h2⟩ := List.pairwise_flatMap.mp hn
  have h3 := List.pairwise_iff_getElem.mp h2
  rcases Nat.lt_or_gt_of_ne hjk with c | c
  · have := h3 j k (by rw [List.length_range]; exact hj) (by rw [List.length_range]; exact hk) c
    rw [List.getElem_range, List.getElem_range] at this
    exact this x.1 hx1 z.1 hz1
  · have := h3 k j (by rw [List.length_range]; exact hk) (by rw [List.length_range]; exact hj) c
    rw [List.getElem_range, List.getElem_range] at this
    exact fun e => this z.1 hz1 x.1 hx1 e.symm
theorem nd_inj {ws : va_W} (h : (ws.map Prod.fst).Nodup) {x z : Nat × va_E} (hx : x ∈ ws) (hz : z ∈ ws) (e : x.1 = z.1) : x = z := by
  have hD : va_D (fun _ => True) ws := va_D.ofNodup h (fun _ _ => trivial)
  obtain ⟨i, hi⟩ := List.getElem?_of_mem hx
  obtain ⟨j, hj⟩ := List.getElem?_of_mem hz
  have := hD.1 i j x z hi hj e
  subst this
  exact Option.some.inj (hi.symm.trans hj)
section VROWS3
variable {p : Program} {l : Launch} {e : Env} {R : Room} {s : State} {m : MethodId} {args : Array Value} {below : List Frame} {meth : Method} {c : Code} {cells slots : Nat} {Q : State → Prop}
variable {g : va_G} {cy : Nat → ClassId} {nL : Nat} {cc : ByteArray} {Ts : List Cond} {own : String} {A B : Nat → Prop} {ws : va_W} {pc pc' : Nat} {lv lv' : List (Nat × Value)} {st : List Value}
variable {X : va_W} {AD : Nat → Nat → Nat} {RD : Nat → Nat → Nat → Int32} {k : Nat} {bs : List Bool}
theorem hf_subl (hk : k < 14) (hn : ((X ++ HF cy AD RD).map Prod.fst).Nodup) : (∀ q ∈ fW cy (AD k) (RD k) ++ wsel bs X, q ∈ X ++ HF cy AD RD) ∧ ((fW cy (AD k) (RD k) ++ wsel bs X).map Prod.fst).Nodup ∧ ((wsel bs X ++ fW cy (AD k) (RD k)).map Prod.fst).Nodup := by
  have hsX : ∀ q ∈ wsel bs X, q ∈ X := fun q hq => (wsel_sub bs X).subset hq
  have hsF : ∀ q ∈ fW cy (AD k) (RD k), q ∈ HF cy AD RD := fun q hq => HF_mem.mpr ⟨k, hk, hq⟩
  rw [List.map_append, List.nodup_append] at hn
  obtain ⟨n1, n2, n3⟩ := hn
  have m1 : ((wsel bs X).map Prod.fst).Nodup := n1.sublist ((wsel_sub bs X).map Prod.fst)
  have m2 : ((fW cy (AD k) (RD k)).map Prod.fst).Nodup := by
    unfold HF at n2
    rw [List.map_flatMap] at n2
    exact (List.pairwise_flatMap.mp n2).1 k (List.mem_range.mpr hk)
  have m3 : ∀ a ∈ (wsel bs X).map Prod.fst, ∀ b ∈ (fW cy (AD k) (RD k)).map Prod.fst, a ≠ b := by
    intro a ha b hb
    obtain ⟨x, hx, rfl⟩ := List.mem_map.mp ha
    obtain ⟨z, hz, rfl⟩ := List.mem_map.mp hb
    exact n3 x.1 (List.mem_map.mpr ⟨x, hsX x hx, rfl⟩) z.1 (List.mem_map.mpr ⟨z, hsF z hz, rfl⟩)
  refine ⟨fun q hq => ?_, ?_, ?_⟩
  · rcases List.mem_append.mp hq with h | h
    · exact List.mem_append_right _ (hsF q h)
    · exact List.mem_append_left _ (hsX q h)
  · rw [List.map_append, List.nodup_append]
    exact ⟨m2, m1, fun a ha b hb e => m3 b hb a ha e.symm⟩
  · rw [List.map_append, List.nodup_append]
    exact ⟨m1, m2, m3⟩
theorem v_callHto (hC : CX p s m args meth c g cy nL cc Ts own) {y : MethodName} {bytes : ByteArray} {maxL n index : Nat} {ret : Option FieldType} {wy wy' : List Cond} {rm : Room} {As : List Value} {b : Nat} {stk : List Value} {D2 : Nat → Nat → Int32} (hk : k < 14) (bs : List Bool) (hM : Met l y wy rm (PW (.ref b :: As) g cy (fW cy (AD k) (RD k) ++ wsel bs X)) (QWv g (wA (fW cy (AD k) (RD k) ++ wsel bs X)) (fW cy (AD k) D2 ++ wsel bs X)) 0 0 (wA (fW cy (AD k) (RD k) ++ wsel bs X))) (hG : GoodIn Ts (wsV own index RX0 y wy)) (hw : wy = Cond.code y bytes maxL ret :: wy') (hrc : rm.cells = 0) (hrs : rm.slots = 0) (hy : y.cls = RX0 ∧ y.cls ≠ "java/lang/invoke/MethodHandle" ∧ y.cls ≠ "java/lang/invoke/VarHandle" ∧ (parseMethodDescriptor y.desc).map (fun d => d.parameters.length) = some n) (hR : rm.frames + 1 ≤ R.frames ∧ 8 + (maxL + 11) + rm.locals ≤ R.locals) (hb : b = AD k 0) (hstk : stk = As.reverse ++ .ref b :: st) (hst : (st.map fun v => v.category).sum ≤ 8) (hn : As.length = n) (hf : cells + 0 ≤ R.cells ∧ slots + 0 ≤ R.slots) (hd : decode cc pc = .ok (.invokevirtual index, 3)) (hp : pc + 3 = pc') (ws2 : va_W) (hws : X ++ HF cy AD (va_up RD k D2) = ws2) (kk : V p l e R s m args below meth c g nL cells slots Q A A ws2 pc' lv st) : V p l e R s m args below meth c g nL cells slots Q A A (X ++ HF cy AD RD) pc lv stk := by
  subst hp
  subst hws
  intro H locs ls hD hP hS hl
  have hnd := hD.nodup
  have hsb := hf_subl (bs := bs) hk hnd
  have hnd2 := hnd
  rw [List.map_append, List.nodup_append] at hnd2
  obtain ⟨hnX, hnT, hxt⟩ := hnd2
  have hrecv : ∃ cellB : Cell, H[b]? = some cellB ∧ cellB.vm.isStatics = false ∧ s.vm.findClass RX0 = some cellB.cls := by
    subst hb
    exact va_recv (ws := fW cy (AD k) (RD k)) (ci := 0) (q0 := 0) (q := (RX0, TX0, 10)) hC.2.2.2.2.2.2.1 (va_P.ofMem fun q hq => hP.mem (hsb.1 q (List.mem_append_left _ hq))) rfl rfl
  have hfst : (X ++ HF cy AD (va_up RD k D2)).map Prod.fst = (X ++ HF cy AD RD).map Prod.fst := by rw [List.map_append, List.map_append, HF_fst (RD2 := RD)]
  have haft : ∀ q ∈ X ++ HF cy AD (va_up RD k D2), q ∈ fW cy (AD k) D2 ++ wsel bs X ∨ (q ∈ X ++ HF cy AD RD ∧ ∀ z ∈ fW cy (AD k) (RD k) ++ wsel bs X, z.1 ≠ q.1) := by
    intro q hq
    rcases List.mem_append.mp hq with h | h
    · by_cases hz : ∃ z ∈ fW cy (AD k) (RD k) ++ wsel bs X, z.1 = q.1
      · obtain ⟨z, hz, e⟩ := hz
        have hqW : q ∈ X ++ HF cy AD RD := List.mem_append_left _ h
        have := nd_inj hnd (hsb.1 z hz) hqW e
        subst this
        rcases List.mem_append.mp hz with h2 | h2
        · exact absurd rfl (hxt z.1 (List.mem_map.mpr ⟨z, h, rfl⟩) z.1 (List.mem_map.mpr ⟨z, HF_mem.mpr ⟨k, hk, h2⟩, rfl⟩))
        · exact Or.inl (List.mem_append_right _ h2)
      · exact Or.inr ⟨List.mem_append_left _ h, fun z h2 e => hz ⟨z, h2, e⟩⟩
    · obtain ⟨j, hj, h2⟩ := HF_mem.mp h
      by_cases hjk : j = k
      · subst hjk
        have e1 : va_up RD j D2 j = D2 := by simp [va_up]
        rw [e1] at h2
        exact Or.inl (List.mem_append_left _ h2)
      · have e1 : va_up RD k D2 j = RD j := by simp [va_up, hjk]
        rw [e1] at h2
        refine Or.inr ⟨List.mem_append_right _ (HF_mem.mpr ⟨j, hj, h2⟩), fun z hz => ?_⟩
        rcases List.mem_append.mp hz with h3 | h3
        · exact fun e => HF_apart hnT hj hk hjk h2 h3 e.symm
        · exact hxt z.1 (List.mem_map.mpr ⟨z, (wsel_sub bs X).subset h3, rfl⟩) q.1 (List.mem_map.mpr ⟨q, HF_mem.mpr ⟨j, hj, h2⟩, rfl⟩)
  have hinA : ∀ q, wA (fW cy (AD k) (RD k) ++ wsel bs X) q → A q := fun q hq => by
    obtain ⟨z, hz, e⟩ := wA.mem.mp hq
    rw [← e]
    exact hD.memB (hsb.1 z hz)
  exact va_callv (va_runV (As := As) (rest := st) hC.fix hM (cwV n hC.2.2.2.2.1 hG hw hrc hrs hy hR) ⟨PW.blind, hrecv, fun U hU hW => v_startM (B := A) hC hsb.1 hsb.2.1 hP U hU hW⟩ rfl hn hl.1 hstk (lv_room hst) hd hf) hS (fun q _ h => hinA q h) hinA (fun _ t H1 locs1 ht hvm _ hB hz hk9 hS1 => by
    rw [ht] at hB
    obtain ⟨hP1, hD1⟩ := v_repM hfst haft hD hP hB hk9
    exact kk H1 locs1 ls hD1 hP1 hS1 hl)
theorem v_callHfrom (hC : CX p s m args meth c g cy nL cc Ts own) {y : MethodName} {bytes : ByteArray} {maxL n index : Nat} {ret : Option FieldType} {wy wy' : List Cond} {rm : Room} {As : List Value} {b : Nat} {stk : List Value} {Y : va_W} (hk : k < 14) (bs : List Bool) (hM : Met l y wy rm (PW (.ref b :: As) g cy (wsel bs X ++ fW cy (AD k) (RD k))) (QWv g (wA (wsel bs X ++ fW cy (AD k) (RD k))) (Y ++ fW cy (AD k) (RD k))) 0 0 (wA (wsel bs X ++ fW cy (AD k) (RD k)))) (hY : Y.map Prod.fst = (wsel bs X).map Prod.fst) (hG : GoodIn Ts (wsV own index RX0 y wy)) (hw : wy = Cond.code y bytes maxL ret :: wy') (hrc : rm.cells = 0) (hrs : rm.slots = 0) (hy : y.cls = RX0 ∧ y.cls ≠ "java/lang/invoke/MethodHandle" ∧ y.cls ≠ "java/lang/invoke/VarHandle" ∧ (parseMethodDescriptor y.desc).map (fun d => d.parameters.length) = some n) (hR : rm.frames + 1 ≤ R.frames ∧ 8 + (maxL + 11) + rm.locals ≤ R.locals) {fs : List Value} (qb : Nat) (hb : (X ++ HF cy AD RD)[qb]? = some (b, .inr (0, fs))) (hstk : stk = As.reverse ++ .ref b :: st) (hst : (st.map fun v => v.category).sum ≤ 8) (hn : As.length = n) (hf : cells + 0 ≤ R.cells ∧ slots + 0 ≤ R.slots) (hd : decode cc pc = .ok (.invokevirtual index, 3)) (hp : pc + 3 = pc') (ws2 : va_W) (hws : wput bs X Y ++ HF cy AD RD = ws2) (kk : V p l e R s m args below meth c g nL cells slots Q A A ws2 pc' lv st) : V p l e R s m args below meth c g nL cells slots Q A A (X ++ HF cy AD RD) pc lv stk := by
  subst hp
  subst hws
  intro H locs ls hD hP hS hl
  have hnd := hD.nodup
  have hsb := hf_subl (bs := bs) hk hnd
  have hnd2 := hnd
  rw [List.map_append, List.nodup_append] at hnd2
  obtain ⟨hnX, hnT, hxt⟩ := hnd2
  have hrecv : ∃ cellB : Cell, H[b]? = some cellB ∧ cellB.vm.isStatics = false ∧ s.vm.findClass RX0 = some cellB.cls := va_recv (ci := 0) (q0 := qb) (q := (RX0, TX0, 10)) hC.2.2.2.2.2.2.1 hP rfl hb
  obtain ⟨i1, i2⟩ := wput_mem bs X Y hnX hY
  have hfst : (wput bs X Y ++ HF cy AD RD).map Prod.fst = (X ++ HF cy AD RD).map Prod.fst := by rw [List.map_append, List.map_append, i1]
  have hsX : ∀ q ∈ wsel bs X, q ∈ X := fun q hq => (wsel_sub bs X).subset hq
  have haft : ∀ q ∈ wput bs X Y ++ HF cy AD RD, q ∈ Y ++ fW cy (AD k) (RD k) ∨ (q ∈ X ++ HF cy AD RD ∧ ∀ z ∈ wsel bs X ++ fW cy (AD k) (RD k), z.1 ≠ q.1) := by
    intro q hq
    rcases List.mem_append.mp hq with h | h
    · rcases i2 q h with h | ⟨h1, h2⟩
      · exact Or.inl (List.mem_append_left _ h)
      · refine Or.inr ⟨List.mem_append_left _ h1, fun z hz => ?_⟩
        rcases List.mem_append.mp hz with hz | hz
        · exact h2 z hz
        · exact fun e => hxt q.1 (List.mem_map.mpr ⟨q, h1, rfl⟩) z.1 (List.mem_map.mpr ⟨z, HF_mem.mpr ⟨k, hk, hz⟩, rfl⟩) e.symm
    · obtain ⟨j, hj, h2⟩ := HF_mem.mp h
      by_cases hjk : j = k
      · subst hjk
        exact Or.inl (List.mem_append_right _ h2)
      · refine Or.inr ⟨List.mem_append_right _ h, fun z hz => ?_⟩
        rcases List.mem_append.mp hz with h3 | h3
        · exact hxt z.1 (List.mem_map.mpr ⟨z, hsX z h3, rfl⟩) q.1 (List.mem_map.mpr ⟨q, h, rfl⟩)
        · exact fun e => HF_apart hnT hj hk hjk h2 h3 e.symm
  have hinA : ∀ q, wA (wsel bs X ++ fW cy (AD k) (RD k)) q → A q := fun q hq => by
    obtain ⟨z, hz, e⟩ := wA.mem.mp hq
    rw [← e]
    exact hD.memB ((fun q hq => hsb.1 q (List.mem_append.mpr (List.mem_append.mp hq).symm)) z hz)
  exact va_callv (va_runV (As := As) (rest := st) hC.fix hM (cwV n hC.2.2.2.2.1 hG hw hrc hrs hy hR) ⟨PW.blind, hrecv, fun U hU hW => v_startM (B := A) hC (fun q hq => hsb.1 q (List.mem_append.mpr (List.mem_append.mp hq).symm)) hsb.2.2 hP U hU hW⟩ rfl hn hl.1 hstk (lv_room hst) hd hf) hS (fun q _ h => hinA q h) hinA (fun _ t H1 locs1 ht hvm _ hB hz hk9 hS1 => by
    rw [ht] at hB
    obtain ⟨hP1, hD1⟩ := v_repM hfst haft hD hP hB hk9
    exact kk H1 locs1 ls hD1 hP1 hS1 hl)
end VROWS3

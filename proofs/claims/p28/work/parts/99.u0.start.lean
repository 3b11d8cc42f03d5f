/-! ===== the law: what its start knows ===== -/
theorem sw_n0 : Cond.instantiable RX0 10 ∈ lw_tbl := by decide +kernel
theorem sw_n1 : Cond.instantiable RX1 3 ∈ lw_tbl := by decide +kernel
theorem sw_n4 : Cond.instantiable RX4 2 ∈ lw_tbl := by decide +kernel
theorem sw_n5 : Cond.instantiable RX5 2 ∈ lw_tbl := by decide +kernel
theorem sw_n6 : Cond.instantiable RX6 2 ∈ lw_tbl := by decide +kernel
theorem sw_n7 : Cond.instantiable RX7 6 ∈ lw_tbl := by decide +kernel
theorem sw_ai : Cond.arrayClass .int ∈ lw_tbl := by decide +kernel
theorem sw_ao : Cond.arrayOver (.object RX0) ∈ lw_tbl := by decide +kernel
theorem sw_nx : ∀ q ∈ nxW, Cond.methodLinkNest q.1 q.2.1 q.2.2.1 q.2.2.2 ∈ lw_tbl := by decide +kernel
theorem sw_c0 : Cond.castable (eNm 0) (eNm 0) ∈ lw_tbl := by decide +kernel
theorem sw_s0 : Cond.stringRef RX7 (eIx 0) (eTx 0) ∈ lw_tbl := by decide +kernel
theorem sw_c1 : Cond.castable (eNm 1) (eNm 1) ∈ lw_tbl := by decide +kernel
theorem sw_s1 : Cond.stringRef RX7 (eIx 1) (eTx 1) ∈ lw_tbl := by decide +kernel
theorem sw_c2 : Cond.castable (eNm 2) (eNm 2) ∈ lw_tbl := by decide +kernel
theorem sw_s2 : Cond.stringRef RX7 (eIx 2) (eTx 2) ∈ lw_tbl := by decide +kernel
theorem sw_d : ∀ y ∈ eUp, Cond.declares (Bundle.initS y) ∈ lw_tbl := by decide +kernel
theorem sw_lu : Cond.laysStatic Bundle.tN "UNASSIGNED_STACK" Bundle.steD ∈ lw_tbl := by decide +kernel
theorem sw_ln : Cond.laysStatic Bundle.tN "SUPPRESSED_SENTINEL" Bundle.listD ∈ lw_tbl := by decide +kernel
theorem sw_it : Cond.initialized Bundle.tN ∈ lw_tbl := by decide +kernel
theorem sw_i7 : Cond.initialized "CrowdFaces" ∈ lw_tbl := by decide +kernel
theorem sw_z0 : Cond.laysStatic "CrowdFaces" (fNm 0) "[I" ∈ lw_tbl := by decide +kernel
theorem sw_f0 : Cond.fieldLinkNest RX6 (fIx 0) "CrowdFaces" (fNm 0) "[I" "CrowdFaces" ∈ lw_tbl := by decide +kernel
theorem sw_z1 : Cond.laysStatic "CrowdFaces" (fNm 1) "[I" ∈ lw_tbl := by decide +kernel
theorem sw_f1 : Cond.fieldLinkNest RX6 (fIx 1) "CrowdFaces" (fNm 1) "[I" "CrowdFaces" ∈ lw_tbl := by decide +kernel
theorem sw_z2 : Cond.laysStatic "CrowdFaces" (fNm 2) "[I" ∈ lw_tbl := by decide +kernel
theorem sw_f2 : Cond.fieldLinkNest RX6 (fIx 2) "CrowdFaces" (fNm 2) "[I" "CrowdFaces" ∈ lw_tbl := by decide +kernel
theorem sw_z3 : Cond.laysStatic "CrowdFaces" (fNm 3) "[I" ∈ lw_tbl := by decide +kernel
theorem sw_f3 : Cond.fieldLinkNest RX6 (fIx 3) "CrowdFaces" (fNm 3) "[I" "CrowdFaces" ∈ lw_tbl := by decide +kernel
theorem s_arr {args : Array Value} {s : State} {ty : FieldType} (hne : ∀ C, ty ≠ .object C) (h : (Cond.arrayClass ty).before args s = true) : ∃ cA, ArrOfT s cA ty ∧ va_RA s cA ty := by
  obtain ⟨c, k, comp, h1, h2, h3⟩ := Cond.arrayClass_spec h
  refine ⟨c, fun n z => ⟨fun k h => (by cases h), k, h2, comp, h3⟩, ?_⟩
  cases ty with
  | object C => exact absurd rfl (hne C)
  | _ => exact h1
theorem s_arro {args : Array Value} {s : State} {C : String} (h : (Cond.arrayOver (.object C)).before args s = true) : ∃ cA, ArrOfT s cA (.object C) ∧ va_RA s cA (.object C) := by
  obtain ⟨comp, c, k, h1, h2, h3, h4, h5⟩ := Cond.arrayOver_spec h
  exact ⟨c, fun n z => ⟨fun k h => (by cases h), k, h3, comp, h4⟩, k, comp, h3, h4, h1, h5⟩
theorem s_str {args : Array Value} {s : State} {n : Nat} {tx : String} {cur : ClassId} (hcur : s.vm.findClass RX7 = some cur) (h : (Cond.stringRef RX7 n tx).before args s = true) : ∃ a, vk_R RX7 n tx a s := by
  obtain ⟨_, _, _, a, _, _, _, _, _, hev⟩ := Cond.stringRef_spec hcur h
  exact ⟨a, vk_R.of h hev⟩
theorem s_sx0 {b : Nat} {s : State} (hts : ∀ w ∈ lw_tbl, w.before #[Value.ref b] s = true) (hgv : (Jvm.Cond.and given_1 narrow_1).before #[Value.ref b] s = true) : ∃ t : Nat, va_Z "CrowdFaces" (fNm 0) "[I" (.ref t) (fun q => s.heap.size ≤ q) s s.heap ∧ va_T .int t (fLn 0) (fun j => .int (fRw 0 j)) (fun q => s.heap.size ≤ q) s s.heap ∧ va_Nw (.fieldLinkNest RX6 (fIx 0) "CrowdFaces" (fNm 0) "[I" "CrowdFaces") s := by
  have hs := flat_of_before _ hgv
  have hA : ∀ a : Nat, a < s.heap.size → ¬ (fun q : Nat => s.heap.size ≤ q) a := fun a h => Nat.not_le.mpr h
  have e0 : (Cond.arrayOf (Term.static "CrowdFaces" "EXTRA_FIELDS" "[I") .int).before #[Value.ref b] s = true := hs _ (by decide +kernel)
  have e1 : (Cond.eq (.length (Term.static "CrowdFaces" "EXTRA_FIELDS" "[I")) (.int 6)).before #[Value.ref b] s = true := hs _ (by decide +kernel)
  have x0 : (Cond.eq (.elem (Term.static "CrowdFaces" "EXTRA_FIELDS" "[I") (.int 0)) (.int 1)).before #[Value.ref b] s = true := hs _ (by decide +kernel)
  have x1 : (Cond.eq (.elem (Term.static "CrowdFaces" "EXTRA_FIELDS" "[I") (.int 1)) (.int 0)).before #[Value.ref b] s = true := hs _ (by decide +kernel)
  have x2 : (Cond.eq (.elem (Term.static "CrowdFaces" "EXTRA_FIELDS" "[I") (.int 2)) (.int 4)).before #[Value.ref b] s = true := hs _ (by decide +kernel)
  have x3 : (Cond.eq (.elem (Term.static "CrowdFaces" "EXTRA_FIELDS" "[I") (.int 3)) (.int 2)).before #[Value.ref b] s = true := hs _ (by decide +kernel)
  have x4 : (Cond.eq (.elem (Term.static "CrowdFaces" "EXTRA_FIELDS" "[I") (.int 4)) (.int 0)).before #[Value.ref b] s = true := hs _ (by decide +kernel)
  have x5 : (Cond.eq (.elem (Term.static "CrowdFaces" "EXTRA_FIELDS" "[I") (.int 5)) (.int 13)).before #[Value.ref b] s = true := hs _ (by decide +kernel)
  have hel : ∀ j : Nat, j < 6 → (Term.elem (Term.static "CrowdFaces" "EXTRA_FIELDS" "[I") (.int (Int32.ofNat j))).eval #[Value.ref b] s none [] s = some (.int (fRw 0 j)) := by
    intro j hj
    rcases (show j = 0 ∨ j = 1 ∨ j = 2 ∨ j = 3 ∨ j = 4 ∨ j = 5 by omega) with rfl | rfl | rfl | rfl | rfl | rfl
    · exact va_eqt x0
    · exact va_eqt x1
    · exact va_eqt x2
    · exact va_eqt x3
    · exact va_eqt x4
    · exact va_eqt x5
  obtain ⟨t, ht, hT⟩ := va_Tof (N := 6) (f := fun j => .int (fRw 0 j)) (by decide) e0 (va_eqt e1) hel hA
  exact ⟨t, va_Zof (hts _ sw_z0) (hts _ sw_i7) ht hA, hT, va_Nw.of rfl (hts _ sw_f0)⟩
theorem s_sx1 {b : Nat} {s : State} (hts : ∀ w ∈ lw_tbl, w.before #[Value.ref b] s = true) (hgv : (Jvm.Cond.and given_1 narrow_1).before #[Value.ref b] s = true) : ∃ t : Nat, va_Z "CrowdFaces" (fNm 1) "[I" (.ref t) (fun q => s.heap.size ≤ q) s s.heap ∧ va_T .int t (fLn 1) (fun j => .int (fRw 1 j)) (fun q => s.heap.size ≤ q) s s.heap ∧ va_Nw (.fieldLinkNest RX6 (fIx 1) "CrowdFaces" (fNm 1) "[I" "CrowdFaces") s := by
  have hs := flat_of_before _ hgv
  have hA : ∀ a : Nat, a < s.heap.size → ¬ (fun q : Nat => s.heap.size ≤ q) a := fun a h => Nat.not_le.mpr h
  have e0 : (Cond.arrayOf (Term.static "CrowdFaces" "SCENE_FIELDS" "[I") .int).before #[Value.ref b] s = true := hs _ (by decide +kernel)
  have e1 : (Cond.eq (.length (Term.static "CrowdFaces" "SCENE_FIELDS" "[I")) (.int 15)).before #[Value.ref b] s = true := hs _ (by decide +kernel)
  have x0 : (Cond.eq (.elem (Term.static "CrowdFaces" "SCENE_FIELDS" "[I") (.int 0)) (.int 1)).before #[Value.ref b] s = true := hs _ (by decide +kernel)
  have x1 : (Cond.eq (.elem (Term.static "CrowdFaces" "SCENE_FIELDS" "[I") (.int 1)) (.int 0)).before #[Value.ref b] s = true := hs _ (by decide +kernel)
  have x2 : (Cond.eq (.elem (Term.static "CrowdFaces" "SCENE_FIELDS" "[I") (.int 2)) (.int 4)).before #[Value.ref b] s = true := hs _ (by decide +kernel)
  have x3 : (Cond.eq (.elem (Term.static "CrowdFaces" "SCENE_FIELDS" "[I") (.int 3)) (.int 1)).before #[Value.ref b] s = true := hs _ (by decide +kernel)
  have x4 : (Cond.eq (.elem (Term.static "CrowdFaces" "SCENE_FIELDS" "[I") (.int 4)) (.int 1)).before #[Value.ref b] s = true := hs _ (by decide +kernel)
  have x5 : (Cond.eq (.elem (Term.static "CrowdFaces" "SCENE_FIELDS" "[I") (.int 5)) (.int 6)).before #[Value.ref b] s = true := hs _ (by decide +kernel)
  have x6 : (Cond.eq (.elem (Term.static "CrowdFaces" "SCENE_FIELDS" "[I") (.int 6)) (.int 1)).before #[Value.ref b] s = true := hs _ (by decide +kernel)
  have x7 : (Cond.eq (.elem (Term.static "CrowdFaces" "SCENE_FIELDS" "[I") (.int 7)) (.int 0)).before #[Value.ref b] s = true := hs _ (by decide +kernel)
  have x8 : (Cond.eq (.elem (Term.static "CrowdFaces" "SCENE_FIELDS" "[I") (.int 8)) (.int 9)).before #[Value.ref b] s = true := hs _ (by decide +kernel)
  have x9 : (Cond.eq (.elem (Term.static "CrowdFaces" "SCENE_FIELDS" "[I") (.int 9)) (.int 1)).before #[Value.ref b] s = true := hs _ (by decide +kernel)
  have x10 : (Cond.eq (.elem (Term.static "CrowdFaces" "SCENE_FIELDS" "[I") (.int 10)) (.int 0)).before #[Value.ref b] s = true := hs _ (by decide +kernel)
  have x11 : (Cond.eq (.elem (Term.static "CrowdFaces" "SCENE_FIELDS" "[I") (.int 11)) (.int 3)).before #[Value.ref b] s = true := hs _ (by decide +kernel)
  have x12 : (Cond.eq (.elem (Term.static "CrowdFaces" "SCENE_FIELDS" "[I") (.int 12)) (.int 3)).before #[Value.ref b] s = true := hs _ (by decide +kernel)
  have x13 : (Cond.eq (.elem (Term.static "CrowdFaces" "SCENE_FIELDS" "[I") (.int 13)) (.int 10)).before #[Value.ref b] s = true := hs _ (by decide +kernel)
  have x14 : (Cond.eq (.elem (Term.static "CrowdFaces" "SCENE_FIELDS" "[I") (.int 14)) (.int 240)).before #[Value.ref b] s = true := hs _ (by decide +kernel)
  have hel : ∀ j : Nat, j < 15 → (Term.elem (Term.static "CrowdFaces" "SCENE_FIELDS" "[I") (.int (Int32.ofNat j))).eval #[Value.ref b] s none [] s = some (.int (fRw 1 j)) := by
    intro j hj
    rcases (show j = 0 ∨ j = 1 ∨ j = 2 ∨ j = 3 ∨ j = 4 ∨ j = 5 ∨ j = 6 ∨ j = 7 ∨ j = 8 ∨ j = 9 ∨ j = 10 ∨ j = 11 ∨ j = 12 ∨ j = 13 ∨ j = 14 by omega) with rfl | rfl | rfl | rfl | rfl | rfl | rfl | rfl | rfl | rfl | rfl | rfl | rfl | rfl | rfl
    · exact va_eqt x0
    · exact va_eqt x1
    · exact va_eqt x2
    · exact va_eqt x3
    · exact va_eqt x4
    · exact va_eqt x5
    · exact va_eqt x6
    · exact va_eqt x7
    · exact va_eqt x8
    · exact va_eqt x9
    · exact va_eqt x10
    · exact va_eqt x11
    · exact va_eqt x12
    · exact va_eqt x13
    · exact va_eqt x14
  obtain ⟨t, ht, hT⟩ := va_Tof (N := 15) (f := fun j => .int (fRw 1 j)) (by decide) e0 (va_eqt e1) hel hA
  exact ⟨t, va_Zof (hts _ sw_z1) (hts _ sw_i7) ht hA, hT, va_Nw.of rfl (hts _ sw_f1)⟩
theorem s_sx2 {b : Nat} {s : State} (hts : ∀ w ∈ lw_tbl, w.before #[Value.ref b] s = true) (hgv : (Jvm.Cond.and given_1 narrow_1).before #[Value.ref b] s = true) : ∃ t : Nat, va_Z "CrowdFaces" (fNm 2) "[I" (.ref t) (fun q => s.heap.size ≤ q) s s.heap ∧ va_T .int t (fLn 2) (fun j => .int (fRw 2 j)) (fun q => s.heap.size ≤ q) s s.heap ∧ va_Nw (.fieldLinkNest RX6 (fIx 2) "CrowdFaces" (fNm 2) "[I" "CrowdFaces") s := by
  have hs := flat_of_before _ hgv
  have hA : ∀ a : Nat, a < s.heap.size → ¬ (fun q : Nat => s.heap.size ≤ q) a := fun a h => Nat.not_le.mpr h
  have e0 : (Cond.arrayOf (Term.static "CrowdFaces" "SHOOT_FIELDS" "[I") .int).before #[Value.ref b] s = true := hs _ (by decide +kernel)
  have e1 : (Cond.eq (.length (Term.static "CrowdFaces" "SHOOT_FIELDS" "[I")) (.int 3)).before #[Value.ref b] s = true := hs _ (by decide +kernel)
  have x0 : (Cond.eq (.elem (Term.static "CrowdFaces" "SHOOT_FIELDS" "[I") (.int 0)) (.int 1)).before #[Value.ref b] s = true := hs _ (by decide +kernel)
  have x1 : (Cond.eq (.elem (Term.static "CrowdFaces" "SHOOT_FIELDS" "[I") (.int 1)) (.int 0)).before #[Value.ref b] s = true := hs _ (by decide +kernel)
  have x2 : (Cond.eq (.elem (Term.static "CrowdFaces" "SHOOT_FIELDS" "[I") (.int 2)) (.int 9)).before #[Value.ref b] s = true := hs _ (by decide +kernel)
  have hel : ∀ j : Nat, j < 3 → (Term.elem (Term.static "CrowdFaces" "SHOOT_FIELDS" "[I") (.int (Int32.ofNat j))).eval #[Value.ref b] s none [] s = some (.int (fRw 2 j)) := by
    intro j hj
    rcases (show j = 0 ∨ j = 1 ∨ j = 2 by omega) with rfl | rfl | rfl
    · exact va_eqt x0
    · exact va_eqt x1
    · exact va_eqt x2
  obtain ⟨t, ht, hT⟩ := va_Tof (N := 3) (f := fun j => .int (fRw 2 j)) (by decide) e0 (va_eqt e1) hel hA
  exact ⟨t, va_Zof (hts _ sw_z2) (hts _ sw_i7) ht hA, hT, va_Nw.of rfl (hts _ sw_f2)⟩
theorem s_sx3 {b : Nat} {s : State} (hts : ∀ w ∈ lw_tbl, w.before #[Value.ref b] s = true) (hgv : (Jvm.Cond.and given_1 narrow_1).before #[Value.ref b] s = true) : ∃ t : Nat, va_Z "CrowdFaces" (fNm 3) "[I" (.ref t) (fun q => s.heap.size ≤ q) s s.heap ∧ va_T .int t (fLn 3) (fun j => .int (fRw 3 j)) (fun q => s.heap.size ≤ q) s s.heap ∧ va_Nw (.fieldLinkNest RX6 (fIx 3) "CrowdFaces" (fNm 3) "[I" "CrowdFaces") s := by
  have hs := flat_of_before _ hgv
  have hA : ∀ a : Nat, a < s.heap.size → ¬ (fun q : Nat => s.heap.size ≤ q) a := fun a h => Nat.not_le.mpr h
  have e0 : (Cond.arrayOf (Term.static "CrowdFaces" "NO_FIELDS" "[I") .int).before #[Value.ref b] s = true := hs _ (by decide +kernel)
  have e1 : (Cond.eq (.length (Term.static "CrowdFaces" "NO_FIELDS" "[I")) (.int 0)).before #[Value.ref b] s = true := hs _ (by decide +kernel)
  obtain ⟨t, ht, hT⟩ := va_Tof (N := 0) (f := fun j => .int (fRw 3 j)) (by decide) e0 (va_eqt e1) (fun j hj => absurd hj (Nat.not_lt_zero j)) hA
  exact ⟨t, va_Zof (hts _ sw_z3) (hts _ sw_i7) ht hA, hT, va_Nw.of rfl (hts _ sw_f3)⟩
theorem law_facts {p : Program} {l : Launch} {s : State} {m : MethodId} {meth : Method} {c : Code} {b : Nat} (hflags : l.flags = flags0) (hx : p.tables.exec = Jvm.exec) (hb : c.code = code) (hml : c.maxLocals = 9) (hown : s.vm.findClass RL = some m.cls) (hts : ∀ w ∈ lw_tbl, w.before #[Value.ref b] s = true) (hin : ∀ w ∈ wsL_law, w ∈ lw_tbl) (hlocks : meth.locks = false) (hgv : (Jvm.Cond.and given_1 narrow_1).before #[Value.ref b] s = true) : ∃ (g : va_G) (cy : Nat → ClassId) (tt sa : Nat → Nat), CX p s m #[Value.ref b] meth c g cy 9 cL_law wsL_law RL ∧ XL l s tt sa (fun q => s.heap.size ≤ q) ∧ va_AO RX0 s := by
  have hs := flat_of_before _ hgv
  have hT : ∀ w ∈ wsL_law, w.before #[Value.ref b] s = true := fun w h => hts w (hin w h)
  have hA : ∀ a : Nat, a < s.heap.size → ¬ (fun q : Nat => s.heap.size ≤ q) a := fun a h => Nat.not_le.mpr h
  obtain ⟨c0, i0, k0⟩ := u_known (C := RX0) (T := TX0) (N := 10) (n := 10) hT inlX0 (hts _ sw_n0)
  obtain ⟨c1, i1, k1⟩ := u_known (C := RX1) (T := TX1) (N := 3) (n := 3) hT inlX1 (hts _ sw_n1)
  obtain ⟨c4, i4, k4⟩ := u_known (C := RX4) (T := TX4) (N := 2) (n := 2) hT inlX4 (hts _ sw_n4)
  obtain ⟨c5, i5, k5⟩ := u_known (C := RX5) (T := TX5) (N := 2) (n := 2) hT inlX5 (hts _ sw_n5)
  obtain ⟨c6, i6, k6⟩ := u_known (C := RX6) (T := TX6) (N := 2) (n := 2) hT inlX6 (hts _ sw_n6)
  obtain ⟨c7, i7, k7⟩ := u_known (C := RX7) (T := TX7) (N := 6) (n := 6) hT inlX7 (hts _ sw_n7)
  obtain ⟨ci, hi1, hi2⟩ := s_arr (fun C h => by cases h) (hts _ sw_ai)
  obtain ⟨cq, hq1, hq2⟩ := s_arro (hts _ sw_ao)
  obtain ⟨cC, kC, hfc, _⟩ := Cond.instantiable_spec (hts _ sw_n7)
  obtain ⟨a0, r0⟩ := s_str hfc (hts _ sw_s0)
  obtain ⟨a1, r1⟩ := s_str hfc (hts _ sw_s1)
  obtain ⟨a2, r2⟩ := s_str hfc (hts _ sw_s2)
  obtain ⟨t0, z0⟩ := s_sx0 hts hgv
  obtain ⟨t1, z1⟩ := s_sx1 hts hgv
  obtain ⟨t2, z2⟩ := s_sx2 hts hgv
  obtain ⟨t3, z3⟩ := s_sx3 hts hgv
  have hst : l.stackTraces = false := by
    unfold Launch.stackTraces
    rw [hflags]
    decide +kernel
  have n10 : va_Nc (eNm 1) (eNm 0) s := va_Nc.of (hs (Cond.not (Cond.castable "java/lang/IllegalStateException" "java/lang/IllegalArgumentException")) (by decide +kernel))
  have n02 : va_Nc (eNm 0) (eNm 2) s := va_Nc.of (hs (Cond.not (Cond.castable "java/lang/IllegalArgumentException" "java/lang/IndexOutOfBoundsException")) (by decide +kernel))
  have n12 : va_Nc (eNm 1) (eNm 2) s := va_Nc.of (hs (Cond.not (Cond.castable "java/lang/IllegalStateException" "java/lang/IndexOutOfBoundsException")) (by decide +kernel))
  have hU : (Cond.isRef (.static Bundle.tN "UNASSIGNED_STACK" Bundle.steD)).before #[Value.ref b] s = true := hs _ (by decide +kernel)
  have hN : (Cond.isRef (.static Bundle.tN "SUPPRESSED_SENTINEL" Bundle.listD)).before #[Value.ref b] s = true := hs _ (by decide +kernel)
  refine ⟨(fun k => match k with | 0 => c0 | 1 => c1 | 2 => c4 | 3 => c5 | 4 => c6 | _ => c7, fun k => match k with | 0 => i0 | 1 => i1 | 2 => i4 | 3 => i5 | 4 => i6 | _ => i7), fun k => match k with | 2 => cq | _ => ci, fun k => match k with | 0 => t0 | 1 => t1 | 2 => t2 | _ => t3, fun k => match k with | 0 => a0 | 1 => a1 | _ => a2, ⟨hx, hb, hml, hown, hT, hlocks, ⟨fun k q hq => ?_, fun k q hq => ?_⟩, fun q hq => va_Nw.of rfl (hts _ (sw_nx q hq))⟩, ⟨hst, ⟨⟨fun k hk => ?_, fun y hy => va_Nw.of rfl (hts _ (sw_d y hy))⟩, ⟨vx_Zqof (hts _ sw_lu) (hts _ sw_it) hU hA, vx_Zqof (hts _ sw_ln) (hts _ sw_it) hN hA⟩, fun k hk => ?_⟩, fun q h => h, n10, n02, n12⟩, va_AO.of (hts _ sw_ao)⟩
  · match k, hq with
    | 0, hq => cases hq; exact k0
    | 1, hq => cases hq; exact k1
    | 2, hq => cases hq; exact k4
    | 3, hq => cases hq; exact k5
    | 4, hq => cases hq; exact k6
    | 5, hq => cases hq; exact k7
    | k + 6, hq => simp [vwCl] at hq
  · match k, hq with
    | 0, hq => cases hq; exact ⟨hi1, hi2⟩
    | 1, hq => cases hq; exact ⟨hi1, hi2⟩
    | 2, hq => cases hq; exact ⟨hq1, hq2⟩
    | 3, hq => cases hq; exact ⟨hi1, hi2⟩
    | k + 4, hq => simp [tyL] at hq
  · match k, hk with
    | 0, hk => exact ⟨va_Nw.of rfl (hts _ sw_c0), r0⟩
    | 1, hk => exact ⟨va_Nw.of rfl (hts _ sw_c1), r1⟩
    | 2, hk => exact ⟨va_Nw.of rfl (hts _ sw_c2), r2⟩
    | k + 3, hk => omega
  · match k, hk with
    | 0, hk => exact z0
    | 1, hk => exact z1
    | 2, hk => exact z2
    | 3, hk => exact z3
    | k + 4, hk => omega

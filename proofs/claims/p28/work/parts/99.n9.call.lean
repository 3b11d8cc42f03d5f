/-! ===== call, for each of its constants ===== -/
abbrev rmC_Append : Room := { frames := 9, cells := 2, slots := 12, locals := 153 }
set_option maxHeartbeats 4000000 in
set_option maxRecDepth 100000 in
theorem mC_Append (l : Launch) (hlst : l.stackTraces = false) (g : va_G) (cy : Nat → ClassId) (tt sa : Nat → Nat) (sz : Nat) (A : AA) {t : Nat} {S : SS} {H : HH} (x1 x2 x3 : Int32) (hI : RP t S H) (ht : t < 9000) (hb : ¬ nb x1 256 = true) : Met l yL_call wsL_call rmC_Append (PN [.ref A.1, .int (nI 0), .int x1, .int x2, .int x3] g cy tt sa sz (WO cy A S H)) (QE g (va_A (WO cy A S H) sz) (-9999002) (WP cy A t S)) 2 12 (va_A (WO cy A S H) sz) := by
  refine m_ofVN (cc := cL_call) (nL := 5) (ret := some .int) hlst RL rfl (by decide) rfl [(0, .ref A.1), (1, .int (nI 0)), (2, .int x1), (3, .int x2), (4, .int x3)] rfl (Nat.le_of_ble_eq_true rfl) ?_
  intro p e s m args below meth c9 hC hr hX
  generalize (va_A (WO cy A S H) sz) = A9 at hX ⊢
  refine v_iload_n hC dL_call_0 rfl 1 rfl rfl ?_
  refine v_tswI hC (v := (nI 0)) (tgt := 80) dL_call_1 rfl (by decide) (by decide) rfl (by decide) ?_
  refine v_aload_n hC dL_call_80 rfl 0 rfl rfl ?_
  refine v_iload_n hC dL_call_81 rfl 2 rfl rfl ?_
  refine l_callE hC hX (n := 2) (As := [.ref A.1, .int x1]) (st := []) (fun w => w) (fun sz => mL_tryAppend l hX.1 g cy tt sa sz A x1 hI ht hb) (WR.full rfl) (fun w9 h9 => WR.full (WP_fst h9)) gL_call_L_tryAppend rfl rfl rfl (by decide +kernel) ⟨Nat.le_of_ble_eq_true rfl, Nat.le_of_ble_eq_true rfl⟩ rfl (Nat.le_of_ble_eq_true rfl) rfl ⟨Nat.le_of_ble_eq_true rfl, Nat.le_of_ble_eq_true rfl⟩ dL_call_82 rfl (fun w9 h9 => ?_)
  exact v_irE hC hr rfl rfl dL_call_85 h9
abbrev rmC_About : Room := { frames := 9, cells := 1, slots := 6, locals := 153 }
set_option maxHeartbeats 4000000 in
set_option maxRecDepth 100000 in
theorem mC_About (l : Launch) (hlst : l.stackTraces = false) (g : va_G) (cy : Nat → ClassId) (tt sa : Nat → Nat) (sz : Nat) (A : AA) {t : Nat} {S : SS} {H : HH} (x1 x2 x3 : Int32) (hI : RP t S H) (ht : t < 9000)  : Met l yL_call wsL_call rmC_About (PN [.ref A.1, .int (nI 2), .int x1, .int x2, .int x3] g cy tt sa sz (WO cy A S H)) (QE g (va_A (WO cy A S H) sz) (aAb S.1 x1) (WP cy A t S)) 1 6 (va_A (WO cy A S H) sz) := by
  refine m_ofVN (cc := cL_call) (nL := 5) (ret := some .int) hlst RL rfl (by decide) rfl [(0, .ref A.1), (1, .int (nI 2)), (2, .int x1), (3, .int x2), (4, .int x3)] rfl (Nat.le_of_ble_eq_true rfl) ?_
  intro p e s m args below meth c9 hC hr hX
  generalize (va_A (WO cy A S H) sz) = A9 at hX ⊢
  refine v_iload_n hC dL_call_0 rfl 1 rfl rfl ?_
  refine v_tswI hC (v := (nI 2)) (tgt := 91) dL_call_1 rfl (by decide) (by decide) rfl (by decide) ?_
  refine v_aload_n hC dL_call_91 rfl 0 rfl rfl ?_
  refine v_iload_n hC dL_call_92 rfl 2 rfl rfl ?_
  refine l_callE hC hX (n := 2) (As := [.ref A.1, .int x1]) (st := []) (fun w => w) (fun sz => mL_tryAbout l hX.1 g cy tt sa sz A x1 hI ht) (WR.full rfl) (fun w9 h9 => WR.full (WP_fst h9)) gL_call_L_tryAbout rfl rfl rfl (by decide +kernel) ⟨Nat.le_of_ble_eq_true rfl, Nat.le_of_ble_eq_true rfl⟩ rfl (Nat.le_of_ble_eq_true rfl) rfl ⟨Nat.le_of_ble_eq_true rfl, Nat.le_of_ble_eq_true rfl⟩ dL_call_93 rfl (fun w9 h9 => ?_)
  exact v_irE hC hr rfl rfl dL_call_96 h9
abbrev rmC_Extra : Room := { frames := 10, cells := 2, slots := 12, locals := 176 }
set_option maxHeartbeats 4000000 in
set_option maxRecDepth 100000 in
theorem mC_Extra (l : Launch) (hlst : l.stackTraces = false) (g : va_G) (cy : Nat → ClassId) (tt sa : Nat → Nat) (sz : Nat) (A : AA) {t : Nat} {S : SS} {H : HH} (x1 x2 x3 : Int32) (hI : RP t S H) (ht : t < 9000)  : Met l yL_call wsL_call rmC_Extra (PN [.ref A.1, .int (nI 3), .int x1, .int x2, .int x3] g cy tt sa sz (WO cy A S H)) (QE g (va_A (WO cy A S H) sz) (aEx S.1 x1 x2) (WP cy A t S)) 2 12 (va_A (WO cy A S H) sz) := by
  refine m_ofVN (cc := cL_call) (nL := 5) (ret := some .int) hlst RL rfl (by decide) rfl [(0, .ref A.1), (1, .int (nI 3)), (2, .int x1), (3, .int x2), (4, .int x3)] rfl (Nat.le_of_ble_eq_true rfl) ?_
  intro p e s m args below meth c9 hC hr hX
  generalize (va_A (WO cy A S H) sz) = A9 at hX ⊢
  refine v_iload_n hC dL_call_0 rfl 1 rfl rfl ?_
  refine v_tswI hC (v := (nI 3)) (tgt := 97) dL_call_1 rfl (by decide) (by decide) rfl (by decide) ?_
  refine v_aload_n hC dL_call_97 rfl 0 rfl rfl ?_
  refine v_iload_n hC dL_call_98 rfl 2 rfl rfl ?_
  refine v_iload_n hC dL_call_99 rfl 3 rfl rfl ?_
  refine l_callE hC hX (n := 3) (As := [.ref A.1, .int x1, .int x2]) (st := []) (fun w => w) (fun sz => mL_tryExtra l hX.1 g cy tt sa sz A x1 x2 hI ht) (WR.full rfl) (fun w9 h9 => WR.full (WP_fst h9)) gL_call_L_tryExtra rfl rfl rfl (by decide +kernel) ⟨Nat.le_of_ble_eq_true rfl, Nat.le_of_ble_eq_true rfl⟩ rfl (Nat.le_of_ble_eq_true rfl) rfl ⟨Nat.le_of_ble_eq_true rfl, Nat.le_of_ble_eq_true rfl⟩ dL_call_100 rfl (fun w9 h9 => ?_)
  exact v_irE hC hr rfl rfl dL_call_103 h9
abbrev rmC_Scene : Room := { frames := 10, cells := 2, slots := 12, locals := 176 }
set_option maxHeartbeats 4000000 in
set_option maxRecDepth 100000 in
theorem mC_Scene (l : Launch) (hlst : l.stackTraces = false) (g : va_G) (cy : Nat → ClassId) (tt sa : Nat → Nat) (sz : Nat) (A : AA) {t : Nat} {S : SS} {H : HH} (x1 x2 x3 : Int32) (hI : RP t S H) (ht : t < 9000)  : Met l yL_call wsL_call rmC_Scene (PN [.ref A.1, .int (nI 4), .int x1, .int x2, .int x3] g cy tt sa sz (WO cy A S H)) (QE g (va_A (WO cy A S H) sz) (aSc S.1 x1 x2) (WP cy A t S)) 2 12 (va_A (WO cy A S H) sz) := by
  refine m_ofVN (cc := cL_call) (nL := 5) (ret := some .int) hlst RL rfl (by decide) rfl [(0, .ref A.1), (1, .int (nI 4)), (2, .int x1), (3, .int x2), (4, .int x3)] rfl (Nat.le_of_ble_eq_true rfl) ?_
  intro p e s m args below meth c9 hC hr hX
  generalize (va_A (WO cy A S H) sz) = A9 at hX ⊢
  refine v_iload_n hC dL_call_0 rfl 1 rfl rfl ?_
  refine v_tswI hC (v := (nI 4)) (tgt := 104) dL_call_1 rfl (by decide) (by decide) rfl (by decide) ?_
  refine v_aload_n hC dL_call_104 rfl 0 rfl rfl ?_
  refine v_iload_n hC dL_call_105 rfl 2 rfl rfl ?_
  refine v_iload_n hC dL_call_106 rfl 3 rfl rfl ?_
  refine l_callE hC hX (n := 3) (As := [.ref A.1, .int x1, .int x2]) (st := []) (fun w => w) (fun sz => mL_tryScene l hX.1 g cy tt sa sz A x1 x2 hI ht) (WR.full rfl) (fun w9 h9 => WR.full (WP_fst h9)) gL_call_L_tryScene rfl rfl rfl (by decide +kernel) ⟨Nat.le_of_ble_eq_true rfl, Nat.le_of_ble_eq_true rfl⟩ rfl (Nat.le_of_ble_eq_true rfl) rfl ⟨Nat.le_of_ble_eq_true rfl, Nat.le_of_ble_eq_true rfl⟩ dL_call_107 rfl (fun w9 h9 => ?_)
  exact v_irE hC hr rfl rfl dL_call_110 h9
abbrev rmC_Setting : Room := { frames := 9, cells := 1, slots := 6, locals := 153 }
set_option maxHeartbeats 4000000 in
set_option maxRecDepth 100000 in
theorem mC_Setting (l : Launch) (hlst : l.stackTraces = false) (g : va_G) (cy : Nat → ClassId) (tt sa : Nat → Nat) (sz : Nat) (A : AA) {t : Nat} {S : SS} {H : HH} (x1 x2 x3 : Int32) (hI : RP t S H) (ht : t < 9000)  : Met l yL_call wsL_call rmC_Setting (PN [.ref A.1, .int (nI 5), .int x1, .int x2, .int x3] g cy tt sa sz (WO cy A S H)) (QE g (va_A (WO cy A S H) sz) (aSe S.1 x1) (WP cy A t S)) 1 6 (va_A (WO cy A S H) sz) := by
  refine m_ofVN (cc := cL_call) (nL := 5) (ret := some .int) hlst RL rfl (by decide) rfl [(0, .ref A.1), (1, .int (nI 5)), (2, .int x1), (3, .int x2), (4, .int x3)] rfl (Nat.le_of_ble_eq_true rfl) ?_
  intro p e s m args below meth c9 hC hr hX
  generalize (va_A (WO cy A S H) sz) = A9 at hX ⊢
  refine v_iload_n hC dL_call_0 rfl 1 rfl rfl ?_
  refine v_tswI hC (v := (nI 5)) (tgt := 111) dL_call_1 rfl (by decide) (by decide) rfl (by decide) ?_
  refine v_aload_n hC dL_call_111 rfl 0 rfl rfl ?_
  refine v_iload_n hC dL_call_112 rfl 2 rfl rfl ?_
  refine l_callE hC hX (n := 2) (As := [.ref A.1, .int x1]) (st := []) (fun w => w) (fun sz => mL_trySetting l hX.1 g cy tt sa sz A x1 hI ht) (WR.full rfl) (fun w9 h9 => WR.full (WP_fst h9)) gL_call_L_trySetting rfl rfl rfl (by decide +kernel) ⟨Nat.le_of_ble_eq_true rfl, Nat.le_of_ble_eq_true rfl⟩ rfl (Nat.le_of_ble_eq_true rfl) rfl ⟨Nat.le_of_ble_eq_true rfl, Nat.le_of_ble_eq_true rfl⟩ dL_call_113 rfl (fun w9 h9 => ?_)
  exact v_irE hC hr rfl rfl dL_call_116 h9
abbrev rmC_Add : Room := { frames := 9, cells := 2, slots := 12, locals := 155 }
set_option maxHeartbeats 4000000 in
set_option maxRecDepth 100000 in
theorem mC_Add (l : Launch) (hlst : l.stackTraces = false) (g : va_G) (cy : Nat → ClassId) (tt sa : Nat → Nat) (sz : Nat) (A : AA) {t : Nat} {S : SS} {H : HH} (x1 x2 x3 : Int32) (hI : RP t S H) (ht : t < 9000)  : Met l yL_call wsL_call rmC_Add (PN [.ref A.1, .int (nI 6), .int x1, .int x2, .int x3] g cy tt sa sz (WO cy A S H)) (QE g (va_A (WO cy A S H) sz) (fEx S x1 x2).1 (WP cy A (t + 1) (fEx S x1 x2).2)) 2 12 (va_A (WO cy A S H) sz) := by
  refine m_ofVN (cc := cL_call) (nL := 5) (ret := some .int) hlst RL rfl (by decide) rfl [(0, .ref A.1), (1, .int (nI 6)), (2, .int x1), (3, .int x2), (4, .int x3)] rfl (Nat.le_of_ble_eq_true rfl) ?_
  intro p e s m args below meth c9 hC hr hX
  generalize (va_A (WO cy A S H) sz) = A9 at hX ⊢
  refine v_iload_n hC dL_call_0 rfl 1 rfl rfl ?_
  refine v_tswI hC (v := (nI 6)) (tgt := 117) dL_call_1 rfl (by decide) (by decide) rfl (by decide) ?_
  refine v_aload_n hC dL_call_117 rfl 0 rfl rfl ?_
  refine v_iload_n hC dL_call_118 rfl 2 rfl rfl ?_
  refine v_iload_n hC dL_call_119 rfl 3 rfl rfl ?_
  refine l_callE hC hX (n := 3) (As := [.ref A.1, .int x1, .int x2]) (st := []) (fun w => w) (fun sz => mL_tryAdd l hX.1 g cy tt sa sz A x1 x2 hI ht) (WR.full rfl) (fun w9 h9 => WR.full (WP_fst h9)) gL_call_L_tryAdd rfl rfl rfl (by decide +kernel) ⟨Nat.le_of_ble_eq_true rfl, Nat.le_of_ble_eq_true rfl⟩ rfl (Nat.le_of_ble_eq_true rfl) rfl ⟨Nat.le_of_ble_eq_true rfl, Nat.le_of_ble_eq_true rfl⟩ dL_call_120 rfl (fun w9 h9 => ?_)
  exact v_irE hC hr rfl rfl dL_call_123 h9
abbrev rmC_Shoot : Room := { frames := 10, cells := 2, slots := 12, locals := 175 }
set_option maxHeartbeats 4000000 in
set_option maxRecDepth 100000 in
theorem mC_Shoot (l : Launch) (hlst : l.stackTraces = false) (g : va_G) (cy : Nat → ClassId) (tt sa : Nat → Nat) (sz : Nat) (A : AA) {t : Nat} {S : SS} {H : HH} (x1 x2 x3 : Int32) (hI : RP t S H) (ht : t < 9000)  : Met l yL_call wsL_call rmC_Shoot (PN [.ref A.1, .int (nI 7), .int x1, .int x2, .int x3] g cy tt sa sz (WO cy A S H)) (QE g (va_A (WO cy A S H) sz) (fSh S x1).1 (WP cy A (t + 1) (fSh S x1).2)) 2 12 (va_A (WO cy A S H) sz) := by
  refine m_ofVN (cc := cL_call) (nL := 5) (ret := some .int) hlst RL rfl (by decide) rfl [(0, .ref A.1), (1, .int (nI 7)), (2, .int x1), (3, .int x2), (4, .int x3)] rfl (Nat.le_of_ble_eq_true rfl) ?_
  intro p e s m args below meth c9 hC hr hX
  generalize (va_A (WO cy A S H) sz) = A9 at hX ⊢
  refine v_iload_n hC dL_call_0 rfl 1 rfl rfl ?_
  refine v_tswI hC (v := (nI 7)) (tgt := 124) dL_call_1 rfl (by decide) (by decide) rfl (by decide) ?_
  refine v_aload_n hC dL_call_124 rfl 0 rfl rfl ?_
  refine v_iload_n hC dL_call_125 rfl 2 rfl rfl ?_
  refine l_callE hC hX (n := 2) (As := [.ref A.1, .int x1]) (st := []) (fun w => w) (fun sz => mL_tryShoot l hX.1 g cy tt sa sz A x1 hI ht) (WR.full rfl) (fun w9 h9 => WR.full (WP_fst h9)) gL_call_L_tryShoot rfl rfl rfl (by decide +kernel) ⟨Nat.le_of_ble_eq_true rfl, Nat.le_of_ble_eq_true rfl⟩ rfl (Nat.le_of_ble_eq_true rfl) rfl ⟨Nat.le_of_ble_eq_true rfl, Nat.le_of_ble_eq_true rfl⟩ dL_call_126 rfl (fun w9 h9 => ?_)
  exact v_irE hC hr rfl rfl dL_call_129 h9
abbrev rmC_Replace : Room := { frames := 10, cells := 4, slots := 24, locals := 178 }
set_option maxHeartbeats 4000000 in
set_option maxRecDepth 100000 in
theorem mC_Replace (l : Launch) (hlst : l.stackTraces = false) (g : va_G) (cy : Nat → ClassId) (tt sa : Nat → Nat) (sz : Nat) (A : AA) {t : Nat} {S : SS} {H : HH} (x1 x2 x3 : Int32) (hI : RP t S H) (ht : t < 9000)  : Met l yL_call wsL_call rmC_Replace (PN [.ref A.1, .int (nI 8), .int x1, .int x2, .int x3] g cy tt sa sz (WO cy A S H)) (QE g (va_A (WO cy A S H) sz) (fRe S x1 x2 x3).1 (WP cy A (t + 1) (fRe S x1 x2 x3).2)) 4 24 (va_A (WO cy A S H) sz) := by
  refine m_ofVN (cc := cL_call) (nL := 5) (ret := some .int) hlst RL rfl (by decide) rfl [(0, .ref A.1), (1, .int (nI 8)), (2, .int x1), (3, .int x2), (4, .int x3)] rfl (Nat.le_of_ble_eq_true rfl) ?_
  intro p e s m args below meth c9 hC hr hX
  generalize (va_A (WO cy A S H) sz) = A9 at hX ⊢
  refine v_iload_n hC dL_call_0 rfl 1 rfl rfl ?_
  refine v_tswI hC (v := (nI 8)) (tgt := 130) dL_call_1 rfl (by decide) (by decide) rfl (by decide) ?_
  refine v_aload_n hC dL_call_130 rfl 0 rfl rfl ?_
  refine v_iload_n hC dL_call_131 rfl 2 rfl rfl ?_
  refine v_iload_n hC dL_call_132 rfl 3 rfl rfl ?_
  refine v_iload hC dL_call_133 4 rfl rfl ?_
  refine l_callE hC hX (n := 4) (As := [.ref A.1, .int x1, .int x2, .int x3]) (st := []) (fun w => w) (fun sz => mL_tryReplace l hX.1 g cy tt sa sz A x1 x2 x3 hI ht) (WR.full rfl) (fun w9 h9 => WR.full (WP_fst h9)) gL_call_L_tryReplace rfl rfl rfl (by decide +kernel) ⟨Nat.le_of_ble_eq_true rfl, Nat.le_of_ble_eq_true rfl⟩ rfl (Nat.le_of_ble_eq_true rfl) rfl ⟨Nat.le_of_ble_eq_true rfl, Nat.le_of_ble_eq_true rfl⟩ dL_call_135 rfl (fun w9 h9 => ?_)
  exact v_irE hC hr rfl rfl dL_call_138 h9
abbrev rmC_Lay : Room := { frames := 9, cells := 1, slots := 6, locals := 155 }
set_option maxHeartbeats 4000000 in
set_option maxRecDepth 100000 in
theorem mC_Lay (l : Launch) (hlst : l.stackTraces = false) (g : va_G) (cy : Nat → ClassId) (tt sa : Nat → Nat) (sz : Nat) (A : AA) {t : Nat} {S : SS} {H : HH} (x1 x2 x3 : Int32) (hI : RP t S H) (ht : t < 9000)  : Met l yL_call wsL_call rmC_Lay (PN [.ref A.1, .int (nI 9), .int x1, .int x2, .int x3] g cy tt sa sz (WO cy A S H)) (QE g (va_A (WO cy A S H) sz) (fSe S x1 x2).1 (WP cy A (t + 1) (fSe S x1 x2).2)) 1 6 (va_A (WO cy A S H) sz) := by
  refine m_ofVN (cc := cL_call) (nL := 5) (ret := some .int) hlst RL rfl (by decide) rfl [(0, .ref A.1), (1, .int (nI 9)), (2, .int x1), (3, .int x2), (4, .int x3)] rfl (Nat.le_of_ble_eq_true rfl) ?_
  intro p e s m args below meth c9 hC hr hX
  generalize (va_A (WO cy A S H) sz) = A9 at hX ⊢
  refine v_iload_n hC dL_call_0 rfl 1 rfl rfl ?_
  refine v_tswI hC (v := (nI 9)) (tgt := 139) dL_call_1 rfl (by decide) (by decide) rfl (by decide) ?_
  refine v_aload_n hC dL_call_139 rfl 0 rfl rfl ?_
  refine v_iload_n hC dL_call_140 rfl 2 rfl rfl ?_
  refine v_iload_n hC dL_call_141 rfl 3 rfl rfl ?_
  refine l_callE hC hX (n := 3) (As := [.ref A.1, .int x1, .int x2]) (st := []) (fun w => w) (fun sz => mL_tryLay l hX.1 g cy tt sa sz A x1 x2 hI ht) (WR.full rfl) (fun w9 h9 => WR.full (WP_fst h9)) gL_call_L_tryLay rfl rfl rfl (by decide +kernel) ⟨Nat.le_of_ble_eq_true rfl, Nat.le_of_ble_eq_true rfl⟩ rfl (Nat.le_of_ble_eq_true rfl) rfl ⟨Nat.le_of_ble_eq_true rfl, Nat.le_of_ble_eq_true rfl⟩ dL_call_142 rfl (fun w9 h9 => ?_)
  exact v_irE hC hr rfl rfl dL_call_145 h9
abbrev rmC_Undo : Room := { frames := 9, cells := 1, slots := 6, locals := 151 }
set_option maxHeartbeats 4000000 in
set_option maxRecDepth 100000 in
theorem mC_Undo (l : Launch) (hlst : l.stackTraces = false) (g : va_G) (cy : Nat → ClassId) (tt sa : Nat → Nat) (sz : Nat) (A : AA) {t : Nat} {S : SS} {H : HH} (x1 x2 x3 : Int32) (hI : RP t S H) (ht : t < 9000)  : Met l yL_call wsL_call rmC_Undo (PN [.ref A.1, .int (nI 10), .int x1, .int x2, .int x3] g cy tt sa sz (WO cy A S H)) (QE g (va_A (WO cy A S H) sz) (fUn S).1 (WP cy A (t + 1) (fUn S).2)) 1 6 (va_A (WO cy A S H) sz) := by
  refine m_ofVN (cc := cL_call) (nL := 5) (ret := some .int) hlst RL rfl (by decide) rfl [(0, .ref A.1), (1, .int (nI 10)), (2, .int x1), (3, .int x2), (4, .int x3)] rfl (Nat.le_of_ble_eq_true rfl) ?_
  intro p e s m args below meth c9 hC hr hX
  generalize (va_A (WO cy A S H) sz) = A9 at hX ⊢
  refine v_iload_n hC dL_call_0 rfl 1 rfl rfl ?_
  refine v_tswI hC (v := (nI 10)) (tgt := 146) dL_call_1 rfl (by decide) (by decide) rfl (by decide) ?_
  refine v_aload_n hC dL_call_146 rfl 0 rfl rfl ?_
  refine l_callE hC hX (n := 1) (As := [.ref A.1]) (st := []) (fun w => w) (fun sz => mL_tryUndo l hX.1 g cy tt sa sz A  hI ht) (WR.full rfl) (fun w9 h9 => WR.full (WP_fst h9)) gL_call_L_tryUndo rfl rfl rfl (by decide +kernel) ⟨Nat.le_of_ble_eq_true rfl, Nat.le_of_ble_eq_true rfl⟩ rfl (Nat.le_of_ble_eq_true rfl) rfl ⟨Nat.le_of_ble_eq_true rfl, Nat.le_of_ble_eq_true rfl⟩ dL_call_147 rfl (fun w9 h9 => ?_)
  exact v_irE hC hr rfl rfl dL_call_150 h9
abbrev rmC_Would : Room := { frames := 10, cells := 2, slots := 12, locals := 177 }
set_option maxHeartbeats 4000000 in
set_option maxRecDepth 100000 in
theorem mC_Would (l : Launch) (hlst : l.stackTraces = false) (g : va_G) (cy : Nat → ClassId) (tt sa : Nat → Nat) (sz : Nat) (A : AA) {t : Nat} {S : SS} {H : HH} (x1 x2 x3 : Int32) (hI : RP t S H) (ht : t < 9000)  : Met l yL_call wsL_call rmC_Would (PN [.ref A.1, .int (nI 11), .int x1, .int x2, .int x3] g cy tt sa sz (WO cy A S H)) (QE g (va_A (WO cy A S H) sz) (aWo S.1 x1 x2) (WP cy A t S)) 2 12 (va_A (WO cy A S H) sz) := by
  refine m_ofVN (cc := cL_call) (nL := 5) (ret := some .int) hlst RL rfl (by decide) rfl [(0, .ref A.1), (1, .int (nI 11)), (2, .int x1), (3, .int x2), (4, .int x3)] rfl (Nat.le_of_ble_eq_true rfl) ?_
  intro p e s m args below meth c9 hC hr hX
  generalize (va_A (WO cy A S H) sz) = A9 at hX ⊢
  refine v_iload_n hC dL_call_0 rfl 1 rfl rfl ?_
  refine v_tswI hC (v := (nI 11)) (tgt := 151) dL_call_1 rfl (by decide) (by decide) rfl (by decide) ?_
  refine v_aload_n hC dL_call_151 rfl 0 rfl rfl ?_
  refine v_iload_n hC dL_call_152 rfl 2 rfl rfl ?_
  refine v_iload_n hC dL_call_153 rfl 3 rfl rfl ?_
  refine l_callE hC hX (n := 3) (As := [.ref A.1, .int x1, .int x2]) (st := []) (fun w => w) (fun sz => mL_tryWould l hX.1 g cy tt sa sz A x1 x2 hI ht) (WR.full rfl) (fun w9 h9 => WR.full (WP_fst h9)) gL_call_L_tryWould rfl rfl rfl (by decide +kernel) ⟨Nat.le_of_ble_eq_true rfl, Nat.le_of_ble_eq_true rfl⟩ rfl (Nat.le_of_ble_eq_true rfl) rfl ⟨Nat.le_of_ble_eq_true rfl, Nat.le_of_ble_eq_true rfl⟩ dL_call_154 rfl (fun w9 h9 => ?_)
  exact v_irE hC hr rfl rfl dL_call_157 h9
abbrev rmC_Why : Room := { frames := 10, cells := 2, slots := 12, locals := 176 }
set_option maxHeartbeats 4000000 in
set_option maxRecDepth 100000 in
theorem mC_Why (l : Launch) (hlst : l.stackTraces = false) (g : va_G) (cy : Nat → ClassId) (tt sa : Nat → Nat) (sz : Nat) (A : AA) {t : Nat} {S : SS} {H : HH} (x1 x2 x3 : Int32) (hI : RP t S H) (ht : t < 9000)  : Met l yL_call wsL_call rmC_Why (PN [.ref A.1, .int (nI 12), .int x1, .int x2, .int x3] g cy tt sa sz (WO cy A S H)) (QE g (va_A (WO cy A S H) sz) (aWh S.1 x1 x2) (WP cy A t S)) 2 12 (va_A (WO cy A S H) sz) := by
  refine m_ofVN (cc := cL_call) (nL := 5) (ret := some .int) hlst RL rfl (by decide) rfl [(0, .ref A.1), (1, .int (nI 12)), (2, .int x1), (3, .int x2), (4, .int x3)] rfl (Nat.le_of_ble_eq_true rfl) ?_
  intro p e s m args below meth c9 hC hr hX
  generalize (va_A (WO cy A S H) sz) = A9 at hX ⊢
  refine v_iload_n hC dL_call_0 rfl 1 rfl rfl ?_
  refine v_tswI hC (v := (nI 12)) (tgt := 158) dL_call_1 rfl (by decide) (by decide) rfl (by decide) ?_
  refine v_aload_n hC dL_call_158 rfl 0 rfl rfl ?_
  refine v_iload_n hC dL_call_159 rfl 2 rfl rfl ?_
  refine v_iload_n hC dL_call_160 rfl 3 rfl rfl ?_
  refine l_callE hC hX (n := 3) (As := [.ref A.1, .int x1, .int x2]) (st := []) (fun w => w) (fun sz => mL_tryWhy l hX.1 g cy tt sa sz A x1 x2 hI ht) (WR.full rfl) (fun w9 h9 => WR.full (WP_fst h9)) gL_call_L_tryWhy rfl rfl rfl (by decide +kernel) ⟨Nat.le_of_ble_eq_true rfl, Nat.le_of_ble_eq_true rfl⟩ rfl (Nat.le_of_ble_eq_true rfl) rfl ⟨Nat.le_of_ble_eq_true rfl, Nat.le_of_ble_eq_true rfl⟩ dL_call_161 rfl (fun w9 h9 => ?_)
  exact v_irE hC hr rfl rfl dL_call_164 h9
abbrev rmC_Lacks : Room := { frames := 10, cells := 1, slots := 6, locals := 174 }
set_option maxHeartbeats 4000000 in
set_option maxRecDepth 100000 in
theorem mC_Lacks (l : Launch) (hlst : l.stackTraces = false) (g : va_G) (cy : Nat → ClassId) (tt sa : Nat → Nat) (sz : Nat) (A : AA) {t : Nat} {S : SS} {H : HH} (x1 x2 x3 : Int32) (hI : RP t S H) (ht : t < 9000)  : Met l yL_call wsL_call rmC_Lacks (PN [.ref A.1, .int (nI 13), .int x1, .int x2, .int x3] g cy tt sa sz (WO cy A S H)) (QE g (va_A (WO cy A S H) sz) (aLa S.1 x1) (WP cy A t S)) 1 6 (va_A (WO cy A S H) sz) := by
  refine m_ofVN (cc := cL_call) (nL := 5) (ret := some .int) hlst RL rfl (by decide) rfl [(0, .ref A.1), (1, .int (nI 13)), (2, .int x1), (3, .int x2), (4, .int x3)] rfl (Nat.le_of_ble_eq_true rfl) ?_
  intro p e s m args below meth c9 hC hr hX
  generalize (va_A (WO cy A S H) sz) = A9 at hX ⊢
  refine v_iload_n hC dL_call_0 rfl 1 rfl rfl ?_
  refine v_tswI hC (v := (nI 13)) (tgt := 165) dL_call_1 rfl (by decide) (by decide) rfl (by decide) ?_
  refine v_aload_n hC dL_call_165 rfl 0 rfl rfl ?_
  refine v_iload_n hC dL_call_166 rfl 2 rfl rfl ?_
  refine l_callE hC hX (n := 2) (As := [.ref A.1, .int x1]) (st := []) (fun w => w) (fun sz => mL_tryLacks l hX.1 g cy tt sa sz A x1 hI ht) (WR.full rfl) (fun w9 h9 => WR.full (WP_fst h9)) gL_call_L_tryLacks rfl rfl rfl (by decide +kernel) ⟨Nat.le_of_ble_eq_true rfl, Nat.le_of_ble_eq_true rfl⟩ rfl (Nat.le_of_ble_eq_true rfl) rfl ⟨Nat.le_of_ble_eq_true rfl, Nat.le_of_ble_eq_true rfl⟩ dL_call_167 rfl (fun w9 h9 => ?_)
  exact v_irE hC hr rfl rfl dL_call_170 h9
abbrev rmC_Order : Room := { frames := 10, cells := 3, slots := 18, locals := 192 }
set_option maxHeartbeats 4000000 in
set_option maxRecDepth 100000 in
theorem mC_Order (l : Launch) (hlst : l.stackTraces = false) (g : va_G) (cy : Nat → ClassId) (tt sa : Nat → Nat) (sz : Nat) (A : AA) {t : Nat} {S : SS} {H : HH} (x1 x2 x3 : Int32) (hI : RP t S H) (ht : t < 9000)  : Met l yL_call wsL_call rmC_Order (PN [.ref A.1, .int (nI 14), .int x1, .int x2, .int x3] g cy tt sa sz (WO cy A S H)) (QE g (va_A (WO cy A S H) sz) (aOr S.1 x1 x2) (WP cy A t S)) 3 18 (va_A (WO cy A S H) sz) := by
  refine m_ofVN (cc := cL_call) (nL := 5) (ret := some .int) hlst RL rfl (by decide) rfl [(0, .ref A.1), (1, .int (nI 14)), (2, .int x1), (3, .int x2), (4, .int x3)] rfl (Nat.le_of_ble_eq_true rfl) ?_
  intro p e s m args below meth c9 hC hr hX
  generalize (va_A (WO cy A S H) sz) = A9 at hX ⊢
  refine v_iload_n hC dL_call_0 rfl 1 rfl rfl ?_
  refine v_tswI hC (v := (nI 14)) (tgt := 171) dL_call_1 rfl (by decide) (by decide) rfl (by decide) ?_
  refine v_aload_n hC dL_call_171 rfl 0 rfl rfl ?_
  refine v_iload_n hC dL_call_172 rfl 2 rfl rfl ?_
  refine v_iload_n hC dL_call_173 rfl 3 rfl rfl ?_
  refine l_callE hC hX (n := 3) (As := [.ref A.1, .int x1, .int x2]) (st := []) (fun w => w) (fun sz => mL_tryOrder l hX.1 g cy tt sa sz A x1 x2 hI ht) (WR.full rfl) (fun w9 h9 => WR.full (WP_fst h9)) gL_call_L_tryOrder rfl rfl rfl (by decide +kernel) ⟨Nat.le_of_ble_eq_true rfl, Nat.le_of_ble_eq_true rfl⟩ rfl (Nat.le_of_ble_eq_true rfl) rfl ⟨Nat.le_of_ble_eq_true rfl, Nat.le_of_ble_eq_true rfl⟩ dL_call_174 rfl (fun w9 h9 => ?_)
  exact v_irE hC hr rfl rfl dL_call_177 h9
abbrev rmC_Keep : Room := { frames := 9, cells := 1, slots := 6, locals := 153 }
set_option maxHeartbeats 4000000 in
set_option maxRecDepth 100000 in
theorem mC_Keep (l : Launch) (hlst : l.stackTraces = false) (g : va_G) (cy : Nat → ClassId) (tt sa : Nat → Nat) (sz : Nat) (A : AA) {t : Nat} {S : SS} {H : HH} (x1 x2 x3 : Int32) (hI : RP t S H) (ht : t < 9000)  : Met l yL_call wsL_call rmC_Keep (PN [.ref A.1, .int (nI 15), .int x1, .int x2, .int x3] g cy tt sa sz (WO cy A S H)) (QE g (va_A (WO cy A S H) sz) (fSa S x1).1 (WP cy A (t + 1) (fSa S x1).2)) 1 6 (va_A (WO cy A S H) sz) := by
  refine m_ofVN (cc := cL_call) (nL := 5) (ret := some .int) hlst RL rfl (by decide) rfl [(0, .ref A.1), (1, .int (nI 15)), (2, .int x1), (3, .int x2), (4, .int x3)] rfl (Nat.le_of_ble_eq_true rfl) ?_
  intro p e s m args below meth c9 hC hr hX
  generalize (va_A (WO cy A S H) sz) = A9 at hX ⊢
  refine v_iload_n hC dL_call_0 rfl 1 rfl rfl ?_
  refine v_tswI hC (v := (nI 15)) (tgt := 178) dL_call_1 rfl (by decide) (by decide) rfl (by decide) ?_
  refine v_aload_n hC dL_call_178 rfl 0 rfl rfl ?_
  refine v_iload_n hC dL_call_179 rfl 2 rfl rfl ?_
  refine l_callE hC hX (n := 2) (As := [.ref A.1, .int x1]) (st := []) (fun w => w) (fun sz => mL_tryKeep l hX.1 g cy tt sa sz A x1 hI ht) (WR.full rfl) (fun w9 h9 => WR.full (WP_fst h9)) gL_call_L_tryKeep rfl rfl rfl (by decide +kernel) ⟨Nat.le_of_ble_eq_true rfl, Nat.le_of_ble_eq_true rfl⟩ rfl (Nat.le_of_ble_eq_true rfl) rfl ⟨Nat.le_of_ble_eq_true rfl, Nat.le_of_ble_eq_true rfl⟩ dL_call_180 rfl (fun w9 h9 => ?_)
  exact v_irE hC hr rfl rfl dL_call_183 h9
abbrev rmC_Back : Room := { frames := 9, cells := 2, slots := 12, locals := 153 }
set_option maxHeartbeats 4000000 in
set_option maxRecDepth 100000 in
theorem mC_Back (l : Launch) (hlst : l.stackTraces = false) (g : va_G) (cy : Nat → ClassId) (tt sa : Nat → Nat) (sz : Nat) (A : AA) {t : Nat} {S : SS} {H : HH} (x1 x2 x3 : Int32) (hI : RP t S H) (ht : t < 9000)  : Met l yL_call wsL_call rmC_Back (PN [.ref A.1, .int (nI 16), .int x1, .int x2, .int x3] g cy tt sa sz (WO cy A S H)) (QE g (va_A (WO cy A S H) sz) (fBa S x1).1 (WP cy A (t + 1) (fBa S x1).2)) 2 12 (va_A (WO cy A S H) sz) := by
  refine m_ofVN (cc := cL_call) (nL := 5) (ret := some .int) hlst RL rfl (by decide) rfl [(0, .ref A.1), (1, .int (nI 16)), (2, .int x1), (3, .int x2), (4, .int x3)] rfl (Nat.le_of_ble_eq_true rfl) ?_
  intro p e s m args below meth c9 hC hr hX
  generalize (va_A (WO cy A S H) sz) = A9 at hX ⊢
  refine v_iload_n hC dL_call_0 rfl 1 rfl rfl ?_
  refine v_tswO hC (tgt := 184) dL_call_1 (by decide) (by decide) ?_
  refine v_aload_n hC dL_call_184 rfl 0 rfl rfl ?_
  refine v_iload_n hC dL_call_185 rfl 2 rfl rfl ?_
  refine l_callE hC hX (n := 2) (As := [.ref A.1, .int x1]) (st := []) (fun w => w) (fun sz => mL_tryBack l hX.1 g cy tt sa sz A x1 hI ht) (WR.full rfl) (fun w9 h9 => WR.full (WP_fst h9)) gL_call_L_tryBack rfl rfl rfl (by decide +kernel) ⟨Nat.le_of_ble_eq_true rfl, Nat.le_of_ble_eq_true rfl⟩ rfl (Nat.le_of_ble_eq_true rfl) rfl ⟨Nat.le_of_ble_eq_true rfl, Nat.le_of_ble_eq_true rfl⟩ dL_call_186 rfl (fun w9 h9 => ?_)
  exact v_irE hC hr rfl rfl dL_call_189 h9

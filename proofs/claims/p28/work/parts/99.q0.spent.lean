/-! ===== the law: spent ===== -/
def pL_spent (N : Nat → Nat)  : Option (Int32) := some ((aAb N (nI 4)) + (aAb N (nI 5)))
abbrev rmL_spent : Room := { frames := 10, cells := 2, slots := 12, locals := 177 }
set_option maxHeartbeats 4000000 in
set_option maxRecDepth 100000 in
theorem mL_spent (l : Launch) (hlst : l.stackTraces = false) (g : va_G) (cy : Nat → ClassId) (tt sa : Nat → Nat) (sz : Nat) (A : AA) {t : Nat} {S : SS} {H : HH}  (hI : RP t S H) (ht9 : t < 8000) {res : Int32} (h : pL_spent S.1  = some res) : Met l yL_spent wsM_spent rmL_spent (PN [.ref A.1] g cy tt sa sz (WO cy A S H)) (QE g (va_A (WO cy A S H) sz) res (WP cy A t S)) 2 12 (va_A (WO cy A S H) sz) := by
  obtain ⟨T, hTe⟩ : ∃ T, T = t := ⟨_, rfl⟩
  have hT9 : T < 8000 := by omega
  have ht : t + 0 ≤ T := by omega
  rw [← hTe]
  refine m_ofVN (cc := cL_spent) (nL := 1) (ret := some .int) hlst RL rfl (by decide) rfl [(0, .ref A.1)] rfl (Nat.le_of_ble_eq_true rfl) ?_
  intro p e s m args below meth c9 hC hr hX
  generalize (va_A (WO cy A S H) sz) = A9 at hX ⊢
  obtain ⟨cells, hce⟩ : ∃ cells, cells = 0 := ⟨_, rfl⟩
  obtain ⟨slots, hse⟩ : ∃ slots, slots = 0 := ⟨_, rfl⟩
  have hc : cells + 2 ≤ 2 := by omega
  have hs : slots + 6 * 2 ≤ 12 := by omega
  refine v_widen (k := cells) (n := slots) (by omega) (by omega) ?_
  unfold pL_spent at h
  refine v_aload_n hC dL_spent_0 rfl 0 rfl rfl ?_
  refine v_iconst hC (v := (nI 2)) dL_spent_1 (by decide) rfl ?_
  refine v_iconst hC (v := (nI 4)) dL_spent_2 (by decide) rfl ?_
  refine v_iconst hC (v := (nI 0)) dL_spent_3 (by decide) rfl ?_
  refine v_iconst hC (v := (nI 0)) dL_spent_4 (by decide) rfl ?_
  refine l_callF hC hX (n := 5) (As := [.ref A.1, .int (nI 2), .int (nI 4), .int (nI 0), .int (nI 0)]) (st := []) (fun w => w) (fun sz => mC_About l hX.1 g cy tt sa sz A (nI 4) (nI 0) (nI 0) hI (by omega)) (WR.full rfl) (fun w9 h9 => WR.full (WP_fst h9)) (goodIn_w gM_call) rfl rfl rfl (by decide +kernel) ⟨Nat.le_of_ble_eq_true rfl, Nat.le_of_ble_eq_true rfl⟩ rfl (Nat.le_of_ble_eq_true rfl) rfl ⟨by show _ + 1 ≤ 2; omega, by show _ + 6 ≤ 12; omega⟩ dL_spent_5 rfl (fun w9 h9 => ?_)
  obtain ⟨H1, hI2, rfl⟩ := h9
  refine v_eqw (ws' := WO cy A S H1) rfl ?_
  refine v_aload_n hC dL_spent_8 rfl 0 rfl rfl ?_
  refine v_iconst hC (v := (nI 2)) dL_spent_9 (by decide) rfl ?_
  refine v_iconst hC (v := (nI 5)) dL_spent_10 (by decide) rfl ?_
  refine v_iconst hC (v := (nI 0)) dL_spent_11 (by decide) rfl ?_
  refine v_iconst hC (v := (nI 0)) dL_spent_12 (by decide) rfl ?_
  refine l_callF hC hX (n := 5) (As := [.ref A.1, .int (nI 2), .int (nI 5), .int (nI 0), .int (nI 0)]) (st := [.int (aAb S.1 (nI 4))]) (fun w => w) (fun sz => mC_About l hX.1 g cy tt sa sz A (nI 5) (nI 0) (nI 0) hI2 (by omega)) (WR.full rfl) (fun w9 h9 => WR.full (WP_fst h9)) (goodIn_w gM_call) rfl rfl rfl (by decide +kernel) ⟨Nat.le_of_ble_eq_true rfl, Nat.le_of_ble_eq_true rfl⟩ rfl (Nat.le_of_ble_eq_true rfl) rfl ⟨by show _ + 1 ≤ 2; omega, by show _ + 6 ≤ 12; omega⟩ dL_spent_13 rfl (fun w9 h9 => ?_)
  obtain ⟨H3, hI4, rfl⟩ := h9
  refine v_eqw (ws' := WO cy A S H3) rfl ?_
  refine v_iadd hC dL_spent_16 rfl ?_
  obtain rfl := Option.some.inj h
  exact v_irE2 hC (by omega) (by omega) hr rfl rfl dL_spent_17 ⟨_, hI4.up (by omega), rfl⟩

/-! ===== the law's world, its relation, its rows ===== -/
def LX (cy : Nat → ClassId) (h0 : Nat) (a : Nat → Nat) (AD : Nat → Nat → Nat) (z0 : Nat) (z : Nat → Nat) (oa : Nat) (O : Nat → Int64) (x xt : FTy) (o c f1 f2 : Int32) (x1 x2 : FTy) (tl : Int32) (tc : Nat → Int32) (rf sz ac sp ou : Int32) (tx nw tr di kp ik : Nat → Int32) : va_W := [(oa, .inl (cy 3, 1, .inr (.inl O))), (h0, .inr (5, [.ref (a 0), .ref (a 7), .ref (a 14), .ref (a 16), .ref (a 24), .ref (a 32)])), ((a 14), .inr (1, [.ref (a 15), .int o, .int c])), ((a 15), .inl (cy 2, 14, .inr (.inr (.inr (.inr (fun k => some (AD k 0))))))), ((a 16), .inr (2, [.ref (a 17), .int f1])), ((a 17), .inr (0, [.ref (a 18), .ref (a 20), .ref (a 22), .int x1.1, .int x1.2.1, .int x1.2.2.1, .int x1.2.2.2.1, .int x1.2.2.2.2.1, .int x1.2.2.2.2.2.1, .int x1.2.2.2.2.2.2.1])), ((a 18), .inr (3, [.int (nI 14), .ref (a 19)])), ((a 19), .inl (cy 0, 84, .inl x1.2.2.2.2.2.2.2.1)), ((a 20), .inr (3, [.int (nI 10), .ref (a 21)])), ((a 21), .inl (cy 0, 60, .inl x1.2.2.2.2.2.2.2.2.1)), ((a 22), .inr (3, [.int (nI 1), .ref (a 23)])), ((a 23), .inl (cy 0, 3, .inl x1.2.2.2.2.2.2.2.2.2)), ((a 24), .inr (2, [.ref (a 25), .int f2])), ((a 25), .inr (0, [.ref (a 26), .ref (a 28), .ref (a 30), .int x2.1, .int x2.2.1, .int x2.2.2.1, .int x2.2.2.2.1, .int x2.2.2.2.2.1, .int x2.2.2.2.2.2.1, .int x2.2.2.2.2.2.2.1])), ((a 26), .inr (3, [.int (nI 14), .ref (a 27)])), ((a 27), .inl (cy 0, 84, .inl x2.2.2.2.2.2.2.2.1)), ((a 28), .inr (3, [.int (nI 10), .ref (a 29)])), ((a 29), .inl (cy 0, 60, .inl x2.2.2.2.2.2.2.2.2.1)), ((a 30), .inr (3, [.int (nI 1), .ref (a 31)])), ((a 31), .inl (cy 0, 3, .inl x2.2.2.2.2.2.2.2.2.2)), ((a 0), .inr (0, [.ref (a 1), .ref (a 3), .ref (a 5), .int x.1, .int x.2.1, .int x.2.2.1, .int x.2.2.2.1, .int x.2.2.2.2.1, .int x.2.2.2.2.2.1, .int x.2.2.2.2.2.2.1])), ((a 1), .inr (3, [.int (nI 14), .ref (a 2)])), ((a 2), .inl (cy 0, 84, .inl x.2.2.2.2.2.2.2.1)), ((a 3), .inr (3, [.int (nI 10), .ref (a 4)])), ((a 4), .inl (cy 0, 60, .inl x.2.2.2.2.2.2.2.2.1)), ((a 5), .inr (3, [.int (nI 1), .ref (a 6)])), ((a 6), .inl (cy 0, 3, .inl x.2.2.2.2.2.2.2.2.2)), ((a 7), .inr (0, [.ref (a 8), .ref (a 10), .ref (a 12), .int xt.1, .int xt.2.1, .int xt.2.2.1, .int xt.2.2.2.1, .int xt.2.2.2.2.1, .int xt.2.2.2.2.2.1, .int xt.2.2.2.2.2.2.1])), ((a 8), .inr (3, [.int (nI 14), .ref (a 9)])), ((a 9), .inl (cy 0, 84, .inl xt.2.2.2.2.2.2.2.1)), ((a 10), .inr (3, [.int (nI 10), .ref (a 11)])), ((a 11), .inl (cy 0, 60, .inl xt.2.2.2.2.2.2.2.2.1)), ((a 12), .inr (3, [.int (nI 1), .ref (a 13)])), ((a 13), .inl (cy 0, 3, .inl xt.2.2.2.2.2.2.2.2.2)), ((a 32), .inr (4, [.ref (a 33), .int tl])), ((a 33), .inr (3, [.int (nI 120), .ref (a 34)])), ((a 34), .inl (cy 0, 120, .inl tc)), (z0, .inr (6, [.int rf, .ref (z 0), .int sz, .ref (z 1), .ref (z 2), .ref (z 3), .int ac, .ref (z 4), .ref (z 5), .int sp, .int ou])), ((z 0), .inl (cy 0, 120, .inl tx)), ((z 1), .inl (cy 0, 164, .inl nw)), ((z 2), .inl (cy 0, 164, .inl tr)), ((z 3), .inl (cy 0, 2296, .inl di)), ((z 4), .inl (cy 0, 328, .inl kp)), ((z 5), .inl (cy 1, 2, .inl ik))]
def LI (t : Nat) (N M : Nat → Nat) (o c : Nat) (R D : Nat → Nat → Nat) (F : Nat → Nat) (P K : Nat → Nat → Nat) (T : Nat → Nat) (L : Nat) : Prop := 121 ≤ t ∧ Inv t N ∧ Z164 M ∧ HR o c R D ∧ (∀ j, j < c → Inv t (D j)) ∧ SL F P K ∧ (∀ j, j < 2 → F j = 1 → Inv t (K j)) ∧ TX T L
theorem LI.up {t : Nat} {N M : Nat → Nat} {o c : Nat} {R D : Nat → Nat → Nat} {F : Nat → Nat} {P K : Nat → Nat → Nat} {T : Nat → Nat} {L : Nat} (h : LI t N M o c R D F P K T L) : LI (t + 1) N M o c R D F P K T L := by
  obtain ⟨h0, h1, h2, h3, h4, h5, h6, h7⟩ := h
  exact ⟨by omega, h1.mono (by omega), h2, h3, fun j hj => (h4 j hj).mono (by omega), h5, fun j hj hf => (h6 j hj hf).mono (by omega), h7⟩
theorem LI.setM {t : Nat} {N M M2 : Nat → Nat} {o c : Nat} {R D : Nat → Nat → Nat} {F : Nat → Nat} {P K : Nat → Nat → Nat} {T : Nat → Nat} {L : Nat} (h : LI t N M o c R D F P K T L) (h9 : Z164 M2) : LI t N M2 o c R D F P K T L := by
  obtain ⟨h0, h1, h2, h3, h4, h5, h6, h7⟩ := h
  exact ⟨h0, h1, h9, h3, h4, h5, h6, h7⟩
theorem LI.setT {t : Nat} {N M : Nat → Nat} {o c : Nat} {R D : Nat → Nat → Nat} {F : Nat → Nat} {P K : Nat → Nat → Nat} {T T2 : Nat → Nat} {L L2 : Nat} (h : LI t N M o c R D F P K T L) (h9 : TX T2 L2) : LI t N M o c R D F P K T2 L2 := by
  obtain ⟨h0, h1, h2, h3, h4, h5, h6, h7⟩ := h
  exact ⟨h0, h1, h2, h3, h4, h5, h6, h9⟩
/-- an act: the film before it goes into the diary -/
theorem LI.act {t : Nat} {N N2 M : Nat → Nat} {o c : Nat} {R D : Nat → Nat → Nat} {F : Nat → Nat} {P K : Nat → Nat → Nat} {T : Nat → Nat} {L : Nat} (h : LI t N M o c R D F P K T L) (h9 : Inv (t + 1) N2) : LI (t + 1) N2 M (remO o c) (remC c) (remR R o c N) (reD D c N) F P K T L := by
  have hu := h.up
  obtain ⟨h0, h1, h2, h3, h4, h5, h6, h7⟩ := hu
  refine ⟨h0, h9, h2, HR_remD N h3, fun j hj => ?_, h5, h6, h7⟩
  unfold remC at hj
  unfold reD
  have hc := h3.2.1
  by_cases hc9 : c < 14
  · rw [if_pos hc9] at hj
    rw [if_pos hc9]
    unfold va_up
    by_cases hjc : j = c
    · rw [if_pos hjc]
      exact h1
    · rw [if_neg hjc]
      exact h4 j (by omega)
  · rw [if_neg hc9] at hj
    rw [if_neg hc9]
    unfold va_up
    by_cases hjc : j = 13
    · rw [if_pos hjc]
      exact h1
    · rw [if_neg hjc]
      unfold shD
      rw [if_pos (by omega)]
      exact h4 (j + 1) (by omega)
theorem LI.back {t : Nat} {N M : Nat → Nat} {o c : Nat} {R D : Nat → Nat → Nat} {F : Nat → Nat} {P K : Nat → Nat → Nat} {T : Nat → Nat} {L : Nat} (h : LI t N M o c R D F P K T L) (hc : 0 < c) : LI t (D (c - 1)) M o (c - 1) R D F P K T L := by
  obtain ⟨h0, h1, h2, h3, h4, h5, h6, h7⟩ := h
  exact ⟨h0, h4 (c - 1) (by omega), h2, ⟨h3.1, by have := h3.2.1; omega, fun i hi => h3.2.2 i (by omega)⟩, fun j hj => h4 j (by omega), h5, h6, h7⟩
/-- a new diary -/
theorem LI.fresh {t : Nat} {N N2 M M2 : Nat → Nat} {o c : Nat} {R D : Nat → Nat → Nat} {F : Nat → Nat} {P K : Nat → Nat → Nat} {T : Nat → Nat} {L : Nat} (h : LI t N M o c R D F P K T L) (h9 : Inv t N2) (h8 : Z164 M2) : LI t N2 M2 o 0 R D F P K T L := by
  obtain ⟨h0, h1, h2, h3, h4, h5, h6, h7⟩ := h
  exact ⟨h0, h9, h8, ⟨h3.1, Nat.zero_le _, fun i hi => absurd hi (Nat.not_lt_zero i)⟩, fun j hj => absurd hj (Nat.not_lt_zero j), h5, h6, h7⟩
theorem LI.noSlots {t : Nat} {N M : Nat → Nat} {o c : Nat} {R D : Nat → Nat → Nat} {F : Nat → Nat} {P K : Nat → Nat → Nat} {T : Nat → Nat} {L : Nat} (h : LI t N M o c R D F P K T L) : LI t N M o c R D (nset (nset F 0 0) 1 0) P K T L := by
  obtain ⟨h0, h1, h2, h3, h4, h5, h6, h7⟩ := h
  have hz : ∀ j, j < 2 → nset (nset F 0 0) 1 0 j = 0 := fun j hj => by
    rcases (show j = 0 ∨ j = 1 by omega) with rfl | rfl
    · rw [nset_ne _ _ (by omega), nset_eq]
    · rw [nset_eq]
  refine ⟨h0, h1, h2, h3, h4, ⟨fun j => ?_, fun j hj hf => ?_⟩, fun j hj hf => ?_, h7⟩
  · by_cases hj : j < 2
    · rw [hz j hj]
      omega
    · rw [nset_ne _ _ (by omega), nset_ne _ _ (by omega)]
      exact h5.1 j
  · rw [hz j hj] at hf
    omega
  · rw [hz j hj] at hf
    omega
theorem LI.keep {t i : Nat} {N M : Nat → Nat} {o c : Nat} {R D : Nat → Nat → Nat} {F : Nat → Nat} {P K : Nat → Nat → Nat} {T : Nat → Nat} {L : Nat} (h : LI t N M o c R D F P K T L) (hi : i < 2) : LI t N M o c R D (nset F i 1) (va_up P i N) (va_up K i N) T L := by
  obtain ⟨h0, h1, h2, h3, h4, h5, h6, h7⟩ := h
  refine ⟨h0, h1, h2, h3, h4, SL_save h5, fun j hj hf => ?_, h7⟩
  unfold va_up
  by_cases hji : j = i
  · rw [if_pos hji]
    exact h1
  · rw [if_neg hji]
    rw [nset_ne _ _ hji] at hf
    exact h6 j hj hf
theorem lg_self (x : Int64) : lg_cmp x x = 0 := by
  unfold lg_cmp
  rw [if_neg (by simp), if_pos rfl]
theorem vp_updL_at (O : Nat → Int64) (k : Nat) (x : Int64) : vp_updL O k x k = x := by
  unfold vp_updL
  rw [if_pos rfl]
theorem l_in {Len i k : Nat} (hL : Len ≤ 3072) (hi : i + 6 ≤ Len) (hk : k < 6) : nb (nI i + nI k) Len = true := by
  rw [zadd]
  exact (znb (by omega)).mpr (by omega)
theorem kL_law_164 : Cond.constantLong RL 164 (4294967295) ∈ wsL_law := by decide +kernel
section LR2
variable {p : Program} {l : Launch} {e : Env} {R : Room} {s : State} {m : MethodId} {args : Array Value} {below : List Frame} {meth : Method} {c : Code} {cells slots : Nat} {Q : State → Prop}
variable {g : va_G} {cy : Nat → ClassId} {nL : Nat} {cc : ByteArray} {Ts : List Cond} {own : String} {A B : Nat → Prop} {ws : va_W} {pc pc' : Nat} {lv lv' : List (Nat × Value)} {st : List Value}
/-- the script -/
theorem l_sld (hC : CX p s m args meth c g cy nL cc Ts own) {b Len : Nat} {xs : Nat → Int32} (hX9 : va_X b Len xs s s.heap) (hbl : b < s.heap.size) (hbA : ¬ A b) {i : Int32} (hin : nb i Len = true) (hd : decode cc pc = .ok (.iaload, 1)) (hp : pc + 1 = pc') (k : V p l e R s m args below meth c g nL cells slots Q A B ws pc' lv (.int (xs i.toNatClampNeg) :: st)) : V p l e R s m args below meth c g nL cells slots Q A B ws pc lv (.int i :: .ref b :: st) := by
  subst hp
  intro H locs ls hD hP hS hl
  exact va_sld hC.1 hC.2.1 hX9 hbl hbA hS (nb_in hin) hd (k H locs ls hD hP hS hl)
theorem l_slen (hC : CX p s m args meth c g cy nL cc Ts own) {b Len : Nat} {xs : Nat → Int32} (hX9 : va_X b Len xs s s.heap) (hbl : b < s.heap.size) (hbA : ¬ A b) (hd : decode cc pc = .ok (.arraylength, 1)) (hp : pc + 1 = pc') (k : V p l e R s m args below meth c g nL cells slots Q A B ws pc' lv (.int (nI Len) :: st)) : V p l e R s m args below meth c g nL cells slots Q A B ws pc lv (.ref b :: st) := by
  subst hp
  intro H locs ls hD hP hS hl
  exact va_slen hC.1 hC.2.1 hX9 hbl hbA hS hd (k H locs ls hD hP hS hl)
end LR2

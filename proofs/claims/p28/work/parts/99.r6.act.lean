/-! ===== the law: an act, and what is alike behind it ===== -/
theorem RG.act {t : Nat} {S : SS} {N2 : Nat → Nat} (h : RG t S) (h9 : FG (t + 1) N2) (hs : st1 S.1 N2) (h0 : 2 ≤ N2 0) (h1 : 2 ≤ N2 1) : RG (t + 1) (actS S N2) := ⟨h.1.act h9 hs, h0, h1⟩
theorem FG_ex {t : Nat} {N : Nat → Nat} {a b : Nat} (h : FG t N) (hn : N 0 < 14) (ha : a < 5) (hb : b < 14) : FG (t + 1) (exN N a b) ∧ st1 N (exN N a b) := by
  have e1 : exN N a b 1 = N 1 := exN_lo (by omega) (by omega)
  have e0 : exN N a b 0 = N 0 + 1 := exN_0
  exact ⟨⟨(Inv_ex h.1 hn ha hb).mono (by omega), GW_ex h.1 hn h.2⟩, ⟨by omega, by omega⟩⟩
theorem FG_sc {t : Nat} {N : Nat → Nat} {a b c d e : Nat} (h : FG t N) (hn : N 1 < 10) (ha : a < 5) (hb : 1 ≤ b ∧ b ≤ 6) (hc : c < 10) (hd : d < 4) (he : e ≤ 240) : FG (t + 1) (scN N a b c d e) ∧ st1 N (scN N a b c d e) := by
  have e0 : scN N a b c d e 0 = N 0 := scN_lo (by omega) (by omega)
  have e1 : scN N a b c d e 1 = N 1 + 1 := scN_1
  exact ⟨⟨(Inv_sc h.1 hn ha hb hc hd he).mono (by omega), GW_sc h.1 hn h.2⟩, ⟨by omega, by omega⟩⟩
theorem fEx_n {S : SS} {a b : Nat} (ha : a < 5) (hb : b < 14) : fEx S (nI a) (nI b) = if S.1 0 < 14 then (nI (S.1 0), actS S (exN S.1 a b)) else (-9999003, S) := by
  unfold fEx
  rw [if_pos ⟨nbt ha (by omega), nbt hb (by omega)⟩, tn (by omega), tn (by omega)]
theorem fSc_n {S : SS} {a b c d e : Nat} (ha : a < 5) (hb : 1 ≤ b ∧ b ≤ 6) (hc : c < 10) (hd : d < 4) (he : 10 ≤ e ∧ e ≤ 240) : fSc S (nI a) (nI b) (nI c) (nI d) (nI e) = if S.1 1 < 10 then (nI (S.1 1), actS S (scN S.1 a b c d e)) else (-9999003, S) := by
  unfold fSc
  rw [if_pos ((nsB_n (by omega) (by omega) (by omega) (by omega) (by omega)).mpr (by omega)), tn (by omega), tn (by omega), tn (by omega), tn (by omega), tn (by omega)]
theorem RG_ex {t : Nat} {S : SS} {a b : Nat} (h : RG t S) (ha : a < 5) (hb : b < 14) : RG (t + 1) (fEx S (nI a) (nI b)).2 := by
  rw [fEx_n ha hb]
  by_cases c : S.1 0 < 14
  · rw [if_pos c]
    obtain ⟨q1, q2⟩ := FG_ex h.1.1 c ha hb
    have e1 : exN S.1 a b 1 = S.1 1 := exN_lo (by omega) (by omega)
    have e0 : exN S.1 a b 0 = S.1 0 + 1 := exN_0
    have := h.2
    exact h.act q1 q2 (by omega) (by omega)
  · rw [if_neg c]
    exact h.mono (by omega)
theorem RG_sc {t : Nat} {S : SS} {a b c d e : Nat} (h : RG t S) (ha : a < 5) (hb : 1 ≤ b ∧ b ≤ 6) (hc : c < 10) (hd : d < 4) (he : 10 ≤ e ∧ e ≤ 240) : RG (t + 1) (fSc S (nI a) (nI b) (nI c) (nI d) (nI e)).2 := by
  rw [fSc_n ha hb hc hd he]
  by_cases q : S.1 1 < 10
  · rw [if_pos q]
    obtain ⟨q1, q2⟩ := FG_sc (e := e) h.1.1 q ha hb hc hd he.2
    have e0 : scN S.1 a b c d e 0 = S.1 0 := scN_lo (by omega) (by omega)
    have e1 : scN S.1 a b c d e 1 = S.1 1 + 1 := scN_1
    have := h.2
    exact h.act q1 q2 (by omega) (by omega)
  · rw [if_neg q]
    exact h.mono (by omega)
theorem RG_sh {t : Nat} {S : SS} {s : Nat} (h : RG t S) (ht : t ≤ 9000) (hs : s < S.1 1) : RG (t + 1) (fSh S (nI s)).2 := by
  have hsn := h.1.1.1.sn
  by_cases hc : cwN S.1 s = 0
  · rw [fSh_no hs (by omega) hc]
    exact h.mono (by omega)
  · rw [fSh_ok hs (by omega) hc]
    obtain ⟨q1, q2, q3, q4⟩ := FG_sh h.1.1 ht hs hc
    have := h.2
    exact h.act q1 q2 (by omega) (by omega)
theorem RG_re {t : Nat} {S : SS} {s a b : Nat} (h : RG t S) (hs : s < S.1 1) (ha : a < S.1 0) (hb : b < S.1 0) : RG (t + 1) (fRe S (nI s) (nI a) (nI b)).2 := by
  have hsn := h.1.1.1.sn
  have hec := h.1.1.1.ec
  unfold fRe
  rw [if_pos ⟨nbt hs (by omega), nbt ha (by omega), nbt hb (by omega)⟩, tn (by omega), tn (by omega), tn (by omega)]
  by_cases c : crB S.1 s a b = true
  · rw [if_pos c]
    have e0 : reN S.1 s a b 0 = S.1 0 := nset_ne _ _ (by omega)
    have e1 : reN S.1 s a b 1 = S.1 1 := nset_ne _ _ (by omega)
    have := h.2
    exact h.act ⟨(Inv_rep h.1.1.1 hs (by omega) c).mono (by omega), GW_rep h.1.1.1 hs ha hb c h.1.1.2⟩ ⟨by omega, by omega⟩ (by omega) (by omega)
  · rw [if_neg c]
    exact h.mono (by omega)
theorem RG_me {t : Nat} {S : SS} (h : RG t S) : RG (t + 1) (fMe S).2 := by
  have hec := h.1.1.1.ec
  have e0 : mlC S.1 (S.1 0) 0 = S.1 0 := mlC_lo (by omega) hec
  have e1 : mlC S.1 (S.1 0) 1 = S.1 1 := mlC_lo (by omega) hec
  have := h.2
  exact h.act ⟨(Inv_meal h.1.1.1).mono (by omega), GW_meal h.1.1.1 h.1.1.2⟩ ⟨by omega, by omega⟩ (by omega) (by omega)
theorem RG_nx {t : Nat} {S : SS} (h : RG t S) : RG (t + 1) (fNx S).2 := by
  have hec := h.1.1.1.ec
  have e0 : nxN S.1 0 = S.1 0 := nxN_out hec (by omega) (by omega)
  have e1 : nxN S.1 1 = S.1 1 := nxN_out hec (by omega) (by omega)
  have := h.2
  exact h.act ⟨Inv_next h.1.1.1, GW_next h.1.1.1 h.1.1.2⟩ ⟨by omega, by omega⟩ (by omega) (by omega)
theorem RG_se {t : Nat} {S : SS} {k v : Nat} (h : RG t S) (hk : k < 100000) (hv : v < 100000) : RG (t + 1) (fSe S (nI k) (nI v)).2 := by
  unfold fSe
  by_cases c : stB (nI k) (nI v) = true
  · rw [if_pos c, tn (by omega), tn (by omega)]
    have c2 := (stB_n hk hv).mp c
    have e0 : seN S.1 k v 0 = S.1 0 := nset_ne _ _ (by omega)
    have e1 : seN S.1 k v 1 = S.1 1 := nset_ne _ _ (by omega)
    have := h.2
    exact h.act ⟨(Inv_set h.1.1.1 (by omega)).mono (by omega), GW_set h.1.1.1 (by omega) h.1.1.2⟩ ⟨by omega, by omega⟩ (by omega) (by omega)
  · rw [if_neg c]
    exact h.mono (by omega)
theorem RG_un {t : Nat} {S : SS} (h : RG t S) (h0 : 3 ≤ S.1 0) (h1 : 3 ≤ S.1 1) : RG (t + 1) (fUn S).2 := by
  by_cases c : S.2.1 = 0
  · have : fUn S = (-9999003, S) := if_pos c
    rw [this]
    exact h.mono (by omega)
  · rw [fUn_pos (by omega)]
    have hst := h.1.2.2.2.1 (by omega)
    unfold st1 at hst
    refine ⟨(h.1.back (by omega)).mono (by omega), ?_, ?_⟩
    · show 2 ≤ S.2.2.1 (S.2.1 - 1) 0
      omega
    · show 2 ≤ S.2.2.1 (S.2.1 - 1) 1
      omega
theorem RG_sa {t : Nat} {S : SS} {i : Nat} (h : RG t S) (hi : i < 2) : RG (t + 1) (fSa S (nI i)).2 := by
  unfold fSa
  rw [if_pos (nbt hi (by omega)), tn (by omega)]
  refine RG.mono (t := t) ?_ (by omega)
  obtain ⟨⟨a1, a2, a3, a4, a5, a6⟩, h0, h1⟩ := h
  refine ⟨⟨a1, a2, a3, a4, a5, fun j hj hf => ?_⟩, h0, h1⟩
  show FG t (va_up S.2.2.2.2 i S.1 j) ∧ 2 ≤ va_up S.2.2.2.2 i S.1 j 0 ∧ 2 ≤ va_up S.2.2.2.2 i S.1 j 1
  by_cases c : j = i
  · subst c
    rw [va_up_self]
    exact ⟨a1, h0, h1⟩
  · rw [va_up_ne _ _ c]
    have hf : nset S.2.2.2.1 i 1 j = 1 := hf
    rw [nset_ne _ _ c] at hf
    exact a6 j hj hf
theorem RG_ba {t : Nat} {S : SS} {i : Nat} (h : RG t S) (hi : i < 2) : RG (t + 1) (fBa S (nI i)).2 := by
  unfold fBa
  rw [if_pos (nbt hi (by omega)), tn (by omega)]
  by_cases c : S.2.2.2.1 i = 1
  · rw [if_pos c]
    refine RG.mono (t := t) ?_ (by omega)
    obtain ⟨⟨a1, a2, a3, a4, a5, a6⟩, h0, h1⟩ := h
    obtain ⟨b1, b2, b3⟩ := a6 i hi c
    exact ⟨⟨b1, Nat.zero_le _, fun j hj => absurd hj (Nat.not_lt_zero j), fun q => absurd q (Nat.lt_irrefl 0), fun j hj => absurd hj (Nat.not_lt_zero _), a6⟩, b2, b3⟩
  · rw [if_neg c]
    exact h.mono (by omega)
theorem act_ok {t : Nat} {S : SS} {X : Nat} (h : RG t S) (ht : t ≤ 8000) (hX : X < 2147483648) : ∃ v S2, pL_act S (nI X) = some (v, S2) ∧ RG (t + 1) S2 := by
  have hsn := h.1.1.1.sn
  have hec := h.1.1.1.ec
  have g0 := h.2.1
  have g1 := h.2.2
  have e0 : aAb S.1 (nI 0) = nI (S.1 0) := aAb_n (by omega)
  have e1 : aAb S.1 (nI 1) = nI (S.1 1) := aAb_n (by omega)
  have en0 : ¬ nI (S.1 0) = 0 := fun q => by have := (zeq0 (by omega)).mp q; omega
  have en1 : ¬ nI (S.1 1) = 0 := fun q => by have := (zeq0 (by omega)).mp q; omega
  have d16 : nI X / nI 16 = nI (X / 16) := zdiv hX (by omega) (by omega)
  have d32 : nI X / nI 32 = nI (X / 32) := zdiv hX (by omega) (by omega)
  have d48 : nI X / nI 48 = nI (X / 48) := zdiv hX (by omega) (by omega)
  have d96 : nI X / nI 96 = nI (X / 96) := zdiv hX (by omega) (by omega)
  have d160 : nI X / nI 160 = nI (X / 160) := zdiv hX (by omega) (by omega)
  have d192 : nI X / nI 192 = nI (X / 192) := zdiv hX (by omega) (by omega)
  have d384 : nI X / nI 384 = nI (X / 384) := zdiv hX (by omega) (by omega)
  have d2240 : nI X / nI 2240 = nI (X / 2240) := zdiv hX (by omega) (by omega)
  have r0 : nI X - nI (X / 16) * nI 16 = nI (X % 16) := by rw [← d16]; exact zrem hX (by omega) (by omega)
  have r1 : ∀ d n, 0 < d → d < 2147483648 → n < 2147483648 → nI n - nI n / nI d * nI d = nI (n % d) := fun d n h1 h2 h3 => zrem h3 h1 h2
  have a1 : nI (X / 16) - nI (X / 16) / nI 2 * nI 2 = nI (X / 16 % 2) := r1 _ _ (by omega) (by omega) (by omega)
  have a2 : nI (X / 32) - nI (X / 32) / nI 8 * nI 8 = nI (X / 32 % 8) := r1 _ _ (by omega) (by omega) (by omega)
  have a3 : nI (X / 32) - nI (X / 32) / nI 3 * nI 3 = nI (X / 32 % 3) := r1 _ _ (by omega) (by omega) (by omega)
  have a4 : nI (X / 96) - nI (X / 96) / nI 2 * nI 2 = nI (X / 96 % 2) := r1 _ _ (by omega) (by omega) (by omega)
  have a5 : nI (X / 192) - nI (X / 192) / nI 2 * nI 2 = nI (X / 192 % 2) := r1 _ _ (by omega) (by omega) (by omega)
  have a6 : nI (X / 384) - nI (X / 384) / nI 231 * nI 231 = nI (X / 384 % 231) := r1 _ _ (by omega) (by omega) (by omega)
  have a7 : nI (X / 16) - nI (X / 16) / nI (S.1 1) * nI (S.1 1) = nI (X / 16 % S.1 1) := r1 _ _ (by omega) (by omega) (by omega)
  have a8 : nI (X / 160) - nI (X / 160) / nI (S.1 0) * nI (S.1 0) = nI (X / 160 % S.1 0) := r1 _ _ (by omega) (by omega) (by omega)
  have a9 : nI (X / 2240) - nI (X / 2240) / nI (S.1 0) * nI (S.1 0) = nI (X / 2240 % S.1 0) := r1 _ _ (by omega) (by omega) (by omega)
  have a10 : nI (X / 16) - nI (X / 16) / nI 3 * nI 3 = nI (X / 16 % 3) := r1 _ _ (by omega) (by omega) (by omega)
  have a11 : nI (X / 48) - nI (X / 48) / nI 700 * nI 700 = nI (X / 48 % 700) := r1 _ _ (by omega) (by omega) (by omega)
  have a12 : nI (X / 32) - nI (X / 32) / nI 2 * nI 2 = nI (X / 32 % 2) := r1 _ _ (by omega) (by omega) (by omega)
  have ms : X / 16 % S.1 1 < S.1 1 := Nat.mod_lt _ (by omega)
  have ma : X / 160 % S.1 0 < S.1 0 := Nat.mod_lt _ (by omega)
  have mb : X / 2240 % S.1 0 < S.1 0 := Nat.mod_lt _ (by omega)
  unfold pL_act pL_act_100 pL_act_121 pL_act_165 pL_act_241 pL_act_265 pL_act_252 pL_act_306
  simp only [e0, e1, d16, d32, d48, d96, d160, d192, d384, d2240, r0, a1, a2, a3, a4, a5, a6, a7, a8, a9, a10, a11, a12, zadd]
  have hsh := RG_sh h (by omega) ms
  have hex := RG_ex (a := X / 16 % 2) (b := X / 32 % 8) h (by omega) (by omega)
  have hsc := RG_sc (a := X / 16 % 2) (b := 1 + X / 32 % 3) (c := X / 96 % 2) (d := X / 192 % 2) (e := 10 + X / 384 % 231) h (by omega) (by omega) (by omega) (by omega) (by omega)
  have hre := RG_re h ms ma mb
  have hse := RG_se (k := X / 16 % 3) (v := X / 48 % 700) h (by omega) (by omega)
  have hsa := RG_sa (i := X / 32 % 2) h (by omega)
  have hba := RG_ba (i := X / 32 % 2) h (by omega)
  rw [if_pos en1, if_pos en0, if_pos en0]
  by_cases q0 : nI (X % 16) = nI 0
  · rw [if_pos q0]; exact ⟨_, _, rfl, hex⟩
  rw [if_neg q0]
  by_cases q1 : nI (X % 16) = nI 1
  · rw [if_pos q1]; exact ⟨_, _, rfl, hex⟩
  rw [if_neg q1]
  by_cases q2 : nI (X % 16) = nI 2
  · rw [if_pos q2]; exact ⟨_, _, rfl, hex⟩
  rw [if_neg q2]
  by_cases q3 : nI (X % 16) = nI 3
  · rw [if_pos q3]; exact ⟨_, _, rfl, hsc⟩
  rw [if_neg q3]
  by_cases q4 : nI (X % 16) = nI 4
  · rw [if_pos q4]; exact ⟨_, _, rfl, hsc⟩
  rw [if_neg q4]
  by_cases q5 : nI (X % 16) = nI 5
  · rw [if_pos q5]; exact ⟨_, _, rfl, hsh⟩
  rw [if_neg q5]
  by_cases q6 : nI (X % 16) = nI 6
  · rw [if_pos q6]; exact ⟨_, _, rfl, hsh⟩
  rw [if_neg q6]
  by_cases q7 : nI (X % 16) = nI 7
  · rw [if_pos q7]; exact ⟨_, _, rfl, hsh⟩
  rw [if_neg q7]
  by_cases q8 : nI (X % 16) = nI 8
  · rw [if_pos q8]; exact ⟨_, _, rfl, hsh⟩
  rw [if_neg q8]
  by_cases q9 : nI (X % 16) = nI 9
  · rw [if_pos q9]; exact ⟨_, _, rfl, hre⟩
  rw [if_neg q9]
  by_cases q10 : nI (X % 16) = nI 10
  · rw [if_pos q10]; exact ⟨_, _, rfl, RG_me h⟩
  rw [if_neg q10]
  by_cases q11 : nI (X % 16) = nI 11
  · rw [if_pos q11]
    by_cases p : nI (X / 16 % 3) = 0
    · rw [if_pos p]; exact ⟨_, _, rfl, RG_nx h⟩
    · rw [if_neg p]; exact ⟨_, _, rfl, hse⟩
  rw [if_neg q11]
  by_cases q12 : nI (X % 16) = nI 12
  · rw [if_pos q12]
    by_cases p : nI (S.1 0) < nI 3
    · rw [if_pos p]; exact ⟨_, _, rfl, h.mono (by omega)⟩
    · rw [if_neg p]
      by_cases p2 : nI 3 ≤ nI (S.1 1)
      · rw [if_pos p2]
        refine ⟨_, _, rfl, RG_un h ?_ ?_⟩
        · have : ¬ S.1 0 < 3 := fun q => p ((zlt (by omega) (by omega)).mpr q)
          omega
        · exact (zle (by omega) (by omega)).mp p2
      · rw [if_neg p2]; exact ⟨_, _, rfl, h.mono (by omega)⟩
  rw [if_neg q12]
  by_cases q13 : nI (X % 16) = nI 13
  · rw [if_pos q13]
    by_cases p : nI (X / 16 % 2) = 0
    · rw [if_pos p]; exact ⟨_, _, rfl, hsa⟩
    · rw [if_neg p]; exact ⟨_, _, rfl, hba⟩
  rw [if_neg q13]
  exact ⟨_, _, rfl, hsh⟩
theorem alike_47 {N : Nat → Nat} {y : Int32} : ∀ (k j : Nat), j ≤ 14 → 14 - j < k → pL_alike_47 N N k y (nI 1) (nI j) = some (nI 1) := by
  intro k
  induction k with
  | zero => intro j h1 h2; omega
  | succ k ih =>
    intro j h1 h2
    rw [pL_alike_47_s]
    by_cases hj : 14 ≤ j
    · rw [if_pos ((zle (by omega) (by omega)).mpr hj)]
      rfl
    · rw [if_neg (fun q => hj ((zle (by omega) (by omega)).mp q)), if_neg nI1, if_pos rfl, if_pos rfl, if_pos rfl, if_pos rfl, if_pos rfl, if_pos rfl]
      unfold pL_alike_203
      rw [zadd]
      exact ih (j + 1) (by omega) (by omega)
theorem alike_ok (N : Nat → Nat) (x : Int32) : pL_alike N N x = some (nI 1) := by
  unfold pL_alike
  rw [if_pos rfl, if_pos rfl]
  exact alike_47 16 0 (by omega) (by omega)

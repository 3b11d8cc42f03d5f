/-! ===== carrying out the commands of the text ===== -/
def exT (N : Nat → Nat) (c : Nat) (vs : List Nat) : Bool × (Nat → Nat) :=
  if c = 101 then (if N 0 < 14 then (true, exN N (vs.getD 0 0) (vs.getD 1 0)) else (false, N))
  else if c = 103 then (decide (cwN N (vs.getD 0 0) ≠ 0), siN N (vs.getD 0 0))
  else if c = 109 then (true, mlC N (N 0))
  else if c = 110 then (true, nxN N)
  else if N 1 < 10 then (true, scN N (vs.getD 0 0) (vs.getD 1 0) (vs.getD 2 0) (vs.getD 3 0) (vs.getD 4 0)) else (false, N)
/-- the numbers read keep their bounds -/
theorem fldP_cons {y : Nat} {T : Nat → Nat} {L r i sp q : Nat} {vs : List Nat} (h : fldP y T L (r + 1) i sp = (some vs, q)) : ∃ v p ws, figL T L (trF y i).2.1 (trF y i).2.2 (trF y i).1 0 sp = (some v, p) ∧ fldP y T L r (i + 1) p = (some ws, q) ∧ vs = v :: ws := by
  rw [fldP] at h
  cases hf : figL T L (trF y i).2.1 (trF y i).2.2 (trF y i).1 0 sp with
  | mk o1 p1 =>
    rw [hf] at h
    cases o1 with
    | none => cases h
    | some v =>
      dsimp only at h
      cases hf2 : fldP y T L r (i + 1) p1 with
      | mk o2 p2 =>
        rw [hf2] at h
        cases o2 with
        | none => cases h
        | some ws => cases h; exact ⟨v, p1, ws, rfl, hf2, rfl⟩
theorem cmdP_e {T : Nat → Nat} {L sp q : Nat} {vs : List Nat} (hc : T sp = 101) (h : cmdP T L sp = (some vs, q)) : ∃ a b p, figL T L 0 4 1 0 (sp + 1) = (some a, p) ∧ figL T L 0 13 2 0 p = (some b, q) ∧ vs = [a, b] := by
  unfold cmdP at h
  rw [hc, if_pos (by decide)] at h
  obtain ⟨a, p, ws, h1, h2, h3⟩ := fldP_cons h
  obtain ⟨b, p2, ws2, h4, h5, h6⟩ := fldP_cons h2
  unfold fldP at h5
  cases h5
  exact ⟨a, b, p, h1, h4, by rw [h3, h6]⟩
theorem cmdP_g {T : Nat → Nat} {L sp q : Nat} {vs : List Nat} (hc : T sp = 103) (h : cmdP T L sp = (some vs, q)) : ∃ a, figL T L 0 9 1 0 (sp + 1) = (some a, q) ∧ vs = [a] := by
  unfold cmdP at h
  rw [hc, if_pos (by decide)] at h
  change fldP 2 T L 1 0 (sp + 1) = (some vs, q) at h
  obtain ⟨a, p, ws, h1, h2, h3⟩ := fldP_cons h
  unfold fldP at h2
  cases h2
  exact ⟨a, h1, h3⟩
theorem cmdP_s {T : Nat → Nat} {L sp q : Nat} {vs : List Nat} (hc : T sp = 115) (h : cmdP T L sp = (some vs, q)) : ∃ a b c d e p1 p2 p3 p4, figL T L 0 4 1 0 (sp + 1) = (some a, p1) ∧ figL T L 1 6 1 0 p1 = (some b, p2) ∧ figL T L 0 9 1 0 p2 = (some c, p3) ∧ figL T L 0 3 1 0 p3 = (some d, p4) ∧ figL T L 10 240 3 0 p4 = (some e, q) ∧ vs = [a, b, c, d, e] := by
  unfold cmdP at h
  rw [hc, if_pos (by decide)] at h
  obtain ⟨a, p1, w1, h1, g1, k1⟩ := fldP_cons h
  obtain ⟨b, p2, w2, h2, g2, k2⟩ := fldP_cons g1
  obtain ⟨c, p3, w3, h3, g3, k3⟩ := fldP_cons g2
  obtain ⟨d, p4, w4, h4, g4, k4⟩ := fldP_cons g3
  obtain ⟨e, p5, w5, h5, g5, k5⟩ := fldP_cons g4
  unfold fldP at g5
  cases g5
  exact ⟨a, b, c, d, e, p1, p2, p3, p4, h1, h2, h3, h4, h5, by rw [k1, k2, k3, k4, k5]⟩
theorem isC_cases {c : Nat} (h : isC c = true) : c = 101 ∨ c = 103 ∨ c = 109 ∨ c = 110 ∨ c = 115 := by
  unfold isC at h
  simp only [Bool.or_eq_true, decide_eq_true_eq] at h
  omega
theorem cmdP_isC {T : Nat → Nat} {L sp q : Nat} {vs : List Nat} (h : cmdP T L sp = (some vs, q)) : isC (T sp) = true := by
  unfold cmdP at h
  by_cases hc : isC (T sp) = true
  · exact hc
  · rw [if_neg hc] at h; cases h
theorem Inv_exT {t : Nat} {N T : Nat → Nat} {L sp q : Nat} {vs : List Nat} (h : Inv t N) (ht : t ≤ 10000) (hq : cmdP T L sp = (some vs, q)) : Inv (t + 1) (exT N (T sp) vs).2 := by
  have hm : Inv (t + 1) N := h.mono (by omega)
  rcases isC_cases (cmdP_isC hq) with hc | hc | hc | hc | hc
  · obtain ⟨a, b, p, h1, h2, h3⟩ := cmdP_e hc hq
    have g1 := ((figL_good _ _ _ _ _ h1).2 (by omega)).2.1
    have g2 := ((figL_good _ _ _ _ _ h2).2 (by omega)).2.1
    subst h3
    unfold exT
    rw [if_pos hc]
    split
    · rename_i hn
      exact (Inv_ex h hn (show a < 5 by omega) (show b < 14 by omega)).mono (by omega)
    · exact hm
  · unfold exT
    rw [if_neg (by omega), if_pos hc]
    exact Inv_si h ht
  · unfold exT
    rw [if_neg (by omega), if_neg (by omega), if_pos hc]
    exact (Inv_meal h).mono (by omega)
  · unfold exT
    rw [if_neg (by omega), if_neg (by omega), if_neg (by omega), if_pos hc]
    exact Inv_next h
  · obtain ⟨a, b, c, d, e, p1, p2, p3, p4, h1, h2, h3, h4, h5, h6⟩ := cmdP_s hc hq
    have g1 := ((figL_good _ _ _ _ _ h1).2 (by omega))
    have g2 := ((figL_good _ _ _ _ _ h2).2 (by omega))
    have g3 := ((figL_good _ _ _ _ _ h3).2 (by omega))
    have g4 := ((figL_good _ _ _ _ _ h4).2 (by omega))
    have g5 := ((figL_good _ _ _ _ _ h5).2 (by omega))
    subst h6
    unfold exT
    rw [if_neg (by omega), if_neg (by omega), if_neg (by omega), if_neg (by omega)]
    split
    · rename_i hn
      exact (Inv_sc h hn (show a < 5 by omega) (show 1 ≤ b ∧ b ≤ 6 by omega) (show c < 10 by omega) (show d < 4 by omega) (show e ≤ 240 by omega)).mono (by omega)
    · exact hm
theorem bz1 : bz (nI 1) = some (nI 1) := rfl
theorem bz0 : bz (nI 0) = some (nI 0) := rfl
theorem qX8_done (o : Nat) (b : Bool) : pX8_done (nI o) (nI (if b = true then 1 else 0)) = some (nI 1, nI (o + (if b = true then 0 else 1))) := by
  unfold pX8_done pX8_done_14
  cases b
  · rw [if_neg (c := false = true) (by decide), if_pos nI0, if_neg (c := false = true) (by decide), zadd]
  · rw [if_pos (c := true = true) rfl, if_neg nI1, if_pos (c := true = true) rfl, zadd]
def RC (c : Nat) (o : Nat) (N : Nat → Nat) (r : Option (List Nat) × Nat) : Int32 × Int32 × Int32 × (Nat → Int32) := match r with
  | (none, q) => (nI 0, nI q, nI o, rI N)
  | (some vs, q) => (nI 1, nI q, nI (o + (if (exT N c vs).1 = true then 0 else 1)), rI (exT N c vs).2)
theorem figA_some (T : Nat → Nat) (L x d lo hi sp : Nat) : figA T L (some x) d lo hi sp = figL T L lo hi d 0 sp := rfl
theorem figA_none (T : Nat → Nat) (L d lo hi sp : Nat) : figA T L none d lo hi sp = (none, sp) := rfl
theorem oI_none : oI none = -1 := rfl
theorem oI_some (x : Nat) : oI (some x) = nI x := rfl
theorem cmdP_e0 {T : Nat → Nat} {L sp : Nat} (hc : T sp = 101) : cmdP T L sp = fldP 0 T L 2 0 (sp + 1) := by
  unfold cmdP
  rw [hc, if_pos (by decide)]; rfl
theorem cmdP_g0 {T : Nat → Nat} {L sp : Nat} (hc : T sp = 103) : cmdP T L sp = fldP 2 T L 1 0 (sp + 1) := by
  unfold cmdP
  rw [hc, if_pos (by decide)]; rfl
theorem cmdP_s0 {T : Nat → Nat} {L sp : Nat} (hc : T sp = 115) : cmdP T L sp = fldP 1 T L 5 0 (sp + 1) := by
  unfold cmdP
  rw [hc, if_pos (by decide)]; rfl
theorem fldP_1 {y : Nat} {T : Nat → Nat} {L r i sp d lo hi : Nat} (ht : trF y i = (d, lo, hi)) : fldP y T L (r + 1) i sp = match figL T L lo hi d 0 sp with
    | (none, p) => (none, p)
    | (some v, p) => match fldP y T L r (i + 1) p with
      | (none, q) => (none, q)
      | (some vs, q) => (some (v :: vs), q) := by
  rw [fldP, ht]
  rfl
theorem fldP_0 {y : Nat} {T : Nat → Nat} {L i sp : Nat} : fldP y T L 0 i sp = (some [], sp) := rfl
theorem qX8_readE {t : Nat} {N T : Nat → Nat} {L sp o : Nat} (h : Inv t N) (ht : t ≤ 10000) (hT : ∀ j, T j < 1000) (hL : L ≤ 120) (hs : sp < L) (hc : T sp = 101) : pX8_readCommand (nI L) (nI sp) (nI o) (rI T) (rI N) = some (RC 101 o N (cmdP T L sp)) := by
  have h0 := h.ec
  unfold pX8_readCommand pX8_readCommand_145 pX8_readCommand_146 pX8_readCommand_156 pX8_readCommand_157
  rw [if_pos ((znb (by omega)).mpr (by omega)), zcl (by omega), rI_at, hc, if_pos rfl, zadd, show nI 0 = oI (some 0) from rfl, show oI (some 0) = nI 0 from rfl]
  have q1 := qX8_figures (T := T) (L := L) (lo := 0) (hi := 4) (d := 1) (sp := sp + 1) (a := some 0) hT hL (fun x hx => by cases hx; omega) (by omega) (by omega) (Or.inl rfl) (by omega)
  rw [oI_some] at q1
  rw [q1, ob, figA_some, cmdP_e0 hc, fldP_1 (d := 1) (lo := 0) (hi := 4) rfl]
  cases hf : figL T L 0 4 1 0 (sp + 1) with
  | mk o1 p1 =>
    dsimp only
    cases o1 with
    | none =>
      have k1 := figL_none _ _ _ _ hf (by omega)
      rw [qX8_figures hT hL (fun x hx => by cases hx) (by omega) (by omega) (Or.inr (Or.inl rfl)) (by omega), ob, figA_none, oI_none, if_pos rfl, bz0, ob]
      rfl
    | some a =>
      have ⟨k1, k2⟩ := figL_good _ _ _ _ _ hf
      have k3 := k2 (by omega)
      rw [qX8_figures hT hL (fun x hx => by cases hx; omega) (by omega) (by omega) (Or.inr (Or.inl rfl)) (by omega), ob, figA_some]
      dsimp only
      rw [fldP_1 (d := 2) (lo := 0) (hi := 13) rfl]
      cases hf2 : figL T L 0 13 2 0 p1 with
      | mk o2 p2 =>
        dsimp only
        cases o2 with
        | none => rw [oI_none, if_pos rfl, bz0, ob]; rfl
        | some b =>
          have ⟨m1, m2⟩ := figL_good _ _ _ _ _ hf2
          have m3 := m2 (by omega)
          dsimp only
          rw [oI_some, if_neg (fun h => (zm1 (by omega)).mp h), if_pos ((znb (by omega)).mpr (by omega)), zcl (by omega), rI_at, fldP_0]
          by_cases hn : N 0 < 14
          · rw [if_neg (fun h => by have := (zle (by omega) (by omega)).mp h; omega), oI_some, qX8_extraOn h hn, ob, if_neg (fun h => (zlt0 (by omega)).mp h)]
            have := qX8_done o true
            rw [if_pos rfl, if_pos rfl] at this
            rw [this, ob, if_neg nI1, bz1, ob]
            unfold RC exT
            dsimp only
            rw [if_pos (c := 101 = 101) rfl, if_pos hn]
            rfl
          · rw [if_pos ((zle (by omega) (by omega)).mpr (by omega))]
            have := qX8_done o false
            rw [if_neg (by decide), if_neg (by decide)] at this
            rw [this, ob, if_neg nI1, bz1, ob]
            unfold RC exT
            dsimp only
            rw [if_pos (c := 101 = 101) rfl, if_neg hn]
            rfl
theorem qX8_readG {t : Nat} {N T : Nat → Nat} {L sp o : Nat} (h : Inv t N) (ht : t ≤ 10000) (hT : ∀ j, T j < 1000) (hL : L ≤ 120) (hs : sp < L) (hc : T sp = 103) : pX8_readCommand (nI L) (nI sp) (nI o) (rI T) (rI N) = some (RC 103 o N (cmdP T L sp)) := by
  unfold pX8_readCommand pX8_readCommand_200 pX8_readCommand_201 pX8_readCommand_211 pX8_readCommand_212
  rw [if_pos ((znb (by omega)).mpr (by omega)), zcl (by omega), rI_at, hc, if_neg (c := nI 103 = nI 101) (by decide), if_pos (c := nI 103 = nI 103) rfl, zadd]
  have q1 := qX8_figures (T := T) (L := L) (lo := 0) (hi := 9) (d := 1) (sp := sp + 1) (a := some 0) hT hL (fun x hx => by cases hx; omega) (by omega) (by omega) (Or.inl rfl) (by omega)
  rw [oI_some] at q1
  rw [q1, ob, figA_some, cmdP_g0 hc, fldP_1 (d := 1) (lo := 0) (hi := 9) rfl]
  cases hf : figL T L 0 9 1 0 (sp + 1) with
  | mk o1 p1 =>
    dsimp only
    cases o1 with
    | none => rw [oI_none, if_pos rfl, bz0, ob]; rfl
    | some a =>
      have ⟨k1, k2⟩ := figL_good _ _ _ _ _ hf
      have k3 := k2 (by omega)
      dsimp only
      rw [oI_some, if_neg (fun h => (zm1 (by omega)).mp h), fldP_0, qX8_canShootW h ht (by omega), ob]
      unfold RC exT
      dsimp only
      rw [if_neg (c := 103 = 101) (by omega), if_pos (c := 103 = 103) rfl]
      show _ = some (nI 1, nI p1, nI (o + if decide (cwN N a ≠ 0) = true then 0 else 1), rI (siN N a))
      by_cases hw : cwN N a = 0
      · rw [if_pos hw, if_pos nI0]
        have := qX8_done o false
        rw [if_neg (by decide), if_neg (by decide)] at this
        rw [this, ob, if_neg nI1, bz1, ob, siN_no hw, decide_eq_false (not_not_intro hw), if_neg (by decide)]
      · have hl := cwN_lt (s := a) h ht
        rw [if_neg hw, if_neg nI1, qX8_shootW h ht (by omega) hw, ob, if_neg (fun h => hw ((zle0 (by omega)).mp h))]
        have := qX8_done o true
        rw [if_pos rfl, if_pos rfl] at this
        rw [this, ob, if_neg nI1, bz1, ob, decide_eq_true hw, if_pos rfl]
theorem qX8_readS {t : Nat} {N T : Nat → Nat} {L sp o : Nat} (h : Inv t N) (ht : t ≤ 10000) (hT : ∀ j, T j < 1000) (hL : L ≤ 120) (hs : sp < L) (hc : T sp = 115) : pX8_readScene (nI L) (nI (sp + 1)) (nI o) (rI T) (rI N) = some (RC 115 o N (cmdP T L sp)) := by
  have h1 := h.sn
  unfold pX8_readScene pX8_readScene_89 pX8_readScene_90 pX8_readScene_100 pX8_readScene_101
  have q1 := qX8_figures (T := T) (L := L) (lo := 0) (hi := 4) (d := 1) (sp := sp + 1) (a := some 0) hT hL (fun x hx => by cases hx; omega) (by omega) (by omega) (Or.inl rfl) (by omega)
  rw [oI_some] at q1
  rw [q1, ob, figA_some, cmdP_s0 hc, fldP_1 (d := 1) (lo := 0) (hi := 4) rfl]
  cases hf : figL T L 0 4 1 0 (sp + 1) with
  | mk o1 p1 =>
    dsimp only
    cases o1 with
    | none =>
      have k1 := figL_none _ _ _ _ hf (by omega)
      rw [qX8_figures hT hL (fun x hx => by cases hx) (by omega) (by omega) (Or.inl rfl) (by omega), ob, figA_none]
      dsimp only
      rw [qX8_figures hT hL (fun x hx => by cases hx) (by omega) (by omega) (Or.inl rfl) (by omega), ob, figA_none]
      dsimp only
      rw [qX8_figures hT hL (fun x hx => by cases hx) (by omega) (by omega) (Or.inl rfl) (by omega), ob, figA_none]
      dsimp only
      rw [qX8_figures hT hL (fun x hx => by cases hx) (by omega) (by omega) (Or.inr (Or.inr rfl)) (by omega), ob, figA_none]
      dsimp only
      rw [oI_none, if_pos rfl, bz0, ob]
      rfl
    | some a =>
      have k3 := (figL_good _ _ _ _ _ hf).2 (by omega)
      rw [qX8_figures hT hL (fun x hx => by cases hx; omega) (by omega) (by omega) (Or.inl rfl) (by omega), ob, figA_some]
      dsimp only
      rw [fldP_1 (d := 1) (lo := 1) (hi := 6) rfl]
      cases hf2 : figL T L 1 6 1 0 p1 with
      | mk o2 p2 =>
        dsimp only
        cases o2 with
        | none =>
          have k1 := figL_none _ _ _ _ hf2 (by omega)
          rw [qX8_figures hT hL (fun x hx => by cases hx) (by omega) (by omega) (Or.inl rfl) (by omega), ob, figA_none]
          dsimp only
          rw [qX8_figures hT hL (fun x hx => by cases hx) (by omega) (by omega) (Or.inl rfl) (by omega), ob, figA_none]
          dsimp only
          rw [qX8_figures hT hL (fun x hx => by cases hx) (by omega) (by omega) (Or.inr (Or.inr rfl)) (by omega), ob, figA_none]
          dsimp only
          rw [oI_none, if_pos rfl, bz0, ob]
          rfl
        | some b =>
          have k4 := (figL_good _ _ _ _ _ hf2).2 (by omega)
          rw [qX8_figures hT hL (fun x hx => by cases hx; omega) (by omega) (by omega) (Or.inl rfl) (by omega), ob, figA_some]
          dsimp only
          rw [fldP_1 (d := 1) (lo := 0) (hi := 9) rfl]
          cases hf3 : figL T L 0 9 1 0 p2 with
          | mk o3 p3 =>
            dsimp only
            cases o3 with
            | none =>
              have k1 := figL_none _ _ _ _ hf3 (by omega)
              rw [qX8_figures hT hL (fun x hx => by cases hx) (by omega) (by omega) (Or.inl rfl) (by omega), ob, figA_none]
              dsimp only
              rw [qX8_figures hT hL (fun x hx => by cases hx) (by omega) (by omega) (Or.inr (Or.inr rfl)) (by omega), ob, figA_none]
              dsimp only
              rw [oI_none, if_pos rfl, bz0, ob]
              rfl
            | some c =>
              have k5 := (figL_good _ _ _ _ _ hf3).2 (by omega)
              rw [qX8_figures hT hL (fun x hx => by cases hx; omega) (by omega) (by omega) (Or.inl rfl) (by omega), ob, figA_some]
              dsimp only
              rw [fldP_1 (d := 1) (lo := 0) (hi := 3) rfl]
              cases hf4 : figL T L 0 3 1 0 p3 with
              | mk o4 p4 =>
                dsimp only
                cases o4 with
                | none =>
                  have k1 := figL_none _ _ _ _ hf4 (by omega)
                  rw [qX8_figures hT hL (fun x hx => by cases hx) (by omega) (by omega) (Or.inr (Or.inr rfl)) (by omega), ob, figA_none]
                  dsimp only
                  rw [oI_none, if_pos rfl, bz0, ob]
                  rfl
                | some d =>
                  have k6 := (figL_good _ _ _ _ _ hf4).2 (by omega)
                  rw [qX8_figures hT hL (fun x hx => by cases hx; omega) (by omega) (by omega) (Or.inr (Or.inr rfl)) (by omega), ob, figA_some]
                  dsimp only
                  rw [fldP_1 (d := 3) (lo := 10) (hi := 240) rfl]
                  cases hf5 : figL T L 10 240 3 0 p4 with
                  | mk o5 p5 =>
                    dsimp only
                    cases o5 with
                    | none => rw [oI_none, if_pos rfl, bz0, ob]; rfl
                    | some e =>
                      have k7 := (figL_good _ _ _ _ _ hf5).2 (by omega)
                      dsimp only
                      rw [oI_some, oI_some, oI_some, oI_some, oI_some, if_neg (fun h => (zm1 (by omega)).mp h), if_pos ((znb (by omega)).mpr (by omega)), zcl (by omega), rI_at, fldP_0]
                      unfold RC exT
                      dsimp only
                      rw [if_neg (c := 115 = 101) (by omega), if_neg (c := 115 = 103) (by omega), if_neg (c := 115 = 109) (by omega), if_neg (c := 115 = 110) (by omega)]
                      by_cases hn : N 1 < 10
                      · rw [if_neg (fun h => by have := (zle (by omega) (by omega)).mp h; omega), qX8_sceneOn h hn, ob, if_neg (fun h => (zlt0 (by omega)).mp h)]
                        have := qX8_done o true
                        rw [if_pos rfl, if_pos rfl] at this
                        rw [this, ob, if_neg nI1, bz1, ob, if_pos hn]
                        rfl
                      · rw [if_pos ((zle (by omega) (by omega)).mpr (by omega))]
                        have := qX8_done o false
                        rw [if_neg (by decide), if_neg (by decide)] at this
                        rw [this, ob, if_neg nI1, bz1, ob, if_neg hn]
                        rfl
theorem lateU_le (N : Nat → Nat) : ∀ n, lateU N n ≤ n := by
  intro n
  induction n with
  | zero => simp [lateU]
  | succ n ih => unfold lateU; split <;> omega
theorem qX8_readCommand {t : Nat} {N T : Nat → Nat} {L sp o : Nat} (h : Inv t N) (ht : t ≤ 10000) (hT : ∀ j, T j < 1000) (hL : L ≤ 120) (hs : sp < L) : pX8_readCommand (nI L) (nI sp) (nI o) (rI T) (rI N) = some (RC (T sp) o N (cmdP T L sp)) := by
  have h0 := h.ec
  have hB := h.sm0 ht
  have htsp := hT sp
  by_cases c1 : T sp = 101
  · rw [c1]; exact qX8_readE h ht hT hL hs c1
  by_cases c2 : T sp = 103
  · rw [c2]; exact qX8_readG h ht hT hL hs c2
  unfold pX8_readCommand pX8_readCommand_226 pX8_readCommand_243 pX8_readCommand_247
  have kk : ∀ n, n < 1000 → T sp ≠ n → ¬ (nI (T sp) = nI n) := fun n hn h1 h2 => h1 ((zeq (by omega) (by omega)).mp h2)
  rw [if_pos ((znb (by omega)).mpr (by omega)), zcl (by omega), rI_at, if_neg (kk 101 (by omega) c1), if_neg (kk 103 (by omega) c2), zadd]
  have d1 := qX8_done o true
  rw [if_pos rfl, if_pos rfl] at d1
  by_cases c3 : T sp = 109
  · have e : cmdP T L sp = (some [], sp + 1) := by
      unfold cmdP
      rw [c3, if_pos (by decide)]; rfl
    rw [e, c3, if_pos rfl, qX8_mealOn h0 (fun j => by have := hB j; omega), ob, if_neg (fun h => (zlt0 (by have := lateU_le N (N 0); omega)).mp h), d1, ob, bz1, ob]
    unfold RC exT
    dsimp only
    rw [if_neg (c := 109 = 101) (by omega), if_neg (c := 109 = 103) (by omega), if_pos (c := 109 = 109) rfl]
    rfl
  rw [if_neg (kk 109 (by omega) c3)]
  by_cases c4 : T sp = 110
  · have e : cmdP T L sp = (some [], sp + 1) := by
      unfold cmdP
      rw [c4, if_pos (by decide)]; rfl
    rw [e, c4, if_pos rfl, qX8_nextOn h0 (fun j => by have := hB j; omega), ob, if_neg (fun h => by have := (zle0 (by have := hB 2; omega)).mp h; omega), d1, ob, bz1, ob]
    unfold RC exT
    dsimp only
    rw [if_neg (c := 110 = 101) (by omega), if_neg (c := 110 = 103) (by omega), if_neg (c := 110 = 109) (by omega), if_pos (c := 110 = 110) rfl]
    rfl
  rw [if_neg (kk 110 (by omega) c4)]
  by_cases c5 : T sp = 115
  · have hb : ∀ r, bz (RC 115 o N r).1 = some (RC 115 o N r).1 := by
      intro r
      rcases r with ⟨a, q⟩
      cases a <;> rfl
    rw [c5, if_pos rfl, qX8_readS h ht hT hL hs c5, ob, hb, ob]
  · rw [if_neg (kk 115 (by omega) c5)]
    have e : cmdP T L sp = (none, sp) := by
      unfold cmdP
      rw [if_neg]
      intro h6
      rcases isC_cases h6 with h7 | h7 | h7 | h7 | h7 <;> omega
    rw [e, zsub (by omega), show sp + 1 - 1 = sp from by omega]
    rfl

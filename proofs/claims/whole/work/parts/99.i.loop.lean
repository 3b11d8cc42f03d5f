/-! ===== the law: its loop ===== -/
theorem l_and31 (x : Int32) : ∃ k, k < 32 ∧ x &&& nI 31 = nI k := by
  obtain ⟨n, hn, e⟩ : ∃ n, n < 2 ^ 32 ∧ x = nI n := ⟨x.toBitVec.toNat, x.toBitVec.isLt, Int32.toBitVec_inj.mp (by show _ = BitVec.ofNat 32 _; simp)⟩
  refine ⟨n % 32, Nat.mod_lt _ (by decide), ?_⟩
  rw [e, zand]
  exact congrArg nI (Nat.and_two_pow_sub_one_eq_mod n 5)
theorem l_more {Len i : Nat} (hL : Len ≤ 3072) (hi : i ≤ 4000) (h : ¬ nI Len - nI 6 < nI i) : i + 6 ≤ Len := by
  rw [zsublt (by omega) (by omega) (by omega)] at h
  omega
theorem law_loop {p : Program} {l : Launch} {e : Env} {s : State} {m : MethodId} {args : Array Value} {below : List Frame} {meth : Method} {c : Code} {Q : State → Prop} {g : va_G} {cy : Nat → ClassId} {A : Nat → Prop} {tt sa : Nat → Nat} {b Len : Nat} {xs : Nat → Int32} {h0 z0 oa : Nat} {a z : Nat → Nat} {AD : Nat → Nat → Nat} (hC : CX p s m args meth c g cy 7 cL_law wsL_law RL) (hX : XL l s tt sa A) (hX9 : va_X b Len xs s s.heap) (hbl : b < s.heap.size) (hbA : ¬ A b) (hLen : Len ≤ 3072)
    (kE : ∀ (i : Nat) {N M' M : Nat → Nat} {o ct : Nat} {R D : Nat → Nat → Nat} {F : Nat → Nat} {P K : Nat → Nat → Nat} {T : Nat → Nat} {L : Nat} {rf sp ou : Int32} {O : Nat → Int64}, V p l e room_1 s m args below meth c g 7 601024 7293034 Q A A (LX cy h0 a AD z0 z oa O (FT N) (FT M') (nI o) (nI ct) (nI (F 0)) (nI (F 1)) (FT (P 0)) (FT (P 1)) (nI L) (rI T) rf (nI L) (nI ct) sp ou (rI T) (rI N) (rI M) (rI (diN D)) (rI (kpN K)) (rI F) ++ HF cy AD (rgD R)) 1567 [(0, .ref b), (1, .ref h0), (2, .ref z0), (3, .ref oa), (4, .int (nI i))] []) : ∀ (n i t cells slots : Nat) {N M' M : Nat → Nat} {o ct : Nat} {R D : Nat → Nat → Nat} {F : Nat → Nat} {P K : Nat → Nat → Nat} {T : Nat → Nat} {L : Nat} {rf sp ou : Int32} {O : Nat → Int64}, Len < i + 6 * n → i ≤ 3078 → t + n ≤ 9000 → cells + 4 * n ≤ 601024 → slots + 24 * n ≤ 7293034 → LI t N M o ct R D F P K T L → V p l e room_1 s m args below meth c g 7 cells slots Q A A (LX cy h0 a AD z0 z oa O (FT N) (FT M') (nI o) (nI ct) (nI (F 0)) (nI (F 1)) (FT (P 0)) (FT (P 1)) (nI L) (rI T) rf (nI L) (nI ct) sp ou (rI T) (rI N) (rI M) (rI (diN D)) (rI (kpN K)) (rI F) ++ HF cy AD (rgD R)) 23 [(0, .ref b), (1, .ref h0), (2, .ref z0), (3, .ref oa), (4, .int (nI i))] [] := by
  intro n
  induction n with
  | zero =>
    intro i t cells slots N M' M o ct R D F P K T L rf sp ou O hlen hi ht hc hs hI
    refine v_iload hC dL_law_23 4 rfl rfl ?_
    refine v_aload_n hC dL_law_25 rfl 0 rfl rfl ?_
    refine l_slen hC hX9 hbl hbA dL_law_26 rfl ?_
    refine v_bipush hC (v := (nI 6)) dL_law_27 (by decide) rfl ?_
    refine v_isub hC dL_law_29 rfl ?_
    refine v_icmp_gt hC (tgt := 1567) dL_law_30 (by decide) rfl (fun _ => ?_) (fun h9 => absurd (l_more hLen (by omega) h9) (by omega))
    exact v_widen (by omega) (by omega) (kE i)
  | succ n ih =>
    intro i t cells slots N M' M o ct R D F P K T L rf sp ou O hlen hi ht hc hs hI
    refine v_iload hC dL_law_23 4 rfl rfl ?_
    refine v_aload_n hC dL_law_25 rfl 0 rfl rfl ?_
    refine l_slen hC hX9 hbl hbA dL_law_26 rfl ?_
    refine v_bipush hC (v := (nI 6)) dL_law_27 (by decide) rfl ?_
    refine v_isub hC dL_law_29 rfl ?_
    refine v_icmp_gt hC (tgt := 1567) dL_law_30 (by decide) rfl (fun _ => v_widen (by omega) (by omega) (kE i)) (fun h9 => ?_)
    have hi6 : i + 6 ≤ Len := l_more hLen (by omega) h9
    have ht9 : t < 9000 := by omega
    have hcs : cells + 4 ≤ 601024 ∧ slots + 24 ≤ 7293034 := ⟨by omega, by omega⟩
    have KK : ∀ {N M' M : Nat → Nat} {o ct : Nat} {R D : Nat → Nat → Nat} {F : Nat → Nat} {P K : Nat → Nat → Nat} {T : Nat → Nat} {L : Nat} {rf sp ou : Int32} {O : Nat → Int64}, LI (t + 1) N M o ct R D F P K T L → V p l e room_1 s m args below meth c g 7 (cells + 4) (slots + 24) Q A A (LX cy h0 a AD z0 z oa O (FT N) (FT M') (nI o) (nI ct) (nI (F 0)) (nI (F 1)) (FT (P 0)) (FT (P 1)) (nI L) (rI T) rf (nI L) (nI ct) sp ou (rI T) (rI N) (rI M) (rI (diN D)) (rI (kpN K)) (rI F) ++ HF cy AD (rgD R)) 1561 [(0, .ref b), (1, .ref h0), (2, .ref z0), (3, .ref oa), (4, .int (nI i))] [] := by
      intro N M' M o ct R D F P K T L rf sp ou O hI2
      refine v_iinc hC dL_law_1561 4 rfl (v := nI (i + 6)) (zadd i 6) (by decide) [(4, .int (nI (i + 6))), (0, .ref b), (1, .ref h0), (2, .ref z0), (3, .ref oa)] rfl rfl ?_
      refine v_goto hC (tgt := 23) dL_law_1564 (by decide) ?_
      refine v_sub [1, 2, 3, 4, 0] (lv' := [(0, .ref b), (1, .ref h0), (2, .ref z0), (3, .ref oa), (4, .int (nI (i + 6)))]) rfl ?_
      exact ih (i + 6) (t + 1) (cells + 4) (slots + 24) (by omega) (by omega) (by omega) (by omega) (by omega) hI2
    refine v_aload_n hC dL_law_33 rfl 0 rfl rfl ?_
    refine v_iload hC dL_law_34 4 rfl rfl ?_
    refine l_sld hC hX9 hbl hbA ((znb (by omega)).mpr (by omega)) dL_law_36 rfl ?_
    refine v_bipush hC (v := (nI 31)) dL_law_37 (by decide) rfl ?_
    refine v_iand hC dL_law_39 rfl ?_
    obtain ⟨k9, hk9, e9⟩ := l_and31 (xs (nI i).toNatClampNeg)
    by_cases hk : 25 ≤ k9
    · have hdo : (xs (nI i).toNatClampNeg &&& nI 31).toInt < 0 ∨ 24 < (xs (nI i).toNatClampNeg &&& nI 31).toInt := by
        rw [e9, nI_toInt (by omega)]
        omega
      refine v_tswO hC (tgt := 1561) dL_law_40 hdo (by decide) ?_
      refine v_widen (k := cells + 4) (n := slots + 24) (by omega) (by omega) ?_
      exact KK hI.up
    · rcases (show k9 = 0 ∨ k9 = 1 ∨ k9 = 2 ∨ k9 = 3 ∨ k9 = 4 ∨ k9 = 5 ∨ k9 = 6 ∨ k9 = 7 ∨ k9 = 8 ∨ k9 = 9 ∨ k9 = 10 ∨ k9 = 11 ∨ k9 = 12 ∨ k9 = 13 ∨ k9 = 14 ∨ k9 = 15 ∨ k9 = 16 ∨ k9 = 17 ∨ k9 = 18 ∨ k9 = 19 ∨ k9 = 20 ∨ k9 = 21 ∨ k9 = 22 ∨ k9 = 23 ∨ k9 = 24 by omega) with rfl | rfl | rfl | rfl | rfl | rfl | rfl | rfl | rfl | rfl | rfl | rfl | rfl | rfl | rfl | rfl | rfl | rfl | rfl | rfl | rfl | rfl | rfl | rfl | rfl
      · exact v_tswI hC (tgt := 156) (off := 116) dL_law_40 e9 (by decide) (by decide) rfl (by decide) (lc_append hC hX hX9 hbl hbA hLen hi6 ht9 hI hcs KK)
      · exact v_tswI hC (tgt := 212) (off := 172) dL_law_40 e9 (by decide) (by decide) rfl (by decide) (lc_clearText hC hX hX9 hbl hbA hLen hi6 ht9 hI hcs KK)
      · exact v_tswI hC (tgt := 225) (off := 185) dL_law_40 e9 (by decide) (by decide) rfl (by decide) (lc_errorPosition hC hX hX9 hbl hbA hLen hi6 ht9 hI hcs KK)
      · exact v_tswI hC (tgt := 238) (off := 198) dL_law_40 e9 (by decide) (by decide) rfl (by decide) (lc_load hC hX hX9 hbl hbA hLen hi6 ht9 hI hcs KK)
      · exact v_tswI hC (tgt := 282) (off := 242) dL_law_40 e9 (by decide) (by decide) rfl (by decide) (lc_about hC hX hX9 hbl hbA hLen hi6 ht9 hI hcs KK)
      · exact v_tswI hC (tgt := 338) (off := 298) dL_law_40 e9 (by decide) (by decide) rfl (by decide) (lc_extraOf hC hX hX9 hbl hbA hLen hi6 ht9 hI hcs KK)
      · exact v_tswI hC (tgt := 406) (off := 366) dL_law_40 e9 (by decide) (by decide) rfl (by decide) (lc_sceneOf hC hX hX9 hbl hbA hLen hi6 ht9 hI hcs KK)
      · exact v_tswI hC (tgt := 474) (off := 434) dL_law_40 e9 (by decide) (by decide) rfl (by decide) (lc_setting hC hX hX9 hbl hbA hLen hi6 ht9 hI hcs KK)
      · exact v_tswI hC (tgt := 530) (off := 490) dL_law_40 e9 (by decide) (by decide) rfl (by decide) (lc_extra hC hX hX9 hbl hbA hLen hi6 ht9 hI hcs KK)
      · exact v_tswI hC (tgt := 598) (off := 558) dL_law_40 e9 (by decide) (by decide) rfl (by decide) (lc_scene hC hX hX9 hbl hbA hLen hi6 ht9 hI hcs KK)
      · exact v_tswI hC (tgt := 702) (off := 662) dL_law_40 e9 (by decide) (by decide) rfl (by decide) (lc_shoot hC hX hX9 hbl hbA hLen hi6 ht9 hI hcs KK)
      · exact v_tswI hC (tgt := 758) (off := 718) dL_law_40 e9 (by decide) (by decide) rfl (by decide) (lc_replace hC hX hX9 hbl hbA hLen hi6 ht9 hI hcs KK)
      · exact v_tswI hC (tgt := 838) (off := 798) dL_law_40 e9 (by decide) (by decide) rfl (by decide) (lc_meal hC hX hX9 hbl hbA hLen hi6 ht9 hI hcs KK)
      · exact v_tswI hC (tgt := 851) (off := 811) dL_law_40 e9 (by decide) (by decide) rfl (by decide) (lc_nextDay hC hX hX9 hbl hbA hLen hi6 ht9 hI hcs KK)
      · exact v_tswI hC (tgt := 864) (off := 824) dL_law_40 e9 (by decide) (by decide) rfl (by decide) (lc_set hC hX hX9 hbl hbA hLen hi6 ht9 hI hcs KK)
      · exact v_tswI hC (tgt := 932) (off := 892) dL_law_40 e9 (by decide) (by decide) rfl (by decide) (lc_undo hC hX hX9 hbl hbA hLen hi6 ht9 hI hcs KK)
      · exact v_tswI hC (tgt := 976) (off := 936) dL_law_40 e9 (by decide) (by decide) rfl (by decide) (lc_would hC hX hX9 hbl hbA hLen hi6 ht9 hI hcs KK)
      · exact v_tswI hC (tgt := 1044) (off := 1004) dL_law_40 e9 (by decide) (by decide) rfl (by decide) (lc_why hC hX hX9 hbl hbA hLen hi6 ht9 hI hcs KK)
      · exact v_tswI hC (tgt := 1112) (off := 1072) dL_law_40 e9 (by decide) (by decide) rfl (by decide) (lc_cheapest hC hX hX9 hbl hbA hLen hi6 ht9 hI hcs KK)
      · exact v_tswI hC (tgt := 1125) (off := 1085) dL_law_40 e9 (by decide) (by decide) rfl (by decide) (lc_lacks hC hX hX9 hbl hbA hLen hi6 ht9 hI hcs KK)
      · exact v_tswI hC (tgt := 1181) (off := 1141) dL_law_40 e9 (by decide) (by decide) rfl (by decide) (lc_order hC hX hX9 hbl hbA hLen hi6 ht9 hI hcs KK)
      · exact v_tswI hC (tgt := 1249) (off := 1209) dL_law_40 e9 (by decide) (by decide) rfl (by decide) (lc_runScript hC hX hX9 hbl hbA hLen hi6 ht9 hI hcs KK)
      · exact v_tswI hC (tgt := 1349) (off := 1309) dL_law_40 e9 (by decide) (by decide) rfl (by decide) (lc_simulate hC hX hX9 hbl hbA hLen hi6 ht9 hI hcs KK)
      · exact v_tswI hC (tgt := 1449) (off := 1409) dL_law_40 e9 (by decide) (by decide) rfl (by decide) (lc_save hC hX hX9 hbl hbA hLen hi6 ht9 hI hcs KK)
      · exact v_tswI hC (tgt := 1505) (off := 1465) dL_law_40 e9 (by decide) (by decide) rfl (by decide) (lc_restore hC hX hX9 hbl hbA hLen hi6 ht9 hI hcs KK)

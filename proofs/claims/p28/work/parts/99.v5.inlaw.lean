/-! ===== the law's words are in the tables ===== -/
set_option maxRecDepth 20000 in
theorem lawinX7 : ∀ w ∈ wsX70, w ∈ lw_tbl := by decide +kernel
set_option maxRecDepth 20000 in
theorem lawinX0 : ∀ w ∈ wsX00, w ∈ lw_tbl := by decide +kernel
set_option maxRecDepth 20000 in
theorem lawinX1 : ∀ w ∈ wsX10, w ∈ lw_tbl := by decide +kernel
set_option maxRecDepth 20000 in
theorem lawinX4 : ∀ w ∈ wsX40, w ∈ lw_tbl := by decide +kernel
set_option maxRecDepth 20000 in
theorem lawinX6 : ∀ w ∈ wsX60, w ∈ lw_tbl := by decide +kernel
set_option maxRecDepth 20000 in
theorem lawinX5 : ∀ w ∈ wsX50, w ∈ lw_tbl := by decide +kernel
set_option maxRecDepth 20000 in
theorem wsL_law_in0 : ∀ w ∈ wsL_law0, w ∈ lw_tbl := s_app (s_app (s_app (s_app (s_app (s_app (s_app (s_app wsL_law_r1_in (s_app wsL_law_r2_in (s_app wsL_law_r3_in (s_app wsL_law_r4_in (s_app wsL_law_r5_in (s_app wsL_law_r6_in (s_app wsL_law_r7_in (s_app wsL_law_r8_in (s_app wsL_law_r9_in (s_app wsL_law_r10_in (s_app wsL_law_r11_in (s_app wsL_law_r12_in (s_app wsL_law_r13_in (s_app wsL_law_r14_in (s_app wsL_law_r15_in (s_app wsL_law_r16_in (s_app wsL_law_r17_in (s_app wsL_law_r18_in (s_app wsL_law_r19_in (s_app wsL_law_r20_in (s_app wsL_law_r21_in (s_app wsL_law_r22_in (s_app wsL_law_r23_in (s_app wsL_law_r24_in (s_app wsL_law_r25_in (s_app wsL_law_r26_in (s_app wsL_law_r27_in (s_app wsL_law_r28_in wsL_law_r29_in)))))))))))))))))))))))))))) lawinX7) lawinX0) lawinX1) lawinX4) lawinX6) lawinX5) (fun _ h => absurd h List.not_mem_nil)
set_option maxRecDepth 20000 in
theorem wsL_law_in : ∀ w ∈ wsL_law, w ∈ lw_tbl := fun w h => (List.mem_append.mp h).elim (fun h => (List.mem_append.mp h).elim (fun h => (List.mem_append.mp h).elim (fun h => wsL_law_in0 w h) (fun h => wsL_law_x0 w h)) (fun h => wsL_law_x1 w h)) (fun h => wsL_law_x2 w h)

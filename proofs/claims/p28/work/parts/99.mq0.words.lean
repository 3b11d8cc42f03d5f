/-! ===== the law: words, one list for all its functions ===== -/
theorem inlX0 : ∀ w ∈ wsX00, w ∈ wsL_law := fun _ h => List.mem_append_left _ (List.mem_append_left _ (List.mem_append_left _ (List.mem_append_left _ (List.mem_append_left _ (List.mem_append_left _ (List.mem_append_left _ (List.mem_append_left _ (List.mem_append_right _ h))))))))
theorem inlX1 : ∀ w ∈ wsX10, w ∈ wsL_law := fun _ h => List.mem_append_left _ (List.mem_append_left _ (List.mem_append_left _ (List.mem_append_left _ (List.mem_append_left _ (List.mem_append_left _ (List.mem_append_left _ (List.mem_append_right _ h)))))))
theorem inlX4 : ∀ w ∈ wsX40, w ∈ wsL_law := fun _ h => List.mem_append_left _ (List.mem_append_left _ (List.mem_append_left _ (List.mem_append_left _ (List.mem_append_left _ (List.mem_append_left _ (List.mem_append_right _ h))))))
theorem inlX5 : ∀ w ∈ wsX50, w ∈ wsL_law := fun _ h => List.mem_append_left _ (List.mem_append_left _ (List.mem_append_left _ (List.mem_append_left _ (List.mem_append_right _ h))))
theorem inlX6 : ∀ w ∈ wsX60, w ∈ wsL_law := fun _ h => List.mem_append_left _ (List.mem_append_left _ (List.mem_append_left _ (List.mem_append_left _ (List.mem_append_left _ (List.mem_append_right _ h)))))
theorem inlX7 : ∀ w ∈ wsX70, w ∈ wsL_law := fun _ h => List.mem_append_left _ (List.mem_append_left _ (List.mem_append_left _ (List.mem_append_left _ (List.mem_append_left _ (List.mem_append_left _ (List.mem_append_left _ (List.mem_append_left _ (List.mem_append_left _ (List.mem_append_right _ h)))))))))
theorem goodIn_cs {big a : List Cond} {c : Cond} (hc : GoodIn big [c]) (ha : GoodIn big a) : GoodIn big (c :: a) := fun w h => (List.mem_cons.mp h).elim (fun e => hc w (by rw [e]; exact List.mem_cons_self)) (ha w)
theorem goodIn_w {big a : List Cond} {c : Cond} (h : GoodIn big a) : GoodIn (c :: big) a := fun w hw => ⟨List.mem_cons_of_mem _ (h w hw).1, (h w hw).2⟩
theorem goodL : GoodIn wsL_law wsL_law := goodIn_sub (fun _ h => h) (by decide +kernel)
noncomputable def wsM_spent : List Cond := Cond.code yL_spent cL_spent 1 (some .int) :: wsL_law
noncomputable def wsM_facesOf : List Cond := Cond.code yL_facesOf cL_facesOf 4 (some .int) :: wsL_law
noncomputable def wsM_price : List Cond := Cond.code yL_price cL_price 8 (some .int) :: wsL_law
noncomputable def wsM_refuses : List Cond := Cond.code yL_refuses cL_refuses 4 (some .boolean) :: wsL_law
noncomputable def wsM_holds : List Cond := Cond.code yL_holds cL_holds 13 (some .boolean) :: wsL_law
noncomputable def wsM_act : List Cond := Cond.code yL_act cL_act 5 (some .int) :: wsL_law
noncomputable def wsM_alike : List Cond := Cond.code yL_alike cL_alike 5 (some .boolean) :: wsL_law
noncomputable def wsM_scene : List Cond := Cond.code yL_scene cL_scene 11 (some .boolean) :: wsL_law
noncomputable def wsM_both : List Cond := Cond.code yL_both cL_both 9 (some .boolean) :: wsL_law

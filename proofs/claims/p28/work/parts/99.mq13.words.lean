/-! ===== the law: words ===== -/
theorem gw_thrown_l : GoodIn wsL_law [Cond.constant RL 44 (-9999001), Cond.constant RL 15 (-9999002), Cond.constant RL 18 (-9999003)] := goodIn_r _ [323, 103, 104] (by decide +kernel) (by decide +kernel)
theorem gw_cell_h : GoodIn wsL_law [Cond.code yL_cell cL_cell 2 (some .int)] := goodIn_r _ [92] (by decide +kernel) (by decide +kernel)
theorem gw_cell_l : GoodIn wsL_law [Cond.constant RL 142 (15519151), Cond.constant RL 143 (2147483647)] := goodIn_r _ [93, 94] (by decide +kernel) (by decide +kernel)

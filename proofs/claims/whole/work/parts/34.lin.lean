theorem zL_inM : ∀ w ∈ wsL_moduleX, w ∈ lw_tbl := by decide +kernel
def wsL_lawX : List Cond := wsL_law ++ wsL_moduleX
theorem wsL_lawX_in : ∀ w ∈ wsL_lawX, w ∈ lw_tbl := fun w h => (List.mem_append.mp h).elim (wsL_law_in w) (zL_inM w)
theorem zg_l {ws : List Cond} (h : GoodIn wsL_law ws) : GoodIn wsL_lawX ws := fun w hw => ⟨List.mem_append_left _ (h w hw).1, (h w hw).2⟩
theorem ggL_lawX_L_module : GoodIn wsL_lawX wsL_moduleX := by
  have h : wsL_moduleX.all goodWord = true := by decide +kernel
  have h2 : GoodIn wsL_moduleX wsL_moduleX := goodIn_r _ (List.range wsL_moduleX.length) (by decide +kernel) h
  exact fun w hw => ⟨List.mem_append_right _ (h2 w hw).1, (h2 w hw).2⟩

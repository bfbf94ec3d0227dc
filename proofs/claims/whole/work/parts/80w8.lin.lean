set_option maxRecDepth 100000 in
theorem wsLin_33 : ∀ w ∈ wsL_law_r33, w ∈ lw_tbl := by decide +kernel

set_option maxRecDepth 100000 in
theorem wsLin_17 : ∀ w ∈ wsL_law_r17, w ∈ lw_tbl := by decide +kernel
set_option maxRecDepth 100000 in
theorem wsLin_18 : ∀ w ∈ wsL_law_r18, w ∈ lw_tbl := by decide +kernel
set_option maxRecDepth 100000 in
theorem wsLin_19 : ∀ w ∈ wsL_law_r19, w ∈ lw_tbl := by decide +kernel
set_option maxRecDepth 100000 in
theorem wsLin_20 : ∀ w ∈ wsL_law_r20, w ∈ lw_tbl := by decide +kernel

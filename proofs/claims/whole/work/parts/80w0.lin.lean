set_option maxRecDepth 100000 in
theorem wsLin_1 : ∀ w ∈ wsL_law_r1, w ∈ lw_tbl := by decide +kernel
set_option maxRecDepth 100000 in
theorem wsLin_2 : ∀ w ∈ wsL_law_r2, w ∈ lw_tbl := by decide +kernel
set_option maxRecDepth 100000 in
theorem wsLin_3 : ∀ w ∈ wsL_law_r3, w ∈ lw_tbl := by decide +kernel
set_option maxRecDepth 100000 in
theorem wsLin_4 : ∀ w ∈ wsL_law_r4, w ∈ lw_tbl := by decide +kernel

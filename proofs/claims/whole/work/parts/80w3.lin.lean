set_option maxRecDepth 100000 in
theorem wsLin_13 : ∀ w ∈ wsL_law_r13, w ∈ lw_tbl := by decide +kernel
set_option maxRecDepth 100000 in
theorem wsLin_14 : ∀ w ∈ wsL_law_r14, w ∈ lw_tbl := by decide +kernel
set_option maxRecDepth 100000 in
theorem wsLin_15 : ∀ w ∈ wsL_law_r15, w ∈ lw_tbl := by decide +kernel
set_option maxRecDepth 100000 in
theorem wsLin_16 : ∀ w ∈ wsL_law_r16, w ∈ lw_tbl := by decide +kernel

set_option maxRecDepth 100000 in
theorem wsLin_29 : ∀ w ∈ wsL_law_r29, w ∈ lw_tbl := by decide +kernel
set_option maxRecDepth 100000 in
theorem wsLin_30 : ∀ w ∈ wsL_law_r30, w ∈ lw_tbl := by decide +kernel
set_option maxRecDepth 100000 in
theorem wsLin_31 : ∀ w ∈ wsL_law_r31, w ∈ lw_tbl := by decide +kernel
set_option maxRecDepth 100000 in
theorem wsLin_32 : ∀ w ∈ wsL_law_r32, w ∈ lw_tbl := by decide +kernel

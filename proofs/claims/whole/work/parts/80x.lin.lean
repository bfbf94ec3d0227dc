set_option maxRecDepth 100000 in
theorem wsLin_X1 : ∀ w ∈ wsX10, w ∈ lw_tbl := by decide +kernel
set_option maxRecDepth 100000 in
theorem wsLin_X10 : ∀ w ∈ wsX100, w ∈ lw_tbl := by decide +kernel
set_option maxRecDepth 100000 in
theorem wsLin_X11 : ∀ w ∈ wsX110, w ∈ lw_tbl := by decide +kernel
set_option maxRecDepth 100000 in
theorem wsLin_X12 : ∀ w ∈ wsX120, w ∈ lw_tbl := by decide +kernel
set_option maxRecDepth 100000 in
theorem wsLin_X2 : ∀ w ∈ wsX20, w ∈ lw_tbl := by decide +kernel
set_option maxRecDepth 100000 in
theorem wsLin_X3 : ∀ w ∈ wsX30, w ∈ lw_tbl := by decide +kernel
set_option maxRecDepth 100000 in
theorem wsLin_X5 : ∀ w ∈ wsX50, w ∈ lw_tbl := by decide +kernel
set_option maxRecDepth 100000 in
theorem wsLin_X6 : ∀ w ∈ wsX60, w ∈ lw_tbl := by decide +kernel
set_option maxRecDepth 100000 in
theorem wsLin_X7 : ∀ w ∈ wsX70, w ∈ lw_tbl := by decide +kernel
set_option maxRecDepth 100000 in
theorem wsLin_X9 : ∀ w ∈ wsX90, w ∈ lw_tbl := by decide +kernel
theorem wsL_law_in : ∀ w ∈ wsL_law, w ∈ lw_tbl := by
  unfold wsL_law
  exact List.forall_mem_append.mpr ⟨List.forall_mem_append.mpr ⟨List.forall_mem_append.mpr ⟨List.forall_mem_append.mpr ⟨List.forall_mem_append.mpr ⟨List.forall_mem_append.mpr ⟨List.forall_mem_append.mpr ⟨List.forall_mem_append.mpr ⟨List.forall_mem_append.mpr ⟨List.forall_mem_append.mpr ⟨List.forall_mem_append.mpr ⟨List.forall_mem_append.mpr ⟨wsLin_1, List.forall_mem_append.mpr ⟨wsLin_2, List.forall_mem_append.mpr ⟨wsLin_3, List.forall_mem_append.mpr ⟨wsLin_4, List.forall_mem_append.mpr ⟨wsLin_5, List.forall_mem_append.mpr ⟨wsLin_6, List.forall_mem_append.mpr ⟨wsLin_7, List.forall_mem_append.mpr ⟨wsLin_8, List.forall_mem_append.mpr ⟨wsLin_9, List.forall_mem_append.mpr ⟨wsLin_10, List.forall_mem_append.mpr ⟨wsLin_11, List.forall_mem_append.mpr ⟨wsLin_12, List.forall_mem_append.mpr ⟨wsLin_13, List.forall_mem_append.mpr ⟨wsLin_14, List.forall_mem_append.mpr ⟨wsLin_15, List.forall_mem_append.mpr ⟨wsLin_16, List.forall_mem_append.mpr ⟨wsLin_17, List.forall_mem_append.mpr ⟨wsLin_18, List.forall_mem_append.mpr ⟨wsLin_19, List.forall_mem_append.mpr ⟨wsLin_20, List.forall_mem_append.mpr ⟨wsLin_21, List.forall_mem_append.mpr ⟨wsLin_22, List.forall_mem_append.mpr ⟨wsLin_23, List.forall_mem_append.mpr ⟨wsLin_24, List.forall_mem_append.mpr ⟨wsLin_25, List.forall_mem_append.mpr ⟨wsLin_26, List.forall_mem_append.mpr ⟨wsLin_27, List.forall_mem_append.mpr ⟨wsLin_28, List.forall_mem_append.mpr ⟨wsLin_29, List.forall_mem_append.mpr ⟨wsLin_30, List.forall_mem_append.mpr ⟨wsLin_31, List.forall_mem_append.mpr ⟨wsLin_32, wsLin_33⟩⟩⟩⟩⟩⟩⟩⟩⟩⟩⟩⟩⟩⟩⟩⟩⟩⟩⟩⟩⟩⟩⟩⟩⟩⟩⟩⟩⟩⟩⟩⟩, wsLin_X11⟩, wsLin_X12⟩, wsLin_X5⟩, wsLin_X10⟩, wsLin_X9⟩, wsLin_X6⟩, wsLin_X7⟩, wsLin_X1⟩, wsLin_X3⟩, wsLin_X2⟩, (fun _ h => absurd h List.not_mem_nil)⟩

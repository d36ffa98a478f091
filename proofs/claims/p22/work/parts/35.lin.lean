set_option maxRecDepth 20000 in
theorem li_r10 : ∀ w ∈ wsL_law_r10, w ∈ lw_tbl := by decide +kernel
set_option maxRecDepth 20000 in
theorem li_X11 : ∀ w ∈ wsX110, w ∈ lw_tbl := by decide +kernel

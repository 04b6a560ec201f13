set_option maxRecDepth 20000 in
theorem xNest_in : ∀ w ∈ xNest, w ∈ lw_tbl := by decide +kernel

set_option maxRecDepth 20000 in
theorem inr_25 : ∀ w ∈ wsL_law_r25, w ∈ lw_tbl := fun w h => (goodIn_p wsL_law_r25 [623, 905, 627, 909] (by decide +kernel) (by decide +kernel) w h).1

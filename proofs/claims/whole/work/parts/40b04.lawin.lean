set_option maxRecDepth 20000 in
theorem inr_13 : ∀ w ∈ wsL_law_r13, w ∈ lw_tbl := fun w h => (goodIn_p wsL_law_r13 [426, 790, 794, 430, 433, 437] (by decide +kernel) (by decide +kernel) w h).1
set_option maxRecDepth 20000 in
theorem inr_14 : ∀ w ∈ wsL_law_r14, w ∈ lw_tbl := fun w h => (goodIn_p wsL_law_r14 [441, 445, 450, 454, 458, 462, 466] (by decide +kernel) (by decide +kernel) w h).1
set_option maxRecDepth 20000 in
theorem inr_15 : ∀ w ∈ wsL_law_r15, w ∈ lw_tbl := fun w h => (goodIn_p wsL_law_r15 [471, 478, 482, 486, 490, 494] (by decide +kernel) (by decide +kernel) w h).1

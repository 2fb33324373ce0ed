/-! the law's words -/
theorem wl_r1 : ∀ w ∈ wsL_law0_r1, w ∈ lw_tbl := fun w h => (goodIn_p wsL_law0_r1 [49, 52] (by decide +kernel) (by decide +kernel) w h).1
theorem wl_r2 : ∀ w ∈ wsL_law0_r2, w ∈ lw_tbl := fun w h => (goodIn_p wsL_law0_r2 [61, 535] (by decide +kernel) (by decide +kernel) w h).1
theorem wl_r3 : ∀ w ∈ wsL_law0_r3, w ∈ lw_tbl := fun w h => (goodIn_p wsL_law0_r3 [163, 235, 255] (by decide +kernel) (by decide +kernel) w h).1
theorem wl_r4 : ∀ w ∈ wsL_law0_r4, w ∈ lw_tbl := fun w h => (goodIn_p wsL_law0_r4 [283, 287, 588, 591] (by decide +kernel) (by decide +kernel) w h).1
theorem wl_r5 : ∀ w ∈ wsL_law0_r5, w ∈ lw_tbl := fun w h => (goodIn_p wsL_law0_r5 [595, 598, 584, 295, 299] (by decide +kernel) (by decide +kernel) w h).1
theorem wl_r6 : ∀ w ∈ wsL_law0_r6, w ∈ lw_tbl := fun w h => (goodIn_p wsL_law0_r6 [319, 323, 125, 602, 606] (by decide +kernel) (by decide +kernel) w h).1

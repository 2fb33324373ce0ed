/-! the law's words -/
theorem wl_r7 : ∀ w ∈ wsL_law0_r7, w ∈ lw_tbl := fun w h => (goodIn_p wsL_law0_r7 [610, 330, 333, 337, 614, 618] (by decide +kernel) (by decide +kernel) w h).1
theorem wl_r8 : ∀ w ∈ wsL_law0_r8, w ∈ lw_tbl := fun w h => (goodIn_p wsL_law0_r8 [349, 622, 356, 359, 362] (by decide +kernel) (by decide +kernel) w h).1
theorem wl_r9 : ∀ w ∈ wsL_law0_r9, w ∈ lw_tbl := fun w h => (goodIn_p wsL_law0_r9 [626, 630, 634, 369, 373] (by decide +kernel) (by decide +kernel) w h).1
theorem wl_r10 : ∀ w ∈ wsL_law0_r10, w ∈ lw_tbl := fun w h => (goodIn_p wsL_law0_r10 [377, 638, 642, 384, 388] (by decide +kernel) (by decide +kernel) w h).1
theorem wl_r11 : ∀ w ∈ wsL_law0_r11, w ∈ lw_tbl := fun w h => (goodIn_p wsL_law0_r11 [646, 396, 650, 405, 654] (by decide +kernel) (by decide +kernel) w h).1
theorem wl_r12 : ∀ w ∈ wsL_law0_r12, w ∈ lw_tbl := fun w h => (goodIn_p wsL_law0_r12 [413, 113, 117, 121, 128] (by decide +kernel) (by decide +kernel) w h).1

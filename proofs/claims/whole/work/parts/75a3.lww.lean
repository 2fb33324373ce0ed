/-! the law's words -/
theorem wl_r13 : ∀ w ∈ wsL_law0_r13, w ∈ lw_tbl := fun w h => (goodIn_p wsL_law0_r13 [132, 136, 139, 143, 147, 151] (by decide +kernel) (by decide +kernel) w h).1
theorem wl_r14 : ∀ w ∈ wsL_law0_r14, w ∈ lw_tbl := fun w h => (goodIn_p wsL_law0_r14 [658, 662, 666, 669, 673, 677] (by decide +kernel) (by decide +kernel) w h).1
theorem wl_r15 : ∀ w ∈ wsL_law0_r15, w ∈ lw_tbl := fun w h => (goodIn_p wsL_law0_r15 [420, 105, 154, 109, 681, 685] (by decide +kernel) (by decide +kernel) w h).1
theorem wl_r16 : ∀ w ∈ wsL_law0_r16, w ∈ lw_tbl := fun w h => (goodIn_p wsL_law0_r16 [689, 427, 693, 101, 697] (by decide +kernel) (by decide +kernel) w h).1
theorem wl_r17 : ∀ w ∈ wsL_law0_r17, w ∈ lw_tbl := fun w h => (goodIn_p wsL_law0_r17 [434, 438, 441, 701, 448] (by decide +kernel) (by decide +kernel) w h).1
theorem wl_r18 : ∀ w ∈ wsL_law0_r18, w ∈ lw_tbl := fun w h => (goodIn_p wsL_law0_r18 [452, 705, 459, 463, 468] (by decide +kernel) (by decide +kernel) w h).1

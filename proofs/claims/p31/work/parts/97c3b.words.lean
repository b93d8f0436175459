set_option maxRecDepth 100000 in
set_option maxHeartbeats 4000000 in
theorem inlw_15 : ∀ w ∈ wsL_law0_r15, w ∈ lw_tbl := fun w h => (goodIn_p wsL_law0_r15 [549, 553, 557, 560, 563, 567, 572] rfl (by decide +kernel) w h).1

set_option maxRecDepth 100000 in
set_option maxHeartbeats 4000000 in
theorem wsq_wsL_law0_r37 : ∀ w ∈ wsL_law0_r37, w ∈ lw_tbl := qin qself wsL_law0_r37 [497, 252, 0, 0, 0, 1, 0, 0, 0, 0, 0, 0, 0, 0, 0, 0, 0, 684, 0, 0, 0, 0, 0, 0] [1, 2, 3, 4, 5, 6, 7, 8, 9, 17, 18, 19, 20, 21, 10, 11, 12, 13, 14, 15, 16, 0, 22, 23] (by decide +kernel)
set_option maxRecDepth 100000 in
set_option maxHeartbeats 4000000 in
theorem wsq_wsL_law0_r38 : ∀ w ∈ wsL_law0_r38, w ∈ lw_tbl := qin qself wsL_law0_r38 [769, 0, 0, 0, 0, 0, 0, 0, 0, 0, 0, 0, 0, 0, 0, 0, 673, 0, 0, 0, 0, 0, 0, 0] [16, 17, 18, 0, 1, 2, 3, 4, 5, 6, 7, 8, 9, 10, 11, 12, 13, 14, 15, 19, 20, 21, 22, 23] (by decide +kernel)
set_option maxRecDepth 100000 in
set_option maxHeartbeats 4000000 in
theorem wsq_wsL_law0_r39 : ∀ w ∈ wsL_law0_r39, w ∈ lw_tbl := qin qself wsL_law0_r39 [51, 434, 298, 0, 0, 0, 0, 0, 0, 0, 673, 0, 0, 0, 0, 0, 0, 0, 0, 0, 0, 0, 0] [10, 11, 12, 13, 14, 0, 15, 19, 21, 20, 0, 22, 16, 17, 18, 2, 3, 4, 5, 6, 7, 8, 1, 9] (by decide +kernel)
set_option maxRecDepth 100000 in
set_option maxHeartbeats 4000000 in
theorem wsq_wsL_law0_r40 : ∀ w ∈ wsL_law0_r40, w ∈ lw_tbl := qin qself wsL_law0_r40 [499, 293, 0, 0, 0, 0, 0, 0, 0, 0, 0, 3, 0, 0, 0, 0, 668, 0, 0, 0, 0, 0, 0, 0] [1, 2, 3, 16, 17, 18, 19, 4, 5, 6, 7, 8, 9, 10, 0, 11, 20, 21, 22, 23, 12, 13, 14, 15] (by decide +kernel)
set_option maxRecDepth 100000 in
set_option maxHeartbeats 4000000 in
theorem wsq_wsL_law0_r41 : ∀ w ∈ wsL_law0_r41, w ∈ lw_tbl := qin qself wsL_law0_r41 [501, 1, 307, 0, 0, 0, 0, 0, 0, 0, 0, 0, 0, 0, 0, 0, 0, 661, 0, 0, 0, 0, 0, 0] [2, 3, 4, 17, 18, 19, 20, 5, 6, 7, 8, 9, 10, 11, 16, 1, 0, 12, 13, 14, 15, 21, 22, 23] (by decide +kernel)
set_option maxRecDepth 100000 in
set_option maxHeartbeats 4000000 in
theorem wsq_wsL_law0_r42 : ∀ w ∈ wsL_law0_r42, w ∈ lw_tbl := qin qself wsL_law0_r42 [826, 0, 0, 0, 0, 0, 0, 1, 0, 0, 0, 0, 0, 0, 0, 0, 0, 0, 649, 0, 0, 0, 0, 0] [18, 19, 0, 1, 2, 3, 4, 5, 6, 20, 21, 22, 23, 7, 8, 9, 10, 11, 12, 13, 14, 15, 16, 17] (by decide +kernel)
set_option maxRecDepth 100000 in
set_option maxHeartbeats 4000000 in
theorem wsq_wsL_law0_r43 : ∀ w ∈ wsL_law0_r43, w ∈ lw_tbl := qin qself wsL_law0_r43 [153, 0, 0, 0, 689, 0, 0, 0, 0, 0, 0, 647, 0, 0, 0, 0, 0, 0, 0, 0, 0, 0, 0, 0] [11, 12, 13, 14, 15, 0, 1, 2, 3, 16, 17, 18, 19, 4, 5, 6, 7, 8, 9, 10, 20, 21, 22, 23] (by decide +kernel)
set_option maxRecDepth 100000 in
set_option maxHeartbeats 4000000 in
theorem wsq_wsL_law0_r44 : ∀ w ∈ wsL_law0_r44, w ∈ lw_tbl := qin qself wsL_law0_r44 [52, 800, 0, 0, 0, 13, 0, 0, 0, 0, 2, 0, 0, 0, 0, 0, 630, 0, 0, 0, 1, 2, 1, 1] [1, 2, 3, 4, 5, 6, 7, 8, 9, 0, 16, 17, 18, 19, 20, 21, 22, 23, 10, 11, 12, 13, 14, 15] (by decide +kernel)
set_option maxRecDepth 100000 in
set_option maxHeartbeats 4000000 in
theorem wsq_wsL_law0_r45 : ∀ w ∈ wsL_law0_r45, w ∈ lw_tbl := qin qself wsL_law0_r45 [157, 0, 0, 0, 0, 7, 4, 0, 0, 0, 705, 1, 0, 0, 0, 637, 0, 0, 0, 0, 0, 0, 0, 0] [10, 11, 12, 13, 14, 15, 16, 17, 18, 0, 1, 2, 3, 4, 5, 19, 20, 21, 22, 23, 6, 7, 8, 9] (by decide +kernel)
set_option maxRecDepth 100000 in
set_option maxHeartbeats 4000000 in
theorem wsq_wsL_law0_r46 : ∀ w ∈ wsL_law0_r46, w ∈ lw_tbl := qin qself wsL_law0_r46 [178, 0, 0, 0, 1353, 0, 0, 0] [0, 1, 2, 3, 4, 5, 6, 7] (by decide +kernel)


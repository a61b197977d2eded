set_option maxRecDepth 100000 in
set_option maxHeartbeats 4000000 in
theorem wsq_wsL_law0_r37 : ∀ w ∈ wsL_law0_r37, w ∈ lw_tbl := qin qself wsL_law0_r37 [497, 257, 0, 0, 0, 0, 0, 0, 0, 0, 0, 0, 0, 2, 677, 0, 0, 0, 0, 0, 0, 0, 0, 0] [1, 2, 3, 4, 5, 14, 15, 16, 17, 18, 6, 7, 8, 9, 10, 11, 12, 0, 19, 20, 21, 22, 23, 13] (by decide +kernel)
set_option maxRecDepth 100000 in
set_option maxHeartbeats 4000000 in
theorem wsq_wsL_law0_r38 : ∀ w ∈ wsL_law0_r38, w ∈ lw_tbl := qin qself wsL_law0_r38 [770, 0, 0, 0, 0, 0, 0, 0, 0, 0, 0, 0, 0, 0, 0, 672, 0, 0, 0, 0, 0, 0, 0, 0] [0, 1, 2, 3, 4, 5, 6, 7, 8, 9, 10, 11, 12, 13, 14, 15, 16, 17, 18, 19, 20, 21, 22, 23] (by decide +kernel)
set_option maxRecDepth 100000 in
set_option maxHeartbeats 4000000 in
theorem wsq_wsL_law0_r39 : ∀ w ∈ wsL_law0_r39, w ∈ lw_tbl := qin qself wsL_law0_r39 [51, 434, 298, 0, 0, 0, 0, 0, 0, 0, 0, 0, 0, 670, 0, 0, 0, 0, 0, 0, 0, 0, 0] [13, 0, 14, 18, 20, 19, 0, 21, 15, 16, 17, 2, 3, 4, 5, 6, 7, 8, 1, 9, 10, 11, 12, 22] (by decide +kernel)
set_option maxRecDepth 100000 in
set_option maxHeartbeats 4000000 in
theorem wsq_wsL_law0_r40 : ∀ w ∈ wsL_law0_r40, w ∈ lw_tbl := qin qself wsL_law0_r40 [499, 296, 0, 0, 0, 0, 0, 0, 3, 0, 0, 0, 0, 0, 0, 0, 662, 0, 0, 0, 0, 0, 0, 0] [16, 17, 18, 1, 2, 3, 4, 5, 6, 7, 0, 8, 19, 20, 21, 22, 9, 10, 11, 12, 13, 14, 15, 23] (by decide +kernel)
set_option maxRecDepth 100000 in
set_option maxHeartbeats 4000000 in
theorem wsq_wsL_law0_r41 : ∀ w ∈ wsL_law0_r41, w ∈ lw_tbl := qin qself wsL_law0_r41 [501, 1, 310, 0, 0, 0, 0, 0, 0, 0, 0, 0, 0, 0, 0, 0, 656, 0, 0, 0, 0, 0, 0, 0] [16, 17, 18, 2, 3, 4, 5, 6, 7, 8, 13, 1, 0, 9, 10, 11, 12, 19, 20, 21, 22, 23, 14, 15] (by decide +kernel)
set_option maxRecDepth 100000 in
set_option maxHeartbeats 4000000 in
theorem wsq_wsL_law0_r42 : ∀ w ∈ wsL_law0_r42, w ∈ lw_tbl := qin qself wsL_law0_r42 [828, 0, 0, 0, 0, 1, 0, 0, 0, 0, 0, 0, 0, 0, 0, 0, 647, 0, 0, 0, 0, 0, 0, 0] [0, 1, 2, 3, 4, 16, 17, 18, 19, 5, 6, 7, 8, 9, 10, 11, 12, 13, 14, 15, 20, 21, 22, 23] (by decide +kernel)
set_option maxRecDepth 100000 in
set_option maxHeartbeats 4000000 in
theorem wsq_wsL_law0_r43 : ∀ w ∈ wsL_law0_r43, w ∈ lw_tbl := qin qself wsL_law0_r43 [153, 0, 0, 0, 689, 0, 0, 0, 0, 0, 0, 0, 0, 0, 0, 643, 0, 0, 0, 0, 0, 0, 0, 0] [15, 0, 1, 2, 3, 16, 17, 18, 19, 4, 5, 6, 7, 8, 9, 10, 20, 21, 22, 23, 11, 12, 13, 14] (by decide +kernel)
set_option maxRecDepth 100000 in
set_option maxHeartbeats 4000000 in
theorem wsq_wsL_law0_r44 : ∀ w ∈ wsL_law0_r44, w ∈ lw_tbl := qin qself wsL_law0_r44 [52, 817, 0, 0, 0, 0, 2, 0, 0, 0, 0, 0, 0, 1, 0, 0, 621, 0, 0, 0, 1, 2, 1, 1] [1, 2, 3, 4, 5, 0, 16, 17, 18, 19, 20, 21, 22, 23, 6, 7, 8, 9, 10, 11, 12, 13, 14, 15] (by decide +kernel)
set_option maxRecDepth 100000 in
set_option maxHeartbeats 4000000 in
theorem wsq_wsL_law0_r45 : ∀ w ∈ wsL_law0_r45, w ∈ lw_tbl := qin qself wsL_law0_r45 [157, 0, 0, 0, 0, 7, 4, 0, 0, 0, 0, 0, 0, 0, 706, 633, 0, 0, 0, 0, 0, 0, 0, 0] [14, 15, 16, 17, 18, 0, 1, 2, 3, 4, 5, 19, 20, 21, 22, 23, 6, 7, 8, 9, 10, 11, 12, 13] (by decide +kernel)
set_option maxRecDepth 100000 in
set_option maxHeartbeats 4000000 in
theorem wsq_wsL_law0_r46 : ∀ w ∈ wsL_law0_r46, w ∈ lw_tbl := qin qself wsL_law0_r46 [1531, 0, 0, 0] [0, 1, 2, 3] (by decide +kernel)


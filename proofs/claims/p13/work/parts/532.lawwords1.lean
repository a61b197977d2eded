set_option maxRecDepth 100000 in
set_option maxHeartbeats 4000000 in
theorem wsq_wsL_law0_r13 : ∀ w ∈ wsL_law0_r13, w ∈ lw_tbl := qin qself wsL_law0_r13 [38, 873, 3, 0, 145, 1, 0, 0, 0, 0, 0, 0, 0, 0, 0, 0, 10, 3, 1, 1, 1, 2, 1, 1] [4, 5, 6, 7, 0, 8, 9, 10, 15, 11, 13, 2, 3, 14, 16, 17, 18, 19, 12, 20, 21, 22, 23, 1] (by decide +kernel)
set_option maxRecDepth 100000 in
set_option maxHeartbeats 4000000 in
theorem wsq_wsL_law0_r14 : ∀ w ∈ wsL_law0_r14, w ∈ lw_tbl := qin qself wsL_law0_r14 [40, 495, 567, 0, 0, 0, 12, 0, 0, 0, 0, 1, 0, 1, 0, 0, 0, 0, 0, 39, 0, 20, 3, 9] [2, 3, 4, 5, 6, 7, 8, 0, 9, 10, 1, 23, 22, 11, 12, 21, 19, 20, 13, 14, 15, 16, 17, 18] (by decide +kernel)
set_option maxRecDepth 100000 in
set_option maxHeartbeats 4000000 in
theorem wsq_wsL_law0_r15 : ∀ w ∈ wsL_law0_r15, w ∈ lw_tbl := qin qself wsL_law0_r15 [14, 1120, 1, 1, 0, 0, 0, 0, 0, 0, 0, 0, 0, 0, 0, 0, 0, 0, 0, 0, 0, 0, 45, 1] [1, 2, 0, 3, 23, 22, 4, 5, 6, 7, 8, 9, 10, 11, 12, 13, 14, 15, 16, 17, 18, 19, 20, 21] (by decide +kernel)
set_option maxRecDepth 100000 in
set_option maxHeartbeats 4000000 in
theorem wsq_wsL_law0_r16 : ∀ w ∈ wsL_law0_r16, w ∈ lw_tbl := qin qself wsL_law0_r16 [137, 0, 0, 0, 859, 0, 0, 0, 154, 0, 0, 0, 0, 0, 0, 0, 0, 0, 0, 0, 0, 0, 0, 0] [8, 9, 10, 11, 12, 13, 14, 15, 16, 17, 18, 19, 20, 21, 22, 23, 0, 1, 2, 3, 4, 5, 6, 7] (by decide +kernel)
set_option maxRecDepth 100000 in
set_option maxHeartbeats 4000000 in
theorem wsq_wsL_law0_r17 : ∀ w ∈ wsL_law0_r17, w ∈ lw_tbl := qin qself wsL_law0_r17 [11, 80, 321, 0, 0, 0, 0, 0, 0, 1, 0, 0, 0, 0, 0, 0, 575, 0, 0, 0, 0, 1, 0, 0] [2, 3, 4, 5, 6, 7, 8, 1, 16, 17, 18, 19, 20, 21, 0, 22, 23, 9, 10, 11, 12, 13, 14, 15] (by decide +kernel)
set_option maxRecDepth 100000 in
set_option maxHeartbeats 4000000 in
theorem wsq_wsL_law0_r18 : ∀ w ∈ wsL_law0_r18, w ∈ lw_tbl := qin qself wsL_law0_r18 [12, 81, 334, 0, 0, 0, 0, 0, 0, 0, 0, 0, 0, 573, 0, 0, 0, 0, 0, 0, 0, 0, 1, 0] [1, 13, 14, 15, 16, 2, 3, 4, 5, 6, 7, 8, 9, 10, 11, 12, 17, 18, 19, 20, 21, 22, 0, 23] (by decide +kernel)
set_option maxRecDepth 100000 in
set_option maxHeartbeats 4000000 in
theorem wsq_wsL_law0_r19 : ∀ w ∈ wsL_law0_r19, w ∈ lw_tbl := qin qself wsL_law0_r19 [96, 44, 0, 0, 0, 296, 0, 0, 0, 0, 0, 0, 2, 0, 0, 0, 481, 89, 0, 0, 0, 0, 0, 0] [5, 6, 7, 8, 9, 10, 11, 0, 12, 13, 14, 15, 17, 18, 19, 20, 16, 1, 2, 3, 4, 21, 22, 23] (by decide +kernel)
set_option maxRecDepth 100000 in
set_option maxHeartbeats 4000000 in
theorem wsq_wsL_law0_r20 : ∀ w ∈ wsL_law0_r20, w ∈ lw_tbl := qin qself wsL_law0_r20 [145, 0, 0, 0, 0, 0, 0, 0, 301, 0, 0, 0, 0, 0, 0, 571, 0, 0, 0, 0, 1, 0, 0, 0] [15, 8, 9, 10, 11, 12, 13, 14, 16, 17, 18, 19, 0, 1, 2, 3, 20, 21, 22, 23, 4, 5, 6, 7] (by decide +kernel)
set_option maxRecDepth 100000 in
set_option maxHeartbeats 4000000 in
theorem wsq_wsL_law0_r21 : ∀ w ∈ wsL_law0_r21, w ∈ lw_tbl := qin qself wsL_law0_r21 [462, 0, 0, 0, 0, 0, 0, 1, 0, 0, 0, 0, 10, 4, 5, 1, 1, 1, 32, 506, 0, 0, 0, 130] [19, 20, 21, 22, 0, 1, 2, 3, 4, 5, 6, 7, 8, 9, 10, 11, 18, 12, 13, 14, 15, 16, 17, 23] (by decide +kernel)
set_option maxRecDepth 100000 in
set_option maxHeartbeats 4000000 in
theorem wsq_wsL_law0_r22 : ∀ w ∈ wsL_law0_r22, w ∈ lw_tbl := qin qself wsL_law0_r22 [15, 898, 3, 200, 18, 38, 0, 0, 1, 2, 1, 1, 1, 0, 0, 5, 34, 2, 1, 1, 0, 1, 0, 0] [5, 6, 7, 3, 4, 8, 9, 10, 11, 1, 12, 13, 14, 15, 16, 17, 18, 19, 2, 20, 21, 0, 22, 23] (by decide +kernel)
set_option maxRecDepth 100000 in
set_option maxHeartbeats 4000000 in
theorem wsq_wsL_law0_r23 : ∀ w ∈ wsL_law0_r23, w ∈ lw_tbl := qin qself wsL_law0_r23 [16, 0, 23, 1205, 0, 0, 1, 0, 0, 0, 0, 0, 0, 0, 0, 0, 0, 0, 0, 0, 0, 28, 0, 262] [3, 0, 4, 5, 6, 1, 7, 21, 22, 8, 9, 2, 10, 11, 12, 13, 14, 15, 16, 17, 18, 19, 23, 20] (by decide +kernel)
set_option maxRecDepth 100000 in
set_option maxHeartbeats 4000000 in
theorem wsq_wsL_law0_r24 : ∀ w ∈ wsL_law0_r24, w ∈ lw_tbl := qin qself wsL_law0_r24 [4, 37, 0, 493, 0, 0, 0, 23, 0, 0, 0, 0, 1, 1, 710, 0, 0, 0, 0, 1, 0, 0, 0, 0] [14, 15, 16, 17, 18, 19, 20, 21, 23, 22, 1, 3, 4, 5, 6, 7, 8, 9, 10, 13, 2, 11, 12, 0] (by decide +kernel)


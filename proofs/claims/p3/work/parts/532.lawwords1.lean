set_option maxRecDepth 100000 in
set_option maxHeartbeats 4000000 in
theorem wsq_wsL_law0_r13 : ∀ w ∈ wsL_law0_r13, w ∈ lw_tbl := qin qself wsL_law0_r13 [38, 881, 0, 22, 0, 115, 3, 1, 1, 0, 0, 0, 0, 0, 0, 0, 0, 0, 0, 10, 3, 1, 1, 1] [4, 3, 5, 6, 7, 8, 9, 10, 0, 11, 12, 13, 18, 14, 16, 1, 2, 17, 19, 20, 21, 22, 15, 23] (by decide +kernel)
set_option maxRecDepth 100000 in
set_option maxHeartbeats 4000000 in
theorem wsq_wsL_law0_r14 : ∀ w ∈ wsL_law0_r14, w ∈ lw_tbl := qin qself wsL_law0_r14 [40, 495, 379, 186, 1, 1, 0, 0, 0, 0, 12, 0, 0, 0, 0, 1, 0, 1, 0, 43, 0, 20, 3, 9] [3, 4, 5, 2, 6, 7, 8, 9, 10, 11, 12, 0, 13, 14, 1, 23, 22, 15, 16, 21, 19, 20, 17, 18] (by decide +kernel)
set_option maxRecDepth 100000 in
set_option maxHeartbeats 4000000 in
theorem wsq_wsL_law0_r15 : ∀ w ∈ wsL_law0_r15, w ∈ lw_tbl := qin qself wsL_law0_r15 [14, 1120, 0, 0, 0, 0, 1, 1, 0, 0, 0, 0, 0, 0, 0, 0, 0, 0, 0, 0, 0, 0, 49, 1] [1, 2, 3, 4, 5, 6, 0, 7, 23, 22, 8, 9, 10, 11, 12, 13, 14, 15, 16, 17, 18, 19, 20, 21] (by decide +kernel)
set_option maxRecDepth 100000 in
set_option maxHeartbeats 4000000 in
theorem wsq_wsL_law0_r16 : ∀ w ∈ wsL_law0_r16, w ∈ lw_tbl := qin qself wsL_law0_r16 [137, 0, 0, 0, 1017, 0, 0, 0, 0, 0, 0, 0, 0, 0, 0, 0, 0, 0, 0, 0, 0, 0, 0, 0] [4, 5, 6, 7, 8, 9, 10, 11, 12, 13, 14, 15, 16, 17, 18, 19, 20, 21, 22, 23, 0, 1, 2, 3] (by decide +kernel)
set_option maxRecDepth 100000 in
set_option maxHeartbeats 4000000 in
theorem wsq_wsL_law0_r17 : ∀ w ∈ wsL_law0_r17, w ∈ lw_tbl := qin qself wsL_law0_r17 [11, 80, 321, 0, 0, 0, 0, 0, 0, 1, 0, 0, 579, 0, 0, 0, 0, 0, 0, 0, 0, 1, 0, 0] [12, 13, 14, 15, 2, 3, 4, 5, 6, 7, 8, 1, 16, 17, 18, 19, 20, 21, 0, 22, 23, 9, 10, 11] (by decide +kernel)
set_option maxRecDepth 100000 in
set_option maxHeartbeats 4000000 in
theorem wsq_wsL_law0_r18 : ∀ w ∈ wsL_law0_r18, w ∈ lw_tbl := qin qself wsL_law0_r18 [94, 330, 0, 0, 0, 0, 0, 0, 0, 0, 0, 0, 0, 0, 0, 0, 577, 0, 0, 0, 0, 0, 0, 0] [1, 2, 3, 4, 0, 16, 17, 18, 19, 5, 6, 7, 8, 9, 10, 11, 12, 13, 14, 15, 20, 21, 22, 23] (by decide +kernel)
set_option maxRecDepth 100000 in
set_option maxHeartbeats 4000000 in
theorem wsq_wsL_law0_r19 : ∀ w ∈ wsL_law0_r19, w ∈ lw_tbl := qin qself wsL_law0_r19 [12, 83, 44, 0, 0, 297, 0, 0, 0, 0, 0, 0, 2, 0, 0, 0, 485, 85, 1, 0, 0, 0, 0, 0] [17, 18, 0, 19, 5, 6, 7, 8, 9, 10, 11, 1, 12, 13, 14, 15, 20, 21, 22, 23, 16, 2, 3, 4] (by decide +kernel)
set_option maxRecDepth 100000 in
set_option maxHeartbeats 4000000 in
theorem wsq_wsL_law0_r20 : ∀ w ∈ wsL_law0_r20, w ∈ lw_tbl := qin qself wsL_law0_r20 [144, 0, 0, 0, 0, 305, 0, 0, 0, 0, 0, 0, 572, 0, 0, 0, 0, 0, 0, 0, 1, 0, 0, 0] [0, 12, 13, 14, 15, 5, 6, 7, 8, 9, 10, 11, 16, 17, 18, 19, 1, 2, 3, 4, 20, 21, 22, 23] (by decide +kernel)
set_option maxRecDepth 100000 in
set_option maxHeartbeats 4000000 in
theorem wsq_wsL_law0_r21 : ∀ w ∈ wsL_law0_r21, w ∈ lw_tbl := qin qself wsL_law0_r21 [149, 0, 0, 0, 309, 0, 0, 0, 0, 0, 0, 1, 0, 0, 0, 0, 10, 4, 5, 38, 510, 0, 0, 0] [0, 1, 2, 3, 20, 21, 22, 23, 4, 5, 6, 7, 8, 9, 10, 11, 12, 13, 14, 15, 19, 16, 17, 18] (by decide +kernel)
set_option maxRecDepth 100000 in
set_option maxHeartbeats 4000000 in
theorem wsq_wsL_law0_r22 : ∀ w ∈ wsL_law0_r22, w ∈ lw_tbl := qin qself wsL_law0_r22 [498, 1, 1, 415, 3, 200, 18, 37, 0, 0, 0, 1, 2, 1, 1, 1, 0, 0, 5, 34, 2, 1, 1, 0] [0, 1, 2, 7, 8, 9, 10, 5, 6, 11, 12, 13, 14, 3, 15, 16, 17, 18, 19, 20, 21, 22, 4, 23] (by decide +kernel)
set_option maxRecDepth 100000 in
set_option maxHeartbeats 4000000 in
theorem wsq_wsL_law0_r23 : ∀ w ∈ wsL_law0_r23, w ∈ lw_tbl := qin qself wsL_law0_r23 [15, 0, 0, 23, 1205, 0, 0, 1, 0, 0, 1, 0, 0, 0, 0, 0, 0, 0, 0, 0, 0, 0, 31, 0] [4, 0, 5, 6, 7, 1, 8, 9, 10, 2, 11, 22, 23, 12, 13, 3, 14, 15, 16, 17, 18, 19, 20, 21] (by decide +kernel)
set_option maxRecDepth 100000 in
set_option maxHeartbeats 4000000 in
theorem wsq_wsL_law0_r24 : ∀ w ∈ wsL_law0_r24, w ∈ lw_tbl := qin qself wsL_law0_r24 [42, 494, 0, 0, 0, 23, 0, 0, 0, 4, 694, 0, 0, 17, 0, 0, 0, 0, 1, 0, 0, 0, 0, 264] [10, 11, 23, 12, 13, 14, 15, 16, 17, 18, 19, 20, 22, 21, 0, 1, 2, 3, 4, 5, 6, 7, 8, 9] (by decide +kernel)


set_option maxRecDepth 100000 in
set_option maxHeartbeats 4000000 in
theorem wsq_wsL_law0_r25 : ∀ w ∈ wsL_law0_r25, w ∈ lw_tbl := qin qself wsL_law0_r25 [4, 0, 0, 0, 35, 126, 397, 1, 0, 14, 0, 1, 1, 0, 1, 1, 0, 0, 0, 1, 0, 0, 0, 0] [4, 6, 7, 0, 8, 9, 5, 10, 11, 12, 1, 13, 14, 15, 2, 16, 17, 18, 19, 3, 20, 21, 22, 23] (by decide +kernel)
set_option maxRecDepth 100000 in
set_option maxHeartbeats 4000000 in
theorem wsq_wsL_law0_r26 : ∀ w ∈ wsL_law0_r26, w ∈ lw_tbl := qin qself wsL_law0_r26 [18, 27, 1, 557, 693, 0, 0, 0, 0, 1, 0, 0, 0, 1, 2, 1, 1, 0, 0, 0, 0, 0, 7, 0] [3, 4, 5, 6, 7, 22, 23, 2, 8, 9, 0, 10, 11, 12, 13, 14, 15, 16, 17, 18, 1, 19, 20, 21] (by decide +kernel)
set_option maxRecDepth 100000 in
set_option maxHeartbeats 4000000 in
theorem wsq_wsL_law0_r27 : ∀ w ∈ wsL_law0_r27, w ∈ lw_tbl := qin qself wsL_law0_r27 [47, 559, 0, 0, 0, 0, 712, 0, 0, 0, 0, 0, 0, 2, 0, 0, 0, 0, 2, 19, 0, 0, 0, 0] [0, 6, 7, 8, 9, 10, 11, 12, 13, 14, 15, 16, 17, 18, 19, 20, 21, 22, 23, 1, 2, 3, 4, 5] (by decide +kernel)
set_option maxRecDepth 100000 in
set_option maxHeartbeats 4000000 in
theorem wsq_wsL_law0_r28 : ∀ w ∈ wsL_law0_r28, w ∈ lw_tbl := qin qself wsL_law0_r28 [39, 436, 1, 133, 0, 0, 0, 0, 0, 0, 0, 0, 0, 0, 742, 0, 0, 0, 0, 0, 0, 0, 0, 1] [3, 4, 1, 14, 15, 16, 17, 5, 6, 7, 8, 9, 10, 11, 12, 13, 0, 2, 18, 19, 20, 21, 22, 23] (by decide +kernel)
set_option maxRecDepth 100000 in
set_option maxHeartbeats 4000000 in
theorem wsq_wsL_law0_r29 : ∀ w ∈ wsL_law0_r29, w ∈ lw_tbl := qin qself wsL_law0_r29 [19, 468, 149, 0, 0, 0, 0, 0, 0, 0, 0, 0, 0, 0, 0, 0, 0, 0, 722, 0, 0, 0, 0, 0] [0, 18, 2, 3, 4, 5, 6, 7, 8, 1, 9, 19, 20, 21, 22, 23, 10, 11, 12, 13, 14, 15, 16, 17] (by decide +kernel)
set_option maxRecDepth 100000 in
set_option maxHeartbeats 4000000 in
theorem wsq_wsL_law0_r30 : ∀ w ∈ wsL_law0_r30, w ∈ lw_tbl := qin qself wsL_law0_r30 [480, 173, 0, 0, 0, 0, 0, 0, 0, 0, 0, 0, 0, 0, 0, 714, 0, 0, 0, 0, 0, 0, 0, 0] [15, 16, 17, 18, 19, 1, 2, 3, 4, 5, 6, 7, 0, 20, 21, 22, 23, 8, 9, 10, 11, 12, 13, 14] (by decide +kernel)
set_option maxRecDepth 100000 in
set_option maxHeartbeats 4000000 in
theorem wsq_wsL_law0_r31 : ∀ w ∈ wsL_law0_r31, w ∈ lw_tbl := qin qself wsL_law0_r31 [482, 185, 0, 0, 0, 0, 0, 0, 0, 0, 0, 0, 0, 0, 0, 709, 0, 0, 0, 0, 0, 0, 0, 0] [0, 15, 16, 17, 18, 1, 2, 3, 4, 5, 6, 7, 8, 19, 20, 21, 22, 23, 9, 10, 11, 12, 13, 14] (by decide +kernel)
set_option maxRecDepth 100000 in
set_option maxHeartbeats 4000000 in
theorem wsq_wsL_law0_r32 : ∀ w ∈ wsL_law0_r32, w ∈ lw_tbl := qin qself wsL_law0_r32 [20, 472, 1, 186, 1, 0, 0, 0, 0, 0, 0, 1, 0, 706, 0, 0, 0, 0, 1, 0, 0, 0, 0, 0] [3, 1, 13, 14, 15, 16, 17, 18, 0, 19, 4, 5, 6, 7, 8, 9, 10, 2, 20, 21, 22, 23, 11, 12] (by decide +kernel)
set_option maxRecDepth 100000 in
set_option maxHeartbeats 4000000 in
theorem wsq_wsL_law0_r33 : ∀ w ∈ wsL_law0_r33, w ∈ lw_tbl := qin qself wsL_law0_r33 [484, 209, 0, 0, 0, 0, 0, 0, 0, 0, 0, 0, 0, 1, 0, 0, 702, 0, 0, 0, 0, 0, 0, 0] [1, 2, 3, 4, 5, 16, 17, 18, 19, 6, 7, 8, 9, 10, 11, 12, 0, 20, 21, 22, 23, 13, 14, 15] (by decide +kernel)
set_option maxRecDepth 100000 in
set_option maxHeartbeats 4000000 in
theorem wsq_wsL_law0_r34 : ∀ w ∈ wsL_law0_r34, w ∈ lw_tbl := qin qself wsL_law0_r34 [710, 0, 0, 0, 0, 0, 0, 0, 0, 0, 0, 0, 0, 0, 0, 0, 0, 0, 0, 0, 0, 0, 688, 0] [0, 1, 2, 3, 4, 5, 6, 7, 8, 9, 10, 11, 12, 13, 14, 15, 16, 17, 18, 19, 20, 21, 22, 23] (by decide +kernel)
set_option maxRecDepth 100000 in
set_option maxHeartbeats 4000000 in
theorem wsq_wsL_law0_r35 : ∀ w ∈ wsL_law0_r35, w ∈ lw_tbl := qin qself wsL_law0_r35 [50, 681, 0, 0, 687, 0, 0, 0, 0, 0, 0, 0, 0, 0, 0, 0, 0, 0, 0, 0, 0, 0, 0] [4, 5, 6, 7, 8, 9, 10, 11, 12, 13, 14, 0, 15, 19, 21, 20, 0, 22, 16, 17, 18, 1, 2, 3] (by decide +kernel)
set_option maxRecDepth 100000 in
set_option maxHeartbeats 4000000 in
theorem wsq_wsL_law0_r36 : ∀ w ∈ wsL_law0_r36, w ∈ lw_tbl := qin qself wsL_law0_r36 [735, 0, 0, 0, 0, 0, 0, 0, 0, 0, 0, 0, 0, 0, 0, 691, 0, 0, 0, 0, 0, 0, 0, 1] [0, 1, 2, 3, 4, 5, 6, 7, 15, 16, 17, 18, 19, 20, 21, 22, 23, 8, 9, 10, 11, 12, 13, 14] (by decide +kernel)


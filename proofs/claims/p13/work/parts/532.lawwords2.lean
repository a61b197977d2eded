set_option maxRecDepth 100000 in
set_option maxHeartbeats 4000000 in
theorem wsq_wsL_law0_r25 : ∀ w ∈ wsL_law0_r25, w ∈ lw_tbl := qin qself wsL_law0_r25 [5, 0, 0, 162, 400, 14, 0, 1, 1, 0, 1, 1, 0, 0, 0, 1, 0, 0, 0, 0, 0, 689, 0, 0] [4, 5, 3, 6, 7, 8, 0, 9, 10, 11, 1, 12, 13, 14, 15, 2, 16, 17, 18, 19, 20, 21, 22, 23] (by decide +kernel)
set_option maxRecDepth 100000 in
set_option maxHeartbeats 4000000 in
theorem wsq_wsL_law0_r26 : ∀ w ∈ wsL_law0_r26, w ∈ lw_tbl := qin qself wsL_law0_r26 [18, 27, 0, 0, 1250, 0, 1, 0, 0, 0, 1, 2, 1, 1, 0, 0, 0, 0, 0, 0, 0, 0, 4, 0] [4, 22, 23, 3, 5, 6, 0, 7, 8, 9, 10, 11, 12, 13, 14, 15, 1, 16, 17, 18, 2, 19, 20, 21] (by decide +kernel)
set_option maxRecDepth 100000 in
set_option maxHeartbeats 4000000 in
theorem wsq_wsL_law0_r27 : ∀ w ∈ wsL_law0_r27, w ∈ lw_tbl := qin qself wsL_law0_r27 [476, 130, 0, 0, 0, 0, 0, 0, 709, 0, 0, 0, 2, 0, 0, 0, 0, 2, 19, 0, 0, 0, 0, 0] [8, 9, 10, 11, 12, 13, 14, 15, 16, 17, 18, 19, 20, 21, 22, 1, 2, 3, 4, 5, 6, 7, 0, 23] (by decide +kernel)
set_option maxRecDepth 100000 in
set_option maxHeartbeats 4000000 in
theorem wsq_wsL_law0_r28 : ∀ w ∈ wsL_law0_r28, w ∈ lw_tbl := qin qself wsL_law0_r28 [19, 19, 438, 135, 0, 0, 0, 0, 0, 0, 0, 0, 15, 0, 722, 0, 0, 0, 0, 0, 0, 0, 1, 0] [14, 15, 16, 3, 4, 5, 6, 7, 8, 9, 10, 11, 1, 2, 17, 18, 19, 20, 21, 22, 0, 23, 12, 13] (by decide +kernel)
set_option maxRecDepth 100000 in
set_option maxHeartbeats 4000000 in
theorem wsq_wsL_law0_r29 : ∀ w ∈ wsL_law0_r29, w ∈ lw_tbl := qin qself wsL_law0_r29 [488, 151, 0, 0, 0, 0, 0, 0, 0, 0, 0, 0, 0, 0, 0, 719, 0, 0, 0, 0, 0, 0, 0, 0] [1, 2, 3, 4, 5, 0, 6, 15, 16, 17, 18, 19, 7, 8, 9, 10, 11, 12, 13, 14, 20, 21, 22, 23] (by decide +kernel)
set_option maxRecDepth 100000 in
set_option maxHeartbeats 4000000 in
theorem wsq_wsL_law0_r30 : ∀ w ∈ wsL_law0_r30, w ∈ lw_tbl := qin qself wsL_law0_r30 [480, 1, 171, 0, 0, 0, 0, 0, 0, 0, 0, 0, 0, 0, 0, 0, 714, 0, 0, 0, 0, 0, 0, 0] [16, 2, 3, 4, 5, 6, 7, 8, 0, 17, 18, 19, 20, 9, 10, 11, 12, 13, 14, 15, 1, 21, 22, 23] (by decide +kernel)
set_option maxRecDepth 100000 in
set_option maxHeartbeats 4000000 in
theorem wsq_wsL_law0_r31 : ∀ w ∈ wsL_law0_r31, w ∈ lw_tbl := qin qself wsL_law0_r31 [493, 174, 0, 0, 0, 0, 0, 0, 0, 0, 0, 0, 0, 0, 0, 0, 707, 0, 0, 0, 0, 0, 0, 0] [16, 1, 2, 3, 4, 5, 6, 7, 8, 17, 18, 19, 20, 21, 9, 10, 11, 12, 13, 14, 15, 0, 22, 23] (by decide +kernel)
set_option maxRecDepth 100000 in
set_option maxHeartbeats 4000000 in
theorem wsq_wsL_law0_r32 : ∀ w ∈ wsL_law0_r32, w ∈ lw_tbl := qin qself wsL_law0_r32 [20, 474, 188, 0, 0, 0, 0, 0, 0, 1, 0, 0, 0, 0, 0, 700, 0, 0, 1, 0, 0, 0, 0, 0] [15, 16, 17, 18, 0, 19, 2, 3, 4, 5, 6, 7, 8, 1, 20, 21, 22, 23, 9, 10, 11, 12, 13, 14] (by decide +kernel)
set_option maxRecDepth 100000 in
set_option maxHeartbeats 4000000 in
theorem wsq_wsL_law0_r33 : ∀ w ∈ wsL_law0_r33, w ∈ lw_tbl := qin qself wsL_law0_r33 [484, 213, 0, 0, 0, 0, 0, 0, 0, 1, 0, 0, 0, 0, 0, 0, 694, 0, 0, 0, 0, 0, 0, 0] [1, 16, 17, 18, 19, 2, 3, 4, 5, 6, 7, 8, 0, 20, 21, 22, 23, 9, 10, 11, 12, 13, 14, 15] (by decide +kernel)
set_option maxRecDepth 100000 in
set_option maxHeartbeats 4000000 in
theorem wsq_wsL_law0_r34 : ∀ w ∈ wsL_law0_r34, w ∈ lw_tbl := qin qself wsL_law0_r34 [714, 0, 0, 0, 0, 0, 0, 0, 0, 0, 0, 0, 0, 0, 0, 0, 0, 0, 684, 0, 0, 0, 0, 0] [0, 1, 2, 3, 4, 5, 6, 7, 8, 9, 10, 11, 12, 13, 14, 15, 16, 17, 18, 19, 20, 21, 22, 23] (by decide +kernel)
set_option maxRecDepth 100000 in
set_option maxHeartbeats 4000000 in
theorem wsq_wsL_law0_r35 : ∀ w ∈ wsL_law0_r35, w ∈ lw_tbl := qin qself wsL_law0_r35 [50, 681, 0, 0, 0, 0, 0, 0, 683, 0, 0, 0, 0, 0, 0, 0, 0, 0, 0, 0, 0, 0, 0] [8, 9, 10, 11, 12, 13, 14, 0, 15, 19, 21, 20, 0, 22, 16, 17, 18, 1, 2, 3, 4, 5, 6, 7] (by decide +kernel)
set_option maxRecDepth 100000 in
set_option maxHeartbeats 4000000 in
theorem wsq_wsL_law0_r36 : ∀ w ∈ wsL_law0_r36, w ∈ lw_tbl := qin qself wsL_law0_r36 [739, 0, 0, 0, 0, 0, 0, 0, 0, 0, 0, 0, 0, 0, 0, 683, 0, 0, 0, 0, 0, 0, 0, 1] [0, 1, 2, 3, 15, 16, 17, 18, 19, 20, 21, 22, 23, 4, 5, 6, 7, 8, 9, 10, 11, 12, 13, 14] (by decide +kernel)


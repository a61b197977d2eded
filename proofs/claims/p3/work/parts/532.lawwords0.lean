theorem in_r {big : List Cond} (ws : List Cond) (ps : List Nat) (hp : ws = ps.filterMap (fun i => big[i]?)) : ∀ w ∈ ws, w ∈ big := by
  intro w hw
  rw [hp] at hw
  obtain ⟨i, -, hi⟩ := List.mem_filterMap.mp hw
  exact List.mem_of_getElem? hi
set_option maxRecDepth 100000 in
set_option maxHeartbeats 4000000 in
theorem wsq_wsL_law0_r1 : ∀ w ∈ wsL_law0_r1, w ∈ lw_tbl := qin qself wsL_law0_r1 [22, 0, 0, 0, 27, 0, 0, 0, 0, 0, 0, 0, 0, 0, 22, 0, 17, 1, 0, 0, 784, 0, 644, 0] [4, 5, 0, 20, 21, 3, 22, 23, 6, 7, 8, 9, 10, 11, 12, 13, 1, 17, 14, 15, 2, 18, 16, 19] (by decide +kernel)
set_option maxRecDepth 100000 in
set_option maxHeartbeats 4000000 in
theorem wsq_wsL_law0_r2 : ∀ w ∈ wsL_law0_r2, w ∈ lw_tbl := qin qself wsL_law0_r2 [63, 0, 0, 0, 0, 1, 1, 1, 10, 2, 0, 0, 0, 0, 1, 1, 13, 0, 0, 0, 0, 0, 0, 779] [16, 17, 18, 19, 20, 21, 22, 0, 1, 2, 3, 8, 4, 5, 6, 7, 9, 10, 11, 12, 13, 14, 15, 23] (by decide +kernel)
set_option maxRecDepth 100000 in
set_option maxHeartbeats 4000000 in
theorem wsq_wsL_law0_r3 : ∀ w ∈ wsL_law0_r3, w ∈ lw_tbl := qin qself wsL_law0_r3 [27, 0, 867, 0, 0, 0, 1, 0, 0, 0, 0, 0, 0, 0, 0, 3, 1, 3, 14, 5, 0, 0, 0, 2] [2, 3, 4, 5, 18, 19, 20, 21, 22, 6, 7, 1, 23, 8, 9, 10, 15, 16, 11, 12, 0, 13, 17, 14] (by decide +kernel)
set_option maxRecDepth 100000 in
set_option maxHeartbeats 4000000 in
theorem wsq_wsL_law0_r4 : ∀ w ∈ wsL_law0_r4, w ∈ lw_tbl := qin qself wsL_law0_r4 [21, 4, 2, 3, 0, 33, 1, 131, 0, 0, 0, 0, 0, 0, 0, 0, 0, 71, 626, 0, 0, 17, 0, 0] [18, 1, 19, 20, 21, 22, 2, 23, 7, 8, 0, 9, 10, 11, 12, 13, 14, 15, 16, 3, 17, 4, 5, 6] (by decide +kernel)
set_option maxRecDepth 100000 in
set_option maxHeartbeats 4000000 in
theorem wsq_wsL_law0_r5 : ∀ w ∈ wsL_law0_r5, w ∈ lw_tbl := qin qself wsL_law0_r5 [8, 63, 1, 91, 0, 0, 130, 633, 2, 33, 0, 0, 0, 0, 0, 0, 0, 0, 0, 0, 0, 0, 1, 0] [1, 2, 3, 4, 5, 9, 10, 11, 12, 13, 17, 18, 19, 20, 8, 14, 15, 16, 21, 22, 0, 23, 7, 6] (by decide +kernel)
set_option maxRecDepth 100000 in
set_option maxHeartbeats 4000000 in
theorem wsq_wsL_law0_r6 : ∀ w ∈ wsL_law0_r6, w ∈ lw_tbl := qin qself wsL_law0_r6 [9, 290, 0, 0, 0, 0, 0, 1, 0, 0, 0, 1, 576, 0, 0, 0, 93, 0, 0, 0, 0, 0, 1, 0] [1, 2, 3, 4, 5, 6, 7, 8, 9, 10, 16, 17, 18, 19, 20, 21, 22, 0, 23, 12, 13, 14, 15, 11] (by decide +kernel)
set_option maxRecDepth 100000 in
set_option maxHeartbeats 4000000 in
theorem wsq_wsL_law0_r7 : ∀ w ∈ wsL_law0_r7, w ∈ lw_tbl := qin qself wsL_law0_r7 [10, 302, 0, 0, 0, 0, 0, 0, 0, 0, 0, 0, 0, 0, 0, 0, 667, 0, 0, 0, 0, 0, 1, 0] [1, 2, 3, 4, 5, 6, 7, 8, 9, 10, 11, 16, 17, 18, 19, 20, 21, 22, 0, 23, 12, 13, 14, 15] (by decide +kernel)
set_option maxRecDepth 100000 in
set_option maxHeartbeats 4000000 in
theorem wsq_wsL_law0_r8 : ∀ w ∈ wsL_law0_r8, w ∈ lw_tbl := qin qself wsL_law0_r8 [2, 32, 0, 291, 0, 0, 0, 1, 15, 1, 0, 0, 0, 0, 0, 0, 0, 0, 0, 0, 0, 0, 1, 125] [3, 4, 5, 6, 7, 1, 8, 9, 0, 10, 23, 11, 12, 13, 14, 15, 16, 2, 17, 18, 19, 20, 21, 22] (by decide +kernel)
set_option maxRecDepth 100000 in
set_option maxHeartbeats 4000000 in
theorem wsq_wsL_law0_r9 : ∀ w ∈ wsL_law0_r9, w ∈ lw_tbl := qin qself wsL_law0_r9 [0, 2, 33, 124, 1, 0, 5, 0, 0, 15, 176, 0, 0, 0, 0, 0, 0, 0, 0, 0, 1, 97, 1, 11] [1, 10, 11, 3, 4, 0, 5, 12, 13, 14, 15, 16, 17, 18, 2, 19, 23, 22, 9, 6, 7, 8, 21, 20] (by decide +kernel)
set_option maxRecDepth 100000 in
set_option maxHeartbeats 4000000 in
theorem wsq_wsL_law0_r10 : ∀ w ∈ wsL_law0_r10, w ∈ lw_tbl := qin qself wsL_law0_r10 [378, 0, 0, 0, 0, 0, 0, 0, 0, 0, 0, 0, 0, 0, 0, 0, 0, 0, 0, 82, 1, 1, 8, 1] [0, 1, 2, 23, 22, 3, 4, 5, 6, 7, 8, 9, 10, 19, 20, 21, 11, 12, 13, 14, 15, 16, 17, 18] (by decide +kernel)
set_option maxRecDepth 100000 in
set_option maxHeartbeats 4000000 in
theorem wsq_wsL_law0_r11 : ∀ w ∈ wsL_law0_r11, w ∈ lw_tbl := qin qself wsL_law0_r11 [182, 0, 0, 0, 1, 0, 1, 0, 0, 0, 0, 0, 0, 0, 0, 0, 0, 0, 195, 0, 0, 0, 0, 85] [18, 19, 20, 23, 0, 1, 2, 3, 4, 5, 6, 7, 8, 9, 10, 11, 12, 13, 14, 15, 16, 17, 21, 22] (by decide +kernel)
set_option maxRecDepth 100000 in
set_option maxHeartbeats 4000000 in
theorem wsq_wsL_law0_r12 : ∀ w ∈ wsL_law0_r12, w ∈ lw_tbl := qin qself wsL_law0_r12 [13, 388, 0, 0, 0, 0, 0, 0, 0, 0, 0, 0, 0, 627, 8, 0, 0, 0, 0, 0, 1, 0, 0, 63] [1, 2, 6, 7, 3, 4, 5, 8, 9, 10, 11, 12, 14, 15, 16, 17, 18, 23, 19, 20, 0, 21, 13, 22] (by decide +kernel)


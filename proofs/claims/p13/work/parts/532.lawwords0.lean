theorem in_r {big : List Cond} (ws : List Cond) (ps : List Nat) (hp : ws = ps.filterMap (fun i => big[i]?)) : ∀ w ∈ ws, w ∈ big := by
  intro w hw
  rw [hp] at hw
  obtain ⟨i, -, hi⟩ := List.mem_filterMap.mp hw
  exact List.mem_of_getElem? hi
set_option maxRecDepth 100000 in
set_option maxHeartbeats 4000000 in
theorem wsq_wsL_law0_r1 : ∀ w ∈ wsL_law0_r1, w ∈ lw_tbl := qin qself wsL_law0_r1 [22, 0, 0, 0, 27, 0, 0, 0, 0, 0, 0, 0, 0, 0, 22, 0, 17, 1, 0, 0, 780, 0, 644, 0] [4, 5, 0, 20, 21, 3, 22, 23, 6, 7, 8, 9, 10, 11, 12, 13, 1, 17, 14, 15, 2, 18, 16, 19] (by decide +kernel)
set_option maxRecDepth 100000 in
set_option maxHeartbeats 4000000 in
theorem wsq_wsL_law0_r2 : ∀ w ∈ wsL_law0_r2, w ∈ lw_tbl := qin qself wsL_law0_r2 [63, 0, 0, 0, 0, 1, 1, 1, 10, 2, 0, 0, 0, 0, 1, 1, 13, 0, 0, 0, 0, 0, 0, 775] [16, 17, 18, 19, 20, 21, 22, 0, 1, 2, 3, 8, 4, 5, 6, 7, 9, 10, 11, 12, 13, 14, 15, 23] (by decide +kernel)
set_option maxRecDepth 100000 in
set_option maxHeartbeats 4000000 in
theorem wsq_wsL_law0_r3 : ∀ w ∈ wsL_law0_r3, w ∈ lw_tbl := qin qself wsL_law0_r3 [27, 0, 863, 0, 0, 0, 1, 0, 0, 0, 0, 0, 0, 0, 0, 3, 1, 3, 14, 5, 0, 0, 0, 2] [2, 3, 4, 5, 18, 19, 20, 21, 22, 6, 7, 1, 23, 8, 9, 10, 15, 16, 11, 12, 0, 13, 17, 14] (by decide +kernel)
set_option maxRecDepth 100000 in
set_option maxHeartbeats 4000000 in
theorem wsq_wsL_law0_r4 : ∀ w ∈ wsL_law0_r4, w ∈ lw_tbl := qin qself wsL_law0_r4 [21, 4, 2, 3, 0, 33, 1, 131, 0, 0, 0, 0, 0, 0, 0, 0, 0, 71, 622, 0, 0, 17, 0, 0] [18, 1, 19, 20, 21, 22, 2, 23, 7, 8, 0, 9, 10, 11, 12, 13, 14, 15, 16, 3, 17, 4, 5, 6] (by decide +kernel)
set_option maxRecDepth 100000 in
set_option maxHeartbeats 4000000 in
theorem wsq_wsL_law0_r5 : ∀ w ∈ wsL_law0_r5, w ∈ lw_tbl := qin qself wsL_law0_r5 [8, 63, 1, 91, 0, 0, 130, 629, 2, 33, 0, 0, 0, 0, 0, 0, 0, 0, 0, 0, 0, 0, 1, 0] [1, 2, 3, 4, 5, 9, 10, 11, 12, 13, 17, 18, 19, 20, 8, 14, 15, 16, 21, 22, 0, 23, 7, 6] (by decide +kernel)
set_option maxRecDepth 100000 in
set_option maxHeartbeats 4000000 in
theorem wsq_wsL_law0_r6 : ∀ w ∈ wsL_law0_r6, w ∈ lw_tbl := qin qself wsL_law0_r6 [9, 290, 0, 0, 0, 0, 0, 1, 0, 0, 0, 1, 0, 0, 0, 0, 665, 0, 0, 0, 0, 0, 1, 0] [1, 2, 3, 4, 5, 6, 7, 8, 9, 10, 16, 17, 18, 19, 20, 21, 22, 0, 23, 11, 12, 13, 14, 15] (by decide +kernel)
set_option maxRecDepth 100000 in
set_option maxHeartbeats 4000000 in
theorem wsq_wsL_law0_r7 : ∀ w ∈ wsL_law0_r7, w ∈ lw_tbl := qin qself wsL_law0_r7 [10, 306, 0, 0, 0, 0, 0, 0, 0, 0, 0, 0, 0, 0, 0, 0, 659, 0, 0, 0, 0, 0, 1, 0] [1, 2, 3, 4, 5, 6, 7, 16, 17, 18, 19, 20, 21, 22, 0, 23, 8, 9, 10, 11, 12, 13, 14, 15] (by decide +kernel)
set_option maxRecDepth 100000 in
set_option maxHeartbeats 4000000 in
theorem wsq_wsL_law0_r8 : ∀ w ∈ wsL_law0_r8, w ∈ lw_tbl := qin qself wsL_law0_r8 [2, 0, 31, 0, 125, 170, 15, 1, 0, 0, 0, 0, 0, 0, 0, 0, 0, 0, 0, 0, 1, 0, 0, 123] [5, 2, 6, 7, 0, 8, 23, 9, 10, 11, 12, 13, 14, 3, 15, 16, 17, 18, 19, 20, 1, 21, 22, 4] (by decide +kernel)
set_option maxRecDepth 100000 in
set_option maxHeartbeats 4000000 in
theorem wsq_wsL_law0_r9 : ∀ w ∈ wsL_law0_r9, w ∈ lw_tbl := qin qself wsL_law0_r9 [0, 36, 126, 0, 5, 0, 0, 15, 178, 0, 0, 0, 0, 0, 0, 0, 1, 0, 0, 0, 94, 1, 11, 4] [2, 0, 3, 8, 9, 10, 11, 12, 13, 14, 1, 15, 22, 21, 7, 4, 5, 6, 20, 16, 17, 18, 19, 23] (by decide +kernel)
set_option maxRecDepth 100000 in
set_option maxHeartbeats 4000000 in
theorem wsq_wsL_law0_r10 : ∀ w ∈ wsL_law0_r10, w ∈ lw_tbl := qin qself wsL_law0_r10 [381, 0, 0, 0, 0, 0, 0, 0, 0, 0, 0, 0, 0, 0, 0, 0, 0, 0, 0, 79, 1, 1, 3, 4] [23, 0, 1, 2, 3, 4, 5, 6, 7, 19, 20, 21, 8, 9, 10, 11, 12, 13, 14, 15, 16, 17, 18, 22] (by decide +kernel)
set_option maxRecDepth 100000 in
set_option maxHeartbeats 4000000 in
theorem wsq_wsL_law0_r11 : ∀ w ∈ wsL_law0_r11, w ∈ lw_tbl := qin qself wsL_law0_r11 [182, 0, 0, 0, 1, 0, 1, 0, 0, 0, 0, 0, 0, 0, 0, 0, 0, 0, 198, 0, 0, 0, 3, 0] [0, 1, 2, 3, 4, 5, 6, 7, 8, 9, 10, 11, 12, 13, 14, 15, 16, 17, 18, 19, 20, 21, 22, 23] (by decide +kernel)
set_option maxRecDepth 100000 in
set_option maxHeartbeats 4000000 in
theorem wsq_wsL_law0_r12 : ∀ w ∈ wsL_law0_r12, w ∈ lw_tbl := qin qself wsL_law0_r12 [13, 390, 0, 0, 2, 0, 0, 0, 0, 526, 0, 95, 8, 0, 0, 0, 0, 0, 1, 0, 0, 1, 3, 57] [1, 2, 3, 4, 5, 6, 7, 8, 12, 13, 14, 15, 16, 23, 17, 18, 0, 19, 11, 20, 10, 9, 21, 22] (by decide +kernel)


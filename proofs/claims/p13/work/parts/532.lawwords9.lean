set_option maxRecDepth 100000 in
theorem inX0 : ∀ w ∈ wsX00, w ∈ lw_tbl := by decide +kernel
set_option maxRecDepth 100000 in
theorem inX1 : ∀ w ∈ wsX10, w ∈ lw_tbl := by decide +kernel
set_option maxRecDepth 100000 in
theorem inX2 : ∀ w ∈ wsX20, w ∈ lw_tbl := by decide +kernel
set_option maxRecDepth 100000 in
theorem inX3 : ∀ w ∈ wsX30, w ∈ lw_tbl := by decide +kernel
set_option maxRecDepth 100000 in
theorem inX4 : ∀ w ∈ wsX40, w ∈ lw_tbl := by decide +kernel
set_option maxRecDepth 100000 in
theorem inX5 : ∀ w ∈ wsX50, w ∈ lw_tbl := by decide +kernel
set_option maxRecDepth 100000 in
theorem inX6 : ∀ w ∈ wsX60, w ∈ lw_tbl := by decide +kernel
set_option maxRecDepth 100000 in
theorem inJx145de : ∀ w ∈ wsJx145de0, w ∈ lw_tbl := by decide +kernel
set_option maxRecDepth 100000 in
theorem inJx00060 : ∀ w ∈ wsJx000600, w ∈ lw_tbl := by decide +kernel
set_option maxRecDepth 100000 in
theorem inJx8e188 : ∀ w ∈ wsJx8e1880, w ∈ lw_tbl := by decide +kernel
set_option maxRecDepth 100000 in
theorem inJxb160c : ∀ w ∈ wsJxb160c0, w ∈ lw_tbl := by decide +kernel
set_option maxRecDepth 100000 in
theorem inJxe99ae : ∀ w ∈ wsJxe99ae0, w ∈ lw_tbl := by decide +kernel
set_option maxRecDepth 100000 in
theorem inJxf58ca : ∀ w ∈ wsJxf58ca0, w ∈ lw_tbl := by decide +kernel
set_option maxRecDepth 100000 in
theorem inJxab1ab : ∀ w ∈ wsJxab1ab0, w ∈ lw_tbl := by decide +kernel
set_option maxRecDepth 100000 in
theorem inJ9 : ∀ w ∈ wsJ90, w ∈ lw_tbl := by decide +kernel
set_option maxRecDepth 100000 in
theorem inJxd2413 : ∀ w ∈ wsJxd24130, w ∈ lw_tbl := by decide +kernel
set_option maxRecDepth 100000 in
theorem inJ0 : ∀ w ∈ wsJ00, w ∈ lw_tbl := by decide +kernel
set_option maxRecDepth 100000 in
theorem inJ10 : ∀ w ∈ wsJ100, w ∈ lw_tbl := by decide +kernel
set_option maxRecDepth 100000 in
theorem inJxfd54e : ∀ w ∈ wsJxfd54e0, w ∈ lw_tbl := by decide +kernel
set_option maxRecDepth 100000 in
theorem inJx3cf43 : ∀ w ∈ wsJx3cf430, w ∈ lw_tbl := by decide +kernel
set_option maxRecDepth 100000 in
theorem inJxa1e45 : ∀ w ∈ wsJxa1e450, w ∈ lw_tbl := by decide +kernel
set_option maxRecDepth 100000 in
theorem inJxc12de : ∀ w ∈ wsJxc12de0, w ∈ lw_tbl := by decide +kernel
set_option maxRecDepth 100000 in
theorem inJx35411 : ∀ w ∈ wsJx354110, w ∈ lw_tbl := by decide +kernel
set_option maxRecDepth 100000 in
theorem inJx4a65c : ∀ w ∈ wsJx4a65c0, w ∈ lw_tbl := by decide +kernel
set_option maxRecDepth 100000 in
theorem inJ7 : ∀ w ∈ wsJ70, w ∈ lw_tbl := by decide +kernel
set_option maxRecDepth 100000 in
theorem inJx5ef63 : ∀ w ∈ wsJx5ef630, w ∈ lw_tbl := by decide +kernel
set_option maxRecDepth 100000 in
theorem inJx4d0d8 : ∀ w ∈ wsJx4d0d80, w ∈ lw_tbl := by decide +kernel
set_option maxRecDepth 100000 in
theorem inJxbd725 : ∀ w ∈ wsJxbd7250, w ∈ lw_tbl := by decide +kernel
set_option maxRecDepth 100000 in
theorem inJ15 : ∀ w ∈ wsJ150, w ∈ lw_tbl := by decide +kernel
set_option maxRecDepth 100000 in
theorem inJxf0a74 : ∀ w ∈ wsJxf0a740, w ∈ lw_tbl := by decide +kernel
set_option maxRecDepth 100000 in
theorem inJxa66e6 : ∀ w ∈ wsJxa66e60, w ∈ lw_tbl := by decide +kernel
set_option maxRecDepth 100000 in
theorem inJ8 : ∀ w ∈ wsJ80, w ∈ lw_tbl := by decide +kernel
set_option maxRecDepth 100000 in
theorem inJ3 : ∀ w ∈ wsJ30, w ∈ lw_tbl := by decide +kernel
set_option maxRecDepth 100000 in
theorem wsL_law_in0 : ∀ w ∈ wsL_law0, w ∈ lw_tbl := fun w h => (List.mem_append.mp h).elim (fun h => (List.mem_append.mp h).elim (fun h => (List.mem_append.mp h).elim (fun h => (List.mem_append.mp h).elim (fun h => (List.mem_append.mp h).elim (fun h => (List.mem_append.mp h).elim (fun h => (List.mem_append.mp h).elim (fun h => (List.mem_append.mp h).elim (fun h => (List.mem_append.mp h).elim (fun h => (List.mem_append.mp h).elim (fun h => (List.mem_append.mp h).elim (fun h => wsq_wsL_law0_r1 w h) (fun h => (List.mem_append.mp h).elim (fun h => wsq_wsL_law0_r2 w h) (fun h => (List.mem_append.mp h).elim (fun h => wsq_wsL_law0_r3 w h) (fun h => (List.mem_append.mp h).elim (fun h => wsq_wsL_law0_r4 w h) (fun h => (List.mem_append.mp h).elim (fun h => wsq_wsL_law0_r5 w h) (fun h => (List.mem_append.mp h).elim (fun h => wsq_wsL_law0_r6 w h) (fun h => (List.mem_append.mp h).elim (fun h => wsq_wsL_law0_r7 w h) (fun h => (List.mem_append.mp h).elim (fun h => wsq_wsL_law0_r8 w h) (fun h => (List.mem_append.mp h).elim (fun h => wsq_wsL_law0_r9 w h) (fun h => (List.mem_append.mp h).elim (fun h => wsq_wsL_law0_r10 w h) (fun h => (List.mem_append.mp h).elim (fun h => wsq_wsL_law0_r11 w h) (fun h => (List.mem_append.mp h).elim (fun h => wsq_wsL_law0_r12 w h) (fun h => (List.mem_append.mp h).elim (fun h => wsq_wsL_law0_r13 w h) (fun h => (List.mem_append.mp h).elim (fun h => wsq_wsL_law0_r14 w h) (fun h => (List.mem_append.mp h).elim (fun h => wsq_wsL_law0_r15 w h) (fun h => (List.mem_append.mp h).elim (fun h => wsq_wsL_law0_r16 w h) (fun h => (List.mem_append.mp h).elim (fun h => wsq_wsL_law0_r17 w h) (fun h => (List.mem_append.mp h).elim (fun h => wsq_wsL_law0_r18 w h) (fun h => (List.mem_append.mp h).elim (fun h => wsq_wsL_law0_r19 w h) (fun h => (List.mem_append.mp h).elim (fun h => wsq_wsL_law0_r20 w h) (fun h => (List.mem_append.mp h).elim (fun h => wsq_wsL_law0_r21 w h) (fun h => (List.mem_append.mp h).elim (fun h => wsq_wsL_law0_r22 w h) (fun h => (List.mem_append.mp h).elim (fun h => wsq_wsL_law0_r23 w h) (fun h => (List.mem_append.mp h).elim (fun h => wsq_wsL_law0_r24 w h) (fun h => (List.mem_append.mp h).elim (fun h => wsq_wsL_law0_r25 w h) (fun h => (List.mem_append.mp h).elim (fun h => wsq_wsL_law0_r26 w h) (fun h => (List.mem_append.mp h).elim (fun h => wsq_wsL_law0_r27 w h) (fun h => (List.mem_append.mp h).elim (fun h => wsq_wsL_law0_r28 w h) (fun h => (List.mem_append.mp h).elim (fun h => wsq_wsL_law0_r29 w h) (fun h => (List.mem_append.mp h).elim (fun h => wsq_wsL_law0_r30 w h) (fun h => (List.mem_append.mp h).elim (fun h => wsq_wsL_law0_r31 w h) (fun h => (List.mem_append.mp h).elim (fun h => wsq_wsL_law0_r32 w h) (fun h => (List.mem_append.mp h).elim (fun h => wsq_wsL_law0_r33 w h) (fun h => (List.mem_append.mp h).elim (fun h => wsq_wsL_law0_r34 w h) (fun h => (List.mem_append.mp h).elim (fun h => wsq_wsL_law0_r35 w h) (fun h => (List.mem_append.mp h).elim (fun h => wsq_wsL_law0_r36 w h) (fun h => (List.mem_append.mp h).elim (fun h => wsq_wsL_law0_r37 w h) (fun h => (List.mem_append.mp h).elim (fun h => wsq_wsL_law0_r38 w h) (fun h => (List.mem_append.mp h).elim (fun h => wsq_wsL_law0_r39 w h) (fun h => (List.mem_append.mp h).elim (fun h => wsq_wsL_law0_r40 w h) (fun h => (List.mem_append.mp h).elim (fun h => wsq_wsL_law0_r41 w h) (fun h => (List.mem_append.mp h).elim (fun h => wsq_wsL_law0_r42 w h) (fun h => (List.mem_append.mp h).elim (fun h => wsq_wsL_law0_r43 w h) (fun h => (List.mem_append.mp h).elim (fun h => wsq_wsL_law0_r44 w h) (fun h => (List.mem_append.mp h).elim (fun h => wsq_wsL_law0_r45 w h) (fun h => wsq_wsL_law0_r46 w h)))))))))))))))))))))))))))))))))))))))))))))) (fun h => inX3 w h)) (fun h => inX6 w h)) (fun h => inX2 w h)) (fun h => inX0 w h)) (fun h => inJx4a65c w h)) (fun h => inX1 w h)) (fun h => inJx35411 w h)) (fun h => inX5 w h)) (fun h => inX4 w h)) (fun h => absurd h List.not_mem_nil)
noncomputable def wzL_law : List Cond := wsL_law0 ++ (vx_atM "java/lang/ArrayIndexOutOfBoundsException" ["java/lang/IndexOutOfBoundsException", "java/lang/RuntimeException", "java/lang/Exception"]).filter goodWord ++ (vx_atS RX3 60 "java/lang/IllegalArgumentException" ["java/lang/RuntimeException", "java/lang/Exception"]).filter goodWord ++ (vx_atS RX3 67 "java/lang/UnsupportedOperationException" ["java/lang/RuntimeException", "java/lang/Exception"]).filter goodWord ++ (vx_atS RX3 96 "java/lang/IllegalStateException" ["java/lang/RuntimeException", "java/lang/Exception"]).filter goodWord ++ (vx_atM "java/lang/ArithmeticException" ["java/lang/RuntimeException", "java/lang/Exception"]).filter goodWord ++ (vx_atS RX3 139 "java/lang/IndexOutOfBoundsException" ["java/lang/RuntimeException", "java/lang/Exception"]).filter goodWord ++ (vx_atS RX3 308 "java/lang/ArithmeticException" ["java/lang/RuntimeException", "java/lang/Exception"]).filter goodWord
set_option maxRecDepth 100000 in
theorem wzL_law_in : ∀ w ∈ wzL_law, w ∈ lw_tbl := fun w h => (List.mem_append.mp h).elim (fun h => (List.mem_append.mp h).elim (fun h => (List.mem_append.mp h).elim (fun h => (List.mem_append.mp h).elim (fun h => (List.mem_append.mp h).elim (fun h => (List.mem_append.mp h).elim (fun h => (List.mem_append.mp h).elim (fun h => wsL_law_in0 w h) (fun h => wsL_law_x0 w h)) (fun h => wsL_law_x1 w h)) (fun h => wsL_law_x2 w h)) (fun h => wsL_law_x3 w h)) (fun h => wsL_law_x4 w h)) (fun h => wsL_law_x5 w h)) (fun h => wsL_law_x7 w h)


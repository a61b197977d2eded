set_option maxRecDepth 20000 in
theorem ggL_law_L_isOpen_p6 : GoodIn wzL_law wsX10 := qgood qwzL_law_in _ [1115, 0, 0, 0, 0, 0, 0, 0, 0, 0, 0, 0, 0, 0, 0] [0, 1, 2, 3, 4, 5, 6, 7, 8, 9, 10, 11, 12, 13, 14] (by decide +kernel) (by decide +kernel)
set_option maxRecDepth 20000 in
theorem ggL_law_L_isOpen : GoodIn wzL_law wsL_isOpen := goodIn_app (a := [.codeWith yL_isOpen cL_isOpen 4 (some .int) [(0, 16, 19, 54)]]) ggL_law_L_isOpen_p0 (goodIn_app (goodIn_app (goodIn_app (goodIn_app (goodIn_app (goodIn_app ggL_law_L_isOpen_p1 (goodIn_app ggL_law_L_isOpen_p2 ggL_law_L_isOpen_p3)) ggL_law_L_isOpen_p4) ggL_law_L_isOpen_p5) ggL_law_L_isOpen_p6) (goodIn_sub (fun _ h => (List.mem_append_left _ (List.mem_append_left _ (List.mem_append_left _ (List.mem_append_left _ (List.mem_append_left _ (List.mem_append_left _ (List.mem_append_right _ h)))))))) (by decide +kernel))) (goodIn_sub (fun _ h => (List.mem_append_left _ (List.mem_append_right _ h))) (by decide +kernel)))
set_option maxRecDepth 20000 in
theorem gL_law_L_isOpen : GoodIn wzL_law (va_wsS RL 246 yL_isOpen wsL_isOpen) := goodIn_app (qof qwzL_law_in _ (by decide +kernel)) ggL_law_L_isOpen
set_option maxRecDepth 20000 in
theorem ggL_law_X6_isOpen_p0 : GoodIn wzL_law [.code yX6_isOpen cX6_isOpen 2 (some .boolean)] := qgood qwzL_law_in _ [847] [0] (by decide +kernel) (by decide +kernel)
set_option maxRecDepth 20000 in
theorem ggL_law_X6_isOpen_p1 : GoodIn wzL_law wsX6_isOpen_r1 := qgood qwzL_law_in _ [5, 53, 0, 50, 0, 0, 0, 0, 0, 0, 0, 158, 231, 0, 0, 0, 0, 96, 0, 0, 133, 0, 0, 0] [2, 11, 20, 21, 22, 0, 23, 12, 13, 14, 1, 15, 16, 3, 4, 5, 6, 7, 8, 9, 10, 17, 18, 19] (by decide +kernel) (by decide +kernel)
set_option maxRecDepth 20000 in
theorem ggL_law_X6_isOpen_p2 : GoodIn wzL_law wsX6_isOpen_r2 := qgood qwzL_law_in _ [65, 253, 3, 3, 22, 0, 0, 260, 0, 0, 0, 0, 0, 0, 0, 0, 0, 0, 0, 0, 222, 0, 0, 0] [7, 8, 9, 10, 11, 12, 13, 14, 15, 16, 17, 18, 19, 0, 20, 21, 22, 1, 23, 2, 3, 4, 5, 6] (by decide +kernel) (by decide +kernel)
set_option maxRecDepth 20000 in
theorem ggL_law_X6_isOpen_p3 : GoodIn wzL_law wsX6_isOpen_r3 := qgood qwzL_law_in _ [35, 100, 0, 0, 191, 0, 0, 0, 0, 0, 17, 0, 0, 0, 0, 0, 0, 0, 0, 0, 0, 0, 0, 0] [10, 11, 0, 4, 5, 6, 7, 8, 9, 12, 13, 14, 15, 16, 17, 18, 19, 20, 21, 22, 23, 1, 2, 3] (by decide +kernel) (by decide +kernel)
set_option maxRecDepth 20000 in
theorem ggL_law_X6_isOpen_p4 : GoodIn wzL_law wsX6_isOpen_r4 := qgood qwzL_law_in _ [52, 127, 0, 0, 1, 0, 142, 42, 0, 0, 0, 0, 260, 0, 0, 213] [0, 15, 12, 13, 14, 7, 8, 9, 10, 11, 4, 2, 5, 6, 1, 3] (by decide +kernel) (by decide +kernel)
set_option maxRecDepth 20000 in
theorem ggL_law_X6_isOpen_p5 : GoodIn wzL_law wsX60 := qgood qwzL_law_in _ [1094, 0, 0, 0, 0, 0, 0, 0, 0, 0, 0] [0, 1, 2, 3, 4, 5, 6, 7, 8, 9, 10] (by decide +kernel) (by decide +kernel)
set_option maxRecDepth 20000 in
theorem ggL_law_X6_isOpen_p6 : GoodIn wzL_law wsJx4a65c0 := qgood qwzL_law_in _ [1112, 0, 0] [0, 1, 2] (by decide +kernel) (by decide +kernel)
set_option maxRecDepth 20000 in
theorem ggL_law_X6_isOpen_p7 : GoodIn wzL_law wsX50 := qgood qwzL_law_in _ [1134, 0, 0, 0, 0, 0, 0, 0, 0, 0] [0, 1, 2, 3, 4, 5, 6, 7, 8, 9] (by decide +kernel) (by decide +kernel)
set_option maxRecDepth 20000 in
theorem ggL_law_X6_isOpen_p8 : GoodIn wzL_law wsX40 := qgood qwzL_law_in _ [1144, 0, 0, 0, 0] [0, 1, 2, 3, 4] (by decide +kernel) (by decide +kernel)
set_option maxRecDepth 20000 in
theorem ggL_law_X6_isOpen : GoodIn wzL_law wsX6_isOpen := goodIn_app (a := [.code yX6_isOpen cX6_isOpen 2 (some .boolean)]) ggL_law_X6_isOpen_p0 (goodIn_app (goodIn_app (goodIn_app (goodIn_app (goodIn_app (goodIn_app ggL_law_X6_isOpen_p1 (goodIn_app ggL_law_X6_isOpen_p2 (goodIn_app ggL_law_X6_isOpen_p3 ggL_law_X6_isOpen_p4))) ggL_law_X6_isOpen_p5) ggL_law_X6_isOpen_p6) ggL_law_X6_isOpen_p7) ggL_law_X6_isOpen_p8) (goodIn_sub (fun _ h => (List.mem_append_left _ (List.mem_append_left _ (List.mem_append_left _ (List.mem_append_left _ (List.mem_append_left _ (List.mem_append_left _ (List.mem_append_right _ h)))))))) (by decide +kernel)))
set_option maxRecDepth 20000 in
theorem gL_law_X6_isOpen : GoodIn wzL_law (wsV RL 248 RX6 yX6_isOpen wsX6_isOpen) := goodIn_app (qof qwzL_law_in _ (by decide +kernel)) ggL_law_X6_isOpen
set_option maxRecDepth 20000 in
theorem ggL_law_L_carries_p0 : GoodIn wzL_law [.codeWith yL_carries cL_carries 5 (some .int) [(0, 10, 13, 54), (0, 10, 17, 64)]] := qgood qwzL_law_in _ [855] [0] (by decide +kernel) (by decide +kernel)
set_option maxRecDepth 20000 in
theorem ggL_law_L_carries_p1 : GoodIn wzL_law wsL_carries_r1 := qgood qwzL_law_in _ [2, 14, 7, 72, 0, 0, 90, 0, 0, 0, 371, 4, 0, 0, 0, 0, 0, 77, 4, 0, 195, 0, 0, 0] [10, 17, 20, 21, 22, 0, 23, 11, 12, 18, 19, 1, 2, 13, 14, 15, 16, 3, 4, 5, 6, 7, 8, 9] (by decide +kernel) (by decide +kernel)
set_option maxRecDepth 20000 in
theorem ggL_law_L_carries_p2 : GoodIn wzL_law wsL_carries_r2 := qgood qwzL_law_in _ [16, 6, 0, 11, 0, 88, 0, 0, 0, 72, 3, 0, 0, 0, 0, 33, 0, 614, 0, 0, 0, 0, 0, 0] [2, 1, 17, 18, 19, 9, 20, 15, 16, 10, 11, 12, 13, 14, 5, 6, 7, 0, 8, 3, 4, 21, 22, 23] (by decide +kernel) (by decide +kernel)
set_option maxRecDepth 20000 in
theorem ggL_law_L_carries_p3 : GoodIn wzL_law wsL_carries_r3 := qgood qwzL_law_in _ [205, 19, 13, 0, 0, 0, 0, 2, 0, 0, 0, 0, 0, 0, 0, 4, 0, 0, 0, 579, 0, 0, 23, 0] [22, 23, 19, 20, 21, 1, 2, 3, 4, 5, 6, 0, 7, 8, 9, 10, 11, 12, 13, 14, 15, 16, 17, 18] (by decide +kernel) (by decide +kernel)
set_option maxRecDepth 20000 in
theorem ggL_law_L_carries_p4 : GoodIn wzL_law wsL_carries_r4 := qgood qwzL_law_in _ [180, 0, 0, 1, 0, 40, 0, 34, 0, 0, 0, 0] [5, 7, 3, 1, 4, 6, 8, 0, 2, 9, 10, 11] (by decide +kernel) (by decide +kernel)
set_option maxRecDepth 20000 in
theorem ggL_law_L_carries_p5 : GoodIn wzL_law wsX30 := qgood qwzL_law_in _ [1084, 0, 0, 0, 0, 0, 0, 0, 0, 0] [0, 1, 2, 3, 4, 5, 6, 7, 8, 9] (by decide +kernel) (by decide +kernel)
set_option maxRecDepth 20000 in
theorem ggL_law_L_carries_p6 : GoodIn wzL_law wsX10 := qgood qwzL_law_in _ [1115, 0, 0, 0, 0, 0, 0, 0, 0, 0, 0, 0, 0, 0, 0] [0, 1, 2, 3, 4, 5, 6, 7, 8, 9, 10, 11, 12, 13, 14] (by decide +kernel) (by decide +kernel)
set_option maxRecDepth 20000 in
theorem ggL_law_L_carries_p7 : GoodIn wzL_law wsX20 := qgood qwzL_law_in _ [1105, 0, 0, 0] [0, 1, 2, 3] (by decide +kernel) (by decide +kernel)
set_option maxRecDepth 20000 in
theorem ggL_law_L_carries : GoodIn wzL_law wzL_carries := goodIn_app (a := [.codeWith yL_carries cL_carries 5 (some .int) [(0, 10, 13, 54), (0, 10, 17, 64)]]) ggL_law_L_carries_p0 (goodIn_app (goodIn_app (goodIn_app (goodIn_app (goodIn_app (goodIn_app ggL_law_L_carries_p1 (goodIn_app ggL_law_L_carries_p2 (goodIn_app ggL_law_L_carries_p3 ggL_law_L_carries_p4))) ggL_law_L_carries_p5) ggL_law_L_carries_p6) ggL_law_L_carries_p7) (goodIn_sub (fun _ h => (List.mem_append_left _ (List.mem_append_left _ (List.mem_append_left _ (List.mem_append_left _ (List.mem_append_left _ (List.mem_append_left _ (List.mem_append_right _ h)))))))) (by decide +kernel))) (goodIn_sub (fun _ h => (List.mem_append_left _ (List.mem_append_right _ h))) (by decide +kernel)))
set_option maxRecDepth 20000 in
theorem gL_law_L_carries : GoodIn wzL_law (va_wsS RL 249 yL_carries wzL_carries) := goodIn_app (qof qwzL_law_in _ (by decide +kernel)) ggL_law_L_carries
set_option maxRecDepth 20000 in
theorem ggL_law_X6_carries_p0 : GoodIn wzL_law [.code yX6_carries cX6_carries 5 (some .int)] := qgood qwzL_law_in _ [872] [0] (by decide +kernel) (by decide +kernel)
set_option maxRecDepth 20000 in
theorem ggL_law_X6_carries_p1 : GoodIn wzL_law wsX6_carries_r1 := qgood qwzL_law_in _ [5, 53, 0, 50, 0, 0, 0, 0, 0, 0, 0, 158, 231, 0, 0, 0, 0, 90, 0, 0, 0, 0, 0, 0] [2, 11, 17, 18, 19, 0, 20, 21, 22, 12, 13, 14, 1, 15, 16, 3, 4, 5, 6, 7, 8, 9, 10, 23] (by decide +kernel) (by decide +kernel)
set_option maxRecDepth 20000 in
theorem ggL_law_X6_carries_p2 : GoodIn wzL_law wsX6_carries_r2 := qgood qwzL_law_in _ [65, 253, 10, 0, 0, 23, 0, 0, 252, 0, 0, 0, 0, 0, 0, 0, 0, 0, 0, 0, 0, 0, 0, 247] [8, 9, 10, 11, 12, 13, 14, 15, 16, 17, 18, 19, 20, 21, 22, 0, 23, 5, 6, 1, 7, 2, 3, 4] (by decide +kernel) (by decide +kernel)
set_option maxRecDepth 20000 in
theorem ggL_law_X6_carries_p3 : GoodIn wzL_law wsX6_carries_r3 := qgood qwzL_law_in _ [35, 287, 3, 5, 0, 0, 14, 0, 0, 0, 0, 0, 3, 0, 0, 0, 0, 0, 0, 0, 481, 0, 0, 0] [3, 4, 5, 2, 20, 21, 22, 23, 1, 6, 7, 8, 9, 10, 0, 11, 12, 13, 14, 15, 16, 17, 18, 19] (by decide +kernel) (by decide +kernel)
set_option maxRecDepth 20000 in
theorem ggL_law_X6_carries_p4 : GoodIn wzL_law wsX6_carries_r4 := qgood qwzL_law_in _ [52, 83, 0, 0, 41, 0, 0, 1, 0, 142, 42, 0, 0, 0, 0, 260, 0, 0, 213] [1, 2, 3, 0, 18, 15, 16, 17, 10, 11, 12, 13, 14, 7, 5, 8, 9, 4, 6] (by decide +kernel) (by decide +kernel)
set_option maxRecDepth 20000 in
theorem ggL_law_X6_carries_p5 : GoodIn wzL_law wsX60 := qgood qwzL_law_in _ [1094, 0, 0, 0, 0, 0, 0, 0, 0, 0, 0] [0, 1, 2, 3, 4, 5, 6, 7, 8, 9, 10] (by decide +kernel) (by decide +kernel)
set_option maxRecDepth 20000 in
theorem ggL_law_X6_carries_p6 : GoodIn wzL_law wsJx4a65c0 := qgood qwzL_law_in _ [1112, 0, 0] [0, 1, 2] (by decide +kernel) (by decide +kernel)
set_option maxRecDepth 20000 in
theorem ggL_law_X6_carries_p7 : GoodIn wzL_law wsX50 := qgood qwzL_law_in _ [1134, 0, 0, 0, 0, 0, 0, 0, 0, 0] [0, 1, 2, 3, 4, 5, 6, 7, 8, 9] (by decide +kernel) (by decide +kernel)
set_option maxRecDepth 20000 in
theorem ggL_law_X6_carries_p8 : GoodIn wzL_law wsX40 := qgood qwzL_law_in _ [1144, 0, 0, 0, 0] [0, 1, 2, 3, 4] (by decide +kernel) (by decide +kernel)
set_option maxRecDepth 20000 in
theorem ggL_law_X6_carries : GoodIn wzL_law wsX6_carries := goodIn_app (a := [.code yX6_carries cX6_carries 5 (some .int)]) ggL_law_X6_carries_p0 (goodIn_app (goodIn_app (goodIn_app (goodIn_app (goodIn_app (goodIn_app ggL_law_X6_carries_p1 (goodIn_app ggL_law_X6_carries_p2 (goodIn_app ggL_law_X6_carries_p3 ggL_law_X6_carries_p4))) ggL_law_X6_carries_p5) ggL_law_X6_carries_p6) ggL_law_X6_carries_p7) ggL_law_X6_carries_p8) (goodIn_sub (fun _ h => (List.mem_append_left _ (List.mem_append_left _ (List.mem_append_left _ (List.mem_append_left _ (List.mem_append_left _ (List.mem_append_left _ (List.mem_append_right _ h)))))))) (by decide +kernel)))
set_option maxRecDepth 20000 in
theorem gL_law_X6_carries : GoodIn wzL_law (wsV RL 251 RX6 yX6_carries wsX6_carries) := goodIn_app (qof qwzL_law_in _ (by decide +kernel)) ggL_law_X6_carries
set_option maxRecDepth 20000 in
theorem ggL_law_L_visit_p0 : GoodIn wzL_law [.codeWith yL_visit cL_visit 5 (some .int) [(0, 10, 13, 54), (0, 10, 17, 13), (0, 10, 21, 15)]] := qgood qwzL_law_in _ [876] [0] (by decide +kernel) (by decide +kernel)
set_option maxRecDepth 20000 in
theorem ggL_law_L_visit_p1 : GoodIn wzL_law wsL_visit_r1 := qgood qwzL_law_in _ [2, 14, 5, 0, 0, 4, 53, 0, 4, 0, 0, 0, 97, 0, 0, 0, 371, 4, 0, 304, 0, 0, 0, 0] [16, 6, 7, 19, 20, 21, 0, 22, 17, 18, 8, 9, 10, 11, 1, 4, 23, 5, 12, 13, 14, 15, 3, 2] (by decide +kernel) (by decide +kernel)
set_option maxRecDepth 20000 in
theorem ggL_law_L_visit_p2 : GoodIn wzL_law wsL_visit_r2 := qgood qwzL_law_in _ [16, 19, 0, 60, 0, 0, 25, 0, 0, 0, 72, 2, 19, 13, 0, 0, 0, 0, 0, 0, 594, 0, 0, 0] [3, 4, 5, 6, 7, 8, 0, 9, 1, 2, 20, 21, 22, 10, 23, 12, 13, 14, 15, 16, 17, 11, 18, 19] (by decide +kernel) (by decide +kernel)
set_option maxRecDepth 20000 in
theorem ggL_law_L_visit_p3 : GoodIn wzL_law wsL_visit_r3 := qgood qwzL_law_in _ [181, 2, 0, 20, 0, 0, 0, 0, 15, 0, 18, 0, 0, 0, 0, 0, 0, 0, 4, 0, 0, 0, 0, 0] [3, 4, 5, 6, 7, 10, 11, 12, 13, 14, 15, 16, 17, 18, 19, 20, 21, 8, 22, 1, 0, 2, 9, 23] (by decide +kernel) (by decide +kernel)
set_option maxRecDepth 20000 in
theorem ggL_law_L_visit_p4 : GoodIn wzL_law wsL_visit_r4 := qgood qwzL_law_in _ [180, 1, 81, 0, 0] [0, 1, 2, 3, 4] (by decide +kernel) (by decide +kernel)
set_option maxRecDepth 20000 in
theorem ggL_law_L_visit_p5 : GoodIn wzL_law wsX30 := qgood qwzL_law_in _ [1084, 0, 0, 0, 0, 0, 0, 0, 0, 0] [0, 1, 2, 3, 4, 5, 6, 7, 8, 9] (by decide +kernel) (by decide +kernel)
set_option maxRecDepth 20000 in
theorem ggL_law_L_visit_p6 : GoodIn wzL_law wsX10 := qgood qwzL_law_in _ [1115, 0, 0, 0, 0, 0, 0, 0, 0, 0, 0, 0, 0, 0, 0] [0, 1, 2, 3, 4, 5, 6, 7, 8, 9, 10, 11, 12, 13, 14] (by decide +kernel) (by decide +kernel)
set_option maxRecDepth 20000 in
theorem ggL_law_L_visit_p7 : GoodIn wzL_law wsX20 := qgood qwzL_law_in _ [1105, 0, 0, 0] [0, 1, 2, 3] (by decide +kernel) (by decide +kernel)
set_option maxRecDepth 20000 in
theorem ggL_law_L_visit : GoodIn wzL_law wsL_visit := goodIn_app (a := [.codeWith yL_visit cL_visit 5 (some .int) [(0, 10, 13, 54), (0, 10, 17, 13), (0, 10, 21, 15)]]) ggL_law_L_visit_p0 (goodIn_app (goodIn_app (goodIn_app (goodIn_app (goodIn_app (goodIn_app (goodIn_app (goodIn_app ggL_law_L_visit_p1 (goodIn_app ggL_law_L_visit_p2 (goodIn_app ggL_law_L_visit_p3 ggL_law_L_visit_p4))) ggL_law_L_visit_p5) ggL_law_L_visit_p6) ggL_law_L_visit_p7) (goodIn_sub (fun _ h => (List.mem_append_left _ (List.mem_append_left _ (List.mem_append_left _ (List.mem_append_left _ (List.mem_append_left _ (List.mem_append_left _ (List.mem_append_right _ h)))))))) (by decide +kernel))) (goodIn_sub (fun _ h => (List.mem_append_left _ (List.mem_append_right _ h))) (by decide +kernel))) (goodIn_sub (fun _ h => (List.mem_append_left _ (List.mem_append_left _ (List.mem_append_left _ (List.mem_append_left _ (List.mem_append_left _ (List.mem_append_right _ h))))))) (by decide +kernel))) (goodIn_sub (fun _ h => (List.mem_append_left _ (List.mem_append_left _ (List.mem_append_left _ (List.mem_append_left _ (List.mem_append_right _ h)))))) (by decide +kernel)))
set_option maxRecDepth 20000 in
theorem gL_law_L_visit : GoodIn wzL_law (va_wsS RL 252 yL_visit wsL_visit) := goodIn_app (qof qwzL_law_in _ (by decide +kernel)) ggL_law_L_visit
set_option maxRecDepth 20000 in
theorem ggL_law_X6_visit_p0 : GoodIn wzL_law [.code yX6_visit cX6_visit 3 (some .int)] := qgood qwzL_law_in _ [885] [0] (by decide +kernel) (by decide +kernel)
set_option maxRecDepth 20000 in
theorem ggL_law_X6_visit_p1 : GoodIn wzL_law wsX6_visit_r1 := qgood qwzL_law_in _ [5, 53, 0, 50, 0, 0, 0, 0, 0, 0, 0, 158, 170, 60, 0, 0, 0, 0, 96, 135, 0, 0, 0, 136] [23, 2, 11, 12, 19, 20, 21, 0, 22, 13, 14, 15, 1, 16, 17, 3, 4, 5, 6, 7, 8, 9, 10, 18] (by decide +kernel) (by decide +kernel)
set_option maxRecDepth 20000 in
theorem ggL_law_X6_visit_p2 : GoodIn wzL_law wsX6_visit_r2 := qgood qwzL_law_in _ [65, 253, 3, 3, 22, 260, 0, 0, 0, 0, 0, 0, 0, 0, 0, 0, 0, 0, 0, 0, 222, 0, 0, 0] [5, 6, 7, 8, 9, 10, 11, 12, 13, 14, 15, 16, 17, 18, 19, 0, 20, 21, 22, 1, 23, 2, 3, 4] (by decide +kernel) (by decide +kernel)
set_option maxRecDepth 20000 in
theorem ggL_law_X6_visit_p3 : GoodIn wzL_law wsX6_visit_r3 := qgood qwzL_law_in _ [35, 100, 193, 0, 0, 0, 0, 0, 15, 0, 0, 0, 0, 0, 0, 0, 0, 0, 0, 0, 0, 0, 0, 0] [8, 9, 10, 11, 0, 2, 3, 4, 5, 6, 7, 12, 13, 14, 15, 16, 17, 18, 19, 20, 21, 22, 23, 1] (by decide +kernel) (by decide +kernel)
set_option maxRecDepth 20000 in
theorem ggL_law_X6_visit_p4 : GoodIn wzL_law wsX6_visit_r4 := qgood qwzL_law_in _ [52, 84, 0, 41, 0, 0, 1, 0, 142, 42, 0, 0, 0, 0, 260, 0, 0, 213] [1, 2, 0, 17, 14, 15, 16, 9, 10, 11, 12, 13, 6, 4, 7, 8, 3, 5] (by decide +kernel) (by decide +kernel)
set_option maxRecDepth 20000 in
theorem ggL_law_X6_visit_p5 : GoodIn wzL_law wsX60 := qgood qwzL_law_in _ [1094, 0, 0, 0, 0, 0, 0, 0, 0, 0, 0] [0, 1, 2, 3, 4, 5, 6, 7, 8, 9, 10] (by decide +kernel) (by decide +kernel)
set_option maxRecDepth 20000 in
theorem ggL_law_X6_visit_p6 : GoodIn wzL_law wsX50 := qgood qwzL_law_in _ [1134, 0, 0, 0, 0, 0, 0, 0, 0, 0] [0, 1, 2, 3, 4, 5, 6, 7, 8, 9] (by decide +kernel) (by decide +kernel)
set_option maxRecDepth 20000 in
theorem ggL_law_X6_visit_p7 : GoodIn wzL_law wsJx4a65c0 := qgood qwzL_law_in _ [1112, 0, 0] [0, 1, 2] (by decide +kernel) (by decide +kernel)
set_option maxRecDepth 20000 in
theorem ggL_law_X6_visit_p8 : GoodIn wzL_law wsX40 := qgood qwzL_law_in _ [1144, 0, 0, 0, 0] [0, 1, 2, 3, 4] (by decide +kernel) (by decide +kernel)
set_option maxRecDepth 20000 in
theorem ggL_law_X6_visit : GoodIn wzL_law wsX6_visit := goodIn_app (a := [.code yX6_visit cX6_visit 3 (some .int)]) ggL_law_X6_visit_p0 (goodIn_app (goodIn_app (goodIn_app (goodIn_app (goodIn_app (goodIn_app ggL_law_X6_visit_p1 (goodIn_app ggL_law_X6_visit_p2 (goodIn_app ggL_law_X6_visit_p3 ggL_law_X6_visit_p4))) ggL_law_X6_visit_p5) ggL_law_X6_visit_p6) ggL_law_X6_visit_p7) ggL_law_X6_visit_p8) (goodIn_sub (fun _ h => (List.mem_append_left _ (List.mem_append_left _ (List.mem_append_left _ (List.mem_append_left _ (List.mem_append_left _ (List.mem_append_left _ (List.mem_append_right _ h)))))))) (by decide +kernel)))
set_option maxRecDepth 20000 in
theorem gL_law_X6_visit : GoodIn wzL_law (wsV RL 254 RX6 yX6_visit wsX6_visit) := goodIn_app (qof qwzL_law_in _ (by decide +kernel)) ggL_law_X6_visit
set_option maxRecDepth 20000 in
theorem ggL_law_L_squareBits : GoodIn wzL_law wsL_squareBits := goodIn_ca (goodIn_ca (qgood qwzL_law_in _ [2, 13, 0, 7, 10, 0, 46, 5, 0, 6, 0, 0, 25, 0, 0, 0, 759, 0, 0, 0, 0, 0, 0, 0, 0, 0, 0, 0, 0, 0, 181, 0, 0, 0, 0, 0, 0, 0, 0, 0, 11, 0, 0, 0] [16, 6, 17, 18, 19, 0, 20, 7, 8, 21, 22, 2, 3, 23, 9, 10, 11, 12, 13, 14, 1, 15, 4, 5, 24, 25, 26, 27, 28, 29, 30, 31, 32, 33, 34, 35, 36, 37, 38, 39, 40, 41, 42, 43] (by decide +kernel) (by decide +kernel)) (goodIn_sub (fun _ h => (List.mem_append_left _ (List.mem_append_left _ (List.mem_append_left _ (List.mem_append_left _ (List.mem_append_left _ (List.mem_append_left _ (List.mem_append_right _ h)))))))) (by decide +kernel))) (goodIn_sub (fun _ h => (List.mem_append_left _ (List.mem_append_left _ (List.mem_append_left _ (List.mem_append_left _ (List.mem_append_left _ (List.mem_append_right _ h))))))) (by decide +kernel))
set_option maxRecDepth 20000 in
theorem gL_law_L_squareBits : GoodIn wzL_law (va_wsS RL 255 yL_squareBits wsL_squareBits) := goodIn_app (qof qwzL_law_in _ (by decide +kernel)) ggL_law_L_squareBits
set_option maxRecDepth 20000 in
theorem ggL_law_X6_squareBits : GoodIn wzL_law wsX6_squareBits := goodIn_ca (qgood qwzL_law_in _ [5, 46, 52, 4, 0, 0, 0, 0, 0, 0, 0, 0, 16, 0, 0, 0, 470, 296, 0, 0, 0, 0, 0, 0, 0, 0, 0, 0, 0, 0, 0, 0, 0, 0, 171, 0, 0, 0, 0, 0, 0, 0, 0, 0, 0] [17, 2, 16, 18, 19, 20, 3, 21, 4, 5, 0, 6, 7, 8, 9, 10, 11, 12, 13, 14, 15, 1, 22, 23, 24, 25, 26, 27, 28, 29, 30, 31, 32, 33, 34, 35, 36, 37, 38, 39, 40, 41, 42, 43, 44] (by decide +kernel) (by decide +kernel)) (goodIn_sub (fun _ h => (List.mem_append_left _ (List.mem_append_left _ (List.mem_append_left _ (List.mem_append_left _ (List.mem_append_left _ (List.mem_append_left _ (List.mem_append_right _ h)))))))) (by decide +kernel))
set_option maxRecDepth 20000 in
theorem gL_law_X6_squareBits : GoodIn wzL_law (wsV RL 258 RX6 yX6_squareBits wsX6_squareBits) := goodIn_app (qof qwzL_law_in _ (by decide +kernel)) ggL_law_X6_squareBits
set_option maxRecDepth 20000 in
theorem ggL_law_L_plan : GoodIn wzL_law wsL_plan := goodIn_ca (goodIn_ca (qgood qwzL_law_in _ [2, 20, 0, 73, 0, 0, 90, 0, 0, 0, 7, 41, 0, 251, 68, 4, 0, 0, 0, 0, 0, 0, 347, 0, 0, 0, 0, 0, 0, 0, 0, 0, 149, 0, 0, 0, 0, 0, 0, 0, 0, 0, 21, 0, 0, 0, 0, 0, 0, 0, 0, 0, 0, 0, 0, 0, 0] [22, 14, 23, 24, 25, 0, 26, 15, 16, 27, 17, 18, 19, 20, 3, 4, 5, 6, 7, 8, 9, 2, 1, 21, 11, 12, 28, 29, 30, 10, 31, 13, 42, 43, 44, 45, 46, 47, 48, 49, 50, 51, 52, 53, 54, 55, 56, 32, 33, 34, 35, 36, 37, 38, 39, 40, 41] (by decide +kernel) (by decide +kernel)) (goodIn_sub (fun _ h => (List.mem_append_left _ (List.mem_append_left _ (List.mem_append_left _ (List.mem_append_left _ (List.mem_append_left _ (List.mem_append_left _ (List.mem_append_right _ h)))))))) (by decide +kernel))) (goodIn_sub (fun _ h => (List.mem_append_left _ (List.mem_append_right _ h))) (by decide +kernel))
set_option maxRecDepth 20000 in
theorem gL_law_L_plan : GoodIn wzL_law (va_wsS RL 259 yL_plan wsL_plan) := goodIn_app (qof qwzL_law_in _ (by decide +kernel)) ggL_law_L_plan
set_option maxRecDepth 20000 in
theorem ggL_law_X6_plan : GoodIn wzL_law wsX6_plan := goodIn_ca (qgood qwzL_law_in _ [5, 53, 0, 4, 45, 0, 0, 0, 0, 0, 0, 0, 158, 231, 0, 0, 0, 0, 90, 0, 0, 0, 0, 0, 0, 0, 0, 0, 0, 0, 0, 0, 0, 0, 0, 0, 0, 0, 0, 0, 312, 155, 0, 0, 0, 0, 0, 0, 0, 0, 0, 0, 7, 0, 0, 19, 0, 0, 0, 0, 0, 0, 0, 0, 0] [40, 2, 12, 18, 19, 20, 0, 21, 22, 23, 13, 14, 15, 1, 16, 17, 4, 5, 6, 7, 8, 9, 10, 11, 24, 25, 26, 27, 28, 29, 30, 31, 32, 33, 34, 35, 36, 37, 38, 39, 3, 41, 42, 43, 44, 45, 46, 47, 48, 49, 50, 51, 55, 56, 57, 58, 59, 60, 61, 62, 63, 64, 52, 53, 54] (by decide +kernel) (by decide +kernel)) (goodIn_sub (fun _ h => (List.mem_append_left _ (List.mem_append_left _ (List.mem_append_left _ (List.mem_append_left _ (List.mem_append_left _ (List.mem_append_left _ (List.mem_append_right _ h)))))))) (by decide +kernel))
set_option maxRecDepth 20000 in
theorem gL_law_X6_plan : GoodIn wzL_law (wsV RL 261 RX6 yX6_plan wsX6_plan) := goodIn_app (qof qwzL_law_in _ (by decide +kernel)) ggL_law_X6_plan
set_option maxRecDepth 20000 in
theorem ggL_law_L_carve_p0 : GoodIn wzL_law [.codeWith yL_carve cL_carve 7 (some .int) [(0, 14, 17, 54), (0, 14, 21, 13), (0, 14, 25, 64), (0, 14, 29, 27), (0, 14, 33, 15)]] := qgood qwzL_law_in _ [941] [0] (by decide +kernel) (by decide +kernel)
set_option maxRecDepth 20000 in
theorem ggL_law_L_carve_p1 : GoodIn wzL_law wsL_carve_r1 := qgood qwzL_law_in _ [2, 81, 0, 4, 0, 0, 0, 69, 4, 0, 396, 4, 0, 0, 0, 79, 4, 0, 0, 280, 0, 0, 0, 0] [10, 1, 15, 7, 2, 19, 20, 21, 0, 22, 11, 12, 3, 4, 16, 17, 8, 9, 5, 6, 23, 18, 13, 14] (by decide +kernel) (by decide +kernel)
set_option maxRecDepth 20000 in
theorem ggL_law_L_carve_p2 : GoodIn wzL_law wsL_carve_r2 := qgood qwzL_law_in _ [23, 0, 73, 0, 0, 90, 0, 0, 0, 7, 4, 0, 0, 0, 7, 0, 0, 23, 0, 329, 0, 0, 0, 368] [19, 20, 2, 3, 4, 5, 6, 7, 8, 1, 0, 21, 17, 18, 22, 10, 11, 9, 12, 13, 23, 14, 15, 16] (by decide +kernel) (by decide +kernel)
set_option maxRecDepth 20000 in
theorem ggL_law_L_carve_p3 : GoodIn wzL_law wsL_carve_r3 := qgood qwzL_law_in _ [16, 0, 7, 4, 5, 89, 0, 0, 0, 75, 15, 0, 0, 0, 0, 0, 0, 0, 0, 0, 358, 0, 0, 0] [10, 11, 12, 13, 9, 14, 15, 16, 17, 18, 19, 20, 21, 22, 23, 1, 2, 3, 5, 6, 7, 0, 8, 4] (by decide +kernel) (by decide +kernel)
set_option maxRecDepth 20000 in
theorem ggL_law_L_carve_p4 : GoodIn wzL_law wsL_carve_r4 := qgood qwzL_law_in _ [37, 166, 1, 24, 0, 0, 0, 0, 0, 0, 0, 0, 0, 0, 0, 0, 2, 0, 0, 0, 0, 0, 0, 0] [0, 3, 4, 5, 6, 7, 8, 9, 10, 1, 11, 12, 13, 14, 15, 2, 16, 17, 18, 19, 20, 21, 22, 23] (by decide +kernel) (by decide +kernel)
set_option maxRecDepth 20000 in
theorem ggL_law_L_carve_p5 : GoodIn wzL_law wsL_carve_r5 := qgood qwzL_law_in _ [180, 0, 0, 1, 0, 25, 0, 0, 0, 0, 0, 37, 0, 0, 0, 0, 0, 0, 0, 0, 0, 0, 0, 0] [11, 12, 13, 14, 15, 16, 17, 18, 19, 3, 1, 4, 20, 0, 2, 21, 22, 23, 5, 6, 7, 8, 9, 10] (by decide +kernel) (by decide +kernel)
set_option maxRecDepth 20000 in
theorem ggL_law_L_carve_p6 : GoodIn wzL_law wsL_carve_r6 := qgood qwzL_law_in _ [217] [0] (by decide +kernel) (by decide +kernel)
set_option maxRecDepth 20000 in
theorem ggL_law_L_carve_p7 : GoodIn wzL_law wsX10 := qgood qwzL_law_in _ [1115, 0, 0, 0, 0, 0, 0, 0, 0, 0, 0, 0, 0, 0, 0] [0, 1, 2, 3, 4, 5, 6, 7, 8, 9, 10, 11, 12, 13, 14] (by decide +kernel) (by decide +kernel)
set_option maxRecDepth 20000 in
theorem ggL_law_L_carve_p8 : GoodIn wzL_law wsX30 := qgood qwzL_law_in _ [1084, 0, 0, 0, 0, 0, 0, 0, 0, 0] [0, 1, 2, 3, 4, 5, 6, 7, 8, 9] (by decide +kernel) (by decide +kernel)
set_option maxRecDepth 20000 in
theorem ggL_law_L_carve_p9 : GoodIn wzL_law wsX20 := qgood qwzL_law_in _ [1105, 0, 0, 0] [0, 1, 2, 3] (by decide +kernel) (by decide +kernel)
set_option maxRecDepth 20000 in
theorem ggL_law_L_carve : GoodIn wzL_law wzL_carve := goodIn_app (a := [.codeWith yL_carve cL_carve 7 (some .int) [(0, 14, 17, 54), (0, 14, 21, 13), (0, 14, 25, 64), (0, 14, 29, 27), (0, 14, 33, 15)]]) ggL_law_L_carve_p0 (goodIn_app (goodIn_app (goodIn_app (goodIn_app (goodIn_app (goodIn_app (goodIn_app (goodIn_app (goodIn_app ggL_law_L_carve_p1 (goodIn_app ggL_law_L_carve_p2 (goodIn_app ggL_law_L_carve_p3 (goodIn_app ggL_law_L_carve_p4 (goodIn_app ggL_law_L_carve_p5 ggL_law_L_carve_p6))))) ggL_law_L_carve_p7) ggL_law_L_carve_p8) ggL_law_L_carve_p9) (goodIn_sub (fun _ h => (List.mem_append_left _ (List.mem_append_left _ (List.mem_append_left _ (List.mem_append_left _ (List.mem_append_left _ (List.mem_append_left _ (List.mem_append_right _ h)))))))) (by decide +kernel))) (goodIn_sub (fun _ h => (List.mem_append_left _ (List.mem_append_right _ h))) (by decide +kernel))) (goodIn_sub (fun _ h => (List.mem_append_left _ (List.mem_append_left _ (List.mem_append_left _ (List.mem_append_left _ (List.mem_append_left _ (List.mem_append_right _ h))))))) (by decide +kernel))) (goodIn_sub (fun _ h => (List.mem_append_left _ (List.mem_append_left _ (List.mem_append_left _ (List.mem_append_right _ h))))) (by decide +kernel))) (goodIn_sub (fun _ h => (List.mem_append_left _ (List.mem_append_left _ (List.mem_append_left _ (List.mem_append_left _ (List.mem_append_right _ h)))))) (by decide +kernel)))
set_option maxRecDepth 20000 in
theorem gL_law_L_carve : GoodIn wzL_law (va_wsS RL 262 yL_carve wzL_carve) := goodIn_app (qof qwzL_law_in _ (by decide +kernel)) ggL_law_L_carve
set_option maxRecDepth 20000 in
theorem ggL_law_X6_carve_p0 : GoodIn wzL_law [.code yX6_carve cX6_carve 7 (some .int)] := qgood qwzL_law_in _ [951] [0] (by decide +kernel) (by decide +kernel)
set_option maxRecDepth 20000 in
theorem ggL_law_X6_carve_p1 : GoodIn wzL_law wsX6_carve_r1 := qgood qwzL_law_in _ [5, 53, 0, 46, 2, 0, 0, 0, 0, 0, 0, 0, 159, 231, 0, 0, 0, 0, 90, 0, 0, 0, 0, 0] [2, 12, 3, 4, 18, 19, 20, 0, 21, 22, 23, 13, 14, 15, 1, 16, 17, 5, 6, 7, 8, 9, 10, 11] (by decide +kernel) (by decide +kernel)
set_option maxRecDepth 20000 in
theorem ggL_law_X6_carve_p2 : GoodIn wzL_law wsX6_carve_r2 := qgood qwzL_law_in _ [52, 12, 52, 16, 0, 0, 0, 471, 0, 0, 0, 0, 0, 0, 0, 0, 0, 0, 0, 0, 0, 0, 0, 8] [2, 7, 8, 9, 10, 11, 12, 13, 14, 15, 16, 17, 18, 19, 20, 21, 22, 1, 3, 4, 5, 6, 0, 23] (by decide +kernel) (by decide +kernel)
set_option maxRecDepth 20000 in
theorem ggL_law_X6_carve_p3 : GoodIn wzL_law wsX6_carve_r3 := qgood qwzL_law_in _ [35, 283, 1, 0, 4, 2, 0, 0, 0, 0, 0, 7, 0, 0, 0, 0, 0, 0, 0, 0, 0, 0, 0, 0] [11, 12, 1, 13, 14, 15, 16, 17, 2, 3, 18, 19, 20, 21, 22, 0, 4, 5, 6, 7, 8, 9, 10, 23] (by decide +kernel) (by decide +kernel)
set_option maxRecDepth 20000 in
theorem ggL_law_X6_carve_p4 : GoodIn wzL_law wsX6_carve_r4 := qgood qwzL_law_in _ [181, 2, 0, 142, 27, 0, 0, 0, 0, 0, 0, 0, 0, 0, 0, 0, 0, 0, 0, 0, 0, 0, 0, 0] [4, 5, 6, 7, 8, 9, 10, 11, 12, 13, 14, 15, 16, 17, 18, 19, 20, 21, 22, 23, 1, 0, 2, 3] (by decide +kernel) (by decide +kernel)
set_option maxRecDepth 20000 in
theorem ggL_law_X6_carve_p5 : GoodIn wzL_law wsX6_carve_r5 := qgood qwzL_law_in _ [180, 1, 140, 12, 0, 0, 0, 0, 0] [0, 1, 3, 4, 5, 6, 7, 8, 2] (by decide +kernel) (by decide +kernel)
set_option maxRecDepth 20000 in
theorem ggL_law_X6_carve_p6 : GoodIn wzL_law wsX60 := qgood qwzL_law_in _ [1094, 0, 0, 0, 0, 0, 0, 0, 0, 0, 0] [0, 1, 2, 3, 4, 5, 6, 7, 8, 9, 10] (by decide +kernel) (by decide +kernel)
set_option maxRecDepth 20000 in
theorem ggL_law_X6_carve_p7 : GoodIn wzL_law wsX50 := qgood qwzL_law_in _ [1134, 0, 0, 0, 0, 0, 0, 0, 0, 0] [0, 1, 2, 3, 4, 5, 6, 7, 8, 9] (by decide +kernel) (by decide +kernel)
set_option maxRecDepth 20000 in
theorem ggL_law_X6_carve_p8 : GoodIn wzL_law wsX40 := qgood qwzL_law_in _ [1144, 0, 0, 0, 0] [0, 1, 2, 3, 4] (by decide +kernel) (by decide +kernel)
set_option maxRecDepth 20000 in
theorem ggL_law_X6_carve_p9 : GoodIn wzL_law wsJx4a65c0 := qgood qwzL_law_in _ [1112, 0, 0] [0, 1, 2] (by decide +kernel) (by decide +kernel)
set_option maxRecDepth 20000 in
theorem ggL_law_X6_carve : GoodIn wzL_law wsX6_carve := goodIn_app (a := [.code yX6_carve cX6_carve 7 (some .int)]) ggL_law_X6_carve_p0 (goodIn_app (goodIn_app (goodIn_app (goodIn_app (goodIn_app (goodIn_app ggL_law_X6_carve_p1 (goodIn_app ggL_law_X6_carve_p2 (goodIn_app ggL_law_X6_carve_p3 (goodIn_app ggL_law_X6_carve_p4 ggL_law_X6_carve_p5)))) ggL_law_X6_carve_p6) ggL_law_X6_carve_p7) ggL_law_X6_carve_p8) ggL_law_X6_carve_p9) (goodIn_sub (fun _ h => (List.mem_append_left _ (List.mem_append_left _ (List.mem_append_left _ (List.mem_append_left _ (List.mem_append_left _ (List.mem_append_left _ (List.mem_append_right _ h)))))))) (by decide +kernel)))
set_option maxRecDepth 20000 in
theorem gL_law_X6_carve : GoodIn wzL_law (wsV RL 265 RX6 yX6_carve wsX6_carve) := goodIn_app (qof qwzL_law_in _ (by decide +kernel)) ggL_law_X6_carve
set_option maxRecDepth 20000 in
theorem ggL_law_L_hours : GoodIn wzL_law wsL_hours := goodIn_ca (goodIn_ca (qgood qwzL_law_in _ [2, 20, 0, 73, 0, 0, 90, 0, 0, 0, 371, 4, 0, 373, 7, 0, 0, 0, 0, 125, 0, 0, 0, 0, 0, 0, 0, 0, 0, 21, 0, 0, 0, 0, 0, 0, 0, 0, 0, 0, 0, 0, 0, 0] [14, 10, 15, 16, 17, 0, 18, 11, 12, 13, 6, 7, 8, 9, 2, 1, 3, 4, 5, 29, 30, 31, 32, 33, 34, 35, 36, 37, 38, 39, 40, 41, 42, 43, 19, 20, 21, 22, 23, 24, 25, 26, 27, 28] (by decide +kernel) (by decide +kernel)) (goodIn_sub (fun _ h => (List.mem_append_left _ (List.mem_append_left _ (List.mem_append_left _ (List.mem_append_left _ (List.mem_append_left _ (List.mem_append_left _ (List.mem_append_right _ h)))))))) (by decide +kernel))) (goodIn_sub (fun _ h => (List.mem_append_left _ (List.mem_append_right _ h))) (by decide +kernel))
set_option maxRecDepth 20000 in
theorem gL_law_L_hours : GoodIn wzL_law (va_wsS RL 266 yL_hours wsL_hours) := goodIn_app (qof qwzL_law_in _ (by decide +kernel)) ggL_law_L_hours
set_option maxRecDepth 20000 in
theorem ggL_law_X6_hours : GoodIn wzL_law wsX6_hours := qgood qwzL_law_in _ [5, 53, 0, 4, 45, 0, 0, 0, 0, 0, 0, 0, 158, 231, 0, 0, 0, 0, 96, 0, 0, 0, 0, 0, 0, 0, 0, 0, 0, 0, 0, 0, 0, 0, 120, 0, 0, 0, 212, 131, 0, 0, 0, 0, 0, 0, 0, 0, 0, 0, 7, 0, 0, 19, 0, 0, 0, 0, 0, 0, 0, 0, 0] [38, 2, 12, 34, 35, 36, 0, 37, 13, 14, 15, 1, 16, 17, 4, 5, 6, 7, 8, 9, 10, 11, 18, 19, 20, 21, 22, 23, 24, 25, 26, 27, 28, 29, 30, 31, 32, 33, 3, 39, 40, 41, 42, 43, 44, 45, 46, 47, 48, 49, 53, 54, 55, 56, 57, 58, 59, 60, 61, 62, 50, 51, 52] (by decide +kernel) (by decide +kernel)
set_option maxRecDepth 20000 in
theorem gL_law_X6_hours : GoodIn wzL_law (wsV RL 268 RX6 yX6_hours wsX6_hours) := goodIn_app (qof qwzL_law_in _ (by decide +kernel)) ggL_law_X6_hours
set_option maxRecDepth 20000 in
theorem ggL_law_L_judge : GoodIn wzL_law wsL_judge := goodIn_ca (goodIn_ca (qgood qwzL_law_in _ [2, 20, 0, 73, 0, 0, 90, 0, 0, 0, 7, 7, 286, 68, 4, 0, 168, 153, 69, 0, 0, 0, 0, 0, 0, 0, 0, 0, 0, 0, 107, 0, 0, 0, 0, 0, 0, 0, 0, 0, 21, 0, 0, 0, 0, 0, 0, 0, 0, 0, 0, 0, 0, 0, 0] [18, 13, 19, 20, 21, 0, 22, 14, 15, 23, 17, 16, 24, 25, 6, 7, 8, 9, 2, 1, 3, 4, 5, 26, 27, 28, 10, 29, 12, 11, 40, 41, 42, 43, 44, 45, 46, 47, 48, 49, 50, 51, 52, 53, 54, 30, 31, 32, 33, 34, 35, 36, 37, 38, 39] (by decide +kernel) (by decide +kernel)) (goodIn_sub (fun _ h => (List.mem_append_left _ (List.mem_append_left _ (List.mem_append_left _ (List.mem_append_left _ (List.mem_append_left _ (List.mem_append_left _ (List.mem_append_right _ h)))))))) (by decide +kernel))) (goodIn_sub (fun _ h => (List.mem_append_left _ (List.mem_append_right _ h))) (by decide +kernel))
set_option maxRecDepth 20000 in
theorem gL_law_L_judge : GoodIn wzL_law (va_wsS RL 269 yL_judge wsL_judge) := goodIn_app (qof qwzL_law_in _ (by decide +kernel)) ggL_law_L_judge
set_option maxRecDepth 20000 in
theorem ggL_law_X6_judge : GoodIn wzL_law wsX6_judge := goodIn_ca (qgood qwzL_law_in _ [5, 53, 0, 4, 45, 0, 0, 0, 0, 0, 0, 0, 158, 41, 7, 3, 0, 0, 0, 0, 173, 0, 0, 0, 0, 96, 0, 0, 0, 0, 0, 0, 0, 0, 0, 0, 0, 0, 0, 0, 0, 0, 119, 0, 0, 0, 159, 70, 0, 112, 0, 0, 0, 0, 0, 0, 0, 0, 0, 0, 7, 0, 0, 19, 0, 0, 0, 0, 0, 0, 0, 0, 0] [47, 2, 12, 48, 46, 42, 43, 44, 0, 45, 20, 21, 22, 1, 23, 24, 4, 5, 6, 7, 8, 9, 10, 11, 25, 26, 27, 28, 29, 30, 31, 32, 33, 34, 35, 36, 37, 38, 39, 40, 3, 41, 15, 16, 13, 17, 18, 19, 14, 49, 50, 51, 52, 53, 54, 55, 56, 57, 58, 59, 63, 64, 65, 66, 67, 68, 69, 70, 71, 72, 60, 61, 62] (by decide +kernel) (by decide +kernel)) (goodIn_sub (fun _ h => (List.mem_append_left _ (List.mem_append_left _ (List.mem_append_left _ (List.mem_append_left _ (List.mem_append_left _ (List.mem_append_left _ (List.mem_append_right _ h)))))))) (by decide +kernel))
set_option maxRecDepth 20000 in
theorem gL_law_X6_judge : GoodIn wzL_law (wsV RL 272 RX6 yX6_judge wsX6_judge) := goodIn_app (qof qwzL_law_in _ (by decide +kernel)) ggL_law_X6_judge
set_option maxRecDepth 20000 in
theorem ggL_law_L_mark : GoodIn wzL_law wzL_mark := goodIn_ca (goodIn_ca (qgood qwzL_law_in _ [2, 20, 0, 73, 0, 0, 90, 0, 0, 0, 371, 4, 0, 81, 4, 0, 310, 0, 11, 0, 0, 0, 0, 95, 0, 0, 0, 0, 0, 0, 0, 0, 0, 21, 0, 0, 0, 0, 0, 0, 0, 0, 0, 0, 0, 0, 0, 0] [18, 10, 13, 19, 20, 21, 0, 22, 11, 12, 14, 15, 17, 16, 6, 7, 8, 9, 2, 1, 3, 4, 5, 33, 34, 35, 36, 37, 38, 39, 40, 41, 42, 43, 44, 45, 46, 47, 23, 24, 25, 26, 27, 28, 29, 30, 31, 32] (by decide +kernel) (by decide +kernel)) (goodIn_sub (fun _ h => (List.mem_append_left _ (List.mem_append_left _ (List.mem_append_left _ (List.mem_append_left _ (List.mem_append_left _ (List.mem_append_left _ (List.mem_append_right _ h)))))))) (by decide +kernel))) (goodIn_sub (fun _ h => (List.mem_append_left _ (List.mem_append_right _ h))) (by decide +kernel))
set_option maxRecDepth 20000 in
theorem gL_law_L_mark : GoodIn wzL_law (va_wsS RL 273 yL_mark wzL_mark) := goodIn_app (qof qwzL_law_in _ (by decide +kernel)) ggL_law_L_mark
set_option maxRecDepth 20000 in
theorem ggL_law_X6_mark : GoodIn wzL_law wsX6_mark := qgood qwzL_law_in _ [5, 53, 0, 4, 45, 0, 0, 0, 0, 0, 0, 0, 158, 231, 0, 0, 0, 0, 96, 0, 0, 0, 0, 0, 0, 0, 0, 0, 0, 0, 0, 0, 0, 0, 120, 0, 0, 0, 242, 101, 0, 0, 0, 0, 0, 0, 0, 0, 0, 0, 7, 0, 0, 19, 0, 0, 0, 0, 0, 0, 0, 0, 0] [38, 2, 12, 34, 35, 36, 0, 37, 13, 14, 15, 1, 16, 17, 4, 5, 6, 7, 8, 9, 10, 11, 18, 19, 20, 21, 22, 23, 24, 25, 26, 27, 28, 29, 30, 31, 32, 33, 3, 39, 40, 41, 42, 43, 44, 45, 46, 47, 48, 49, 53, 54, 55, 56, 57, 58, 59, 60, 61, 62, 50, 51, 52] (by decide +kernel) (by decide +kernel)
set_option maxRecDepth 20000 in
theorem gL_law_X6_mark : GoodIn wzL_law (wsV RL 275 RX6 yX6_mark wsX6_mark) := goodIn_app (qof qwzL_law_in _ (by decide +kernel)) ggL_law_X6_mark
set_option maxRecDepth 20000 in
theorem ggL_law_L_take_p0 : GoodIn wzL_law [.codeWith yL_take cL_take 6 (some .int) [(0, 12, 15, 54), (0, 12, 19, 64), (0, 12, 23, 15)]] := qgood qwzL_law_in _ [995] [0] (by decide +kernel) (by decide +kernel)
set_option maxRecDepth 20000 in
theorem ggL_law_L_take_p1 : GoodIn wzL_law wsL_take_r1 := qgood qwzL_law_in _ [2, 14, 7, 59, 6, 0, 4, 0, 0, 465, 4, 0, 0, 0, 0, 0, 77, 4, 0, 0, 334, 0, 0, 0] [9, 16, 3, 20, 21, 22, 0, 23, 10, 11, 17, 18, 4, 5, 1, 2, 19, 12, 13, 14, 15, 6, 7, 8] (by decide +kernel) (by decide +kernel)
set_option maxRecDepth 20000 in
theorem ggL_law_L_take_p2 : GoodIn wzL_law wsL_take_r2 := qgood qwzL_law_in _ [16, 6, 0, 11, 0, 88, 0, 0, 0, 61, 0, 0, 0, 7, 4, 0, 0, 0, 33, 0, 331, 0, 421, 0] [9, 10, 11, 12, 2, 1, 20, 18, 19, 21, 14, 15, 13, 16, 17, 5, 6, 7, 0, 8, 3, 4, 22, 23] (by decide +kernel) (by decide +kernel)
set_option maxRecDepth 20000 in
theorem ggL_law_L_take_p3 : GoodIn wzL_law wsL_take_r3 := qgood qwzL_law_in _ [204, 0, 0, 28, 0, 0, 0, 0, 0, 0, 0, 0, 2, 0, 0, 0, 0, 0, 0, 0, 0, 0, 746, 0] [22, 23, 2, 3, 4, 5, 6, 0, 7, 8, 9, 10, 11, 1, 12, 13, 14, 15, 16, 17, 18, 19, 20, 21] (by decide +kernel) (by decide +kernel)
set_option maxRecDepth 20000 in
theorem ggL_law_L_take_p4 : GoodIn wzL_law wsL_take_r4 := qgood qwzL_law_in _ [180, 0, 0, 1, 0, 32, 0, 0, 0, 0, 3, 0, 28, 0, 0, 0, 0, 0, 0, 0, 0, 0, 0, 680] [12, 13, 14, 15, 16, 17, 10, 18, 3, 1, 4, 11, 19, 0, 2, 20, 21, 22, 23, 5, 6, 7, 8, 9] (by decide +kernel) (by decide +kernel)
set_option maxRecDepth 20000 in
theorem ggL_law_L_take_p5 : GoodIn wzL_law wsL_take_r5 := qgood qwzL_law_in _ [223, 0, 0, 2, 0, 0] [0, 1, 2, 3, 4, 5] (by decide +kernel) (by decide +kernel)
set_option maxRecDepth 20000 in
theorem ggL_law_L_take_p6 : GoodIn wzL_law wsX30 := qgood qwzL_law_in _ [1084, 0, 0, 0, 0, 0, 0, 0, 0, 0] [0, 1, 2, 3, 4, 5, 6, 7, 8, 9] (by decide +kernel) (by decide +kernel)
set_option maxRecDepth 20000 in
theorem ggL_law_L_take_p7 : GoodIn wzL_law wsX10 := qgood qwzL_law_in _ [1115, 0, 0, 0, 0, 0, 0, 0, 0, 0, 0, 0, 0, 0, 0] [0, 1, 2, 3, 4, 5, 6, 7, 8, 9, 10, 11, 12, 13, 14] (by decide +kernel) (by decide +kernel)
set_option maxRecDepth 20000 in
theorem ggL_law_L_take_p8 : GoodIn wzL_law wsX20 := qgood qwzL_law_in _ [1105, 0, 0, 0] [0, 1, 2, 3] (by decide +kernel) (by decide +kernel)
set_option maxRecDepth 20000 in
theorem ggL_law_L_take : GoodIn wzL_law wzL_take := goodIn_app (a := [.codeWith yL_take cL_take 6 (some .int) [(0, 12, 15, 54), (0, 12, 19, 64), (0, 12, 23, 15)]]) ggL_law_L_take_p0 (goodIn_app (goodIn_app (goodIn_app (goodIn_app (goodIn_app (goodIn_app (goodIn_app ggL_law_L_take_p1 (goodIn_app ggL_law_L_take_p2 (goodIn_app ggL_law_L_take_p3 (goodIn_app ggL_law_L_take_p4 ggL_law_L_take_p5)))) ggL_law_L_take_p6) ggL_law_L_take_p7) ggL_law_L_take_p8) (goodIn_sub (fun _ h => (List.mem_append_left _ (List.mem_append_left _ (List.mem_append_left _ (List.mem_append_left _ (List.mem_append_left _ (List.mem_append_left _ (List.mem_append_right _ h)))))))) (by decide +kernel))) (goodIn_sub (fun _ h => (List.mem_append_left _ (List.mem_append_right _ h))) (by decide +kernel))) (goodIn_sub (fun _ h => (List.mem_append_left _ (List.mem_append_left _ (List.mem_append_left _ (List.mem_append_left _ (List.mem_append_right _ h)))))) (by decide +kernel)))
set_option maxRecDepth 20000 in
theorem gL_law_L_take : GoodIn wzL_law (va_wsS RL 276 yL_take wzL_take) := goodIn_app (qof qwzL_law_in _ (by decide +kernel)) ggL_law_L_take
set_option maxRecDepth 20000 in
theorem ggL_law_X6_take_p0 : GoodIn wzL_law [.code yX6_take cX6_take 15 (some .int)] := qgood qwzL_law_in _ [1007] [0] (by decide +kernel) (by decide +kernel)
set_option maxRecDepth 20000 in
theorem ggL_law_X6_take_p1 : GoodIn wzL_law wsX6_take_r1 := qgood qwzL_law_in _ [5, 53, 0, 49, 0, 0, 0, 0, 162, 231, 0, 0, 0, 0, 90, 0, 0, 0, 0, 0, 56, 0, 0, 0] [2, 8, 3, 20, 21, 22, 0, 23, 14, 15, 16, 17, 18, 19, 9, 10, 11, 1, 12, 13, 4, 5, 6, 7] (by decide +kernel) (by decide +kernel)
set_option maxRecDepth 20000 in
theorem ggL_law_X6_take_p2 : GoodIn wzL_law wsX6_take_r2 := qgood qwzL_law_in _ [65, 49, 0, 0, 0, 212, 0, 277, 0, 0, 0, 0, 0, 0, 0, 0, 0, 0, 0, 0, 0, 0, 0, 0] [1, 2, 3, 4, 7, 8, 9, 10, 11, 12, 13, 14, 15, 16, 17, 18, 19, 20, 21, 22, 0, 23, 5, 6] (by decide +kernel) (by decide +kernel)
set_option maxRecDepth 20000 in
theorem ggL_law_X6_take_p3 : GoodIn wzL_law wsX6_take_r3 := qgood qwzL_law_in _ [35, 16, 82, 0, 0, 0, 180, 1, 0, 4, 2, 2, 0, 0, 11, 0, 0, 0, 0, 0, 0, 0, 0, 652] [6, 11, 12, 13, 9, 2, 3, 4, 5, 1, 23, 14, 15, 16, 7, 8, 17, 18, 19, 20, 21, 0, 10, 22] (by decide +kernel) (by decide +kernel)
set_option maxRecDepth 20000 in
theorem ggL_law_X6_take_p4 : GoodIn wzL_law wsX6_take_r4 := qgood qwzL_law_in _ [181, 2, 0, 142, 27, 0, 0, 0, 0, 0, 0, 0, 0, 0, 0, 0, 0, 0, 0, 0, 0, 0, 0, 0] [4, 5, 6, 7, 8, 9, 10, 11, 12, 13, 14, 15, 16, 17, 18, 19, 20, 21, 22, 23, 1, 0, 2, 3] (by decide +kernel) (by decide +kernel)
set_option maxRecDepth 20000 in
theorem ggL_law_X6_take_p5 : GoodIn wzL_law wsX6_take_r5 := qgood qwzL_law_in _ [180, 1] [0, 1] (by decide +kernel) (by decide +kernel)
set_option maxRecDepth 20000 in
theorem ggL_law_X6_take_p6 : GoodIn wzL_law wsX60 := qgood qwzL_law_in _ [1094, 0, 0, 0, 0, 0, 0, 0, 0, 0, 0] [0, 1, 2, 3, 4, 5, 6, 7, 8, 9, 10] (by decide +kernel) (by decide +kernel)
set_option maxRecDepth 20000 in
theorem ggL_law_X6_take_p7 : GoodIn wzL_law wsX50 := qgood qwzL_law_in _ [1134, 0, 0, 0, 0, 0, 0, 0, 0, 0] [0, 1, 2, 3, 4, 5, 6, 7, 8, 9] (by decide +kernel) (by decide +kernel)
set_option maxRecDepth 20000 in
theorem ggL_law_X6_take_p8 : GoodIn wzL_law wsX40 := qgood qwzL_law_in _ [1144, 0, 0, 0, 0] [0, 1, 2, 3, 4] (by decide +kernel) (by decide +kernel)

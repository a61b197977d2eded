set_option maxRecDepth 20000 in
theorem ggL_law_X6_take_p9 : GoodIn wzL_law wsJx4a65c0 := qgood qwzL_law_in _ [1112, 0, 0] [0, 1, 2] (by decide +kernel) (by decide +kernel)
set_option maxRecDepth 20000 in
theorem ggL_law_X6_take : GoodIn wzL_law wsX6_take := goodIn_app (a := [.code yX6_take cX6_take 15 (some .int)]) ggL_law_X6_take_p0 (goodIn_app (goodIn_app (goodIn_app (goodIn_app (goodIn_app (goodIn_app ggL_law_X6_take_p1 (goodIn_app ggL_law_X6_take_p2 (goodIn_app ggL_law_X6_take_p3 (goodIn_app ggL_law_X6_take_p4 ggL_law_X6_take_p5)))) ggL_law_X6_take_p6) ggL_law_X6_take_p7) ggL_law_X6_take_p8) ggL_law_X6_take_p9) (goodIn_sub (fun _ h => (List.mem_append_left _ (List.mem_append_left _ (List.mem_append_left _ (List.mem_append_left _ (List.mem_append_left _ (List.mem_append_left _ (List.mem_append_right _ h)))))))) (by decide +kernel)))
set_option maxRecDepth 20000 in
theorem gL_law_X6_take : GoodIn wzL_law (wsV RL 278 RX6 yX6_take wsX6_take) := goodIn_app (qof qwzL_law_in _ (by decide +kernel)) ggL_law_X6_take
set_option maxRecDepth 20000 in
theorem ggL_law_X3_money : GoodIn wzL_law wsX3_money := qgood qwzL_law_in _ [30, 981, 71, 0, 0, 0, 0, 0, 0, 0, 0, 0] [1, 0, 2, 3, 4, 5, 6, 7, 8, 9, 10, 11] (by decide +kernel) (by decide +kernel)
set_option maxRecDepth 20000 in
theorem gL_law_X3_money : GoodIn wzL_law (wsV RL 279 RX3 yX3_money wsX3_money) := goodIn_app (qof qwzL_law_in _ (by decide +kernel)) ggL_law_X3_money
set_option maxRecDepth 20000 in
theorem ggL_law_X6_money : GoodIn wzL_law wsX6_money := qgood qwzL_law_in _ [118, 329, 567, 77, 0, 0, 0, 0, 0, 0, 0, 0, 0, 0] [2, 0, 1, 3, 4, 5, 6, 7, 8, 9, 10, 11, 12, 13] (by decide +kernel) (by decide +kernel)
set_option maxRecDepth 20000 in
theorem gL_law_X6_money : GoodIn wzL_law (wsV RL 282 RX6 yX6_money wsX6_money) := goodIn_app (qof qwzL_law_in _ (by decide +kernel)) ggL_law_X6_money
set_option maxRecDepth 20000 in
theorem ggL_law_L_count : GoodIn wzL_law wsL_count := goodIn_ca (goodIn_ca (qgood qwzL_law_in _ [2, 20, 0, 73, 0, 0, 90, 0, 0, 0, 7, 7, 355, 4, 0, 20, 0, 0, 0, 422, 0, 0, 0, 0, 60, 0, 0, 0, 0, 0, 0, 0, 0, 0, 21, 0, 0, 0, 0, 0, 0, 0, 0, 0, 0, 0, 0, 0, 0] [19, 12, 20, 21, 22, 0, 23, 13, 14, 6, 7, 8, 9, 2, 1, 3, 4, 5, 15, 16, 17, 10, 18, 11, 24, 25, 26, 27, 28, 29, 30, 31, 32, 33, 34, 35, 36, 37, 38, 39, 40, 41, 42, 43, 44, 45, 46, 47, 48] (by decide +kernel) (by decide +kernel)) (goodIn_sub (fun _ h => (List.mem_append_left _ (List.mem_append_left _ (List.mem_append_left _ (List.mem_append_left _ (List.mem_append_left _ (List.mem_append_left _ (List.mem_append_right _ h)))))))) (by decide +kernel))) (goodIn_sub (fun _ h => (List.mem_append_left _ (List.mem_append_right _ h))) (by decide +kernel))
set_option maxRecDepth 20000 in
theorem gL_law_L_count : GoodIn wzL_law (va_wsS RL 283 yL_count wsL_count) := goodIn_app (qof qwzL_law_in _ (by decide +kernel)) ggL_law_L_count
set_option maxRecDepth 20000 in
theorem ggL_law_X6_count : GoodIn wzL_law wsX6_count := qgood qwzL_law_in _ [5, 53, 0, 4, 45, 0, 0, 0, 0, 0, 0, 0, 158, 41, 7, 181, 0, 0, 0, 0, 96, 0, 0, 0, 0, 0, 0, 0, 0, 0, 0, 0, 0, 0, 0, 0, 9, 0, 0, 0, 107, 0, 0, 0, 277, 66, 0, 0, 0, 0, 0, 0, 0, 0, 0, 0, 7, 0, 0, 19, 0, 0, 0, 0, 0, 0, 0, 0, 0] [44, 2, 12, 40, 41, 42, 0, 43, 15, 16, 17, 1, 18, 19, 4, 5, 6, 7, 8, 9, 10, 11, 20, 21, 22, 23, 24, 25, 26, 27, 28, 29, 30, 31, 32, 33, 34, 35, 3, 36, 37, 38, 13, 39, 14, 45, 46, 47, 48, 49, 50, 51, 52, 53, 54, 55, 56, 57, 58, 59, 60, 61, 62, 63, 64, 65, 66, 67, 68] (by decide +kernel) (by decide +kernel)
set_option maxRecDepth 20000 in
theorem gL_law_X6_count : GoodIn wzL_law (wsV RL 285 RX6 yX6_count wsX6_count) := goodIn_app (qof qwzL_law_in _ (by decide +kernel)) ggL_law_X6_count
set_option maxRecDepth 20000 in
theorem ggL_law_L_openShare_p0 : GoodIn wzL_law [.codeWith yL_openShare cL_openShare 3 (some .int) [(0, 8, 11, 140)]] := qgood qwzL_law_in _ [1030] [0] (by decide +kernel) (by decide +kernel)
set_option maxRecDepth 20000 in
theorem ggL_law_L_openShare_p1 : GoodIn wzL_law wsL_openShare_r1 := qgood qwzL_law_in _ [2, 13, 0, 5, 0, 0, 72, 0, 0, 25, 0, 0, 0, 61, 0, 0, 0, 836, 0, 0, 0, 0, 0, 0] [17, 18, 19, 20, 0, 21, 22, 23, 4, 2, 5, 13, 14, 15, 16, 3, 6, 7, 8, 9, 10, 11, 1, 12] (by decide +kernel) (by decide +kernel)
set_option maxRecDepth 20000 in
theorem ggL_law_L_openShare_p2 : GoodIn wzL_law wsL_openShare_r2 := qgood qwzL_law_in _ [36, 0, 164, 2, 0, 0, 0, 0, 0, 14, 13, 0, 0, 0, 0, 0, 0, 0, 0, 0, 591, 0, 0, 0] [0, 1, 20, 21, 22, 2, 23, 9, 10, 11, 12, 13, 14, 3, 15, 16, 4, 5, 6, 7, 8, 17, 18, 19] (by decide +kernel) (by decide +kernel)
set_option maxRecDepth 20000 in
theorem ggL_law_L_openShare_p3 : GoodIn wzL_law wsL_openShare_r3 := qgood qwzL_law_in _ [180, 0, 0, 1, 0, 40, 0, 21, 0, 0, 0, 0, 4, 0, 0, 0, 0, 0, 0, 0, 0] [7, 8, 9, 10, 11, 12, 13, 14, 15, 5, 16, 3, 1, 4, 6, 17, 0, 2, 18, 19, 20] (by decide +kernel) (by decide +kernel)
set_option maxRecDepth 20000 in
theorem ggL_law_L_openShare_p4 : GoodIn wzL_law wsX30 := qgood qwzL_law_in _ [1084, 0, 0, 0, 0, 0, 0, 0, 0, 0] [0, 1, 2, 3, 4, 5, 6, 7, 8, 9] (by decide +kernel) (by decide +kernel)
set_option maxRecDepth 20000 in
theorem ggL_law_L_openShare_p5 : GoodIn wzL_law wsX20 := qgood qwzL_law_in _ [1105, 0, 0, 0] [0, 1, 2, 3] (by decide +kernel) (by decide +kernel)
set_option maxRecDepth 20000 in
theorem ggL_law_L_openShare_p6 : GoodIn wzL_law wsX10 := qgood qwzL_law_in _ [1115, 0, 0, 0, 0, 0, 0, 0, 0, 0, 0, 0, 0, 0, 0] [0, 1, 2, 3, 4, 5, 6, 7, 8, 9, 10, 11, 12, 13, 14] (by decide +kernel) (by decide +kernel)
set_option maxRecDepth 20000 in
theorem ggL_law_L_openShare : GoodIn wzL_law wsL_openShare := goodIn_app (a := [.codeWith yL_openShare cL_openShare 3 (some .int) [(0, 8, 11, 140)]]) ggL_law_L_openShare_p0 (goodIn_app (goodIn_app (goodIn_app (goodIn_app (goodIn_app (goodIn_app ggL_law_L_openShare_p1 (goodIn_app ggL_law_L_openShare_p2 ggL_law_L_openShare_p3)) ggL_law_L_openShare_p4) ggL_law_L_openShare_p5) ggL_law_L_openShare_p6) (goodIn_sub (fun _ h => (List.mem_append_left _ (List.mem_append_left _ (List.mem_append_left _ (List.mem_append_left _ (List.mem_append_left _ (List.mem_append_left _ (List.mem_append_right _ h)))))))) (by decide +kernel))) (goodIn_sub (fun _ h => (List.mem_append_right _ h)) (by decide +kernel)))
set_option maxRecDepth 20000 in
theorem gL_law_L_openShare : GoodIn wzL_law (va_wsS RL 286 yL_openShare wsL_openShare) := goodIn_app (qof qwzL_law_in _ (by decide +kernel)) ggL_law_L_openShare
set_option maxRecDepth 20000 in
theorem ggL_law_X6_openShare_p0 : GoodIn wzL_law [.code yX6_openShare cX6_openShare 4 (some .float)] := qgood qwzL_law_in _ [1041] [0] (by decide +kernel) (by decide +kernel)
set_option maxRecDepth 20000 in
theorem ggL_law_X6_openShare_p1 : GoodIn wzL_law wsX6_openShare_r1 := qgood qwzL_law_in _ [12, 0, 45, 0, 216, 8, 0, 0, 0, 0, 0, 0, 0, 0, 0, 0, 0, 0, 0, 0, 0, 0, 0, 0] [3, 4, 5, 6, 7, 2, 8, 9, 10, 11, 12, 13, 14, 15, 16, 0, 1, 17, 18, 19, 20, 21, 22, 23] (by decide +kernel) (by decide +kernel)
set_option maxRecDepth 20000 in
theorem ggL_law_X6_openShare_p2 : GoodIn wzL_law wsX6_openShare_r2 := qgood qwzL_law_in _ [35, 269, 0, 0, 0, 0, 0, 0, 0, 0, 0, 0, 3, 3, 3, 22, 0, 0, 0, 0, 493, 0, 0, 0] [1, 2, 3, 4, 5, 6, 7, 8, 9, 10, 11, 20, 21, 22, 12, 23, 13, 14, 15, 16, 17, 18, 19, 0] (by decide +kernel) (by decide +kernel)
set_option maxRecDepth 20000 in
theorem ggL_law_X6_openShare_p3 : GoodIn wzL_law wsX6_openShare_r3 := qgood qwzL_law_in _ [5, 106, 0, 22, 0, 0, 191, 0, 0, 0, 0, 0, 19, 0, 0, 0, 0, 0, 0, 0, 0, 0, 0, 0] [6, 7, 8, 9, 10, 11, 1, 0, 2, 12, 13, 14, 15, 16, 17, 18, 19, 20, 21, 22, 23, 3, 4, 5] (by decide +kernel) (by decide +kernel)
set_option maxRecDepth 20000 in
theorem ggL_law_X6_openShare_p4 : GoodIn wzL_law wsX6_openShare_r4 := qgood qwzL_law_in _ [52, 61, 0, 0, 63, 0, 0, 1, 0, 142, 42, 0, 0, 0, 0, 137, 122, 0, 0, 213, 189, 0, 0, 0] [0, 19, 16, 17, 18, 10, 11, 12, 13, 14, 7, 5, 8, 9, 4, 6, 20, 21, 22, 23, 15, 1, 2, 3] (by decide +kernel) (by decide +kernel)
set_option maxRecDepth 20000 in
theorem ggL_law_X6_openShare_p5 : GoodIn wzL_law wsX6_openShare_r5 := qgood qwzL_law_in _ [117, 0, 390, 0, 0, 0] [0, 1, 2, 3, 4, 5] (by decide +kernel) (by decide +kernel)
set_option maxRecDepth 20000 in
theorem ggL_law_X6_openShare_p6 : GoodIn wzL_law wsX60 := qgood qwzL_law_in _ [1094, 0, 0, 0, 0, 0, 0, 0, 0, 0, 0] [0, 1, 2, 3, 4, 5, 6, 7, 8, 9, 10] (by decide +kernel) (by decide +kernel)
set_option maxRecDepth 20000 in
theorem ggL_law_X6_openShare_p7 : GoodIn wzL_law wsJx354110 := qgood qwzL_law_in _ [1130, 0, 0, 0] [0, 1, 2, 3] (by decide +kernel) (by decide +kernel)
set_option maxRecDepth 20000 in
theorem ggL_law_X6_openShare_p8 : GoodIn wzL_law wsJx4a65c0 := qgood qwzL_law_in _ [1112, 0, 0] [0, 1, 2] (by decide +kernel) (by decide +kernel)
set_option maxRecDepth 20000 in
theorem ggL_law_X6_openShare_p9 : GoodIn wzL_law wsX50 := qgood qwzL_law_in _ [1134, 0, 0, 0, 0, 0, 0, 0, 0, 0] [0, 1, 2, 3, 4, 5, 6, 7, 8, 9] (by decide +kernel) (by decide +kernel)
set_option maxRecDepth 20000 in
theorem ggL_law_X6_openShare_p10 : GoodIn wzL_law wsX40 := qgood qwzL_law_in _ [1144, 0, 0, 0, 0] [0, 1, 2, 3, 4] (by decide +kernel) (by decide +kernel)
set_option maxRecDepth 20000 in
theorem ggL_law_X6_openShare : GoodIn wzL_law wsX6_openShare := goodIn_app (a := [.code yX6_openShare cX6_openShare 4 (some .float)]) ggL_law_X6_openShare_p0 (goodIn_app (goodIn_app (goodIn_app (goodIn_app (goodIn_app (goodIn_app (goodIn_app ggL_law_X6_openShare_p1 (goodIn_app ggL_law_X6_openShare_p2 (goodIn_app ggL_law_X6_openShare_p3 (goodIn_app ggL_law_X6_openShare_p4 ggL_law_X6_openShare_p5)))) ggL_law_X6_openShare_p6) ggL_law_X6_openShare_p7) ggL_law_X6_openShare_p8) ggL_law_X6_openShare_p9) ggL_law_X6_openShare_p10) (goodIn_sub (fun _ h => (List.mem_append_left _ (List.mem_append_left _ (List.mem_append_left _ (List.mem_append_left _ (List.mem_append_left _ (List.mem_append_left _ (List.mem_append_right _ h)))))))) (by decide +kernel)))
set_option maxRecDepth 20000 in
theorem gL_law_X6_openShare : GoodIn wzL_law (wsV RL 289 RX6 yX6_openShare wsX6_openShare) := goodIn_app (qof qwzL_law_in _ (by decide +kernel)) ggL_law_X6_openShare
set_option maxRecDepth 20000 in
theorem ggL_law_L_meanCreep : GoodIn wzL_law wsL_meanCreep := goodIn_ca (goodIn_ca (goodIn_ca (qgood qwzL_law_in _ [2, 20, 0, 73, 0, 0, 90, 0, 0, 0, 7, 7, 14, 340, 4, 0, 20, 0, 0, 0, 434, 4, 0, 10, 0, 0, 0, 0, 0, 0, 0, 0, 27, 0, 0, 0, 0, 0, 0, 0, 0, 0, 21, 0, 0, 0, 0, 0, 0, 0, 0, 0, 0, 0, 0, 0, 0] [23, 13, 20, 24, 25, 26, 0, 27, 14, 15, 21, 22, 6, 7, 8, 9, 2, 1, 3, 4, 5, 16, 17, 18, 10, 19, 11, 28, 29, 30, 31, 12, 32, 33, 34, 35, 36, 37, 38, 39, 40, 41, 42, 43, 44, 45, 46, 47, 48, 49, 50, 51, 52, 53, 54, 55, 56] (by decide +kernel) (by decide +kernel)) (goodIn_sub (fun _ h => (List.mem_append_left _ (List.mem_append_left _ (List.mem_append_left _ (List.mem_append_left _ (List.mem_append_left _ (List.mem_append_left _ (List.mem_append_right _ h)))))))) (by decide +kernel))) (goodIn_sub (fun _ h => (List.mem_append_left _ (List.mem_append_right _ h))) (by decide +kernel))) (goodIn_sub (fun _ h => (List.mem_append_right _ h)) (by decide +kernel))
set_option maxRecDepth 20000 in
theorem gL_law_L_meanCreep : GoodIn wzL_law (va_wsS RL 290 yL_meanCreep wsL_meanCreep) := goodIn_app (qof qwzL_law_in _ (by decide +kernel)) ggL_law_L_meanCreep
set_option maxRecDepth 20000 in
theorem ggL_law_X6_meanCreep : GoodIn wzL_law wsX6_meanCreep := qgood qwzL_law_in _ [5, 53, 0, 4, 45, 0, 0, 0, 0, 0, 0, 0, 158, 41, 7, 181, 0, 0, 0, 0, 96, 0, 0, 0, 0, 0, 0, 0, 0, 0, 0, 0, 0, 0, 0, 0, 9, 0, 0, 0, 107, 0, 0, 0, 310, 33, 0, 0, 0, 0, 0, 0, 0, 0, 0, 0, 7, 0, 0, 19, 0, 0, 0, 0, 0, 0, 0, 0, 0, 0, 0, 0, 0, 0] [44, 2, 12, 40, 41, 42, 0, 43, 15, 16, 17, 1, 18, 19, 4, 5, 6, 7, 8, 9, 10, 11, 20, 21, 22, 23, 24, 25, 26, 27, 28, 29, 30, 31, 32, 33, 34, 35, 3, 36, 37, 38, 13, 39, 14, 45, 46, 47, 48, 49, 50, 51, 52, 53, 54, 55, 59, 60, 61, 62, 63, 64, 65, 66, 67, 68, 69, 70, 71, 72, 73, 56, 57, 58] (by decide +kernel) (by decide +kernel)
set_option maxRecDepth 20000 in
theorem gL_law_X6_meanCreep : GoodIn wzL_law (wsV RL 292 RX6 yX6_meanCreep wsX6_meanCreep) := goodIn_app (qof qwzL_law_in _ (by decide +kernel)) ggL_law_X6_meanCreep
set_option maxRecDepth 20000 in
theorem ggL_law_X3_checksum : GoodIn wzL_law wsX3_checksum := goodIn_ca (qgood qwzL_law_in _ [2, 18, 1, 0, 3, 1, 67, 0, 0, 90, 0, 0, 0, 7, 4, 0, 0, 0, 180, 186, 82, 42, 359, 0, 0, 17, 0, 0, 0, 0, 0, 0, 0, 0, 0, 15, 0, 0, 3, 0, 0, 0, 0, 0, 0, 0, 0, 0, 0, 0, 0, 0, 0] [22, 23, 3, 24, 20, 21, 5, 4, 1, 18, 9, 10, 11, 0, 12, 2, 6, 7, 8, 19, 14, 15, 13, 16, 17, 25, 26, 27, 28, 29, 30, 31, 32, 33, 34, 38, 39, 40, 41, 42, 43, 44, 45, 46, 47, 48, 49, 50, 51, 52, 35, 36, 37] (by decide +kernel) (by decide +kernel)) (goodIn_sub (fun _ h => (List.mem_append_left _ (List.mem_append_left _ (List.mem_append_left _ (List.mem_append_left _ (List.mem_append_left _ (List.mem_append_left _ (List.mem_append_right _ h)))))))) (by decide +kernel))
set_option maxRecDepth 20000 in
theorem gL_law_X3_checksum : GoodIn wzL_law (wsV RL 293 RX3 yX3_checksum wsX3_checksum) := goodIn_app (qof qwzL_law_in _ (by decide +kernel)) ggL_law_X3_checksum
set_option maxRecDepth 20000 in
theorem ggL_law_X6_checksum : GoodIn wzL_law wsX6_checksum := goodIn_ca (qgood qwzL_law_in _ [12, 0, 39, 5, 0, 57, 158, 7, 0, 0, 0, 0, 0, 0, 0, 0, 0, 0, 0, 0, 0, 0, 0, 0, 0, 0, 0, 0, 0, 0, 0, 0, 0, 0, 0, 0, 0, 0, 132, 159, 461, 0, 22, 0, 0, 0, 0, 0, 0, 0, 0, 0, 0, 7, 0, 0, 15, 0, 0, 0, 0, 0, 0, 0, 0, 0, 0, 0, 0, 0, 0, 0, 0, 0, 0] [40, 5, 39, 4, 6, 41, 38, 7, 2, 8, 9, 10, 3, 11, 12, 13, 14, 15, 16, 17, 18, 19, 0, 1, 20, 21, 22, 23, 24, 25, 26, 27, 28, 29, 30, 31, 32, 33, 34, 35, 36, 37, 42, 43, 44, 45, 46, 47, 48, 49, 50, 51, 52, 60, 61, 62, 63, 64, 65, 66, 67, 68, 69, 70, 71, 72, 73, 74, 56, 57, 58, 59, 53, 54, 55] (by decide +kernel) (by decide +kernel)) (goodIn_sub (fun _ h => (List.mem_append_left _ (List.mem_append_left _ (List.mem_append_left _ (List.mem_append_left _ (List.mem_append_left _ (List.mem_append_left _ (List.mem_append_right _ h)))))))) (by decide +kernel))
set_option maxRecDepth 20000 in
theorem gL_law_X6_checksum : GoodIn wzL_law (wsV RL 297 RX6 yX6_checksum wsX6_checksum) := goodIn_app (qof qwzL_law_in _ (by decide +kernel)) ggL_law_X6_checksum
set_option maxRecDepth 20000 in
theorem ggL_law_X3_isSound : GoodIn wzL_law wsX3_isSound := goodIn_ca (qgood qwzL_law_in _ [2, 18, 1, 0, 73, 0, 0, 90, 0, 0, 0, 7, 2, 0, 0, 0, 0, 0, 28, 0, 0, 0, 0, 0, 0, 0, 0, 0, 0, 0, 0, 0, 0, 0, 0, 0, 0, 133, 16, 666, 0, 0, 0, 0, 4, 0, 0, 0, 0, 0, 0, 0, 0, 0, 15, 0, 0, 3, 0, 0, 0, 0, 0, 0, 0, 0, 0, 0, 0, 0, 0, 0] [39, 3, 1, 38, 37, 7, 8, 9, 0, 10, 2, 4, 5, 6, 40, 41, 42, 11, 43, 12, 18, 19, 20, 21, 22, 23, 24, 13, 14, 15, 16, 17, 25, 26, 27, 28, 29, 30, 31, 32, 33, 34, 35, 36, 44, 45, 46, 47, 48, 49, 50, 51, 52, 53, 54, 55, 56, 57, 58, 59, 60, 61, 62, 63, 64, 65, 66, 67, 68, 69, 70, 71] (by decide +kernel) (by decide +kernel)) (goodIn_sub (fun _ h => (List.mem_append_left _ (List.mem_append_left _ (List.mem_append_left _ (List.mem_append_left _ (List.mem_append_left _ (List.mem_append_left _ (List.mem_append_right _ h)))))))) (by decide +kernel))
set_option maxRecDepth 20000 in
theorem gL_law_X3_isSound : GoodIn wzL_law (wsV RL 298 RX3 yX3_isSound wsX3_isSound) := goodIn_app (qof qwzL_law_in _ (by decide +kernel)) ggL_law_X3_isSound
set_option maxRecDepth 20000 in
theorem ggL_law_X6_isSound : GoodIn wzL_law wsX6_isSound := qgood qwzL_law_in _ [118, 964, 10, 0, 0, 0, 0, 0, 0, 0, 0, 0, 0] [1, 0, 2, 3, 4, 5, 6, 7, 8, 9, 10, 11, 12] (by decide +kernel) (by decide +kernel)
set_option maxRecDepth 20000 in
theorem gL_law_X6_isSound : GoodIn wzL_law (wsV RL 302 RX6 yX6_isSound wsX6_isSound) := goodIn_app (qof qwzL_law_in _ (by decide +kernel)) ggL_law_X6_isSound



set_option maxRecDepth 20000 in
theorem ggL_law_L_mass : GoodIn wzL_law wzL_mass := goodIn_ca (goodIn_ca (qgood qwzL_law_in _ [2, 20, 0, 73, 0, 0, 90, 0, 0, 0, 7, 4, 0, 0, 0, 33, 0, 320, 4, 0, 0, 0, 0, 0, 0, 0, 74, 0, 0, 0, 0, 0, 0, 0, 0, 422, 0, 0, 0, 0, 0, 0, 0, 0, 0, 21, 0, 0, 0, 0, 0, 0, 0, 0, 0, 0, 0, 0, 0, 0] [26, 17, 27, 28, 29, 30, 0, 31, 18, 19, 32, 33, 34, 20, 21, 22, 23, 3, 4, 5, 6, 7, 8, 9, 2, 1, 24, 15, 16, 25, 11, 12, 10, 13, 14, 45, 46, 47, 48, 49, 50, 51, 52, 53, 54, 55, 56, 57, 58, 59, 35, 36, 37, 38, 39, 40, 41, 42, 43, 44] (by decide +kernel) (by decide +kernel)) (goodIn_sub (fun _ h => (List.mem_append_left _ (List.mem_append_left _ (List.mem_append_left _ (List.mem_append_left _ (List.mem_append_left _ (List.mem_append_left _ (List.mem_append_right _ h)))))))) (by decide +kernel))) (goodIn_sub (fun _ h => (List.mem_append_left _ (List.mem_append_right _ h))) (by decide +kernel))
set_option maxRecDepth 20000 in
theorem gL_law_L_mass : GoodIn wzL_law (va_wsS RL 211 yL_mass wzL_mass) := goodIn_app (qof qwzL_law_in _ (by decide +kernel)) ggL_law_L_mass
set_option maxRecDepth 20000 in
theorem ggL_law_X6_mass_p0 : GoodIn wzL_law [.code yX6_mass cX6_mass 4 (some .int)] := qgood qwzL_law_in _ [665] [0] (by decide +kernel) (by decide +kernel)
set_option maxRecDepth 20000 in
theorem ggL_law_X6_mass_p1 : GoodIn wzL_law wsX6_mass_r1 := qgood qwzL_law_in _ [5, 53, 0, 50, 0, 0, 0, 0, 161, 231, 0, 0, 0, 0, 90, 0, 0, 0, 0, 0, 56, 0, 0, 0] [2, 8, 20, 21, 22, 0, 23, 14, 15, 16, 17, 18, 19, 9, 10, 11, 1, 12, 13, 3, 4, 5, 6, 7] (by decide +kernel) (by decide +kernel)
set_option maxRecDepth 20000 in
theorem ggL_law_X6_mass_p2 : GoodIn wzL_law wsX6_mass_r2 := qgood qwzL_law_in _ [65, 50, 0, 0, 200, 11, 0, 277, 0, 0, 0, 0, 0, 0, 0, 0, 0, 0, 0, 0, 0, 0, 0, 0] [1, 2, 3, 7, 8, 9, 10, 11, 12, 13, 14, 15, 16, 17, 18, 19, 20, 21, 22, 0, 23, 5, 6, 4] (by decide +kernel) (by decide +kernel)
set_option maxRecDepth 20000 in
theorem ggL_law_X6_mass_p3 : GoodIn wzL_law wsX6_mass_r3 := qgood qwzL_law_in _ [327, 5, 0, 0] [1, 2, 3, 0] (by decide +kernel) (by decide +kernel)
set_option maxRecDepth 20000 in
theorem ggL_law_X6_mass_p4 : GoodIn wzL_law wsX60 := qgood qwzL_law_in _ [1094, 0, 0, 0, 0, 0, 0, 0, 0, 0, 0] [0, 1, 2, 3, 4, 5, 6, 7, 8, 9, 10] (by decide +kernel) (by decide +kernel)
set_option maxRecDepth 20000 in
theorem ggL_law_X6_mass_p5 : GoodIn wzL_law wsX50 := qgood qwzL_law_in _ [1134, 0, 0, 0, 0, 0, 0, 0, 0, 0] [0, 1, 2, 3, 4, 5, 6, 7, 8, 9] (by decide +kernel) (by decide +kernel)
set_option maxRecDepth 20000 in
theorem ggL_law_X6_mass_p6 : GoodIn wzL_law wsX40 := qgood qwzL_law_in _ [1144, 0, 0, 0, 0] [0, 1, 2, 3, 4] (by decide +kernel) (by decide +kernel)
set_option maxRecDepth 20000 in
theorem ggL_law_X6_mass_p7 : GoodIn wzL_law wsJx4a65c0 := qgood qwzL_law_in _ [1112, 0, 0] [0, 1, 2] (by decide +kernel) (by decide +kernel)
set_option maxRecDepth 20000 in
theorem ggL_law_X6_mass : GoodIn wzL_law wsX6_mass := goodIn_app (a := [.code yX6_mass cX6_mass 4 (some .int)]) ggL_law_X6_mass_p0 (goodIn_app (goodIn_app (goodIn_app (goodIn_app (goodIn_app ggL_law_X6_mass_p1 (goodIn_app ggL_law_X6_mass_p2 ggL_law_X6_mass_p3)) ggL_law_X6_mass_p4) ggL_law_X6_mass_p5) ggL_law_X6_mass_p6) ggL_law_X6_mass_p7)
set_option maxRecDepth 20000 in
theorem gL_law_X6_mass : GoodIn wzL_law (wsV RL 213 RX6 yX6_mass wsX6_mass) := goodIn_app (qof qwzL_law_in _ (by decide +kernel)) ggL_law_X6_mass
set_option maxRecDepth 20000 in
theorem ggL_law_L_load : GoodIn wzL_law wzL_load := goodIn_ca (goodIn_ca (qgood qwzL_law_in _ [2, 20, 0, 73, 0, 0, 90, 0, 0, 0, 7, 2, 0, 0, 0, 0, 0, 28, 1, 0, 0, 0, 0, 0, 0, 0, 0, 0, 0, 0, 0, 312, 4, 0, 0, 0, 0, 0, 0, 0, 75, 4, 0, 11, 0, 0, 0, 0, 0, 0, 405, 0, 0, 0, 0, 0, 0, 0, 0, 0, 21, 0, 0, 0, 0, 0, 0, 0, 0, 0, 0, 0, 0, 0, 0] [43, 31, 40, 44, 45, 46, 0, 47, 32, 33, 41, 42, 48, 34, 35, 36, 37, 3, 4, 5, 6, 7, 8, 9, 2, 1, 38, 21, 22, 39, 13, 14, 10, 15, 16, 49, 18, 19, 20, 17, 11, 12, 23, 24, 25, 26, 27, 28, 29, 30, 60, 61, 62, 63, 64, 65, 66, 67, 68, 69, 70, 71, 72, 73, 74, 50, 51, 52, 53, 54, 55, 56, 57, 58, 59] (by decide +kernel) (by decide +kernel)) (goodIn_sub (fun _ h => (List.mem_append_left _ (List.mem_append_left _ (List.mem_append_left _ (List.mem_append_left _ (List.mem_append_left _ (List.mem_append_left _ (List.mem_append_right _ h)))))))) (by decide +kernel))) (goodIn_sub (fun _ h => (List.mem_append_left _ (List.mem_append_right _ h))) (by decide +kernel))
set_option maxRecDepth 20000 in
theorem gL_law_L_load : GoodIn wzL_law (va_wsS RL 214 yL_load wzL_load) := goodIn_app (qof qwzL_law_in _ (by decide +kernel)) ggL_law_L_load
set_option maxRecDepth 20000 in
theorem ggL_law_X6_load_p0 : GoodIn wzL_law [.code yX6_load cX6_load 4 (some .int)] := qgood qwzL_law_in _ [682] [0] (by decide +kernel) (by decide +kernel)
set_option maxRecDepth 20000 in
theorem ggL_law_X6_load_p1 : GoodIn wzL_law wsX6_load_r1 := qgood qwzL_law_in _ [5, 53, 0, 50, 0, 0, 0, 0, 161, 231, 0, 0, 0, 0, 90, 0, 0, 0, 0, 0, 56, 0, 0, 0] [2, 8, 20, 21, 22, 0, 23, 14, 15, 16, 17, 18, 19, 9, 10, 11, 1, 12, 13, 3, 4, 5, 6, 7] (by decide +kernel) (by decide +kernel)
set_option maxRecDepth 20000 in
theorem ggL_law_X6_load_p2 : GoodIn wzL_law wsX6_load_r2 := qgood qwzL_law_in _ [65, 50, 0, 0, 200, 11, 0, 277, 0, 0, 0, 0, 0, 0, 0, 0, 0, 0, 0, 0, 0, 0, 0, 0] [1, 2, 3, 7, 8, 9, 10, 11, 12, 13, 14, 15, 16, 17, 18, 19, 20, 21, 22, 0, 23, 5, 6, 4] (by decide +kernel) (by decide +kernel)
set_option maxRecDepth 20000 in
theorem ggL_law_X6_load_p3 : GoodIn wzL_law wsX6_load_r3 := qgood qwzL_law_in _ [35, 291, 2, 2, 0, 0, 15, 0, 0, 0, 0, 0, 0, 0, 0, 0, 0, 0, 0, 0, 0, 0, 316] [3, 4, 5, 1, 22, 6, 7, 8, 9, 0, 2, 10, 11, 12, 13, 14, 15, 16, 17, 18, 19, 20, 21] (by decide +kernel) (by decide +kernel)
set_option maxRecDepth 20000 in
theorem ggL_law_X6_load_p4 : GoodIn wzL_law wsX60 := qgood qwzL_law_in _ [1094, 0, 0, 0, 0, 0, 0, 0, 0, 0, 0] [0, 1, 2, 3, 4, 5, 6, 7, 8, 9, 10] (by decide +kernel) (by decide +kernel)
set_option maxRecDepth 20000 in
theorem ggL_law_X6_load_p5 : GoodIn wzL_law wsJx4a65c0 := qgood qwzL_law_in _ [1112, 0, 0] [0, 1, 2] (by decide +kernel) (by decide +kernel)
set_option maxRecDepth 20000 in
theorem ggL_law_X6_load_p6 : GoodIn wzL_law wsX50 := qgood qwzL_law_in _ [1134, 0, 0, 0, 0, 0, 0, 0, 0, 0] [0, 1, 2, 3, 4, 5, 6, 7, 8, 9] (by decide +kernel) (by decide +kernel)
set_option maxRecDepth 20000 in
theorem ggL_law_X6_load_p7 : GoodIn wzL_law wsX40 := qgood qwzL_law_in _ [1144, 0, 0, 0, 0] [0, 1, 2, 3, 4] (by decide +kernel) (by decide +kernel)
set_option maxRecDepth 20000 in
theorem ggL_law_X6_load : GoodIn wzL_law wsX6_load := goodIn_app (a := [.code yX6_load cX6_load 4 (some .int)]) ggL_law_X6_load_p0 (goodIn_app (goodIn_app (goodIn_app (goodIn_app (goodIn_app (goodIn_app ggL_law_X6_load_p1 (goodIn_app ggL_law_X6_load_p2 ggL_law_X6_load_p3)) ggL_law_X6_load_p4) ggL_law_X6_load_p5) ggL_law_X6_load_p6) ggL_law_X6_load_p7) (goodIn_sub (fun _ h => (List.mem_append_left _ (List.mem_append_left _ (List.mem_append_left _ (List.mem_append_left _ (List.mem_append_left _ (List.mem_append_left _ (List.mem_append_right _ h)))))))) (by decide +kernel)))
set_option maxRecDepth 20000 in
theorem gL_law_X6_load : GoodIn wzL_law (wsV RL 216 RX6 yX6_load wsX6_load) := goodIn_app (qof qwzL_law_in _ (by decide +kernel)) ggL_law_X6_load
set_option maxRecDepth 20000 in
theorem ggL_law_L_strength_p0 : GoodIn wzL_law [.codeWith yL_strength cL_strength 6 (some .int) [(0, 12, 15, 54), (0, 12, 19, 64)]] := qgood qwzL_law_in _ [686] [0] (by decide +kernel) (by decide +kernel)
set_option maxRecDepth 20000 in
theorem ggL_law_L_strength_p1 : GoodIn wzL_law wsL_strength_r1 := qgood qwzL_law_in _ [2, 14, 7, 72, 0, 0, 90, 0, 0, 0, 371, 4, 0, 0, 0, 0, 0, 77, 4, 0, 26, 0, 0, 0] [10, 17, 20, 21, 22, 0, 23, 11, 12, 18, 19, 1, 2, 13, 14, 15, 16, 3, 4, 5, 6, 7, 8, 9] (by decide +kernel) (by decide +kernel)
set_option maxRecDepth 20000 in
theorem ggL_law_L_strength_p2 : GoodIn wzL_law wsL_strength_r2 := qgood qwzL_law_in _ [16, 6, 0, 11, 0, 88, 0, 0, 0, 72, 4, 0, 0, 0, 15, 17, 0, 13, 0, 0, 0, 314, 0, 112] [2, 1, 21, 15, 16, 22, 10, 11, 9, 12, 13, 5, 6, 7, 0, 8, 3, 4, 23, 17, 18, 19, 14, 20] (by decide +kernel) (by decide +kernel)
set_option maxRecDepth 20000 in
theorem ggL_law_L_strength_p3 : GoodIn wzL_law wsL_strength_r3 := qgood qwzL_law_in _ [180, 0, 0, 1, 0, 20, 20, 35, 0, 0, 0] [3, 1, 4, 6, 7, 0, 2, 5, 8, 9, 10] (by decide +kernel) (by decide +kernel)
set_option maxRecDepth 20000 in
theorem ggL_law_L_strength_p4 : GoodIn wzL_law wsX30 := qgood qwzL_law_in _ [1084, 0, 0, 0, 0, 0, 0, 0, 0, 0] [0, 1, 2, 3, 4, 5, 6, 7, 8, 9] (by decide +kernel) (by decide +kernel)
set_option maxRecDepth 20000 in
theorem ggL_law_L_strength_p5 : GoodIn wzL_law wsX10 := qgood qwzL_law_in _ [1115, 0, 0, 0, 0, 0, 0, 0, 0, 0, 0, 0, 0, 0, 0] [0, 1, 2, 3, 4, 5, 6, 7, 8, 9, 10, 11, 12, 13, 14] (by decide +kernel) (by decide +kernel)
set_option maxRecDepth 20000 in
theorem ggL_law_L_strength_p6 : GoodIn wzL_law wsX20 := qgood qwzL_law_in _ [1105, 0, 0, 0] [0, 1, 2, 3] (by decide +kernel) (by decide +kernel)
set_option maxRecDepth 20000 in
theorem ggL_law_L_strength : GoodIn wzL_law wzL_strength := goodIn_app (a := [.codeWith yL_strength cL_strength 6 (some .int) [(0, 12, 15, 54), (0, 12, 19, 64)]]) ggL_law_L_strength_p0 (goodIn_app (goodIn_app (goodIn_app (goodIn_app (goodIn_app (goodIn_app ggL_law_L_strength_p1 (goodIn_app ggL_law_L_strength_p2 ggL_law_L_strength_p3)) ggL_law_L_strength_p4) ggL_law_L_strength_p5) ggL_law_L_strength_p6) (goodIn_sub (fun _ h => (List.mem_append_left _ (List.mem_append_left _ (List.mem_append_left _ (List.mem_append_left _ (List.mem_append_left _ (List.mem_append_left _ (List.mem_append_right _ h)))))))) (by decide +kernel))) (goodIn_sub (fun _ h => (List.mem_append_left _ (List.mem_append_right _ h))) (by decide +kernel)))
set_option maxRecDepth 20000 in
theorem gL_law_L_strength : GoodIn wzL_law (va_wsS RL 217 yL_strength wzL_strength) := goodIn_app (qof qwzL_law_in _ (by decide +kernel)) ggL_law_L_strength
set_option maxRecDepth 20000 in
theorem ggL_law_X6_strength_p0 : GoodIn wzL_law [.code yX6_strength cX6_strength 4 (some .int)] := qgood qwzL_law_in _ [695] [0] (by decide +kernel) (by decide +kernel)
set_option maxRecDepth 20000 in
theorem ggL_law_X6_strength_p1 : GoodIn wzL_law wsX6_strength_r1 := qgood qwzL_law_in _ [5, 53, 0, 49, 0, 0, 0, 0, 162, 231, 0, 0, 0, 0, 90, 0, 0, 0, 0, 0, 56, 0, 0, 0] [2, 8, 3, 20, 21, 22, 0, 23, 14, 15, 16, 17, 18, 19, 9, 10, 11, 1, 12, 13, 4, 5, 6, 7] (by decide +kernel) (by decide +kernel)
set_option maxRecDepth 20000 in
theorem ggL_law_X6_strength_p2 : GoodIn wzL_law wsX6_strength_r2 := qgood qwzL_law_in _ [65, 49, 0, 0, 0, 212, 0, 277, 0, 0, 0, 0, 0, 0, 0, 0, 0, 0, 0, 0, 0, 0, 0, 0] [1, 2, 3, 4, 7, 8, 9, 10, 11, 12, 13, 14, 15, 16, 17, 18, 19, 20, 21, 22, 0, 23, 5, 6] (by decide +kernel) (by decide +kernel)
set_option maxRecDepth 20000 in
theorem ggL_law_X6_strength_p3 : GoodIn wzL_law wsX6_strength_r3 := qgood qwzL_law_in _ [52, 82, 0, 0, 0, 41, 0, 0, 1, 0, 133, 7, 0, 4, 0, 0, 36, 0, 0, 0, 320] [10, 13, 14, 15, 11, 1, 2, 3, 4, 0, 20, 16, 17, 18, 19, 8, 6, 9, 12, 5, 7] (by decide +kernel) (by decide +kernel)
set_option maxRecDepth 20000 in
theorem ggL_law_X6_strength_p4 : GoodIn wzL_law wsX60 := qgood qwzL_law_in _ [1094, 0, 0, 0, 0, 0, 0, 0, 0, 0, 0] [0, 1, 2, 3, 4, 5, 6, 7, 8, 9, 10] (by decide +kernel) (by decide +kernel)
set_option maxRecDepth 20000 in
theorem ggL_law_X6_strength_p5 : GoodIn wzL_law wsJx4a65c0 := qgood qwzL_law_in _ [1112, 0, 0] [0, 1, 2] (by decide +kernel) (by decide +kernel)
set_option maxRecDepth 20000 in
theorem ggL_law_X6_strength_p6 : GoodIn wzL_law wsX50 := qgood qwzL_law_in _ [1134, 0, 0, 0, 0, 0, 0, 0, 0, 0] [0, 1, 2, 3, 4, 5, 6, 7, 8, 9] (by decide +kernel) (by decide +kernel)
set_option maxRecDepth 20000 in
theorem ggL_law_X6_strength_p7 : GoodIn wzL_law wsX40 := qgood qwzL_law_in _ [1144, 0, 0, 0, 0] [0, 1, 2, 3, 4] (by decide +kernel) (by decide +kernel)
set_option maxRecDepth 20000 in
theorem ggL_law_X6_strength : GoodIn wzL_law wsX6_strength := goodIn_app (a := [.code yX6_strength cX6_strength 4 (some .int)]) ggL_law_X6_strength_p0 (goodIn_app (goodIn_app (goodIn_app (goodIn_app (goodIn_app (goodIn_app ggL_law_X6_strength_p1 (goodIn_app ggL_law_X6_strength_p2 ggL_law_X6_strength_p3)) ggL_law_X6_strength_p4) ggL_law_X6_strength_p5) ggL_law_X6_strength_p6) ggL_law_X6_strength_p7) (goodIn_sub (fun _ h => (List.mem_append_left _ (List.mem_append_left _ (List.mem_append_left _ (List.mem_append_left _ (List.mem_append_left _ (List.mem_append_left _ (List.mem_append_right _ h)))))))) (by decide +kernel)))
set_option maxRecDepth 20000 in
theorem gL_law_X6_strength : GoodIn wzL_law (wsV RL 219 RX6 yX6_strength wsX6_strength) := goodIn_app (qof qwzL_law_in _ (by decide +kernel)) ggL_law_X6_strength
set_option maxRecDepth 20000 in
theorem ggL_law_L_creep : GoodIn wzL_law wzL_creep := goodIn_ca (goodIn_ca (qgood qwzL_law_in _ [2, 20, 0, 73, 0, 0, 90, 0, 0, 0, 7, 4, 0, 0, 0, 33, 0, 320, 4, 0, 0, 0, 0, 0, 0, 0, 75, 4, 0, 38, 0, 0, 0, 0, 0, 379, 0, 0, 0, 0, 0, 0, 0, 0, 0, 21, 0, 0, 0, 0, 0, 0, 0, 0, 0, 0, 0, 0, 0, 0] [29, 17, 26, 30, 31, 32, 0, 33, 18, 19, 27, 28, 34, 20, 21, 22, 23, 3, 4, 5, 6, 7, 8, 9, 2, 1, 24, 15, 16, 25, 11, 12, 10, 13, 14, 45, 46, 47, 48, 49, 50, 51, 52, 53, 54, 55, 56, 57, 58, 59, 35, 36, 37, 38, 39, 40, 41, 42, 43, 44] (by decide +kernel) (by decide +kernel)) (goodIn_sub (fun _ h => (List.mem_append_left _ (List.mem_append_left _ (List.mem_append_left _ (List.mem_append_left _ (List.mem_append_left _ (List.mem_append_left _ (List.mem_append_right _ h)))))))) (by decide +kernel))) (goodIn_sub (fun _ h => (List.mem_append_left _ (List.mem_append_right _ h))) (by decide +kernel))
set_option maxRecDepth 20000 in
theorem gL_law_L_creep : GoodIn wzL_law (va_wsS RL 220 yL_creep wzL_creep) := goodIn_app (qof qwzL_law_in _ (by decide +kernel)) ggL_law_L_creep
set_option maxRecDepth 20000 in
theorem ggL_law_X6_creep_p0 : GoodIn wzL_law [.code yX6_creep cX6_creep 4 (some .int)] := qgood qwzL_law_in _ [708] [0] (by decide +kernel) (by decide +kernel)
set_option maxRecDepth 20000 in
theorem ggL_law_X6_creep_p1 : GoodIn wzL_law wsX6_creep_r1 := qgood qwzL_law_in _ [5, 53, 0, 50, 0, 0, 0, 0, 161, 231, 0, 0, 0, 0, 90, 0, 0, 0, 0, 0, 56, 0, 0, 0] [2, 8, 20, 21, 22, 0, 23, 14, 15, 16, 17, 18, 19, 9, 10, 11, 1, 12, 13, 3, 4, 5, 6, 7] (by decide +kernel) (by decide +kernel)
set_option maxRecDepth 20000 in
theorem ggL_law_X6_creep_p2 : GoodIn wzL_law wsX6_creep_r2 := qgood qwzL_law_in _ [65, 50, 0, 0, 200, 11, 0, 277, 0, 0, 0, 0, 0, 0, 0, 0, 0, 0, 0, 0, 0, 0, 0, 0] [1, 2, 3, 7, 8, 9, 10, 11, 12, 13, 14, 15, 16, 17, 18, 19, 20, 21, 22, 0, 23, 5, 6, 4] (by decide +kernel) (by decide +kernel)
set_option maxRecDepth 20000 in
theorem ggL_law_X6_creep_p3 : GoodIn wzL_law wsX6_creep_r3 := qgood qwzL_law_in _ [327, 5, 0, 0] [1, 2, 3, 0] (by decide +kernel) (by decide +kernel)
set_option maxRecDepth 20000 in
theorem ggL_law_X6_creep_p4 : GoodIn wzL_law wsX60 := qgood qwzL_law_in _ [1094, 0, 0, 0, 0, 0, 0, 0, 0, 0, 0] [0, 1, 2, 3, 4, 5, 6, 7, 8, 9, 10] (by decide +kernel) (by decide +kernel)
set_option maxRecDepth 20000 in
theorem ggL_law_X6_creep_p5 : GoodIn wzL_law wsX50 := qgood qwzL_law_in _ [1134, 0, 0, 0, 0, 0, 0, 0, 0, 0] [0, 1, 2, 3, 4, 5, 6, 7, 8, 9] (by decide +kernel) (by decide +kernel)
set_option maxRecDepth 20000 in
theorem ggL_law_X6_creep_p6 : GoodIn wzL_law wsX40 := qgood qwzL_law_in _ [1144, 0, 0, 0, 0] [0, 1, 2, 3, 4] (by decide +kernel) (by decide +kernel)
set_option maxRecDepth 20000 in
theorem ggL_law_X6_creep_p7 : GoodIn wzL_law wsJx4a65c0 := qgood qwzL_law_in _ [1112, 0, 0] [0, 1, 2] (by decide +kernel) (by decide +kernel)
set_option maxRecDepth 20000 in
theorem ggL_law_X6_creep : GoodIn wzL_law wsX6_creep := goodIn_app (a := [.code yX6_creep cX6_creep 4 (some .int)]) ggL_law_X6_creep_p0 (goodIn_app (goodIn_app (goodIn_app (goodIn_app (goodIn_app ggL_law_X6_creep_p1 (goodIn_app ggL_law_X6_creep_p2 ggL_law_X6_creep_p3)) ggL_law_X6_creep_p4) ggL_law_X6_creep_p5) ggL_law_X6_creep_p6) ggL_law_X6_creep_p7)
set_option maxRecDepth 20000 in
theorem gL_law_X6_creep : GoodIn wzL_law (wsV RL 222 RX6 yX6_creep wsX6_creep) := goodIn_app (qof qwzL_law_in _ (by decide +kernel)) ggL_law_X6_creep
set_option maxRecDepth 20000 in
theorem ggL_law_L_age : GoodIn wzL_law wzL_age := goodIn_ca (goodIn_ca (qgood qwzL_law_in _ [2, 20, 0, 73, 0, 0, 90, 0, 0, 0, 7, 4, 0, 0, 0, 33, 0, 320, 4, 0, 0, 0, 0, 0, 0, 0, 75, 4, 0, 50, 0, 0, 0, 0, 0, 367, 0, 0, 0, 0, 0, 0, 0, 0, 0, 21, 0, 0, 0, 0, 0, 0, 0, 0, 0, 0, 0, 0, 0, 0] [29, 17, 26, 30, 31, 32, 0, 33, 18, 19, 27, 28, 34, 20, 21, 22, 23, 3, 4, 5, 6, 7, 8, 9, 2, 1, 24, 15, 16, 25, 11, 12, 10, 13, 14, 45, 46, 47, 48, 49, 50, 51, 52, 53, 54, 55, 56, 57, 58, 59, 35, 36, 37, 38, 39, 40, 41, 42, 43, 44] (by decide +kernel) (by decide +kernel)) (goodIn_sub (fun _ h => (List.mem_append_left _ (List.mem_append_left _ (List.mem_append_left _ (List.mem_append_left _ (List.mem_append_left _ (List.mem_append_left _ (List.mem_append_right _ h)))))))) (by decide +kernel))) (goodIn_sub (fun _ h => (List.mem_append_left _ (List.mem_append_right _ h))) (by decide +kernel))
set_option maxRecDepth 20000 in
theorem gL_law_L_age : GoodIn wzL_law (va_wsS RL 223 yL_age wzL_age) := goodIn_app (qof qwzL_law_in _ (by decide +kernel)) ggL_law_L_age
set_option maxRecDepth 20000 in
theorem ggL_law_X6_age_p0 : GoodIn wzL_law [.code yX6_age cX6_age 4 (some .int)] := qgood qwzL_law_in _ [720] [0] (by decide +kernel) (by decide +kernel)
set_option maxRecDepth 20000 in
theorem ggL_law_X6_age_p1 : GoodIn wzL_law wsX6_age_r1 := qgood qwzL_law_in _ [5, 53, 0, 50, 0, 0, 0, 0, 161, 231, 0, 0, 0, 0, 90, 0, 0, 0, 0, 0, 56, 0, 0, 0] [2, 8, 20, 21, 22, 0, 23, 14, 15, 16, 17, 18, 19, 9, 10, 11, 1, 12, 13, 3, 4, 5, 6, 7] (by decide +kernel) (by decide +kernel)
set_option maxRecDepth 20000 in
theorem ggL_law_X6_age_p2 : GoodIn wzL_law wsX6_age_r2 := qgood qwzL_law_in _ [65, 50, 0, 0, 200, 11, 0, 277, 0, 0, 0, 0, 0, 0, 0, 0, 0, 0, 0, 0, 0, 0, 0, 0] [1, 2, 3, 7, 8, 9, 10, 11, 12, 13, 14, 15, 16, 17, 18, 19, 20, 21, 22, 0, 23, 5, 6, 4] (by decide +kernel) (by decide +kernel)
set_option maxRecDepth 20000 in
theorem ggL_law_X6_age_p3 : GoodIn wzL_law wsX6_age_r3 := qgood qwzL_law_in _ [327, 5, 0, 0] [1, 2, 3, 0] (by decide +kernel) (by decide +kernel)
set_option maxRecDepth 20000 in
theorem ggL_law_X6_age_p4 : GoodIn wzL_law wsX60 := qgood qwzL_law_in _ [1094, 0, 0, 0, 0, 0, 0, 0, 0, 0, 0] [0, 1, 2, 3, 4, 5, 6, 7, 8, 9, 10] (by decide +kernel) (by decide +kernel)
set_option maxRecDepth 20000 in
theorem ggL_law_X6_age_p5 : GoodIn wzL_law wsX50 := qgood qwzL_law_in _ [1134, 0, 0, 0, 0, 0, 0, 0, 0, 0] [0, 1, 2, 3, 4, 5, 6, 7, 8, 9] (by decide +kernel) (by decide +kernel)
set_option maxRecDepth 20000 in
theorem ggL_law_X6_age_p6 : GoodIn wzL_law wsX40 := qgood qwzL_law_in _ [1144, 0, 0, 0, 0] [0, 1, 2, 3, 4] (by decide +kernel) (by decide +kernel)
set_option maxRecDepth 20000 in
theorem ggL_law_X6_age_p7 : GoodIn wzL_law wsJx4a65c0 := qgood qwzL_law_in _ [1112, 0, 0] [0, 1, 2] (by decide +kernel) (by decide +kernel)
set_option maxRecDepth 20000 in
theorem ggL_law_X6_age : GoodIn wzL_law wsX6_age := goodIn_app (a := [.code yX6_age cX6_age 4 (some .int)]) ggL_law_X6_age_p0 (goodIn_app (goodIn_app (goodIn_app (goodIn_app (goodIn_app ggL_law_X6_age_p1 (goodIn_app ggL_law_X6_age_p2 ggL_law_X6_age_p3)) ggL_law_X6_age_p4) ggL_law_X6_age_p5) ggL_law_X6_age_p6) ggL_law_X6_age_p7)
set_option maxRecDepth 20000 in
theorem gL_law_X6_age : GoodIn wzL_law (wsV RL 225 RX6 yX6_age wsX6_age) := goodIn_app (qof qwzL_law_in _ (by decide +kernel)) ggL_law_X6_age
set_option maxRecDepth 20000 in
theorem ggL_law_L_isArch : GoodIn wzL_law wzL_isArch := goodIn_ca (goodIn_ca (qgood qwzL_law_in _ [2, 20, 0, 73, 0, 0, 90, 0, 0, 0, 7, 3, 0, 0, 0, 0, 33, 0, 1, 0, 0, 0, 0, 0, 0, 312, 4, 0, 0, 0, 0, 0, 0, 0, 75, 4, 0, 62, 0, 0, 0, 0, 0, 355, 0, 0, 0, 0, 0, 0, 0, 0, 0, 21, 0, 0, 0, 0, 0, 0, 0, 0, 0, 0, 0, 0, 0, 0] [37, 25, 34, 38, 39, 40, 0, 41, 26, 27, 35, 36, 28, 29, 30, 31, 3, 4, 5, 6, 7, 8, 9, 2, 1, 32, 16, 17, 33, 12, 13, 10, 14, 15, 42, 18, 19, 20, 21, 22, 23, 24, 11, 43, 44, 45, 46, 47, 48, 49, 50, 51, 52, 53, 54, 55, 56, 57, 58, 59, 60, 61, 62, 63, 64, 65, 66, 67] (by decide +kernel) (by decide +kernel)) (goodIn_sub (fun _ h => (List.mem_append_left _ (List.mem_append_left _ (List.mem_append_left _ (List.mem_append_left _ (List.mem_append_left _ (List.mem_append_left _ (List.mem_append_right _ h)))))))) (by decide +kernel))) (goodIn_sub (fun _ h => (List.mem_append_left _ (List.mem_append_right _ h))) (by decide +kernel))
set_option maxRecDepth 20000 in
theorem gL_law_L_isArch : GoodIn wzL_law (va_wsS RL 226 yL_isArch wzL_isArch) := goodIn_app (qof qwzL_law_in _ (by decide +kernel)) ggL_law_L_isArch
set_option maxRecDepth 20000 in
theorem ggL_law_X6_isArch_p0 : GoodIn wzL_law [.code yX6_isArch cX6_isArch 4 (some .boolean)] := qgood qwzL_law_in _ [732] [0] (by decide +kernel) (by decide +kernel)
set_option maxRecDepth 20000 in
theorem ggL_law_X6_isArch_p1 : GoodIn wzL_law wsX6_isArch_r1 := qgood qwzL_law_in _ [5, 53, 0, 50, 0, 0, 0, 0, 161, 231, 0, 0, 0, 0, 90, 0, 0, 0, 0, 0, 56, 0, 0, 0] [2, 8, 20, 21, 22, 0, 23, 14, 15, 16, 17, 18, 19, 9, 10, 11, 1, 12, 13, 3, 4, 5, 6, 7] (by decide +kernel) (by decide +kernel)
set_option maxRecDepth 20000 in
theorem ggL_law_X6_isArch_p2 : GoodIn wzL_law wsX6_isArch_r2 := qgood qwzL_law_in _ [65, 50, 0, 0, 200, 11, 0, 277, 0, 0, 0, 0, 0, 0, 0, 0, 0, 0, 0, 0, 0, 0, 0, 0] [1, 2, 3, 7, 8, 9, 10, 11, 12, 13, 14, 15, 16, 17, 18, 19, 20, 21, 22, 0, 23, 5, 6, 4] (by decide +kernel) (by decide +kernel)
set_option maxRecDepth 20000 in
theorem ggL_law_X6_isArch_p3 : GoodIn wzL_law wsX6_isArch_r3 := qgood qwzL_law_in _ [327, 2, 2, 0, 0, 24, 0, 0, 0, 0, 0, 0, 366] [2, 3, 4, 0, 12, 5, 6, 7, 1, 8, 9, 10, 11] (by decide +kernel) (by decide +kernel)
set_option maxRecDepth 20000 in
theorem ggL_law_X6_isArch_p4 : GoodIn wzL_law wsX60 := qgood qwzL_law_in _ [1094, 0, 0, 0, 0, 0, 0, 0, 0, 0, 0] [0, 1, 2, 3, 4, 5, 6, 7, 8, 9, 10] (by decide +kernel) (by decide +kernel)
set_option maxRecDepth 20000 in
theorem ggL_law_X6_isArch_p5 : GoodIn wzL_law wsJx4a65c0 := qgood qwzL_law_in _ [1112, 0, 0] [0, 1, 2] (by decide +kernel) (by decide +kernel)
set_option maxRecDepth 20000 in
theorem ggL_law_X6_isArch_p6 : GoodIn wzL_law wsX50 := qgood qwzL_law_in _ [1134, 0, 0, 0, 0, 0, 0, 0, 0, 0] [0, 1, 2, 3, 4, 5, 6, 7, 8, 9] (by decide +kernel) (by decide +kernel)
set_option maxRecDepth 20000 in
theorem ggL_law_X6_isArch : GoodIn wzL_law wsX6_isArch := goodIn_app (a := [.code yX6_isArch cX6_isArch 4 (some .boolean)]) ggL_law_X6_isArch_p0 (goodIn_app (goodIn_app (goodIn_app (goodIn_app ggL_law_X6_isArch_p1 (goodIn_app ggL_law_X6_isArch_p2 ggL_law_X6_isArch_p3)) ggL_law_X6_isArch_p4) ggL_law_X6_isArch_p5) ggL_law_X6_isArch_p6)
set_option maxRecDepth 20000 in
theorem gL_law_X6_isArch : GoodIn wzL_law (wsV RL 228 RX6 yX6_isArch wsX6_isArch) := goodIn_app (qof qwzL_law_in _ (by decide +kernel)) ggL_law_X6_isArch
set_option maxRecDepth 20000 in
theorem ggL_law_L_fell : GoodIn wzL_law wsL_fell := goodIn_ca (goodIn_ca (qgood qwzL_law_in _ [2, 20, 0, 73, 0, 0, 90, 0, 0, 0, 371, 4, 0, 163, 0, 0, 0, 0, 0, 342, 0, 0, 0, 0, 0, 0, 0, 0, 0, 21, 0, 0, 0, 0, 0, 0, 0, 0, 0, 0, 0, 0, 0, 0] [13, 10, 14, 15, 16, 0, 17, 11, 12, 18, 6, 7, 8, 9, 2, 1, 3, 4, 5, 29, 30, 31, 32, 33, 34, 35, 36, 37, 38, 39, 40, 41, 42, 43, 19, 20, 21, 22, 23, 24, 25, 26, 27, 28] (by decide +kernel) (by decide +kernel)) (goodIn_sub (fun _ h => (List.mem_append_left _ (List.mem_append_left _ (List.mem_append_left _ (List.mem_append_left _ (List.mem_append_left _ (List.mem_append_left _ (List.mem_append_right _ h)))))))) (by decide +kernel))) (goodIn_sub (fun _ h => (List.mem_append_left _ (List.mem_append_right _ h))) (by decide +kernel))
set_option maxRecDepth 20000 in
theorem gL_law_L_fell : GoodIn wzL_law (va_wsS RL 229 yL_fell wsL_fell) := goodIn_app (qof qwzL_law_in _ (by decide +kernel)) ggL_law_L_fell
set_option maxRecDepth 20000 in
theorem ggL_law_X6_fell : GoodIn wzL_law wsX6_fell := qgood qwzL_law_in _ [5, 53, 0, 4, 45, 0, 0, 0, 0, 0, 0, 0, 158, 231, 0, 0, 0, 0, 96, 0, 0, 0, 0, 0, 0, 0, 0, 0, 0, 0, 0, 0, 0, 0, 119, 0, 0, 0, 0, 344, 0, 0, 0, 0, 0, 0, 0, 0, 0, 0, 7, 0, 0, 19, 0, 0, 0, 0, 0, 0, 0, 0, 0] [34, 2, 12, 35, 36, 37, 0, 38, 13, 14, 15, 1, 16, 17, 4, 5, 6, 7, 8, 9, 10, 11, 18, 19, 20, 21, 22, 23, 24, 25, 26, 27, 28, 29, 30, 31, 32, 33, 3, 39, 40, 41, 42, 43, 44, 45, 46, 47, 48, 49, 53, 54, 55, 56, 57, 58, 59, 60, 61, 62, 50, 51, 52] (by decide +kernel) (by decide +kernel)
set_option maxRecDepth 20000 in
theorem gL_law_X6_fell : GoodIn wzL_law (wsV RL 231 RX6 yX6_fell wsX6_fell) := goodIn_app (qof qwzL_law_in _ (by decide +kernel)) ggL_law_X6_fell
set_option maxRecDepth 20000 in
theorem ggL_law_L_lastFell : GoodIn wzL_law wzL_lastFell := goodIn_ca (goodIn_ca (qgood qwzL_law_in _ [2, 20, 0, 73, 0, 0, 90, 0, 0, 0, 371, 4, 0, 81, 4, 0, 91, 0, 0, 0, 0, 0, 326, 0, 0, 0, 0, 0, 0, 0, 0, 0, 21, 0, 0, 0, 0, 0, 0, 0, 0, 0, 0, 0, 0, 0, 0] [16, 10, 13, 17, 18, 19, 0, 20, 11, 12, 14, 15, 21, 6, 7, 8, 9, 2, 1, 3, 4, 5, 32, 33, 34, 35, 36, 37, 38, 39, 40, 41, 42, 43, 44, 45, 46, 22, 23, 24, 25, 26, 27, 28, 29, 30, 31] (by decide +kernel) (by decide +kernel)) (goodIn_sub (fun _ h => (List.mem_append_left _ (List.mem_append_left _ (List.mem_append_left _ (List.mem_append_left _ (List.mem_append_left _ (List.mem_append_left _ (List.mem_append_right _ h)))))))) (by decide +kernel))) (goodIn_sub (fun _ h => (List.mem_append_left _ (List.mem_append_right _ h))) (by decide +kernel))
set_option maxRecDepth 20000 in
theorem gL_law_L_lastFell : GoodIn wzL_law (va_wsS RL 232 yL_lastFell wzL_lastFell) := goodIn_app (qof qwzL_law_in _ (by decide +kernel)) ggL_law_L_lastFell
set_option maxRecDepth 20000 in
theorem ggL_law_X6_lastFell : GoodIn wzL_law wsX6_lastFell := qgood qwzL_law_in _ [5, 53, 0, 4, 45, 0, 0, 0, 0, 0, 0, 0, 158, 231, 0, 0, 0, 0, 96, 0, 0, 0, 0, 0, 0, 0, 0, 0, 0, 0, 0, 0, 0, 0, 120, 0, 0, 0, 11, 332, 0, 0, 0, 0, 0, 0, 0, 0, 0, 0, 7, 0, 0, 19, 0, 0, 0, 0, 0, 0, 0, 0, 0] [38, 2, 12, 34, 35, 36, 0, 37, 13, 14, 15, 1, 16, 17, 4, 5, 6, 7, 8, 9, 10, 11, 18, 19, 20, 21, 22, 23, 24, 25, 26, 27, 28, 29, 30, 31, 32, 33, 3, 39, 40, 41, 42, 43, 44, 45, 46, 47, 48, 49, 53, 54, 55, 56, 57, 58, 59, 60, 61, 62, 50, 51, 52] (by decide +kernel) (by decide +kernel)
set_option maxRecDepth 20000 in
theorem gL_law_X6_lastFell : GoodIn wzL_law (wsV RL 234 RX6 yX6_lastFell wsX6_lastFell) := goodIn_app (qof qwzL_law_in _ (by decide +kernel)) ggL_law_X6_lastFell
set_option maxRecDepth 20000 in
theorem ggL_law_L_cover : GoodIn wzL_law wsL_cover := goodIn_ca (goodIn_ca (qgood qwzL_law_in _ [2, 20, 0, 5, 67, 0, 0, 73, 16, 0, 0, 0, 371, 4, 0, 191, 0, 0, 0, 0, 315, 0, 0, 0, 0, 0, 0, 0, 0, 0, 21, 0, 0, 0, 0, 0, 0, 0, 0, 0, 0, 0, 0, 0, 0] [15, 12, 16, 17, 18, 0, 19, 13, 14, 7, 3, 8, 9, 10, 11, 2, 1, 4, 5, 6, 30, 31, 32, 33, 34, 35, 36, 37, 38, 39, 40, 41, 42, 43, 44, 20, 21, 22, 23, 24, 25, 26, 27, 28, 29] (by decide +kernel) (by decide +kernel)) (goodIn_sub (fun _ h => (List.mem_append_left _ (List.mem_append_left _ (List.mem_append_left _ (List.mem_append_left _ (List.mem_append_left _ (List.mem_append_left _ (List.mem_append_right _ h)))))))) (by decide +kernel))) (goodIn_sub (fun _ h => (List.mem_append_left _ (List.mem_append_right _ h))) (by decide +kernel))
set_option maxRecDepth 20000 in
theorem gL_law_L_cover : GoodIn wzL_law (va_wsS RL 235 yL_cover wsL_cover) := goodIn_app (qof qwzL_law_in _ (by decide +kernel)) ggL_law_L_cover
set_option maxRecDepth 20000 in
theorem ggL_law_X6_cover : GoodIn wzL_law wsX6_cover := qgood qwzL_law_in _ [5, 53, 0, 4, 45, 0, 0, 0, 0, 0, 0, 0, 158, 170, 60, 0, 0, 0, 0, 96, 0, 0, 0, 0, 0, 0, 0, 0, 0, 0, 0, 0, 0, 0, 0, 120, 0, 0, 0, 22, 321, 0, 0, 0, 0, 0, 0, 0, 0, 0, 0, 7, 0, 0, 19, 0, 0, 0, 0, 0, 0, 0, 0, 0] [39, 2, 12, 13, 35, 36, 37, 0, 38, 14, 15, 16, 1, 17, 18, 4, 5, 6, 7, 8, 9, 10, 11, 19, 20, 21, 22, 23, 24, 25, 26, 27, 28, 29, 30, 31, 32, 33, 34, 3, 40, 41, 42, 43, 44, 45, 46, 47, 48, 49, 50, 54, 55, 56, 57, 58, 59, 60, 61, 62, 63, 51, 52, 53] (by decide +kernel) (by decide +kernel)
set_option maxRecDepth 20000 in
theorem gL_law_X6_cover : GoodIn wzL_law (wsV RL 238 RX6 yX6_cover wsX6_cover) := goodIn_app (qof qwzL_law_in _ (by decide +kernel)) ggL_law_X6_cover
set_option maxRecDepth 20000 in
theorem ggL_law_L_lamp : GoodIn wzL_law wzL_lamp := goodIn_ca (goodIn_ca (goodIn_ca (qgood qwzL_law_in _ [2, 20, 0, 5, 54, 6, 0, 4, 0, 0, 90, 0, 0, 0, 7, 4, 0, 0, 0, 33, 0, 320, 4, 0, 0, 0, 0, 0, 0, 0, 67, 7, 4, 0, 114, 0, 0, 0, 0, 0, 303, 0, 0, 0, 0, 0, 0, 0, 0, 0, 21, 0, 0, 0, 0, 0, 0, 0, 0, 0, 0, 0, 0, 0, 0] [34, 21, 31, 4, 35, 36, 37, 0, 38, 22, 23, 32, 33, 5, 6, 30, 39, 3, 24, 25, 26, 27, 7, 8, 9, 10, 11, 12, 13, 2, 1, 28, 19, 20, 29, 15, 16, 14, 17, 18, 50, 51, 52, 53, 54, 55, 56, 57, 58, 59, 60, 61, 62, 63, 64, 40, 41, 42, 43, 44, 45, 46, 47, 48, 49] (by decide +kernel) (by decide +kernel)) (goodIn_sub (fun _ h => (List.mem_append_left _ (List.mem_append_left _ (List.mem_append_left _ (List.mem_append_left _ (List.mem_append_left _ (List.mem_append_left _ (List.mem_append_right _ h)))))))) (by decide +kernel))) (goodIn_sub (fun _ h => (List.mem_append_left _ (List.mem_append_right _ h))) (by decide +kernel))) (goodIn_sub (fun _ h => (List.mem_append_left _ (List.mem_append_left _ (List.mem_append_left _ (List.mem_append_left _ (List.mem_append_right _ h)))))) (by decide +kernel))
set_option maxRecDepth 20000 in
theorem gL_law_L_lamp : GoodIn wzL_law (va_wsS RL 239 yL_lamp wzL_lamp) := goodIn_app (qof qwzL_law_in _ (by decide +kernel)) ggL_law_L_lamp
set_option maxRecDepth 20000 in
theorem ggL_law_X6_lamp_p0 : GoodIn wzL_law [.code yX6_lamp cX6_lamp 7 (some .boolean)] := qgood qwzL_law_in _ [784] [0] (by decide +kernel) (by decide +kernel)
set_option maxRecDepth 20000 in
theorem ggL_law_X6_lamp_p1 : GoodIn wzL_law wsX6_lamp_r1 := qgood qwzL_law_in _ [5, 53, 0, 50, 0, 0, 0, 162, 170, 60, 0, 0, 0, 0, 90, 0, 0, 0, 0, 0, 56, 0, 0, 0] [2, 7, 8, 20, 21, 22, 0, 23, 14, 15, 16, 17, 18, 19, 9, 10, 11, 1, 12, 13, 3, 4, 5, 6] (by decide +kernel) (by decide +kernel)
set_option maxRecDepth 20000 in
theorem ggL_law_X6_lamp_p2 : GoodIn wzL_law wsX6_lamp_r2 := qgood qwzL_law_in _ [65, 49, 0, 0, 0, 212, 0, 277, 0, 0, 0, 0, 0, 0, 0, 0, 0, 0, 0, 0, 0, 0, 0, 0] [1, 2, 3, 4, 7, 8, 9, 10, 11, 12, 13, 14, 15, 16, 17, 18, 19, 20, 21, 22, 0, 23, 5, 6] (by decide +kernel) (by decide +kernel)
set_option maxRecDepth 20000 in
theorem ggL_law_X6_lamp_p3 : GoodIn wzL_law wsX6_lamp_r3 := qgood qwzL_law_in _ [319, 7, 5, 0, 0] [0, 2, 3, 4, 1] (by decide +kernel) (by decide +kernel)
set_option maxRecDepth 20000 in
theorem ggL_law_X6_lamp_p4 : GoodIn wzL_law wsX60 := qgood qwzL_law_in _ [1094, 0, 0, 0, 0, 0, 0, 0, 0, 0, 0] [0, 1, 2, 3, 4, 5, 6, 7, 8, 9, 10] (by decide +kernel) (by decide +kernel)
set_option maxRecDepth 20000 in
theorem ggL_law_X6_lamp_p5 : GoodIn wzL_law wsX50 := qgood qwzL_law_in _ [1134, 0, 0, 0, 0, 0, 0, 0, 0, 0] [0, 1, 2, 3, 4, 5, 6, 7, 8, 9] (by decide +kernel) (by decide +kernel)
set_option maxRecDepth 20000 in
theorem ggL_law_X6_lamp_p6 : GoodIn wzL_law wsX40 := qgood qwzL_law_in _ [1144, 0, 0, 0, 0] [0, 1, 2, 3, 4] (by decide +kernel) (by decide +kernel)
set_option maxRecDepth 20000 in
theorem ggL_law_X6_lamp_p7 : GoodIn wzL_law wsJx4a65c0 := qgood qwzL_law_in _ [1112, 0, 0] [0, 1, 2] (by decide +kernel) (by decide +kernel)
set_option maxRecDepth 20000 in
theorem ggL_law_X6_lamp : GoodIn wzL_law wsX6_lamp := goodIn_app (a := [.code yX6_lamp cX6_lamp 7 (some .boolean)]) ggL_law_X6_lamp_p0 (goodIn_app (goodIn_app (goodIn_app (goodIn_app (goodIn_app ggL_law_X6_lamp_p1 (goodIn_app ggL_law_X6_lamp_p2 ggL_law_X6_lamp_p3)) ggL_law_X6_lamp_p4) ggL_law_X6_lamp_p5) ggL_law_X6_lamp_p6) ggL_law_X6_lamp_p7)
set_option maxRecDepth 20000 in
theorem gL_law_X6_lamp : GoodIn wzL_law (wsV RL 242 RX6 yX6_lamp wsX6_lamp) := goodIn_app (qof qwzL_law_in _ (by decide +kernel)) ggL_law_X6_lamp
set_option maxRecDepth 20000 in
theorem ggL_law_L_lightBits : GoodIn wzL_law wsL_lightBits := goodIn_ca (goodIn_ca (qgood qwzL_law_in _ [2, 20, 0, 73, 0, 0, 90, 0, 0, 0, 7, 3, 0, 0, 0, 0, 16, 16, 0, 320, 4, 0, 0, 0, 0, 0, 210, 0, 0, 0, 0, 0, 0, 0, 0, 0, 0, 0, 0, 0, 0, 0, 0, 0, 0, 0, 0, 0, 0, 274, 0, 0, 0, 0, 0, 0, 0, 0, 0, 21, 0, 0, 0, 0, 0, 0, 0, 0, 0, 0, 0, 0, 0, 0] [26, 19, 27, 28, 29, 0, 30, 20, 21, 22, 23, 24, 25, 3, 4, 5, 6, 7, 8, 9, 2, 1, 31, 32, 33, 10, 34, 16, 17, 18, 11, 12, 13, 14, 15, 35, 36, 37, 38, 39, 40, 41, 42, 43, 44, 45, 46, 47, 48, 49, 50, 51, 52, 53, 54, 55, 56, 57, 58, 59, 60, 61, 62, 63, 64, 65, 66, 67, 68, 69, 70, 71, 72, 73] (by decide +kernel) (by decide +kernel)) (goodIn_sub (fun _ h => (List.mem_append_left _ (List.mem_append_left _ (List.mem_append_left _ (List.mem_append_left _ (List.mem_append_left _ (List.mem_append_left _ (List.mem_append_right _ h)))))))) (by decide +kernel))) (goodIn_sub (fun _ h => (List.mem_append_left _ (List.mem_append_right _ h))) (by decide +kernel))
set_option maxRecDepth 20000 in
theorem gL_law_L_lightBits : GoodIn wzL_law (va_wsS RL 243 yL_lightBits wsL_lightBits) := goodIn_app (qof qwzL_law_in _ (by decide +kernel)) ggL_law_L_lightBits
set_option maxRecDepth 20000 in
theorem ggL_law_X6_lightBits_p0 : GoodIn wzL_law [.code yX6_lightBits cX6_lightBits 10 (some .int)] := qgood qwzL_law_in _ [813] [0] (by decide +kernel) (by decide +kernel)
set_option maxRecDepth 20000 in
theorem ggL_law_X6_lightBits_p1 : GoodIn wzL_law wsX6_lightBits_r1 := qgood qwzL_law_in _ [5, 53, 0, 50, 0, 0, 0, 0, 0, 0, 0, 158, 231, 0, 0, 0, 0, 90, 0, 0, 0, 0, 0, 0] [2, 11, 17, 18, 19, 0, 20, 21, 22, 12, 13, 14, 1, 15, 16, 3, 4, 5, 6, 7, 8, 9, 10, 23] (by decide +kernel) (by decide +kernel)
set_option maxRecDepth 20000 in
theorem ggL_law_X6_lightBits_p2 : GoodIn wzL_law wsX6_lightBits_r2 := qgood qwzL_law_in _ [65, 253, 7, 3, 0, 0, 0, 0, 275, 0, 0, 0, 0, 0, 0, 0, 0, 0, 0, 0, 0, 0, 0, 0] [8, 9, 10, 11, 12, 13, 14, 15, 16, 17, 18, 19, 20, 21, 22, 0, 23, 3, 4, 1, 5, 6, 7, 2] (by decide +kernel) (by decide +kernel)
set_option maxRecDepth 20000 in
theorem ggL_law_X6_lightBits_p3 : GoodIn wzL_law wsX6_lightBits_r3 := qgood qwzL_law_in _ [603, 28, 181, 0, 0, 0, 0, 0, 0, 0, 0, 0, 0, 0, 0, 0, 0, 0, 0, 0, 0] [2, 3, 4, 0, 5, 1, 6, 7, 8, 9, 10, 11, 12, 13, 14, 15, 16, 17, 18, 19, 20] (by decide +kernel) (by decide +kernel)
set_option maxRecDepth 20000 in
theorem ggL_law_X6_lightBits_p4 : GoodIn wzL_law wsX60 := qgood qwzL_law_in _ [1094, 0, 0, 0, 0, 0, 0, 0, 0, 0, 0] [0, 1, 2, 3, 4, 5, 6, 7, 8, 9, 10] (by decide +kernel) (by decide +kernel)
set_option maxRecDepth 20000 in
theorem ggL_law_X6_lightBits_p5 : GoodIn wzL_law wsX50 := qgood qwzL_law_in _ [1134, 0, 0, 0, 0, 0, 0, 0, 0, 0] [0, 1, 2, 3, 4, 5, 6, 7, 8, 9] (by decide +kernel) (by decide +kernel)
set_option maxRecDepth 20000 in
theorem ggL_law_X6_lightBits_p6 : GoodIn wzL_law wsX40 := qgood qwzL_law_in _ [1144, 0, 0, 0, 0] [0, 1, 2, 3, 4] (by decide +kernel) (by decide +kernel)
set_option maxRecDepth 20000 in
theorem ggL_law_X6_lightBits_p7 : GoodIn wzL_law wsJx4a65c0 := qgood qwzL_law_in _ [1112, 0, 0] [0, 1, 2] (by decide +kernel) (by decide +kernel)
set_option maxRecDepth 20000 in
theorem ggL_law_X6_lightBits : GoodIn wzL_law wsX6_lightBits := goodIn_app (a := [.code yX6_lightBits cX6_lightBits 10 (some .int)]) ggL_law_X6_lightBits_p0 (goodIn_app (goodIn_app (goodIn_app (goodIn_app (goodIn_app ggL_law_X6_lightBits_p1 (goodIn_app ggL_law_X6_lightBits_p2 ggL_law_X6_lightBits_p3)) ggL_law_X6_lightBits_p4) ggL_law_X6_lightBits_p5) ggL_law_X6_lightBits_p6) ggL_law_X6_lightBits_p7)
set_option maxRecDepth 20000 in
theorem gL_law_X6_lightBits : GoodIn wzL_law (wsV RL 245 RX6 yX6_lightBits wsX6_lightBits) := goodIn_app (qof qwzL_law_in _ (by decide +kernel)) ggL_law_X6_lightBits
set_option maxRecDepth 20000 in
theorem ggL_law_L_isOpen_p0 : GoodIn wzL_law [.codeWith yL_isOpen cL_isOpen 4 (some .int) [(0, 16, 19, 54)]] := qgood qwzL_law_in _ [835] [0] (by decide +kernel) (by decide +kernel)
set_option maxRecDepth 20000 in
theorem ggL_law_L_isOpen_p1 : GoodIn wzL_law wsL_isOpen_r1 := qgood qwzL_law_in _ [2, 13, 0, 5, 0, 0, 72, 0, 0, 25, 0, 0, 0, 61, 0, 0, 0, 371, 4, 0, 263, 0, 0, 0] [17, 20, 21, 22, 0, 23, 18, 19, 2, 5, 13, 14, 15, 16, 4, 3, 6, 7, 8, 9, 10, 11, 1, 12] (by decide +kernel) (by decide +kernel)
set_option maxRecDepth 20000 in
theorem ggL_law_L_isOpen_p2 : GoodIn wzL_law wsL_isOpen_r2 := qgood qwzL_law_in _ [36, 0, 164, 2, 0, 0, 0, 0, 0, 14, 13, 0, 0, 0, 0, 0, 0, 0, 0, 0, 591, 0, 0, 0] [0, 1, 20, 21, 22, 2, 23, 9, 10, 11, 12, 13, 14, 3, 15, 16, 4, 5, 6, 7, 8, 17, 18, 19] (by decide +kernel) (by decide +kernel)
set_option maxRecDepth 20000 in
theorem ggL_law_L_isOpen_p3 : GoodIn wzL_law wsL_isOpen_r3 := qgood qwzL_law_in _ [180, 0, 0, 1, 0, 40, 0, 21, 0, 0, 0, 0, 4, 0, 0, 0, 0, 0, 0, 0, 0] [7, 8, 9, 10, 11, 12, 13, 14, 15, 5, 16, 3, 1, 4, 6, 17, 0, 2, 18, 19, 20] (by decide +kernel) (by decide +kernel)
set_option maxRecDepth 20000 in
theorem ggL_law_L_isOpen_p4 : GoodIn wzL_law wsX30 := qgood qwzL_law_in _ [1084, 0, 0, 0, 0, 0, 0, 0, 0, 0] [0, 1, 2, 3, 4, 5, 6, 7, 8, 9] (by decide +kernel) (by decide +kernel)
set_option maxRecDepth 20000 in
theorem ggL_law_L_isOpen_p5 : GoodIn wzL_law wsX20 := qgood qwzL_law_in _ [1105, 0, 0, 0] [0, 1, 2, 3] (by decide +kernel) (by decide +kernel)

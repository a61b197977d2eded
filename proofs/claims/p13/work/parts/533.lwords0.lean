noncomputable def qwzL_law : List Cond := wsL_law0_r1 ++ (wsL_law0_r2 ++ (wsL_law0_r3 ++ (wsL_law0_r4 ++ (wsL_law0_r5 ++ (wsL_law0_r6 ++ (wsL_law0_r7 ++ (wsL_law0_r8 ++ (wsL_law0_r9 ++ (wsL_law0_r10 ++ (wsL_law0_r11 ++ (wsL_law0_r12 ++ (wsL_law0_r13 ++ (wsL_law0_r14 ++ (wsL_law0_r15 ++ (wsL_law0_r16 ++ (wsL_law0_r17 ++ (wsL_law0_r18 ++ (wsL_law0_r19 ++ (wsL_law0_r20 ++ (wsL_law0_r21 ++ (wsL_law0_r22 ++ (wsL_law0_r23 ++ (wsL_law0_r24 ++ (wsL_law0_r25 ++ (wsL_law0_r26 ++ (wsL_law0_r27 ++ (wsL_law0_r28 ++ (wsL_law0_r29 ++ (wsL_law0_r30 ++ (wsL_law0_r31 ++ (wsL_law0_r32 ++ (wsL_law0_r33 ++ (wsL_law0_r34 ++ (wsL_law0_r35 ++ (wsL_law0_r36 ++ (wsL_law0_r37 ++ (wsL_law0_r38 ++ (wsL_law0_r39 ++ (wsL_law0_r40 ++ (wsL_law0_r41 ++ (wsL_law0_r42 ++ (wsL_law0_r43 ++ (wsL_law0_r44 ++ (wsL_law0_r45 ++ (wsL_law0_r46 ++ (wsX30 ++ (wsX60 ++ (wsX20 ++ (wsX00 ++ (wsJx4a65c0 ++ (wsX10 ++ (wsJx354110 ++ (wsX50 ++ (wsX40 ++ ((vx_atM "java/lang/ArrayIndexOutOfBoundsException" ["java/lang/IndexOutOfBoundsException", "java/lang/RuntimeException", "java/lang/Exception"]).filter goodWord ++ ((vx_atS RX3 60 "java/lang/IllegalArgumentException" ["java/lang/RuntimeException", "java/lang/Exception"]).filter goodWord ++ ((vx_atS RX3 67 "java/lang/UnsupportedOperationException" ["java/lang/RuntimeException", "java/lang/Exception"]).filter goodWord ++ ((vx_atS RX3 96 "java/lang/IllegalStateException" ["java/lang/RuntimeException", "java/lang/Exception"]).filter goodWord ++ ((vx_atM "java/lang/ArithmeticException" ["java/lang/RuntimeException", "java/lang/Exception"]).filter goodWord ++ ((vx_atS RX3 139 "java/lang/IndexOutOfBoundsException" ["java/lang/RuntimeException", "java/lang/Exception"]).filter goodWord ++ ((vx_atS RX3 308 "java/lang/ArithmeticException" ["java/lang/RuntimeException", "java/lang/Exception"]).filter goodWord)))))))))))))))))))))))))))))))))))))))))))))))))))))))))))))
theorem qwzL_law_in : ∀ w ∈ qwzL_law, w ∈ wzL_law := by
  intro w h
  simp only [wzL_law, wsL_law0, List.append_assoc, List.append_nil]
  exact h
set_option maxRecDepth 20000 in
theorem ggL_law_X3_init : GoodIn wzL_law wsX3_init := goodIn_ca (qgood qwzL_law_in _ [10, 0, 0, 0, 0, 0, 0, 0, 0, 0, 0, 0, 0, 0, 0, 0, 0, 0, 0, 0, 0, 0, 0, 0, 0, 0, 0, 0, 0, 0, 0, 0, 0, 0, 0, 0, 0, 1037, 0, 0, 0, 0, 0, 0, 0, 0, 0, 11, 0, 0, 0, 0, 0, 0] [0, 1, 2, 3, 4, 5, 6, 7, 8, 9, 10, 11, 12, 13, 14, 15, 16, 17, 18, 19, 20, 21, 22, 23, 24, 25, 26, 27, 28, 29, 30, 31, 32, 33, 34, 35, 36, 47, 48, 49, 50, 37, 38, 39, 40, 41, 42, 43, 44, 45, 46, 51, 52, 53] (by decide +kernel) (by decide +kernel)) (goodIn_sub (fun _ h => (List.mem_append_left _ (List.mem_append_left _ (List.mem_append_left _ (List.mem_append_left _ (List.mem_append_left _ (List.mem_append_left _ (List.mem_append_right _ h)))))))) (by decide +kernel))
set_option maxRecDepth 20000 in
theorem gL_law_X3_init : GoodIn wzL_law (wsX3_init) := ggL_law_X3_init
set_option maxRecDepth 20000 in
theorem ggL_law_X6_init : GoodIn wzL_law wsX6_init := goodIn_ca (qgood qwzL_law_in _ [12, 0, 21, 13, 0, 0, 0, 0, 0, 0, 0, 0, 0, 0, 0, 0, 0, 0, 0, 0, 0, 0, 0, 0, 0, 0, 0, 0, 0, 0, 0, 0, 0, 0, 1014, 0, 0, 0, 0, 0, 0, 0, 0, 0, 0, 7, 0, 0] [3, 4, 0, 1, 5, 6, 2, 7, 8, 9, 10, 11, 12, 13, 14, 15, 16, 17, 18, 19, 20, 21, 22, 23, 24, 25, 26, 27, 28, 29, 30, 31, 32, 33, 34, 35, 36, 37, 38, 39, 40, 41, 42, 43, 44, 45, 46, 47] (by decide +kernel) (by decide +kernel)) (goodIn_sub (fun _ h => (List.mem_append_left _ (List.mem_append_left _ (List.mem_append_left _ (List.mem_append_left _ (List.mem_append_left _ (List.mem_append_left _ (List.mem_append_right _ h)))))))) (by decide +kernel))
set_option maxRecDepth 20000 in
theorem gL_law_X6_init : GoodIn wzL_law (wsX6_init) := ggL_law_X6_init
set_option maxRecDepth 20000 in
theorem ggL_law_L_weather : GoodIn wzL_law wsL_weather := goodIn_ca (goodIn_ca (goodIn_ca (qgood qwzL_law_in _ [2, 14, 7, 57, 0, 0, 0, 0, 0, 0, 0, 0, 0, 0, 0, 0, 0, 0, 0, 0, 0, 983, 0, 0, 0, 0, 0, 0, 0, 0, 0, 11, 0, 0, 0] [3, 4, 5, 6, 7, 8, 0, 9, 10, 11, 12, 13, 2, 1, 14, 15, 16, 17, 18, 19, 20, 21, 22, 23, 24, 25, 26, 27, 28, 29, 30, 31, 32, 33, 34] (by decide +kernel) (by decide +kernel)) (goodIn_sub (fun _ h => (List.mem_append_left _ (List.mem_append_left _ (List.mem_append_left _ (List.mem_append_left _ (List.mem_append_left _ (List.mem_append_left _ (List.mem_append_right _ h)))))))) (by decide +kernel))) (goodIn_sub (fun _ h => (List.mem_append_left _ (List.mem_append_left _ (List.mem_append_left _ (List.mem_append_left _ (List.mem_append_left _ (List.mem_append_right _ h))))))) (by decide +kernel))) (goodIn_sub (fun _ h => (List.mem_append_left _ (List.mem_append_left _ (List.mem_append_left _ (List.mem_append_left _ (List.mem_append_right _ h)))))) (by decide +kernel))
set_option maxRecDepth 20000 in
theorem gL_law_L_weather : GoodIn wzL_law (va_wsS RL 149 yL_weather wsL_weather) := goodIn_app (qof qwzL_law_in _ (by decide +kernel)) ggL_law_L_weather
set_option maxRecDepth 20000 in
theorem ggL_law_X6_weather : GoodIn wzL_law wsX6_weather := goodIn_ca (qgood qwzL_law_in _ [5, 29, 16, 51, 0, 0, 0, 0, 0, 0, 0, 0, 0, 0, 0, 0, 0, 0, 975, 0, 0, 0, 0, 0, 0, 0, 0, 0, 0] [3, 4, 5, 6, 7, 8, 9, 2, 1, 10, 11, 0, 12, 13, 14, 15, 16, 17, 18, 19, 20, 21, 22, 23, 24, 25, 26, 27, 28] (by decide +kernel) (by decide +kernel)) (goodIn_sub (fun _ h => (List.mem_append_left _ (List.mem_append_left _ (List.mem_append_left _ (List.mem_append_left _ (List.mem_append_left _ (List.mem_append_left _ (List.mem_append_right _ h)))))))) (by decide +kernel))
set_option maxRecDepth 20000 in
theorem gL_law_X6_weather : GoodIn wzL_law (wsV RL 154 RX6 yX6_weather wsX6_weather) := goodIn_app (qof qwzL_law_in _ (by decide +kernel)) ggL_law_X6_weather
set_option maxRecDepth 20000 in
theorem ggL_law_L_warmth : GoodIn wzL_law wsL_warmth := goodIn_ca (goodIn_ca (qgood qwzL_law_in _ [2, 13, 0, 18, 0, 46, 5, 0, 6, 0, 0, 20, 0, 0, 0, 0, 0, 0, 0, 0, 954, 0, 0, 0, 0, 0, 0, 0, 0, 0, 11, 0, 0, 0] [11, 5, 12, 13, 14, 0, 15, 6, 7, 2, 8, 9, 10, 16, 17, 18, 1, 19, 3, 4, 20, 21, 22, 23, 24, 25, 26, 27, 28, 29, 30, 31, 32, 33] (by decide +kernel) (by decide +kernel)) (goodIn_sub (fun _ h => (List.mem_append_left _ (List.mem_append_left _ (List.mem_append_left _ (List.mem_append_left _ (List.mem_append_left _ (List.mem_append_left _ (List.mem_append_right _ h)))))))) (by decide +kernel))) (goodIn_sub (fun _ h => (List.mem_append_left _ (List.mem_append_left _ (List.mem_append_left _ (List.mem_append_left _ (List.mem_append_left _ (List.mem_append_right _ h))))))) (by decide +kernel))
set_option maxRecDepth 20000 in
theorem gL_law_L_warmth : GoodIn wzL_law (va_wsS RL 155 yL_warmth wsL_warmth) := goodIn_app (qof qwzL_law_in _ (by decide +kernel)) ggL_law_L_warmth
set_option maxRecDepth 20000 in
theorem ggL_law_X6_warmth : GoodIn wzL_law wsX6_warmth := goodIn_ca (qgood qwzL_law_in _ [5, 46, 58, 0, 0, 0, 0, 0, 0, 0, 14, 0, 0, 0, 0, 0, 955, 0, 0, 0, 0, 0, 0, 0, 0, 0, 0] [10, 11, 2, 3, 0, 4, 5, 6, 7, 8, 9, 12, 13, 14, 15, 1, 16, 17, 18, 19, 20, 21, 22, 23, 24, 25, 26] (by decide +kernel) (by decide +kernel)) (goodIn_sub (fun _ h => (List.mem_append_left _ (List.mem_append_left _ (List.mem_append_left _ (List.mem_append_left _ (List.mem_append_left _ (List.mem_append_left _ (List.mem_append_right _ h)))))))) (by decide +kernel))
set_option maxRecDepth 20000 in
theorem gL_law_X6_warmth : GoodIn wzL_law (wsV RL 158 RX6 yX6_warmth wsX6_warmth) := goodIn_app (qof qwzL_law_in _ (by decide +kernel)) ggL_law_X6_warmth
set_option maxRecDepth 20000 in
theorem ggL_law_L_wet : GoodIn wzL_law wsL_wet := goodIn_ca (goodIn_ca (qgood qwzL_law_in _ [2, 13, 0, 18, 0, 1, 44, 5, 0, 6, 0, 0, 26, 0, 0, 11, 0, 0, 0, 0, 0, 0, 0, 0, 0, 933, 0, 0, 0, 0, 0, 0, 0, 0, 0, 11, 0, 0, 0] [15, 6, 16, 17, 18, 0, 19, 7, 8, 2, 9, 10, 11, 20, 21, 22, 1, 23, 5, 24, 12, 13, 14, 3, 4, 25, 26, 27, 28, 29, 30, 31, 32, 33, 34, 35, 36, 37, 38] (by decide +kernel) (by decide +kernel)) (goodIn_sub (fun _ h => (List.mem_append_left _ (List.mem_append_left _ (List.mem_append_left _ (List.mem_append_left _ (List.mem_append_left _ (List.mem_append_left _ (List.mem_append_right _ h)))))))) (by decide +kernel))) (goodIn_sub (fun _ h => (List.mem_append_left _ (List.mem_append_left _ (List.mem_append_left _ (List.mem_append_left _ (List.mem_append_left _ (List.mem_append_right _ h))))))) (by decide +kernel))
set_option maxRecDepth 20000 in
theorem gL_law_L_wet : GoodIn wzL_law (va_wsS RL 159 yL_wet wsL_wet) := goodIn_app (qof qwzL_law_in _ (by decide +kernel)) ggL_law_L_wet
set_option maxRecDepth 20000 in
theorem ggL_law_X6_wet : GoodIn wzL_law wsX6_wet := goodIn_ca (qgood qwzL_law_in _ [5, 46, 58, 0, 0, 0, 0, 0, 0, 0, 16, 0, 0, 0, 15, 0, 0, 0, 0, 0, 934, 0, 0, 0, 0, 0, 0, 0, 0, 0, 0] [14, 15, 2, 3, 0, 4, 5, 6, 7, 8, 9, 16, 17, 18, 19, 1, 10, 11, 12, 13, 20, 21, 22, 23, 24, 25, 26, 27, 28, 29, 30] (by decide +kernel) (by decide +kernel)) (goodIn_sub (fun _ h => (List.mem_append_left _ (List.mem_append_left _ (List.mem_append_left _ (List.mem_append_left _ (List.mem_append_left _ (List.mem_append_left _ (List.mem_append_right _ h)))))))) (by decide +kernel))
set_option maxRecDepth 20000 in
theorem gL_law_X6_wet : GoodIn wzL_law (wsV RL 161 RX6 yX6_wet wsX6_wet) := goodIn_app (qof qwzL_law_in _ (by decide +kernel)) ggL_law_X6_wet
set_option maxRecDepth 20000 in
theorem ggL_law_L_go_p0 : GoodIn wzL_law [.codeWith yL_go cL_go 4 (some .int) [(0, 9, 12, 13), (0, 9, 15, 27)]] := qgood qwzL_law_in _ [162] [0] (by decide +kernel) (by decide +kernel)
set_option maxRecDepth 20000 in
theorem ggL_law_L_go_p1 : GoodIn wzL_law wsL_go_r1 := qgood qwzL_law_in _ [2, 14, 3, 2, 0, 3, 54, 5, 0, 6, 0, 0, 62, 0, 0, 0, 0, 0, 0, 0, 0, 0, 0, 0] [6, 12, 13, 14, 15, 0, 16, 7, 8, 17, 18, 4, 9, 10, 11, 19, 20, 21, 22, 1, 2, 5, 3, 23] (by decide +kernel) (by decide +kernel)
set_option maxRecDepth 20000 in
theorem ggL_law_L_go_p2 : GoodIn wzL_law wsL_go_r2 := qgood qwzL_law_in _ [16, 3, 9, 5, 0, 6, 0, 80, 0, 0, 0, 16, 0, 27, 0, 0, 0, 0, 0, 0, 0, 0, 0, 0] [2, 7, 8, 9, 0, 10, 3, 4, 13, 14, 15, 1, 16, 5, 17, 18, 19, 20, 6, 21, 22, 23, 11, 12] (by decide +kernel) (by decide +kernel)
set_option maxRecDepth 20000 in
theorem ggL_law_L_go_p3 : GoodIn wzL_law wsL_go_r3 := qgood qwzL_law_in _ [23, 4, 9, 0, 108, 0, 0, 35, 0, 0, 0, 0, 0, 0, 0, 0, 0, 0, 0, 0, 0, 0, 0, 0] [4, 5, 3, 6, 7, 8, 9, 10, 1, 11, 12, 13, 14, 15, 0, 16, 17, 18, 19, 2, 20, 21, 22, 23] (by decide +kernel) (by decide +kernel)
set_option maxRecDepth 20000 in
theorem ggL_law_L_go_p4 : GoodIn wzL_law wsL_go_r4 := qgood qwzL_law_in _ [203, 0, 0, 0, 0, 0, 0, 0, 0, 0, 0, 0, 0, 0, 0, 0, 0, 0, 0, 0, 0, 0, 0, 0] [0, 1, 2, 3, 4, 5, 6, 7, 8, 9, 10, 11, 12, 13, 14, 15, 16, 17, 18, 19, 20, 21, 22, 23] (by decide +kernel) (by decide +kernel)
set_option maxRecDepth 20000 in
theorem ggL_law_L_go_p5 : GoodIn wzL_law wsL_go_r5 := qgood qwzL_law_in _ [227, 0, 0, 0, 0, 0, 0, 0, 0, 0, 0, 0, 0, 0, 0, 0, 0, 0, 0, 0, 0, 0, 0, 0] [0, 1, 2, 3, 4, 5, 6, 7, 8, 9, 10, 11, 12, 13, 14, 15, 16, 17, 18, 19, 20, 21, 22, 23] (by decide +kernel) (by decide +kernel)
set_option maxRecDepth 20000 in
theorem ggL_law_L_go_p6 : GoodIn wzL_law wsL_go_r6 := qgood qwzL_law_in _ [251, 0, 0, 0, 0, 0, 0, 0, 0, 0, 0, 0, 0, 0, 0, 0, 0, 0, 0, 0, 0] [0, 1, 2, 3, 4, 5, 6, 7, 8, 9, 10, 11, 12, 13, 14, 15, 16, 17, 18, 19, 20] (by decide +kernel) (by decide +kernel)
set_option maxRecDepth 20000 in
theorem ggL_law_L_go_p7 : GoodIn wzL_law wsX30 := qgood qwzL_law_in _ [1084, 0, 0, 0, 0, 0, 0, 0, 0, 0] [0, 1, 2, 3, 4, 5, 6, 7, 8, 9] (by decide +kernel) (by decide +kernel)
set_option maxRecDepth 20000 in
theorem ggL_law_L_go_p8 : GoodIn wzL_law wsX10 := qgood qwzL_law_in _ [1115, 0, 0, 0, 0, 0, 0, 0, 0, 0, 0, 0, 0, 0, 0] [0, 1, 2, 3, 4, 5, 6, 7, 8, 9, 10, 11, 12, 13, 14] (by decide +kernel) (by decide +kernel)
set_option maxRecDepth 20000 in
theorem ggL_law_L_go_p9 : GoodIn wzL_law wsX20 := qgood qwzL_law_in _ [1105, 0, 0, 0] [0, 1, 2, 3] (by decide +kernel) (by decide +kernel)
set_option maxRecDepth 20000 in
theorem ggL_law_L_go_p10 : GoodIn wzL_law wsX00 := qgood qwzL_law_in _ [1109, 0, 0] [0, 1, 2] (by decide +kernel) (by decide +kernel)
set_option maxRecDepth 20000 in
theorem ggL_law_L_go : GoodIn wzL_law wsL_go := goodIn_app (a := [.codeWith yL_go cL_go 4 (some .int) [(0, 9, 12, 13), (0, 9, 15, 27)]]) ggL_law_L_go_p0 (goodIn_app (goodIn_app (goodIn_app (goodIn_app (goodIn_app (goodIn_app (goodIn_app (goodIn_app (goodIn_app ggL_law_L_go_p1 (goodIn_app ggL_law_L_go_p2 (goodIn_app ggL_law_L_go_p3 (goodIn_app ggL_law_L_go_p4 (goodIn_app ggL_law_L_go_p5 ggL_law_L_go_p6))))) ggL_law_L_go_p7) ggL_law_L_go_p8) ggL_law_L_go_p9) ggL_law_L_go_p10) (goodIn_sub (fun _ h => (List.mem_append_left _ (List.mem_append_left _ (List.mem_append_left _ (List.mem_append_left _ (List.mem_append_left _ (List.mem_append_left _ (List.mem_append_right _ h)))))))) (by decide +kernel))) (goodIn_sub (fun _ h => (List.mem_append_left _ (List.mem_append_left _ (List.mem_append_left _ (List.mem_append_left _ (List.mem_append_left _ (List.mem_append_right _ h))))))) (by decide +kernel))) (goodIn_sub (fun _ h => (List.mem_append_left _ (List.mem_append_left _ (List.mem_append_left _ (List.mem_append_right _ h))))) (by decide +kernel))) (goodIn_sub (fun _ h => (List.mem_append_left _ (List.mem_append_left _ (List.mem_append_right _ h)))) (by decide +kernel)))
set_option maxRecDepth 20000 in
theorem gL_law_L_go : GoodIn wzL_law (va_wsS RL 162 yL_go wsL_go) := goodIn_app (qof qwzL_law_in _ (by decide +kernel)) ggL_law_L_go
set_option maxRecDepth 20000 in
theorem ggL_law_X6_go_p0 : GoodIn wzL_law [.code yX6_go cX6_go 6 (some .int)] := qgood qwzL_law_in _ [275] [0] (by decide +kernel) (by decide +kernel)
set_option maxRecDepth 20000 in
theorem ggL_law_X6_go_p1 : GoodIn wzL_law wsX6_go_r1 := qgood qwzL_law_in _ [5, 46, 0, 6, 49, 0, 0, 0, 0, 0, 0, 0, 0, 16, 0, 0, 0, 137, 0, 0, 0, 0, 0, 0] [17, 4, 3, 18, 5, 6, 0, 7, 8, 9, 10, 11, 12, 13, 14, 15, 16, 1, 19, 20, 21, 22, 2, 23] (by decide +kernel) (by decide +kernel)
set_option maxRecDepth 20000 in
theorem ggL_law_X6_go_p2 : GoodIn wzL_law wsX6_go_r2 := qgood qwzL_law_in _ [54, 4, 96, 0, 0, 0, 20, 0, 0, 1, 0, 97, 0, 0, 0, 0, 0, 0, 0, 0, 0, 0, 0, 0] [9, 7, 10, 0, 11, 6, 8, 12, 13, 2, 3, 4, 5, 14, 15, 16, 1, 17, 18, 19, 20, 21, 22, 23] (by decide +kernel) (by decide +kernel)
set_option maxRecDepth 20000 in
theorem ggL_law_X6_go_p3 : GoodIn wzL_law wsX6_go_r3 := qgood qwzL_law_in _ [12, 0, 282, 0, 0, 0, 0, 0, 0, 0, 0, 0, 0, 0, 0, 0, 0, 0, 0, 0, 0, 0, 0, 0] [2, 3, 0, 1, 4, 5, 6, 7, 8, 9, 10, 11, 12, 13, 14, 15, 16, 17, 18, 19, 20, 21, 22, 23] (by decide +kernel) (by decide +kernel)
set_option maxRecDepth 20000 in
theorem ggL_law_X6_go_p4 : GoodIn wzL_law wsX6_go_r4 := qgood qwzL_law_in _ [318, 0, 0, 0, 0, 0, 0, 0, 0, 0, 0, 0, 0, 0, 0, 0, 0, 0, 0, 0, 0, 0, 0, 0] [0, 1, 2, 3, 4, 5, 6, 7, 8, 9, 10, 11, 12, 13, 14, 15, 16, 17, 18, 19, 20, 21, 22, 23] (by decide +kernel) (by decide +kernel)
set_option maxRecDepth 20000 in
theorem ggL_law_X6_go_p5 : GoodIn wzL_law wsX6_go_r5 := qgood qwzL_law_in _ [35, 306, 0, 0, 0, 0, 0, 0, 0, 0, 0, 0, 0, 0, 0, 0, 0, 0, 0, 0, 0, 0, 0, 0] [1, 2, 3, 4, 5, 6, 7, 8, 9, 10, 11, 12, 13, 0, 14, 15, 16, 17, 18, 19, 20, 21, 22, 23] (by decide +kernel) (by decide +kernel)
set_option maxRecDepth 20000 in
theorem ggL_law_X6_go_p6 : GoodIn wzL_law wsX6_go_r6 := qgood qwzL_law_in _ [365, 0, 0, 0, 0, 0, 0, 0, 0, 0, 0] [0, 1, 2, 3, 4, 5, 6, 7, 8, 9, 10] (by decide +kernel) (by decide +kernel)
set_option maxRecDepth 20000 in
theorem ggL_law_X6_go_p7 : GoodIn wzL_law wsX60 := qgood qwzL_law_in _ [1094, 0, 0, 0, 0, 0, 0, 0, 0, 0, 0] [0, 1, 2, 3, 4, 5, 6, 7, 8, 9, 10] (by decide +kernel) (by decide +kernel)
set_option maxRecDepth 20000 in
theorem ggL_law_X6_go_p8 : GoodIn wzL_law wsJx354110 := qgood qwzL_law_in _ [1130, 0, 0, 0] [0, 1, 2, 3] (by decide +kernel) (by decide +kernel)
set_option maxRecDepth 20000 in
theorem ggL_law_X6_go_p9 : GoodIn wzL_law wsJx4a65c0 := qgood qwzL_law_in _ [1112, 0, 0] [0, 1, 2] (by decide +kernel) (by decide +kernel)
set_option maxRecDepth 20000 in
theorem ggL_law_X6_go_p10 : GoodIn wzL_law wsX50 := qgood qwzL_law_in _ [1134, 0, 0, 0, 0, 0, 0, 0, 0, 0] [0, 1, 2, 3, 4, 5, 6, 7, 8, 9] (by decide +kernel) (by decide +kernel)
set_option maxRecDepth 20000 in
theorem ggL_law_X6_go_p11 : GoodIn wzL_law wsX40 := qgood qwzL_law_in _ [1144, 0, 0, 0, 0] [0, 1, 2, 3, 4] (by decide +kernel) (by decide +kernel)
set_option maxRecDepth 20000 in
theorem ggL_law_X6_go : GoodIn wzL_law wsX6_go := goodIn_app (a := [.code yX6_go cX6_go 6 (some .int)]) ggL_law_X6_go_p0 (goodIn_app (goodIn_app (goodIn_app (goodIn_app (goodIn_app (goodIn_app (goodIn_app (goodIn_app ggL_law_X6_go_p1 (goodIn_app ggL_law_X6_go_p2 (goodIn_app ggL_law_X6_go_p3 (goodIn_app ggL_law_X6_go_p4 (goodIn_app ggL_law_X6_go_p5 ggL_law_X6_go_p6))))) ggL_law_X6_go_p7) ggL_law_X6_go_p8) ggL_law_X6_go_p9) ggL_law_X6_go_p10) ggL_law_X6_go_p11) (goodIn_sub (fun _ h => (List.mem_append_left _ (List.mem_append_left _ (List.mem_append_left _ (List.mem_append_left _ (List.mem_append_left _ (List.mem_append_left _ (List.mem_append_right _ h)))))))) (by decide +kernel))) (goodIn_sub (fun _ h => (List.mem_append_left _ (List.mem_append_left _ (List.mem_append_right _ h)))) (by decide +kernel)))
set_option maxRecDepth 20000 in
theorem gL_law_X6_go : GoodIn wzL_law (wsV RL 164 RX6 yX6_go wsX6_go) := goodIn_app (qof qwzL_law_in _ (by decide +kernel)) ggL_law_X6_go
set_option maxRecDepth 20000 in
theorem ggL_law_X3_now : GoodIn wzL_law wsX3_now := qgood qwzL_law_in _ [25, 353, 704, 0, 0, 0, 0, 0, 0, 0, 0, 0] [1, 0, 2, 3, 4, 5, 6, 7, 8, 9, 10, 11] (by decide +kernel) (by decide +kernel)
set_option maxRecDepth 20000 in
theorem gL_law_X3_now : GoodIn wzL_law (wsV RL 165 RX3 yX3_now wsX3_now) := goodIn_app (qof qwzL_law_in _ (by decide +kernel)) ggL_law_X3_now
set_option maxRecDepth 20000 in
theorem ggL_law_X6_now : GoodIn wzL_law wsX6_now := qgood qwzL_law_in _ [110, 7, 264, 710, 0, 0, 0, 0, 0, 0, 0, 0, 0, 0] [2, 1, 0, 3, 4, 5, 6, 7, 8, 9, 10, 11, 12, 13] (by decide +kernel) (by decide +kernel)
set_option maxRecDepth 20000 in
theorem gL_law_X6_now : GoodIn wzL_law (wsV RL 168 RX6 yX6_now wsX6_now) := goodIn_app (qof qwzL_law_in _ (by decide +kernel)) ggL_law_X6_now
set_option maxRecDepth 20000 in
theorem ggL_law_L_ice : GoodIn wzL_law wsL_ice := goodIn_ca (goodIn_ca (qgood qwzL_law_in _ [2, 18, 62, 5, 0, 6, 0, 0, 285, 0, 0, 0, 0, 0, 692, 0, 0, 0, 0, 0, 0, 0, 0, 0, 15, 0, 0] [8, 2, 9, 10, 11, 0, 12, 3, 4, 1, 13, 5, 6, 7, 14, 15, 16, 17, 18, 19, 20, 21, 22, 23, 24, 25, 26] (by decide +kernel) (by decide +kernel)) (goodIn_sub (fun _ h => (List.mem_append_left _ (List.mem_append_left _ (List.mem_append_left _ (List.mem_append_left _ (List.mem_append_left _ (List.mem_append_left _ (List.mem_append_right _ h)))))))) (by decide +kernel))) (goodIn_sub (fun _ h => (List.mem_append_left _ (List.mem_append_left _ (List.mem_append_left _ (List.mem_append_left _ (List.mem_append_left _ (List.mem_append_right _ h))))))) (by decide +kernel))
set_option maxRecDepth 20000 in
theorem gL_law_L_ice : GoodIn wzL_law (va_wsS RL 169 yL_ice wsL_ice) := goodIn_app (qof qwzL_law_in _ (by decide +kernel)) ggL_law_L_ice
set_option maxRecDepth 20000 in
theorem ggL_law_X6_ice : GoodIn wzL_law wsX6_ice := goodIn_ca (qgood qwzL_law_in _ [5, 47, 57, 0, 0, 0, 0, 0, 0, 0, 276, 0, 0, 0, 0, 0, 693, 0, 0, 0, 0, 0, 0, 0, 0, 0, 0] [10, 1, 11, 12, 13, 0, 14, 15, 2, 3, 4, 5, 6, 7, 8, 9, 16, 17, 18, 19, 20, 21, 22, 23, 24, 25, 26] (by decide +kernel) (by decide +kernel)) (goodIn_sub (fun _ h => (List.mem_append_left _ (List.mem_append_left _ (List.mem_append_left _ (List.mem_append_left _ (List.mem_append_left _ (List.mem_append_left _ (List.mem_append_right _ h)))))))) (by decide +kernel))
set_option maxRecDepth 20000 in
theorem gL_law_X6_ice : GoodIn wzL_law (wsV RL 171 RX6 yX6_ice wsX6_ice) := goodIn_app (qof qwzL_law_in _ (by decide +kernel)) ggL_law_X6_ice
set_option maxRecDepth 20000 in
theorem ggL_law_L_clear : GoodIn wzL_law wsL_clear := goodIn_ca (goodIn_ca (qgood qwzL_law_in _ [2, 18, 62, 5, 0, 6, 0, 0, 302, 0, 0, 0, 0, 0, 675, 0, 0, 0, 0, 0, 0, 0, 0, 0, 15, 0, 0] [8, 2, 9, 10, 11, 0, 12, 3, 4, 1, 13, 5, 6, 7, 14, 15, 16, 17, 18, 19, 20, 21, 22, 23, 24, 25, 26] (by decide +kernel) (by decide +kernel)) (goodIn_sub (fun _ h => (List.mem_append_left _ (List.mem_append_left _ (List.mem_append_left _ (List.mem_append_left _ (List.mem_append_left _ (List.mem_append_left _ (List.mem_append_right _ h)))))))) (by decide +kernel))) (goodIn_sub (fun _ h => (List.mem_append_left _ (List.mem_append_left _ (List.mem_append_left _ (List.mem_append_left _ (List.mem_append_left _ (List.mem_append_right _ h))))))) (by decide +kernel))
set_option maxRecDepth 20000 in
theorem gL_law_L_clear : GoodIn wzL_law (va_wsS RL 172 yL_clear wsL_clear) := goodIn_app (qof qwzL_law_in _ (by decide +kernel)) ggL_law_L_clear
set_option maxRecDepth 20000 in
theorem ggL_law_X6_clear : GoodIn wzL_law wsX6_clear := goodIn_ca (qgood qwzL_law_in _ [5, 48, 56, 0, 0, 0, 0, 0, 0, 0, 277, 0, 0, 0, 0, 11, 681, 0, 0, 0, 0, 0, 0, 0, 0, 0, 0] [15, 1, 10, 11, 12, 0, 13, 14, 2, 3, 4, 5, 6, 7, 8, 9, 16, 17, 18, 19, 20, 21, 22, 23, 24, 25, 26] (by decide +kernel) (by decide +kernel)) (goodIn_sub (fun _ h => (List.mem_append_left _ (List.mem_append_left _ (List.mem_append_left _ (List.mem_append_left _ (List.mem_append_left _ (List.mem_append_left _ (List.mem_append_right _ h)))))))) (by decide +kernel))
set_option maxRecDepth 20000 in
theorem gL_law_X6_clear : GoodIn wzL_law (wsV RL 174 RX6 yX6_clear wsX6_clear) := goodIn_app (qof qwzL_law_in _ (by decide +kernel)) ggL_law_X6_clear
set_option maxRecDepth 20000 in
theorem ggL_law_L_bears : GoodIn wzL_law wsL_bears := goodIn_ca (goodIn_ca (qgood qwzL_law_in _ [2, 17, 0, 22, 1, 37, 5, 0, 6, 0, 0, 314, 0, 0, 0, 0, 0, 0, 0, 0, 660, 0, 0, 0, 0, 0, 0, 0, 0, 0, 15, 0, 0] [11, 5, 12, 13, 14, 0, 15, 6, 7, 2, 8, 9, 10, 16, 17, 18, 1, 19, 3, 4, 20, 21, 22, 23, 24, 25, 26, 27, 28, 29, 30, 31, 32] (by decide +kernel) (by decide +kernel)) (goodIn_sub (fun _ h => (List.mem_append_left _ (List.mem_append_left _ (List.mem_append_left _ (List.mem_append_left _ (List.mem_append_left _ (List.mem_append_left _ (List.mem_append_right _ h)))))))) (by decide +kernel))) (goodIn_sub (fun _ h => (List.mem_append_left _ (List.mem_append_left _ (List.mem_append_left _ (List.mem_append_left _ (List.mem_append_left _ (List.mem_append_right _ h))))))) (by decide +kernel))
set_option maxRecDepth 20000 in
theorem gL_law_L_bears : GoodIn wzL_law (va_wsS RL 175 yL_bears wsL_bears) := goodIn_app (qof qwzL_law_in _ (by decide +kernel)) ggL_law_L_bears
set_option maxRecDepth 20000 in
theorem ggL_law_X6_bears : GoodIn wzL_law wsX6_bears := goodIn_ca (qgood qwzL_law_in _ [5, 47, 1, 55, 0, 0, 0, 0, 0, 0, 0, 277, 0, 0, 0, 0, 26, 0, 0, 0, 0, 662, 0, 0, 0, 0, 0, 0, 0, 0, 0, 0] [16, 11, 12, 13, 0, 14, 15, 3, 4, 5, 6, 7, 8, 9, 10, 17, 18, 19, 20, 1, 2, 21, 22, 23, 24, 25, 26, 27, 28, 29, 30, 31] (by decide +kernel) (by decide +kernel)) (goodIn_sub (fun _ h => (List.mem_append_left _ (List.mem_append_left _ (List.mem_append_left _ (List.mem_append_left _ (List.mem_append_left _ (List.mem_append_left _ (List.mem_append_right _ h)))))))) (by decide +kernel))
set_option maxRecDepth 20000 in
theorem gL_law_X6_bears : GoodIn wzL_law (wsV RL 177 RX6 yX6_bears wsX6_bears) := goodIn_app (qof qwzL_law_in _ (by decide +kernel)) ggL_law_X6_bears
set_option maxRecDepth 20000 in
theorem ggL_law_L_cut : GoodIn wzL_law wsL_cut := goodIn_ca (goodIn_ca (goodIn_ca (goodIn_ca (qgood qwzL_law_in _ [2, 17, 0, 4, 0, 2, 13, 0, 0, 37, 0, 4, 0, 0, 0, 4, 0, 0, 62, 4, 0, 221, 28, 0, 0, 0, 10, 0, 0, 0, 0, 0, 0, 0, 0, 0, 640, 0, 0, 0, 0, 0, 0, 0, 0, 0, 15, 0, 0] [26, 9, 10, 18, 27, 28, 29, 0, 30, 11, 12, 13, 14, 19, 20, 2, 21, 31, 3, 4, 5, 15, 16, 17, 22, 23, 24, 1, 25, 6, 8, 32, 33, 34, 35, 7, 36, 37, 38, 39, 40, 41, 42, 43, 44, 45, 46, 47, 48] (by decide +kernel) (by decide +kernel)) (goodIn_sub (fun _ h => (List.mem_append_left _ (List.mem_append_left _ (List.mem_append_left _ (List.mem_append_left _ (List.mem_append_left _ (List.mem_append_left _ (List.mem_append_right _ h)))))))) (by decide +kernel))) (goodIn_sub (fun _ h => (List.mem_append_left _ (List.mem_append_left _ (List.mem_append_left _ (List.mem_append_left _ (List.mem_append_left _ (List.mem_append_right _ h))))))) (by decide +kernel))) (goodIn_sub (fun _ h => (List.mem_append_left _ (List.mem_append_left _ (List.mem_append_left _ (List.mem_append_left _ (List.mem_append_right _ h)))))) (by decide +kernel))) (goodIn_sub (fun _ h => (List.mem_append_left _ (List.mem_append_left _ (List.mem_append_left _ (List.mem_append_right _ h))))) (by decide +kernel))
set_option maxRecDepth 20000 in
theorem gL_law_L_cut : GoodIn wzL_law (va_wsS RL 178 yL_cut wsL_cut) := goodIn_app (qof qwzL_law_in _ (by decide +kernel)) ggL_law_L_cut
set_option maxRecDepth 20000 in
theorem ggL_law_X6_cut : GoodIn wzL_law wsX6_cut := goodIn_ca (qgood qwzL_law_in _ [5, 47, 0, 0, 0, 48, 5, 0, 0, 0, 0, 0, 0, 0, 277, 0, 0, 0, 0, 27, 0, 0, 0, 15, 0, 645, 0, 0, 0, 0, 0, 0, 0, 0, 0, 0] [23, 5, 1, 3, 4, 2, 24, 14, 15, 16, 0, 17, 18, 6, 7, 8, 9, 10, 11, 12, 13, 19, 20, 21, 22, 25, 26, 27, 28, 29, 30, 31, 32, 33, 34, 35] (by decide +kernel) (by decide +kernel)) (goodIn_sub (fun _ h => (List.mem_append_left _ (List.mem_append_left _ (List.mem_append_left _ (List.mem_append_left _ (List.mem_append_left _ (List.mem_append_left _ (List.mem_append_right _ h)))))))) (by decide +kernel))
set_option maxRecDepth 20000 in
theorem gL_law_X6_cut : GoodIn wzL_law (wsV RL 181 RX6 yX6_cut wsX6_cut) := goodIn_app (qof qwzL_law_in _ (by decide +kernel)) ggL_law_X6_cut
set_option maxRecDepth 20000 in
theorem ggL_law_X3_yard : GoodIn wzL_law wsX3_yard := qgood qwzL_law_in _ [26, 0, 424, 631, 0, 0, 0, 0, 0, 0, 0, 0, 0] [2, 0, 1, 3, 4, 5, 6, 7, 8, 9, 10, 11, 12] (by decide +kernel) (by decide +kernel)
set_option maxRecDepth 20000 in
theorem gL_law_X3_yard : GoodIn wzL_law (wsV RL 182 RX3 yX3_yard wsX3_yard) := goodIn_app (qof qwzL_law_in _ (by decide +kernel)) ggL_law_X3_yard
set_option maxRecDepth 20000 in
theorem ggL_law_X6_yard : GoodIn wzL_law wsX6_yard := goodIn_ca (qgood qwzL_law_in _ [56, 61, 337, 637, 0, 0, 0, 0, 0, 0, 0, 0, 0, 0] [2, 1, 0, 3, 4, 5, 6, 7, 8, 9, 10, 11, 12, 13] (by decide +kernel) (by decide +kernel)) (goodIn_sub (fun _ h => (List.mem_append_left _ (List.mem_append_left _ (List.mem_append_left _ (List.mem_append_left _ (List.mem_append_left _ (List.mem_append_left _ (List.mem_append_right _ h)))))))) (by decide +kernel))
set_option maxRecDepth 20000 in
theorem gL_law_X6_yard : GoodIn wzL_law (wsV RL 186 RX6 yX6_yard wsX6_yard) := goodIn_app (qof qwzL_law_in _ (by decide +kernel)) ggL_law_X6_yard
set_option maxRecDepth 20000 in
theorem ggL_law_L_lorries : GoodIn wzL_law wsL_lorries := goodIn_ca (goodIn_ca (qgood qwzL_law_in _ [2, 25, 1, 53, 5, 0, 6, 0, 0, 80, 2, 0, 0, 0, 0, 0, 0, 268, 0, 0, 0, 0, 620, 0, 0, 0, 0, 0, 0, 0, 0, 0] [17, 3, 18, 19, 20, 0, 21, 4, 5, 2, 1, 6, 7, 8, 12, 13, 14, 15, 16, 10, 9, 11, 22, 23, 24, 25, 26, 27, 28, 29, 30, 31] (by decide +kernel) (by decide +kernel)) (goodIn_sub (fun _ h => (List.mem_append_left _ (List.mem_append_left _ (List.mem_append_left _ (List.mem_append_left _ (List.mem_append_left _ (List.mem_append_left _ (List.mem_append_right _ h)))))))) (by decide +kernel))) (goodIn_sub (fun _ h => (List.mem_append_left _ (List.mem_append_left _ (List.mem_append_left _ (List.mem_append_left _ (List.mem_append_left _ (List.mem_append_right _ h))))))) (by decide +kernel))
set_option maxRecDepth 20000 in
theorem gL_law_L_lorries : GoodIn wzL_law (va_wsS RL 187 yL_lorries wsL_lorries) := goodIn_app (qof qwzL_law_in _ (by decide +kernel)) ggL_law_L_lorries
set_option maxRecDepth 20000 in
theorem ggL_law_X6_lorries : GoodIn wzL_law wsX6_lorries := qgood qwzL_law_in _ [5, 99, 5, 0, 0, 0, 0, 0, 0, 0, 62, 2, 0, 96, 2, 162, 18, 626, 0, 0, 0, 0, 0, 0, 0, 0, 0, 0] [16, 1, 14, 13, 11, 10, 12, 15, 2, 3, 0, 4, 5, 6, 7, 8, 9, 17, 18, 19, 20, 21, 22, 23, 24, 25, 26, 27] (by decide +kernel) (by decide +kernel)
set_option maxRecDepth 20000 in
theorem gL_law_X6_lorries : GoodIn wzL_law (wsV RL 189 RX6 yX6_lorries wsX6_lorries) := goodIn_app (qof qwzL_law_in _ (by decide +kernel)) ggL_law_X6_lorries
set_option maxRecDepth 20000 in
theorem ggL_law_X3_machine : GoodIn wzL_law wsX3_machine := qgood qwzL_law_in _ [29, 441, 612, 0, 0, 0, 0, 0, 0, 0, 0, 0] [1, 0, 2, 3, 4, 5, 6, 7, 8, 9, 10, 11] (by decide +kernel) (by decide +kernel)
set_option maxRecDepth 20000 in
theorem gL_law_X3_machine : GoodIn wzL_law (wsV RL 190 RX3 yX3_machine wsX3_machine) := goodIn_app (qof qwzL_law_in _ (by decide +kernel)) ggL_law_X3_machine
set_option maxRecDepth 20000 in
theorem ggL_law_X6_machine : GoodIn wzL_law wsX6_machine := qgood qwzL_law_in _ [118, 165, 190, 618, 0, 0, 0, 0, 0, 0, 0, 0, 0, 0] [2, 0, 1, 3, 4, 5, 6, 7, 8, 9, 10, 11, 12, 13] (by decide +kernel) (by decide +kernel)
set_option maxRecDepth 20000 in
theorem gL_law_X6_machine : GoodIn wzL_law (wsV RL 194 RX6 yX6_machine wsX6_machine) := goodIn_app (qof qwzL_law_in _ (by decide +kernel)) ggL_law_X6_machine
set_option maxRecDepth 20000 in
theorem ggL_law_X3_snow : GoodIn wzL_law wsX3_snow := qgood qwzL_law_in _ [28, 450, 604, 0, 0, 0, 0, 0, 0, 0, 0, 0] [1, 0, 2, 3, 4, 5, 6, 7, 8, 9, 10, 11] (by decide +kernel) (by decide +kernel)
set_option maxRecDepth 20000 in
theorem gL_law_X3_snow : GoodIn wzL_law (wsV RL 195 RX3 yX3_snow wsX3_snow) := goodIn_app (qof qwzL_law_in _ (by decide +kernel)) ggL_law_X3_snow
set_option maxRecDepth 20000 in
theorem ggL_law_X6_snow : GoodIn wzL_law wsX6_snow := qgood qwzL_law_in _ [118, 166, 197, 610, 0, 0, 0, 0, 0, 0, 0, 0, 0, 0] [2, 0, 1, 3, 4, 5, 6, 7, 8, 9, 10, 11, 12, 13] (by decide +kernel) (by decide +kernel)
set_option maxRecDepth 20000 in
theorem gL_law_X6_snow : GoodIn wzL_law (wsV RL 198 RX6 yX6_snow wsX6_snow) := goodIn_app (qof qwzL_law_in _ (by decide +kernel)) ggL_law_X6_snow
set_option maxRecDepth 20000 in
theorem ggL_law_L_site : GoodIn wzL_law wsL_site := goodIn_ca (goodIn_ca (qgood qwzL_law_in _ [2, 9, 0, 8, 0, 0, 10, 127, 4, 0, 32, 1, 0, 4, 4, 0, 8, 0, 0, 11, 82, 163, 0, 0, 0, 0, 0, 0, 0, 0, 0, 0, 0, 0, 0, 0, 0, 0, 581, 0, 0, 0, 0, 0, 0, 0, 0, 0, 21, 0, 0, 0, 0, 0, 0, 0, 0, 0, 0, 0, 0, 0, 0] [21, 7, 22, 23, 24, 0, 25, 8, 9, 5, 4, 3, 26, 10, 27, 28, 29, 30, 1, 2, 31, 13, 6, 12, 16, 17, 20, 18, 32, 19, 11, 33, 15, 14, 34, 35, 36, 37, 38, 39, 40, 41, 42, 43, 44, 45, 46, 47, 48, 49, 50, 51, 52, 53, 54, 55, 56, 57, 58, 59, 60, 61, 62] (by decide +kernel) (by decide +kernel)) (goodIn_sub (fun _ h => (List.mem_append_left _ (List.mem_append_left _ (List.mem_append_left _ (List.mem_append_left _ (List.mem_append_left _ (List.mem_append_left _ (List.mem_append_right _ h)))))))) (by decide +kernel))) (goodIn_sub (fun _ h => (List.mem_append_left _ (List.mem_append_left _ (List.mem_append_left _ (List.mem_append_right _ h))))) (by decide +kernel))
set_option maxRecDepth 20000 in
theorem gL_law_L_site : GoodIn wzL_law (va_wsS RL 199 yL_site wsL_site) := goodIn_app (qof qwzL_law_in _ (by decide +kernel)) ggL_law_L_site
set_option maxRecDepth 20000 in
theorem ggL_law_X6_site_p0 : GoodIn wzL_law [.code yX6_site cX6_site 1 (some .int)] := qgood qwzL_law_in _ [506] [0] (by decide +kernel) (by decide +kernel)
set_option maxRecDepth 20000 in
theorem ggL_law_X6_site_p1 : GoodIn wzL_law wsX6_site_r1 := qgood qwzL_law_in _ [5, 6, 0, 45, 0, 53, 0, 0, 0, 0, 200, 1, 1, 3, 179, 0, 0, 0, 0, 0, 0, 0, 0, 0] [4, 14, 15, 10, 16, 17, 18, 3, 19, 20, 5, 6, 7, 0, 8, 9, 21, 22, 12, 23, 1, 2, 13, 11] (by decide +kernel) (by decide +kernel)
set_option maxRecDepth 20000 in
theorem ggL_law_X6_site_p2 : GoodIn wzL_law wsX6_site_r2 := qgood qwzL_law_in _ [64, 0, 234, 21, 17, 176, 0, 0, 0, 0, 0, 0, 0, 0, 0, 0, 0, 0, 0, 0, 0, 0, 0, 0] [3, 5, 4, 6, 7, 8, 9, 10, 2, 1, 11, 12, 13, 14, 15, 16, 17, 18, 19, 20, 21, 22, 0, 23] (by decide +kernel) (by decide +kernel)
set_option maxRecDepth 20000 in
theorem ggL_law_X6_site_p3 : GoodIn wzL_law wsX6_site_r3 := qgood qwzL_law_in _ [78, 101, 0, 0, 353, 0, 0, 0, 0, 0, 0, 0, 0, 0, 0, 0, 0, 0, 0, 0, 0, 0, 0, 0] [1, 2, 3, 4, 5, 6, 7, 8, 9, 10, 11, 12, 13, 14, 15, 0, 16, 17, 18, 19, 20, 21, 22, 23] (by decide +kernel) (by decide +kernel)
set_option maxRecDepth 20000 in
theorem ggL_law_X6_site_p4 : GoodIn wzL_law wsX6_site_r4 := qgood qwzL_law_in _ [184, 0, 370, 0, 0, 0, 0, 0, 0] [2, 3, 4, 0, 1, 5, 6, 7, 8] (by decide +kernel) (by decide +kernel)
set_option maxRecDepth 20000 in
theorem ggL_law_X6_site_p5 : GoodIn wzL_law wsX60 := qgood qwzL_law_in _ [1094, 0, 0, 0, 0, 0, 0, 0, 0, 0, 0] [0, 1, 2, 3, 4, 5, 6, 7, 8, 9, 10] (by decide +kernel) (by decide +kernel)
set_option maxRecDepth 20000 in
theorem ggL_law_X6_site_p6 : GoodIn wzL_law wsX50 := qgood qwzL_law_in _ [1134, 0, 0, 0, 0, 0, 0, 0, 0, 0] [0, 1, 2, 3, 4, 5, 6, 7, 8, 9] (by decide +kernel) (by decide +kernel)
set_option maxRecDepth 20000 in
theorem ggL_law_X6_site_p7 : GoodIn wzL_law wsJx4a65c0 := qgood qwzL_law_in _ [1112, 0, 0] [0, 1, 2] (by decide +kernel) (by decide +kernel)
set_option maxRecDepth 20000 in
theorem ggL_law_X6_site : GoodIn wzL_law wsX6_site := goodIn_app (a := [.code yX6_site cX6_site 1 (some .int)]) ggL_law_X6_site_p0 (goodIn_app (goodIn_app (goodIn_app (goodIn_app ggL_law_X6_site_p1 (goodIn_app ggL_law_X6_site_p2 (goodIn_app ggL_law_X6_site_p3 ggL_law_X6_site_p4))) ggL_law_X6_site_p5) ggL_law_X6_site_p6) ggL_law_X6_site_p7)
set_option maxRecDepth 20000 in
theorem gL_law_X6_site : GoodIn wzL_law (wsV RL 202 RX6 yX6_site wsX6_site) := goodIn_app (qof qwzL_law_in _ (by decide +kernel)) ggL_law_X6_site
set_option maxRecDepth 20000 in
theorem ggL_law_L_put_p0 : GoodIn wzL_law [.codeWith yL_put cL_put 7 (some .int) [(0, 14, 17, 54), (0, 14, 21, 13), (0, 14, 25, 15), (0, 14, 29, 27)]] := qgood qwzL_law_in _ [565] [0] (by decide +kernel) (by decide +kernel)
set_option maxRecDepth 20000 in
theorem ggL_law_L_put_p1 : GoodIn wzL_law wsL_put_r1 := qgood qwzL_law_in _ [2, 27, 53, 0, 4, 0, 0, 0, 4, 0, 63, 4, 0, 396, 0, 0, 0, 0, 0, 0, 0, 0, 0, 0] [13, 2, 3, 10, 14, 15, 16, 0, 17, 18, 19, 4, 5, 6, 7, 11, 12, 1, 20, 21, 22, 23, 8, 9] (by decide +kernel) (by decide +kernel)
set_option maxRecDepth 20000 in
theorem ggL_law_L_put_p2 : GoodIn wzL_law wsL_put_r2 := qgood qwzL_law_in _ [23, 0, 75, 90, 0, 0, 0, 7, 4, 0, 0, 0, 33, 0, 4, 0, 0, 0, 1, 0, 0, 319, 0, 0] [2, 3, 4, 5, 6, 1, 0, 21, 12, 13, 22, 8, 9, 7, 10, 11, 23, 18, 19, 20, 14, 15, 16, 17] (by decide +kernel) (by decide +kernel)
set_option maxRecDepth 20000 in
theorem ggL_law_L_put_p3 : GoodIn wzL_law wsL_put_r3 := qgood qwzL_law_in _ [26, 0, 0, 176, 0, 15, 0, 0, 0, 0, 0, 18, 0, 0, 0, 330, 0, 0, 0, 0, 0, 0, 0, 0] [11, 12, 13, 14, 4, 15, 16, 17, 18, 2, 0, 1, 19, 20, 21, 22, 23, 5, 6, 7, 3, 8, 9, 10] (by decide +kernel) (by decide +kernel)
set_option maxRecDepth 20000 in
theorem ggL_law_L_put_p4 : GoodIn wzL_law wsL_put_r4 := qgood qwzL_law_in _ [16, 0, 7, 10, 0, 88, 0, 0, 0, 98, 0, 0, 0, 0, 0, 0, 0, 0, 0, 0, 350, 0, 0, 0] [9, 10, 11, 20, 21, 22, 23, 1, 2, 5, 6, 7, 0, 8, 3, 4, 12, 13, 14, 15, 16, 17, 18, 19] (by decide +kernel) (by decide +kernel)
set_option maxRecDepth 20000 in
theorem ggL_law_L_put_p5 : GoodIn wzL_law wsL_put_r5 := qgood qwzL_law_in _ [180, 0, 0, 1, 0, 18, 6, 0, 0, 25, 0, 0, 0, 0, 10, 3, 0, 0, 0, 0, 0, 0, 0, 0] [5, 9, 10, 11, 12, 13, 14, 15, 16, 17, 18, 19, 3, 1, 4, 20, 0, 2, 21, 22, 23, 6, 7, 8] (by decide +kernel) (by decide +kernel)
set_option maxRecDepth 20000 in
theorem ggL_law_L_put_p6 : GoodIn wzL_law wsL_put_r6 := qgood qwzL_law_in _ [214, 0, 0, 0, 0, 0, 0, 0, 371, 0, 0, 0] [0, 1, 2, 3, 4, 5, 6, 7, 8, 9, 10, 11] (by decide +kernel) (by decide +kernel)
set_option maxRecDepth 20000 in
theorem ggL_law_L_put_p7 : GoodIn wzL_law wsX30 := qgood qwzL_law_in _ [1084, 0, 0, 0, 0, 0, 0, 0, 0, 0] [0, 1, 2, 3, 4, 5, 6, 7, 8, 9] (by decide +kernel) (by decide +kernel)
set_option maxRecDepth 20000 in
theorem ggL_law_L_put_p8 : GoodIn wzL_law wsX10 := qgood qwzL_law_in _ [1115, 0, 0, 0, 0, 0, 0, 0, 0, 0, 0, 0, 0, 0, 0] [0, 1, 2, 3, 4, 5, 6, 7, 8, 9, 10, 11, 12, 13, 14] (by decide +kernel) (by decide +kernel)
set_option maxRecDepth 20000 in
theorem ggL_law_L_put_p9 : GoodIn wzL_law wsX20 := qgood qwzL_law_in _ [1105, 0, 0, 0] [0, 1, 2, 3] (by decide +kernel) (by decide +kernel)
set_option maxRecDepth 20000 in
theorem ggL_law_L_put : GoodIn wzL_law wsL_put := goodIn_app (a := [.codeWith yL_put cL_put 7 (some .int) [(0, 14, 17, 54), (0, 14, 21, 13), (0, 14, 25, 15), (0, 14, 29, 27)]]) ggL_law_L_put_p0 (goodIn_app (goodIn_app (goodIn_app (goodIn_app (goodIn_app (goodIn_app (goodIn_app (goodIn_app (goodIn_app ggL_law_L_put_p1 (goodIn_app ggL_law_L_put_p2 (goodIn_app ggL_law_L_put_p3 (goodIn_app ggL_law_L_put_p4 (goodIn_app ggL_law_L_put_p5 ggL_law_L_put_p6))))) ggL_law_L_put_p7) ggL_law_L_put_p8) ggL_law_L_put_p9) (goodIn_sub (fun _ h => (List.mem_append_left _ (List.mem_append_left _ (List.mem_append_left _ (List.mem_append_left _ (List.mem_append_left _ (List.mem_append_left _ (List.mem_append_right _ h)))))))) (by decide +kernel))) (goodIn_sub (fun _ h => (List.mem_append_left _ (List.mem_append_right _ h))) (by decide +kernel))) (goodIn_sub (fun _ h => (List.mem_append_left _ (List.mem_append_left _ (List.mem_append_left _ (List.mem_append_left _ (List.mem_append_left _ (List.mem_append_right _ h))))))) (by decide +kernel))) (goodIn_sub (fun _ h => (List.mem_append_left _ (List.mem_append_left _ (List.mem_append_left _ (List.mem_append_left _ (List.mem_append_right _ h)))))) (by decide +kernel))) (goodIn_sub (fun _ h => (List.mem_append_left _ (List.mem_append_left _ (List.mem_append_left _ (List.mem_append_right _ h))))) (by decide +kernel)))
set_option maxRecDepth 20000 in
theorem gL_law_L_put : GoodIn wzL_law (va_wsS RL 203 yL_put wsL_put) := goodIn_app (qof qwzL_law_in _ (by decide +kernel)) ggL_law_L_put
set_option maxRecDepth 20000 in
theorem ggL_law_X6_put_p0 : GoodIn wzL_law [.code yX6_put cX6_put 7 (some .int)] := qgood qwzL_law_in _ [600] [0] (by decide +kernel) (by decide +kernel)
set_option maxRecDepth 20000 in
theorem ggL_law_X6_put_p1 : GoodIn wzL_law wsX6_put_r1 := qgood qwzL_law_in _ [5, 50, 2, 0, 49, 0, 0, 164, 7, 162, 60, 0, 0, 0, 0, 87, 0, 0, 0, 0, 0, 0, 0, 0] [3, 7, 8, 1, 9, 15, 16, 17, 4, 18, 19, 20, 0, 21, 22, 23, 10, 11, 12, 2, 13, 14, 5, 6] (by decide +kernel) (by decide +kernel)
set_option maxRecDepth 20000 in
theorem ggL_law_X6_put_p2 : GoodIn wzL_law wsX6_put_r2 := qgood qwzL_law_in _ [65, 47, 0, 0, 0, 0, 0, 491, 0, 0, 0, 0, 0, 0, 0, 0, 0, 0, 0, 0, 0, 0, 0, 0] [1, 2, 3, 4, 5, 6, 7, 8, 9, 10, 11, 12, 13, 14, 15, 16, 17, 18, 19, 20, 21, 22, 0, 23] (by decide +kernel) (by decide +kernel)
set_option maxRecDepth 20000 in
theorem ggL_law_X6_put_p3 : GoodIn wzL_law wsX6_put_r3 := qgood qwzL_law_in _ [319, 7, 2, 0, 0, 0, 0, 0, 23, 0, 0, 0, 0, 0, 0, 0, 1, 0, 0, 256, 0, 0, 0, 0] [3, 4, 0, 5, 6, 7, 1, 19, 16, 17, 18, 2, 8, 9, 10, 11, 12, 13, 14, 15, 20, 21, 22, 23] (by decide +kernel) (by decide +kernel)
set_option maxRecDepth 20000 in
theorem ggL_law_X6_put_p4 : GoodIn wzL_law wsX6_put_r4 := qgood qwzL_law_in _ [12, 0, 38, 82, 0, 0, 0, 182, 0, 20, 0, 0, 0, 0, 0, 0, 0, 0, 0, 0, 0, 277, 0, 0] [0, 1, 21, 22, 3, 4, 5, 6, 2, 23, 9, 10, 11, 12, 13, 14, 15, 7, 8, 16, 17, 18, 19, 20] (by decide +kernel) (by decide +kernel)
set_option maxRecDepth 20000 in
theorem ggL_law_X6_put_p5 : GoodIn wzL_law wsX6_put_r5 := qgood qwzL_law_in _ [35, 144, 0, 0, 1, 0, 137, 4, 7, 0, 0, 0, 0, 0, 13, 0, 0, 0, 8, 3, 0, 0, 0, 0] [0, 14, 15, 16, 17, 18, 19, 20, 21, 22, 23, 4, 2, 5, 7, 1, 3, 8, 9, 10, 11, 12, 13, 6] (by decide +kernel) (by decide +kernel)
set_option maxRecDepth 20000 in
theorem ggL_law_X6_put_p6 : GoodIn wzL_law wsX6_put_r6 := qgood qwzL_law_in _ [635, 0, 0, 0] [0, 1, 2, 3] (by decide +kernel) (by decide +kernel)
set_option maxRecDepth 20000 in
theorem ggL_law_X6_put_p7 : GoodIn wzL_law wsX60 := qgood qwzL_law_in _ [1094, 0, 0, 0, 0, 0, 0, 0, 0, 0, 0] [0, 1, 2, 3, 4, 5, 6, 7, 8, 9, 10] (by decide +kernel) (by decide +kernel)
set_option maxRecDepth 20000 in
theorem ggL_law_X6_put_p8 : GoodIn wzL_law wsX50 := qgood qwzL_law_in _ [1134, 0, 0, 0, 0, 0, 0, 0, 0, 0] [0, 1, 2, 3, 4, 5, 6, 7, 8, 9] (by decide +kernel) (by decide +kernel)
set_option maxRecDepth 20000 in
theorem ggL_law_X6_put_p9 : GoodIn wzL_law wsX40 := qgood qwzL_law_in _ [1144, 0, 0, 0, 0] [0, 1, 2, 3, 4] (by decide +kernel) (by decide +kernel)
set_option maxRecDepth 20000 in
theorem ggL_law_X6_put_p10 : GoodIn wzL_law wsJx4a65c0 := qgood qwzL_law_in _ [1112, 0, 0] [0, 1, 2] (by decide +kernel) (by decide +kernel)
set_option maxRecDepth 20000 in
theorem ggL_law_X6_put : GoodIn wzL_law wsX6_put := goodIn_app (a := [.code yX6_put cX6_put 7 (some .int)]) ggL_law_X6_put_p0 (goodIn_app (goodIn_app (goodIn_app (goodIn_app (goodIn_app (goodIn_app ggL_law_X6_put_p1 (goodIn_app ggL_law_X6_put_p2 (goodIn_app ggL_law_X6_put_p3 (goodIn_app ggL_law_X6_put_p4 (goodIn_app ggL_law_X6_put_p5 ggL_law_X6_put_p6))))) ggL_law_X6_put_p7) ggL_law_X6_put_p8) ggL_law_X6_put_p9) ggL_law_X6_put_p10) (goodIn_sub (fun _ h => (List.mem_append_left _ (List.mem_append_left _ (List.mem_append_left _ (List.mem_append_left _ (List.mem_append_left _ (List.mem_append_left _ (List.mem_append_right _ h)))))))) (by decide +kernel)))
set_option maxRecDepth 20000 in
theorem gL_law_X6_put : GoodIn wzL_law (wsV RL 206 RX6 yX6_put wsX6_put) := goodIn_app (qof qwzL_law_in _ (by decide +kernel)) ggL_law_X6_put
set_option maxRecDepth 20000 in
theorem ggL_law_L_at : GoodIn wzL_law wsL_at := goodIn_ca (goodIn_ca (qgood qwzL_law_in _ [2, 20, 0, 73, 0, 0, 90, 0, 0, 0, 49, 0, 320, 4, 0, 0, 0, 0, 0, 0, 63, 0, 0, 0, 0, 0, 437, 0, 0, 0, 0, 0, 0, 0, 0, 0, 21, 0, 0, 0, 0, 0, 0, 0, 0, 0, 0, 0, 0, 0, 0] [20, 12, 21, 22, 23, 0, 24, 13, 14, 25, 15, 16, 17, 18, 3, 4, 5, 6, 7, 8, 9, 2, 1, 19, 10, 11, 36, 37, 38, 39, 40, 41, 42, 43, 44, 45, 46, 47, 48, 49, 50, 26, 27, 28, 29, 30, 31, 32, 33, 34, 35] (by decide +kernel) (by decide +kernel)) (goodIn_sub (fun _ h => (List.mem_append_left _ (List.mem_append_left _ (List.mem_append_left _ (List.mem_append_left _ (List.mem_append_left _ (List.mem_append_left _ (List.mem_append_right _ h)))))))) (by decide +kernel))) (goodIn_sub (fun _ h => (List.mem_append_left _ (List.mem_append_right _ h))) (by decide +kernel))
set_option maxRecDepth 20000 in
theorem gL_law_L_at : GoodIn wzL_law (va_wsS RL 207 yL_at wsL_at) := goodIn_app (qof qwzL_law_in _ (by decide +kernel)) ggL_law_L_at
set_option maxRecDepth 20000 in
theorem ggL_law_X6_at : GoodIn wzL_law wsX6_at := qgood qwzL_law_in _ [5, 53, 0, 4, 45, 0, 0, 0, 0, 0, 0, 0, 158, 41, 7, 3, 0, 0, 0, 0, 173, 0, 0, 0, 0, 90, 0, 0, 0, 0, 0, 0, 0, 0, 0, 0, 0, 0, 0, 0, 0, 0, 0, 0, 0, 0, 0, 0, 23, 443, 0, 0, 0, 0, 0, 0, 0, 0, 0, 0, 7, 0, 0, 19, 0, 0, 0, 0, 0, 0, 0, 0, 0, 0, 0, 0, 0, 0] [48, 2, 12, 25, 26, 27, 0, 28, 29, 30, 20, 21, 22, 1, 23, 24, 4, 5, 6, 7, 8, 9, 10, 11, 31, 32, 33, 34, 35, 36, 37, 38, 39, 40, 41, 42, 43, 44, 45, 46, 3, 47, 15, 16, 13, 17, 18, 19, 14, 49, 50, 51, 52, 53, 54, 55, 56, 57, 58, 59, 63, 64, 65, 66, 67, 68, 69, 70, 71, 72, 73, 74, 75, 76, 77, 60, 61, 62] (by decide +kernel) (by decide +kernel)
set_option maxRecDepth 20000 in
theorem gL_law_X6_at : GoodIn wzL_law (wsV RL 210 RX6 yX6_at wsX6_at) := goodIn_app (qof qwzL_law_in _ (by decide +kernel)) ggL_law_X6_at

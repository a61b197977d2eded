set_option maxRecDepth 20000 in
theorem ggX0_isClear_X3_isWithin : GoodIn wsX0_isClear wsX3_isWithin := qgood qself _ [5] [0] (by decide +kernel) (by decide +kernel)
set_option maxRecDepth 20000 in
theorem gX0_isClear_X3_isWithin_n21 : GoodIn wsX0_isClear (wsX3_isWithin) := ggX0_isClear_X3_isWithin
set_option maxRecDepth 20000 in
theorem ggX1_spans_X1_rests : GoodIn wsX1_spans wsX1_rests := goodIn_ca (qgood qself _ [5, 0, 4, 0, 0, 0, 0, 0, 0, 0, 0, 0, 0, 0, 0, 0, 0] [0, 1, 2, 3, 4, 5, 6, 7, 8, 9, 10, 11, 12, 13, 14, 15, 16] (by decide +kernel) (by decide +kernel)) (goodIn_sub (fun _ h => (List.mem_cons_of_mem _ (List.mem_append_right _ h))) (by decide +kernel))
set_option maxRecDepth 20000 in
theorem gX1_spans_X1_rests : GoodIn wsX1_spans (wsV RX1 62 RX1 yX1_rests wsX1_rests) := goodIn_app (qof qself _ (by decide +kernel)) ggX1_spans_X1_rests
set_option maxRecDepth 20000 in
theorem ggX1_spans_X1_has : GoodIn wsX1_spans wsX1_has := goodIn_ca (qgood qself _ [6, 3, 0, 0, 0, 0, 0, 0, 0, 0, 0, 0, 0, 0, 0, 0, 0] [1, 0, 2, 3, 4, 5, 6, 7, 8, 9, 10, 11, 12, 13, 14, 15, 16] (by decide +kernel) (by decide +kernel)) (goodIn_sub (fun _ h => (List.mem_cons_of_mem _ (List.mem_append_right _ h))) (by decide +kernel))
set_option maxRecDepth 20000 in
theorem gX1_spans_X1_has : GoodIn wsX1_spans (wsV RX1 66 RX1 yX1_has wsX1_has) := goodIn_app (qof qself _ (by decide +kernel)) ggX1_spans_X1_has
set_option maxRecDepth 20000 in
theorem ggX1_wouldStand_X1_rests : GoodIn wsX1_wouldStand wsX1_rests := goodIn_ca (qgood qself _ [5, 0, 8, 0, 0, 0, 0, 0, 0, 0, 0, 0, 0, 0, 0, 0, 0] [0, 1, 2, 3, 4, 5, 6, 7, 8, 9, 10, 11, 12, 13, 14, 15, 16] (by decide +kernel) (by decide +kernel)) (goodIn_sub (fun _ h => (List.mem_cons_of_mem _ (List.mem_append_right _ h))) (by decide +kernel))
set_option maxRecDepth 20000 in
theorem gX1_wouldStand_X1_rests : GoodIn wsX1_wouldStand (wsV RX1 62 RX1 yX1_rests wsX1_rests) := goodIn_app (qof qself _ (by decide +kernel)) ggX1_wouldStand_X1_rests
set_option maxRecDepth 20000 in
theorem ggX1_wouldStand_X1_spans : GoodIn wsX1_wouldStand wsX1_spans := goodIn_ca (qgood qself _ [1, 0, 0, 0, 0, 0, 3, 0, 0, 0, 0, 0, 0, 0, 0, 0, 0, 0, 0, 0, 0, 0, 0, 0, 0, 0] [6, 0, 1, 2, 3, 4, 5, 7, 8, 9, 10, 11, 12, 13, 14, 15, 16, 17, 18, 19, 20, 21, 22, 23, 24, 25] (by decide +kernel) (by decide +kernel)) (goodIn_sub (fun _ h => (List.mem_cons_of_mem _ (List.mem_append_right _ h))) (by decide +kernel))
set_option maxRecDepth 20000 in
theorem gX1_wouldStand_X1_spans : GoodIn wsX1_wouldStand (wsV RX1 69 RX1 yX1_spans wsX1_spans) := goodIn_app (qof qself _ (by decide +kernel)) ggX1_wouldStand_X1_spans
set_option maxRecDepth 20000 in
theorem ggX1_setCell_X3_isWithin : GoodIn wsX1_setCell wsX3_isWithin := qgood qself _ [8] [0] (by decide +kernel) (by decide +kernel)
set_option maxRecDepth 20000 in
theorem gX1_setCell_X3_isWithin_n72 : GoodIn wsX1_setCell (wsX3_isWithin) := ggX1_setCell_X3_isWithin
set_option maxRecDepth 20000 in
theorem ggX1_setCell_X1_massOfKind : GoodIn wsX1_setCell wsX1_massOfKind := qgood qself _ [12] [0] (by decide +kernel) (by decide +kernel)
set_option maxRecDepth 20000 in
theorem gX1_setCell_X1_massOfKind : GoodIn wsX1_setCell (va_wsS RX1 76 yX1_massOfKind wsX1_massOfKind) := goodIn_app (qof qself _ (by decide +kernel)) ggX1_setCell_X1_massOfKind
set_option maxRecDepth 20000 in
theorem ggX1_removeCell_X1_setCell : GoodIn wsX1_removeCell wsX1_setCell := goodIn_ca (qgood qself _ [4, 0, 0, 0, 0, 0, 0, 0, 0, 0, 0, 0, 0, 0, 0, 0, 0, 0, 0, 0, 0, 0, 0, 0, 0, 0, 0, 0] [1, 2, 3, 4, 5, 6, 7, 8, 9, 10, 11, 0, 12, 13, 14, 15, 16, 17, 18, 19, 20, 21, 22, 23, 24, 25, 26, 27] (by decide +kernel) (by decide +kernel)) (goodIn_sub (fun _ h => (List.mem_cons_of_mem _ (List.mem_append_right _ h))) (by decide +kernel))
set_option maxRecDepth 20000 in
theorem gX1_removeCell_X1_setCell : GoodIn wsX1_removeCell (wsV RX1 80 RX1 yX1_setCell wsX1_setCell) := goodIn_app (qof qself _ (by decide +kernel)) ggX1_removeCell_X1_setCell
set_option maxRecDepth 20000 in
theorem ggX1_strengthOf_X1_has : GoodIn wsX1_strengthOf wsX1_has := goodIn_ca (qgood qself _ [1, 13, 3, 0, 0, 0, 0, 0, 0, 0, 0, 0, 0, 0, 0, 0, 0] [1, 0, 2, 3, 4, 5, 6, 7, 8, 9, 10, 11, 12, 13, 14, 15, 16] (by decide +kernel) (by decide +kernel)) (goodIn_sub (fun _ h => (List.mem_cons_of_mem _ (List.mem_append_right _ h))) (by decide +kernel))
set_option maxRecDepth 20000 in
theorem gX1_strengthOf_X1_has : GoodIn wsX1_strengthOf (wsV RX1 66 RX1 yX1_has wsX1_has) := goodIn_app (qof qself _ (by decide +kernel)) ggX1_strengthOf_X1_has
set_option maxRecDepth 20000 in
theorem ggX1_strengthOf_X1_strengthOfKind : GoodIn wsX1_strengthOf wsX1_strengthOfKind := qgood qself _ [18] [0] (by decide +kernel) (by decide +kernel)
set_option maxRecDepth 20000 in
theorem gX1_strengthOf_X1_strengthOfKind : GoodIn wsX1_strengthOf (va_wsS RX1 84 yX1_strengthOfKind wsX1_strengthOfKind) := goodIn_app (qof qself _ (by decide +kernel)) ggX1_strengthOf_X1_strengthOfKind
set_option maxRecDepth 20000 in
theorem ggX1_weigh_X3_placeOf : GoodIn wsX1_weigh wsX3_placeOf := qgood qself _ [5] [0] (by decide +kernel) (by decide +kernel)
set_option maxRecDepth 20000 in
theorem gX1_weigh_X3_placeOf_n96 : GoodIn wsX1_weigh (wsX3_placeOf) := ggX1_weigh_X3_placeOf
set_option maxRecDepth 20000 in
theorem ggX1_weigh_X1_has : GoodIn wsX1_weigh wsX1_has := goodIn_ca (qgood qself _ [10, 0, 8, 0, 0, 0, 0, 0, 0, 0, 0, 0, 0, 0, 0, 0, 0] [0, 1, 2, 3, 4, 5, 6, 7, 8, 9, 10, 11, 12, 13, 14, 15, 16] (by decide +kernel) (by decide +kernel)) (goodIn_sub (fun _ h => (List.mem_cons_of_mem _ (List.mem_append_right _ h))) (by decide +kernel))
set_option maxRecDepth 20000 in
theorem gX1_weigh_X1_has : GoodIn wsX1_weigh (wsV RX1 66 RX1 yX1_has wsX1_has) := goodIn_app (qof qself _ (by decide +kernel)) ggX1_weigh_X1_has
set_option maxRecDepth 20000 in
theorem ggX1_weigh_X1_spans : GoodIn wsX1_weigh wsX1_spans := goodIn_ca (qgood qself _ [6, 0, 0, 0, 0, 0, 3, 0, 0, 0, 0, 0, 0, 0, 0, 0, 0, 0, 0, 0, 0, 0, 0, 0, 0, 0] [6, 7, 8, 9, 3, 10, 5, 0, 1, 2, 4, 11, 12, 13, 14, 15, 16, 17, 18, 19, 20, 21, 22, 23, 24, 25] (by decide +kernel) (by decide +kernel)) (goodIn_sub (fun _ h => (List.mem_cons_of_mem _ (List.mem_append_right _ h))) (by decide +kernel))
set_option maxRecDepth 20000 in
theorem gX1_weigh_X1_spans : GoodIn wsX1_weigh (wsV RX1 69 RX1 yX1_spans wsX1_spans) := goodIn_app (qof qself _ (by decide +kernel)) ggX1_weigh_X1_spans
set_option maxRecDepth 20000 in
theorem ggX1_markFalling_X1_weigh : GoodIn wsX1_markFalling wsX1_weigh := goodIn_ca (qgood qself _ [2, 3, 0, 0, 0, 0, 0, 0, 0, 0, 0, 0, 0, 0, 0, 0, 0, 0, 0, 0, 20, 0, 0, 0, 0, 0, 0, 0, 0, 0, 0, 0, 0, 0, 0] [2, 0, 3, 4, 5, 6, 7, 8, 9, 1, 10, 11, 12, 13, 14, 15, 16, 17, 18, 19, 20, 21, 22, 23, 24, 25, 26, 27, 28, 29, 30, 31, 32, 33, 34] (by decide +kernel) (by decide +kernel)) (goodIn_sub (fun _ h => (List.mem_cons_of_mem _ (List.mem_append_right _ h))) (by decide +kernel))
set_option maxRecDepth 20000 in
theorem gX1_markFalling_X1_weigh : GoodIn wsX1_markFalling (wsV RX1 99 RX1 yX1_weigh wsX1_weigh) := goodIn_app (qof qself _ (by decide +kernel)) ggX1_markFalling_X1_weigh
set_option maxRecDepth 20000 in
theorem ggX1_markFalling_X1_has : GoodIn wsX1_markFalling wsX1_has := goodIn_ca (qgood qself _ [15, 0, 28, 0, 0, 0, 0, 0, 0, 0, 0, 0, 0, 0, 0, 0, 0] [0, 1, 2, 3, 4, 5, 6, 7, 8, 9, 10, 11, 12, 13, 14, 15, 16] (by decide +kernel) (by decide +kernel)) (goodIn_sub (fun _ h => (List.mem_cons_of_mem _ (List.mem_append_right _ h))) (by decide +kernel))
set_option maxRecDepth 20000 in
theorem gX1_markFalling_X1_has : GoodIn wsX1_markFalling (wsV RX1 66 RX1 yX1_has wsX1_has) := goodIn_app (qof qself _ (by decide +kernel)) ggX1_markFalling_X1_has
set_option maxRecDepth 20000 in
theorem ggX1_markFalling_X1_wouldStand : GoodIn wsX1_markFalling wsX1_wouldStand := goodIn_ca (qgood qself _ [6, 5, 0, 0, 0, 0, 0, 0, 0, 0, 0, 0, 0, 0, 3, 16, 0, 0, 0, 0, 0, 0, 0, 0, 0, 0, 0, 0, 0, 0] [14, 10, 11, 12, 0, 13, 5, 6, 7, 8, 9, 1, 2, 3, 4, 15, 16, 17, 18, 19, 20, 21, 22, 23, 24, 25, 26, 27, 28, 29] (by decide +kernel) (by decide +kernel)) (goodIn_sub (fun _ h => (List.mem_cons_of_mem _ (List.mem_append_right _ h))) (by decide +kernel))
set_option maxRecDepth 20000 in
theorem gX1_markFalling_X1_wouldStand : GoodIn wsX1_markFalling (wsV RX1 103 RX1 yX1_wouldStand wsX1_wouldStand) := goodIn_app (qof qself _ (by decide +kernel)) ggX1_markFalling_X1_wouldStand
set_option maxRecDepth 20000 in
theorem ggX1_markFalling_X1_strengthOf : GoodIn wsX1_markFalling wsX1_strengthOf := goodIn_ca (qgood qself _ [6, 5, 0, 0, 0, 0, 15, 0, 0, 0, 0, 0, 0, 0, 0, 0, 0, 0, 0, 0, 0, 0, 0, 0, 0, 0, 0, 0, 0, 0, 0, 0, 0, 0] [6, 5, 7, 8, 9, 10, 11, 12, 13, 14, 15, 1, 2, 3, 0, 4, 16, 17, 18, 19, 20, 21, 22, 23, 24, 25, 26, 27, 28, 29, 30, 31, 32, 33] (by decide +kernel) (by decide +kernel)) (goodIn_sub (fun _ h => (List.mem_cons_of_mem _ (List.mem_append_right _ h))) (by decide +kernel))
set_option maxRecDepth 20000 in
theorem gX1_markFalling_X1_strengthOf : GoodIn wsX1_markFalling (wsV RX1 106 RX1 yX1_strengthOf wsX1_strengthOf) := goodIn_app (qof qself _ (by decide +kernel)) ggX1_markFalling_X1_strengthOf
set_option maxRecDepth 20000 in
theorem ggX1_dropMarked_X1_removeCell : GoodIn wsX1_dropMarked wsX1_removeCell := goodIn_ca (qgood qself _ [7, 0, 0, 0, 0, 0, 0, 0, 0, 0, 0, 0, 0, 0, 0, 0, 0, 0, 0, 0, 0, 0, 0, 0, 0, 0, 0, 0, 0, 0, 0, 0] [1, 2, 3, 4, 0, 5, 6, 7, 8, 9, 10, 11, 12, 13, 14, 15, 16, 17, 18, 19, 20, 21, 22, 23, 24, 25, 26, 27, 28, 29, 30, 31] (by decide +kernel) (by decide +kernel)) (goodIn_sub (fun _ h => (List.mem_cons_of_mem _ (List.mem_append_right _ h))) (by decide +kernel))
set_option maxRecDepth 20000 in
theorem gX1_dropMarked_X1_removeCell : GoodIn wsX1_dropMarked (wsV RX1 109 RX1 yX1_removeCell wsX1_removeCell) := goodIn_app (qof qself _ (by decide +kernel)) ggX1_dropMarked_X1_removeCell
set_option maxRecDepth 20000 in
theorem ggX1_settle_X1_markFalling : GoodIn wsX1_settle wsX1_markFalling := goodIn_ca (qgood qself _ [4, 0, 0, 0, 0, 0, 0, 0, 0, 0, 0, 0, 0, 0, 0, 0, 0, 0, 0, 0, 0, 0, 0, 0, 0, 0, 0, 0, 0, 0, 0, 0, 0, 0, 0, 0, 0, 0, 0, 0, 0, 0, 0, 0, 0, 20, 0, 0, 0, 0, 0, 0, 0, 0, 0, 0, 0, 0, 0, 0] [1, 2, 3, 4, 5, 6, 0, 7, 8, 9, 10, 11, 12, 13, 14, 15, 16, 17, 18, 19, 20, 21, 22, 23, 24, 25, 26, 27, 28, 29, 30, 31, 32, 33, 34, 35, 36, 37, 38, 39, 40, 41, 42, 43, 44, 45, 46, 47, 48, 49, 50, 51, 52, 53, 54, 55, 56, 57, 58, 59] (by decide +kernel) (by decide +kernel)) (goodIn_sub (fun _ h => (List.mem_cons_of_mem _ (List.mem_append_right _ h))) (by decide +kernel))
set_option maxRecDepth 20000 in
theorem gX1_settle_X1_markFalling : GoodIn wsX1_settle (wsV RX1 113 RX1 yX1_markFalling wsX1_markFalling) := goodIn_app (qof qself _ (by decide +kernel)) ggX1_settle_X1_markFalling
set_option maxRecDepth 20000 in
theorem ggX1_settle_X1_dropMarked : GoodIn wsX1_settle wsX1_dropMarked := goodIn_ca (qgood qself _ [4, 1, 5, 1, 5, 16, 4, 9, 0, 0, 0, 0, 0, 0, 0, 0, 0, 0, 0, 0, 0, 0, 0, 0, 0, 0, 0, 0, 0, 0, 0, 0, 0, 0, 0, 0, 0, 0, 0] [7, 1, 8, 9, 10, 11, 12, 0, 13, 14, 15, 16, 17, 4, 2, 18, 5, 6, 19, 3, 20, 21, 22, 23, 24, 25, 26, 27, 28, 29, 30, 31, 32, 33, 34, 35, 36, 37, 38] (by decide +kernel) (by decide +kernel)) (goodIn_sub (fun _ h => (List.mem_cons_of_mem _ (List.mem_append_right _ h))) (by decide +kernel))
set_option maxRecDepth 20000 in
theorem gX1_settle_X1_dropMarked : GoodIn wsX1_settle (wsV RX1 116 RX1 yX1_dropMarked wsX1_dropMarked) := goodIn_app (qof qself _ (by decide +kernel)) ggX1_settle_X1_dropMarked
set_option maxRecDepth 20000 in
theorem ggX1_wouldFallWithout_X1_has : GoodIn wsX1_wouldFallWithout wsX1_has := goodIn_ca (qgood qself _ [1, 4, 42, 0, 0, 0, 0, 0, 0, 0, 0, 0, 0, 0, 0, 0, 0] [1, 0, 2, 3, 4, 5, 6, 7, 8, 9, 10, 11, 12, 13, 14, 15, 16] (by decide +kernel) (by decide +kernel)) (goodIn_sub (fun _ h => (List.mem_cons_of_mem _ (List.mem_append_right _ h))) (by decide +kernel))
set_option maxRecDepth 20000 in
theorem gX1_wouldFallWithout_X1_has : GoodIn wsX1_wouldFallWithout (wsV RX1 66 RX1 yX1_has wsX1_has) := goodIn_app (qof qself _ (by decide +kernel)) ggX1_wouldFallWithout_X1_has
set_option maxRecDepth 20000 in
theorem ggX1_wouldFallWithout_X1_markFalling : GoodIn wsX1_wouldFallWithout wsX1_markFalling := goodIn_ca (qgood qself _ [1, 0, 0, 0, 0, 0, 3, 0, 0, 0, 0, 0, 0, 0, 0, 0, 0, 0, 0, 0, 0, 0, 0, 0, 0, 0, 0, 0, 0, 0, 0, 0, 0, 0, 0, 0, 0, 0, 0, 0, 0, 0, 0, 0, 0, 0, 0, 0, 0, 0, 0, 0, 0, 0, 0, 0, 0, 0, 0, 0] [6, 7, 8, 9, 10, 11, 4, 12, 13, 14, 15, 16, 1, 2, 3, 5, 0, 17, 18, 19, 20, 21, 22, 23, 24, 25, 26, 27, 28, 29, 30, 31, 32, 33, 34, 35, 36, 37, 38, 39, 40, 41, 42, 43, 44, 45, 46, 47, 48, 49, 50, 51, 52, 53, 54, 55, 56, 57, 58, 59] (by decide +kernel) (by decide +kernel)) (goodIn_sub (fun _ h => (List.mem_cons_of_mem _ (List.mem_append_right _ h))) (by decide +kernel))
set_option maxRecDepth 20000 in
theorem gX1_wouldFallWithout_X1_markFalling : GoodIn wsX1_wouldFallWithout (wsV RX1 113 RX1 yX1_markFalling wsX1_markFalling) := goodIn_app (qof qself _ (by decide +kernel)) ggX1_wouldFallWithout_X1_markFalling
set_option maxRecDepth 20000 in
theorem ggX1_wear_X3_isWithin : GoodIn wsX1_wear wsX3_isWithin := qgood qself _ [5] [0] (by decide +kernel) (by decide +kernel)
set_option maxRecDepth 20000 in
theorem gX1_wear_X3_isWithin_n72 : GoodIn wsX1_wear (wsX3_isWithin) := ggX1_wear_X3_isWithin
set_option maxRecDepth 20000 in
theorem ggX1_wear_X1_has : GoodIn wsX1_wear wsX1_has := goodIn_ca (qgood qself _ [10, 0, 20, 0, 0, 0, 0, 0, 0, 0, 0, 0, 0, 0, 0, 0, 0] [0, 1, 2, 3, 4, 5, 6, 7, 8, 9, 10, 11, 12, 13, 14, 15, 16] (by decide +kernel) (by decide +kernel)) (goodIn_sub (fun _ h => (List.mem_cons_of_mem _ (List.mem_append_right _ h))) (by decide +kernel))
set_option maxRecDepth 20000 in
theorem gX1_wear_X1_has : GoodIn wsX1_wear (wsV RX1 66 RX1 yX1_has wsX1_has) := goodIn_app (qof qself _ (by decide +kernel)) ggX1_wear_X1_has
set_option maxRecDepth 20000 in
theorem ggX1_wear_X1_dropMarked : GoodIn wsX1_wear wsX1_dropMarked := goodIn_ca (qgood qself _ [1, 0, 0, 0, 0, 3, 1, 3, 0, 0, 0, 0, 0, 0, 0, 0, 0, 0, 0, 0, 0, 0, 0, 0, 0, 0, 0, 0, 0, 0, 0, 0, 0, 0, 0, 0, 0, 0, 0] [7, 0, 8, 9, 10, 11, 12, 5, 13, 14, 15, 16, 17, 6, 1, 18, 19, 20, 2, 3, 4, 21, 22, 23, 24, 25, 26, 27, 28, 29, 30, 31, 32, 33, 34, 35, 36, 37, 38] (by decide +kernel) (by decide +kernel)) (goodIn_sub (fun _ h => (List.mem_cons_of_mem _ (List.mem_append_right _ h))) (by decide +kernel))
set_option maxRecDepth 20000 in
theorem gX1_wear_X1_dropMarked : GoodIn wsX1_wear (wsV RX1 116 RX1 yX1_dropMarked wsX1_dropMarked) := goodIn_app (qof qself _ (by decide +kernel)) ggX1_wear_X1_dropMarked
set_option maxRecDepth 20000 in
theorem ggX1_growOld_X1_has : GoodIn wsX1_growOld wsX1_has := goodIn_ca (qgood qself _ [14, 0, 0, 0, 0, 0, 0, 0, 0, 0, 0, 0, 0, 0, 0, 0, 0] [0, 1, 2, 3, 4, 5, 6, 7, 8, 9, 10, 11, 12, 13, 14, 15, 16] (by decide +kernel) (by decide +kernel)) (goodIn_sub (fun _ h => (List.mem_cons_of_mem _ (List.mem_append_right _ h))) (by decide +kernel))
set_option maxRecDepth 20000 in
theorem gX1_growOld_X1_has : GoodIn wsX1_growOld (wsV RX1 66 RX1 yX1_has wsX1_has) := goodIn_app (qof qself _ (by decide +kernel)) ggX1_growOld_X1_has
set_option maxRecDepth 20000 in
theorem ggX1_lightAt_X3_placeOf : GoodIn wsX1_lightAt wsX3_placeOf := qgood qself _ [4] [0] (by decide +kernel) (by decide +kernel)
set_option maxRecDepth 20000 in
theorem gX1_lightAt_X3_placeOf_n96 : GoodIn wsX1_lightAt (wsX3_placeOf) := ggX1_lightAt_X3_placeOf
set_option maxRecDepth 20000 in
theorem ggX1_lightAt_X1_has : GoodIn wsX1_lightAt wsX1_has := goodIn_ca (qgood qself _ [9, 0, 10, 0, 0, 0, 0, 0, 0, 0, 0, 0, 0, 0, 0, 0, 0] [0, 1, 2, 3, 4, 5, 6, 7, 8, 9, 10, 11, 12, 13, 14, 15, 16] (by decide +kernel) (by decide +kernel)) (goodIn_sub (fun _ h => (List.mem_cons_of_mem _ (List.mem_append_right _ h))) (by decide +kernel))
set_option maxRecDepth 20000 in
theorem gX1_lightAt_X1_has : GoodIn wsX1_lightAt (wsV RX1 66 RX1 yX1_has wsX1_has) := goodIn_app (qof qself _ (by decide +kernel)) ggX1_lightAt_X1_has
set_option maxRecDepth 20000 in
theorem ggX1_lightAt_X1_rayFrom : GoodIn wsX1_lightAt wsX1_rayFrom := goodIn_ca (qgood qself _ [5, 0, 0, 0, 0, 0, 3, 0, 0, 0, 0, 0, 0, 0, 0, 0, 0, 0, 0, 0, 0, 0, 0, 0, 0, 0, 0, 0] [6, 5, 0, 1, 2, 3, 4, 7, 8, 9, 10, 11, 12, 13, 14, 15, 16, 17, 18, 19, 20, 21, 22, 23, 24, 25, 26, 27] (by decide +kernel) (by decide +kernel)) (goodIn_sub (fun _ h => (List.mem_cons_of_mem _ (List.mem_append_right _ h))) (by decide +kernel))
set_option maxRecDepth 20000 in
theorem gX1_lightAt_X1_rayFrom : GoodIn wsX1_lightAt (wsV RX1 121 RX1 yX1_rayFrom wsX1_rayFrom) := goodIn_app (qof qself _ (by decide +kernel)) ggX1_lightAt_X1_rayFrom
set_option maxRecDepth 20000 in
theorem ggX1_rayFrom_X1_has : GoodIn wsX1_rayFrom wsX1_has := goodIn_ca (qgood qself _ [1, 4, 6, 0, 0, 0, 0, 0, 0, 0, 0, 0, 0, 0, 0, 0, 0] [1, 0, 2, 3, 4, 5, 6, 7, 8, 9, 10, 11, 12, 13, 14, 15, 16] (by decide +kernel) (by decide +kernel)) (goodIn_sub (fun _ h => (List.mem_cons_of_mem _ (List.mem_append_right _ h))) (by decide +kernel))
set_option maxRecDepth 20000 in
theorem gX1_rayFrom_X1_has : GoodIn wsX1_rayFrom (wsV RX1 66 RX1 yX1_has wsX1_has) := goodIn_app (qof qself _ (by decide +kernel)) ggX1_rayFrom_X1_has
set_option maxRecDepth 20000 in
theorem ggX1_rayFrom_X1_throughKind : GoodIn wsX1_rayFrom wsX1_throughKind := qgood qself _ [9, 0, 0, 0] [0, 1, 2, 3] (by decide +kernel) (by decide +kernel)
set_option maxRecDepth 20000 in
theorem gX1_rayFrom_X1_throughKind : GoodIn wsX1_rayFrom (va_wsS RX1 125 yX1_throughKind wsX1_throughKind) := goodIn_app (qof qself _ (by decide +kernel)) ggX1_rayFrom_X1_throughKind
set_option maxRecDepth 20000 in
theorem ggX1_isOpenWith_X1_weigh : GoodIn wsX1_isOpenWith wsX1_weigh := goodIn_ca (qgood qself _ [2, 3, 0, 0, 0, 0, 0, 0, 0, 0, 0, 0, 0, 0, 0, 0, 0, 0, 0, 0, 16, 0, 0, 0, 0, 0, 0, 0, 0, 0, 0, 0, 0, 0, 0] [2, 0, 3, 4, 5, 6, 7, 8, 9, 1, 10, 11, 12, 13, 14, 15, 16, 17, 18, 19, 20, 21, 22, 23, 24, 25, 26, 27, 28, 29, 30, 31, 32, 33, 34] (by decide +kernel) (by decide +kernel)) (goodIn_sub (fun _ h => (List.mem_cons_of_mem _ (List.mem_append_right _ h))) (by decide +kernel))
set_option maxRecDepth 20000 in
theorem gX1_isOpenWith_X1_weigh : GoodIn wsX1_isOpenWith (wsV RX1 99 RX1 yX1_weigh wsX1_weigh) := goodIn_app (qof qself _ (by decide +kernel)) ggX1_isOpenWith_X1_weigh
set_option maxRecDepth 20000 in
theorem ggX1_isOpenWith_X1_has : GoodIn wsX1_isOpenWith wsX1_has := goodIn_ca (qgood qself _ [15, 0, 24, 0, 0, 0, 0, 0, 0, 0, 0, 0, 0, 0, 0, 0, 0] [0, 1, 2, 3, 4, 5, 6, 7, 8, 9, 10, 11, 12, 13, 14, 15, 16] (by decide +kernel) (by decide +kernel)) (goodIn_sub (fun _ h => (List.mem_cons_of_mem _ (List.mem_append_right _ h))) (by decide +kernel))
set_option maxRecDepth 20000 in
theorem gX1_isOpenWith_X1_has : GoodIn wsX1_isOpenWith (wsV RX1 66 RX1 yX1_has wsX1_has) := goodIn_app (qof qself _ (by decide +kernel)) ggX1_isOpenWith_X1_has
set_option maxRecDepth 20000 in
theorem ggX1_isOpenWith_X1_strengthOf : GoodIn wsX1_isOpenWith wsX1_strengthOf := goodIn_ca (qgood qself _ [6, 5, 0, 0, 0, 0, 11, 0, 0, 0, 0, 0, 0, 0, 0, 0, 0, 0, 0, 0, 0, 0, 0, 0, 0, 0, 0, 0, 0, 0, 0, 0, 0, 0] [6, 5, 7, 8, 9, 10, 11, 12, 13, 14, 15, 1, 2, 3, 0, 4, 16, 17, 18, 19, 20, 21, 22, 23, 24, 25, 26, 27, 28, 29, 30, 31, 32, 33] (by decide +kernel) (by decide +kernel)) (goodIn_sub (fun _ h => (List.mem_cons_of_mem _ (List.mem_append_right _ h))) (by decide +kernel))
set_option maxRecDepth 20000 in
theorem gX1_isOpenWith_X1_strengthOf : GoodIn wsX1_isOpenWith (wsV RX1 106 RX1 yX1_strengthOf wsX1_strengthOf) := goodIn_app (qof qself _ (by decide +kernel)) ggX1_isOpenWith_X1_strengthOf
set_option maxRecDepth 20000 in
theorem ggX1_highestPlace_X3_placeOf : GoodIn wsX1_highestPlace wsX3_placeOf := qgood qself _ [3] [0] (by decide +kernel) (by decide +kernel)
set_option maxRecDepth 20000 in
theorem gX1_highestPlace_X3_placeOf_n96 : GoodIn wsX1_highestPlace (wsX3_placeOf) := ggX1_highestPlace_X3_placeOf
set_option maxRecDepth 20000 in
theorem ggX1_highestPlace_X1_has : GoodIn wsX1_highestPlace wsX1_has := goodIn_ca (qgood qself _ [8, 0, 0, 0, 0, 0, 0, 0, 0, 0, 0, 0, 0, 0, 0, 0, 0] [0, 1, 2, 3, 4, 5, 6, 7, 8, 9, 10, 11, 12, 13, 14, 15, 16] (by decide +kernel) (by decide +kernel)) (goodIn_sub (fun _ h => (List.mem_cons_of_mem _ (List.mem_append_right _ h))) (by decide +kernel))
set_option maxRecDepth 20000 in
theorem gX1_highestPlace_X1_has : GoodIn wsX1_highestPlace (wsV RX1 66 RX1 yX1_has wsX1_has) := goodIn_app (qof qself _ (by decide +kernel)) ggX1_highestPlace_X1_has
set_option maxRecDepth 20000 in
theorem ggX1_peopleOn_X1_isOpenWith : GoodIn wsX1_peopleOn wsX1_isOpenWith := goodIn_ca (qgood qself _ [4, 0, 0, 0, 0, 0, 0, 0, 0, 0, 0, 0, 0, 0, 0, 0, 0, 0, 0, 0, 0, 0, 0, 0, 0, 0, 0, 0, 0, 0, 0, 0, 0, 0, 0, 0, 0, 0, 0, 0, 0, 0, 0, 0, 0, 0, 0, 0, 0, 0, 0, 0, 0, 0, 0, 0] [1, 2, 3, 4, 5, 6, 0, 7, 8, 9, 10, 11, 12, 13, 14, 15, 16, 17, 18, 19, 20, 21, 22, 23, 24, 25, 26, 27, 28, 29, 30, 31, 32, 33, 34, 35, 36, 37, 38, 39, 40, 41, 42, 43, 44, 45, 46, 47, 48, 49, 50, 51, 52, 53, 54, 55] (by decide +kernel) (by decide +kernel)) (goodIn_sub (fun _ h => (List.mem_cons_of_mem _ (List.mem_append_right _ h))) (by decide +kernel))
set_option maxRecDepth 20000 in
theorem gX1_peopleOn_X1_isOpenWith : GoodIn wsX1_peopleOn (wsV RX1 129 RX1 yX1_isOpenWith wsX1_isOpenWith) := goodIn_app (qof qself _ (by decide +kernel)) ggX1_peopleOn_X1_isOpenWith
set_option maxRecDepth 20000 in
theorem ggX1_bearsItself_X1_weigh : GoodIn wsX1_bearsItself wsX1_weigh := goodIn_ca (qgood qself _ [1, 0, 3, 0, 0, 0, 0, 0, 0, 0, 0, 0, 0, 0, 0, 0, 0, 0, 0, 0, 4, 0, 0, 0, 0, 0, 0, 0, 0, 0, 0, 0, 0, 0, 0] [3, 1, 0, 4, 5, 6, 7, 8, 9, 2, 10, 11, 12, 13, 14, 15, 16, 17, 18, 19, 20, 21, 22, 23, 24, 25, 26, 27, 28, 29, 30, 31, 32, 33, 34] (by decide +kernel) (by decide +kernel)) (goodIn_sub (fun _ h => (List.mem_cons_of_mem _ (List.mem_append_right _ h))) (by decide +kernel))
set_option maxRecDepth 20000 in
theorem gX1_bearsItself_X1_weigh : GoodIn wsX1_bearsItself (wsV RX1 99 RX1 yX1_weigh wsX1_weigh) := goodIn_app (qof qself _ (by decide +kernel)) ggX1_bearsItself_X1_weigh
set_option maxRecDepth 20000 in
theorem ggX1_bearsItself_X1_has : GoodIn wsX1_bearsItself wsX1_has := goodIn_ca (qgood qself _ [14, 0, 12, 0, 0, 0, 0, 0, 0, 0, 0, 0, 0, 0, 0, 0, 0] [0, 1, 2, 3, 4, 5, 6, 7, 8, 9, 10, 11, 12, 13, 14, 15, 16] (by decide +kernel) (by decide +kernel)) (goodIn_sub (fun _ h => (List.mem_cons_of_mem _ (List.mem_append_right _ h))) (by decide +kernel))
set_option maxRecDepth 20000 in
theorem gX1_bearsItself_X1_has : GoodIn wsX1_bearsItself (wsV RX1 66 RX1 yX1_has wsX1_has) := goodIn_app (qof qself _ (by decide +kernel)) ggX1_bearsItself_X1_has
set_option maxRecDepth 20000 in
theorem ggX1_bearsItself_X1_wouldStand : GoodIn wsX1_bearsItself wsX1_wouldStand := goodIn_ca (qgood qself _ [6, 4, 0, 0, 0, 0, 0, 0, 0, 0, 0, 0, 0, 0, 3, 0, 0, 0, 0, 0, 0, 0, 0, 0, 0, 0, 0, 0, 0, 0] [14, 10, 11, 12, 0, 13, 5, 6, 7, 8, 9, 1, 2, 3, 4, 15, 16, 17, 18, 19, 20, 21, 22, 23, 24, 25, 26, 27, 28, 29] (by decide +kernel) (by decide +kernel)) (goodIn_sub (fun _ h => (List.mem_cons_of_mem _ (List.mem_append_right _ h))) (by decide +kernel))
set_option maxRecDepth 20000 in
theorem gX1_bearsItself_X1_wouldStand : GoodIn wsX1_bearsItself (wsV RX1 103 RX1 yX1_wouldStand wsX1_wouldStand) := goodIn_app (qof qself _ (by decide +kernel)) ggX1_bearsItself_X1_wouldStand
set_option maxRecDepth 20000 in
theorem ggX3_cut_X0_isClear : GoodIn wsX3_cut wsX0_isClear := goodIn_ca (qgood qself _ [14, 0, 0, 5, 4, 0, 10, 0, 0] [4, 5, 3, 0, 1, 2, 6, 7, 8] (by decide +kernel) (by decide +kernel)) (goodIn_sub (fun _ h => (List.mem_cons_of_mem _ (List.mem_append_left _ (List.mem_append_left _ (List.mem_append_right _ h))))) (by decide +kernel))
set_option maxRecDepth 20000 in
theorem gX3_cut_X0_isClear : GoodIn wsX3_cut (wsV RX3 119 RX0 yX0_isClear wsX0_isClear) := goodIn_app (qof qself _ (by decide +kernel)) ggX3_cut_X0_isClear
set_option maxRecDepth 20000 in
theorem ggX3_put_X1_has : GoodIn wsX3_put wsX1_has := goodIn_ca (qgood qself _ [31, 0, 102, 0, 0, 0, 0, 0, 0, 0, 0, 0, 0, 0, 0, 0, 0] [0, 1, 2, 3, 4, 5, 6, 7, 8, 9, 10, 11, 12, 13, 14, 15, 16] (by decide +kernel) (by decide +kernel)) (goodIn_sub (fun _ h => (List.mem_cons_of_mem _ (List.mem_append_right _ h))) (by decide +kernel))
set_option maxRecDepth 20000 in
theorem gX3_put_X1_has : GoodIn wsX3_put (wsV RX3 146 RX1 yX1_has wsX1_has) := goodIn_app (qof qself _ (by decide +kernel)) ggX3_put_X1_has
set_option maxRecDepth 20000 in
theorem ggX3_put_X1_wouldStand : GoodIn wsX3_put wsX1_wouldStand := goodIn_ca (qgood qself _ [28, 0, 0, 0, 0, 3, 0, 0, 0, 0, 0, 0, 0, 0, 0, 89, 0, 0, 0, 0, 0, 0, 0, 0, 0, 0, 0, 0, 0, 0] [5, 6, 7, 8, 2, 9, 4, 10, 11, 12, 13, 14, 0, 1, 3, 15, 16, 17, 18, 19, 20, 21, 22, 23, 24, 25, 26, 27, 28, 29] (by decide +kernel) (by decide +kernel)) (goodIn_sub (fun _ h => (List.mem_cons_of_mem _ (List.mem_append_right _ h))) (by decide +kernel))
set_option maxRecDepth 20000 in
theorem gX3_put_X1_wouldStand : GoodIn wsX3_put (wsV RX3 149 RX1 yX1_wouldStand wsX1_wouldStand) := goodIn_app (qof qself _ (by decide +kernel)) ggX3_put_X1_wouldStand
set_option maxRecDepth 20000 in
theorem ggX3_put_X3_hasStuffFor : GoodIn wsX3_put wsX3_hasStuffFor := qgood qself _ [49, 0, 0, 0, 72, 0, 0, 0, 0, 0, 0, 0, 0, 0] [0, 1, 2, 3, 4, 5, 6, 7, 8, 9, 10, 11, 12, 13] (by decide +kernel) (by decide +kernel)
set_option maxRecDepth 20000 in
theorem gX3_put_X3_hasStuffFor : GoodIn wsX3_put (wsV RX3 154 RX3 yX3_hasStuffFor wsX3_hasStuffFor) := goodIn_app (qof qself _ (by decide +kernel)) ggX3_put_X3_hasStuffFor
set_option maxRecDepth 20000 in
theorem ggX3_put_X3_useStuffFor : GoodIn wsX3_put wsX3_useStuffFor := qgood qself _ [50, 0, 0, 3, 68, 0, 0, 0, 0, 0, 0, 0, 0, 0] [3, 0, 1, 2, 4, 5, 6, 7, 8, 9, 10, 11, 12, 13] (by decide +kernel) (by decide +kernel)
set_option maxRecDepth 20000 in
theorem gX3_put_X3_useStuffFor : GoodIn wsX3_put (wsV RX3 160 RX3 yX3_useStuffFor wsX3_useStuffFor) := goodIn_app (qof qself _ (by decide +kernel)) ggX3_put_X3_useStuffFor
set_option maxRecDepth 20000 in
theorem ggX3_put_X1_setCell : GoodIn wsX3_put wsX1_setCell := goodIn_ca (qgood qself _ [13, 2, 0, 12, 1, 27, 0, 0, 0, 0, 0, 0, 0, 67, 0, 0, 0, 0, 0, 0, 0, 0, 0, 0, 0, 0, 0, 0] [5, 4, 6, 7, 8, 9, 1, 0, 2, 10, 11, 3, 12, 13, 14, 15, 16, 17, 18, 19, 20, 21, 22, 23, 24, 25, 26, 27] (by decide +kernel) (by decide +kernel)) (goodIn_sub (fun _ h => (List.mem_cons_of_mem _ (List.mem_append_right _ h))) (by decide +kernel))
set_option maxRecDepth 20000 in
theorem gX3_put_X1_setCell : GoodIn wsX3_put (wsV RX3 164 RX1 yX1_setCell wsX1_setCell) := goodIn_app (qof qself _ (by decide +kernel)) ggX3_put_X1_setCell
set_option maxRecDepth 20000 in
theorem ggX3_put_X3_letFall : GoodIn wsX3_put wsX3_letFall := goodIn_ca (qgood qself _ [9, 3, 2, 0, 7, 0, 1, 0, 0, 0, 0, 1, 0, 0, 0, 0, 0, 0, 0, 0, 0, 0, 0, 12, 0, 0, 0, 0, 0, 0, 0, 0, 0, 3, 0, 0, 0, 0, 0, 0, 0, 0, 0, 0, 0, 0, 0, 0, 0, 0, 0, 0, 0, 0, 0, 0, 0, 0, 0, 0, 0, 0, 0, 0, 0, 0, 0, 0, 0, 0, 0, 0, 0, 0, 0, 0, 0, 0, 0, 0, 0, 0, 0, 4, 0, 0, 0, 0, 0, 0, 0, 0, 0, 0, 0, 0, 0, 0, 0, 0, 0, 0, 0, 0, 0, 0, 0, 0, 0, 0, 0, 0] [33, 34, 35, 0, 36, 37, 38, 39, 40, 41, 42, 2, 1, 3, 43, 44, 45, 8, 46, 47, 48, 49, 50, 51, 52, 53, 54, 55, 56, 26, 4, 5, 22, 6, 7, 9, 10, 18, 19, 20, 21, 14, 15, 16, 17, 57, 11, 12, 13, 58, 59, 60, 61, 28, 62, 63, 64, 65, 29, 66, 67, 68, 69, 70, 71, 72, 73, 74, 75, 76, 77, 78, 79, 80, 81, 82, 23, 24, 25, 27, 30, 31, 32, 83, 84, 85, 86, 87, 88, 89, 90, 91, 92, 108, 109, 110, 111, 93, 94, 95, 96, 97, 98, 99, 100, 101, 102, 103, 104, 105, 106, 107] (by decide +kernel) (by decide +kernel)) (goodIn_sub (fun _ h => (List.mem_cons_of_mem _ (List.mem_append_right _ h))) (by decide +kernel))
set_option maxRecDepth 20000 in
theorem gX3_put_X3_letFall : GoodIn wsX3_put (wsV RX3 168 RX3 yX3_letFall wsX3_letFall) := goodIn_app (qof qself _ (by decide +kernel)) ggX3_put_X3_letFall
set_option maxRecDepth 20000 in
theorem ggX3_put_X1_cellCount : GoodIn wsX3_put wsX1_cellCount := goodIn_ca (qgood qself _ [32, 91, 10, 0, 0, 0, 0, 0, 0, 0, 0, 0, 0, 0, 0, 0, 0] [1, 0, 2, 3, 4, 5, 6, 7, 8, 9, 10, 11, 12, 13, 14, 15, 16] (by decide +kernel) (by decide +kernel)) (goodIn_sub (fun _ h => (List.mem_cons_of_mem _ (List.mem_append_right _ h))) (by decide +kernel))
set_option maxRecDepth 20000 in
theorem gX3_put_X1_cellCount : GoodIn wsX3_put (wsV RX3 172 RX1 yX1_cellCount wsX1_cellCount) := goodIn_app (qof qself _ (by decide +kernel)) ggX3_put_X1_cellCount
set_option maxRecDepth 20000 in
theorem ggX3_mass_X1_has : GoodIn wzX3_mass wsX1_has := goodIn_ca (qgood qself _ [27, 0, 0, 0, 0, 0, 0, 0, 0, 0, 0, 0, 0, 0, 0, 0, 0] [0, 1, 2, 3, 4, 5, 6, 7, 8, 9, 10, 11, 12, 13, 14, 15, 16] (by decide +kernel) (by decide +kernel)) (goodIn_sub (fun _ h => (List.mem_cons_of_mem _ (List.mem_append_right _ h))) (by decide +kernel))
set_option maxRecDepth 20000 in
theorem gX3_mass_X1_has : GoodIn wzX3_mass (wsV RX3 146 RX1 yX1_has wsX1_has) := goodIn_app (qof qself _ (by decide +kernel)) ggX3_mass_X1_has
set_option maxRecDepth 20000 in
theorem ggX3_load_X1_has : GoodIn wzX3_load wsX1_has := goodIn_ca (qgood qself _ [27, 0, 15, 0, 0, 0, 0, 0, 0, 0, 0, 0, 0, 0, 0, 0, 0] [0, 1, 2, 3, 4, 5, 6, 7, 8, 9, 10, 11, 12, 13, 14, 15, 16] (by decide +kernel) (by decide +kernel)) (goodIn_sub (fun _ h => (List.mem_cons_of_mem _ (List.mem_append_right _ h))) (by decide +kernel))
set_option maxRecDepth 20000 in
theorem gX3_load_X1_has : GoodIn wzX3_load (wsV RX3 146 RX1 yX1_has wsX1_has) := goodIn_app (qof qself _ (by decide +kernel)) ggX3_load_X1_has
set_option maxRecDepth 20000 in
theorem ggX3_load_X1_weigh : GoodIn wzX3_load wsX1_weigh := goodIn_ca (qgood qself _ [9, 11, 0, 1, 0, 0, 0, 0, 3, 0, 0, 0, 0, 0, 0, 0, 0, 0, 0, 0, 0, 0, 0, 0, 0, 0, 0, 0, 0, 0, 0, 0, 0, 0, 0] [8, 9, 10, 1, 0, 2, 11, 3, 4, 5, 6, 7, 12, 13, 14, 15, 16, 17, 18, 19, 20, 21, 22, 23, 24, 25, 26, 27, 28, 29, 30, 31, 32, 33, 34] (by decide +kernel) (by decide +kernel)) (goodIn_sub (fun _ h => (List.mem_cons_of_mem _ (List.mem_append_right _ h))) (by decide +kernel))
set_option maxRecDepth 20000 in
theorem gX3_load_X1_weigh : GoodIn wzX3_load (wsV RX3 188 RX1 yX1_weigh wsX1_weigh) := goodIn_app (qof qself _ (by decide +kernel)) ggX3_load_X1_weigh
set_option maxRecDepth 20000 in
theorem ggX3_strength_X1_has : GoodIn wzX3_strength wsX1_has := goodIn_ca (qgood qself _ [28, 0, 34, 0, 0, 0, 0, 0, 0, 0, 0, 0, 0, 0, 0, 0, 0] [0, 1, 2, 3, 4, 5, 6, 7, 8, 9, 10, 11, 12, 13, 14, 15, 16] (by decide +kernel) (by decide +kernel)) (goodIn_sub (fun _ h => (List.mem_cons_of_mem _ (List.mem_append_right _ h))) (by decide +kernel))
set_option maxRecDepth 20000 in
theorem gX3_strength_X1_has : GoodIn wzX3_strength (wsV RX3 146 RX1 yX1_has wsX1_has) := goodIn_app (qof qself _ (by decide +kernel)) ggX3_strength_X1_has
set_option maxRecDepth 20000 in
theorem ggX3_strength_X1_strengthOf : GoodIn wzX3_strength wsX1_strengthOf := goodIn_ca (qgood qself _ [25, 0, 0, 0, 0, 10, 0, 0, 0, 0, 0, 0, 0, 0, 0, 0, 0, 0, 0, 10, 0, 0, 0, 0, 0, 0, 0, 0, 0, 0, 0, 0, 0, 0] [5, 4, 6, 7, 8, 9, 10, 11, 12, 13, 14, 15, 0, 1, 2, 3, 16, 17, 18, 19, 20, 21, 22, 23, 24, 25, 26, 27, 28, 29, 30, 31, 32, 33] (by decide +kernel) (by decide +kernel)) (goodIn_sub (fun _ h => (List.mem_cons_of_mem _ (List.mem_append_right _ h))) (by decide +kernel))
set_option maxRecDepth 20000 in
theorem gX3_strength_X1_strengthOf : GoodIn wzX3_strength (wsV RX3 195 RX1 yX1_strengthOf wsX1_strengthOf) := goodIn_app (qof qself _ (by decide +kernel)) ggX3_strength_X1_strengthOf
set_option maxRecDepth 20000 in
theorem ggX3_creep_X1_has : GoodIn wzX3_creep wsX1_has := goodIn_ca (qgood qself _ [27, 0, 0, 0, 0, 0, 0, 0, 0, 0, 0, 0, 0, 0, 0, 0, 0] [0, 1, 2, 3, 4, 5, 6, 7, 8, 9, 10, 11, 12, 13, 14, 15, 16] (by decide +kernel) (by decide +kernel)) (goodIn_sub (fun _ h => (List.mem_cons_of_mem _ (List.mem_append_right _ h))) (by decide +kernel))
set_option maxRecDepth 20000 in
theorem gX3_creep_X1_has : GoodIn wzX3_creep (wsV RX3 146 RX1 yX1_has wsX1_has) := goodIn_app (qof qself _ (by decide +kernel)) ggX3_creep_X1_has
set_option maxRecDepth 20000 in
theorem ggX3_age_X1_has : GoodIn wzX3_age wsX1_has := goodIn_ca (qgood qself _ [27, 0, 0, 0, 0, 0, 0, 0, 0, 0, 0, 0, 0, 0, 0, 0, 0] [0, 1, 2, 3, 4, 5, 6, 7, 8, 9, 10, 11, 12, 13, 14, 15, 16] (by decide +kernel) (by decide +kernel)) (goodIn_sub (fun _ h => (List.mem_cons_of_mem _ (List.mem_append_right _ h))) (by decide +kernel))
set_option maxRecDepth 20000 in
theorem gX3_age_X1_has : GoodIn wzX3_age (wsV RX3 146 RX1 yX1_has wsX1_has) := goodIn_app (qof qself _ (by decide +kernel)) ggX3_age_X1_has
set_option maxRecDepth 20000 in
theorem ggX3_isArch_X1_has : GoodIn wzX3_isArch wsX1_has := goodIn_ca (qgood qself _ [26, 0, 19, 0, 0, 0, 0, 0, 0, 0, 0, 0, 0, 0, 0, 0, 0] [0, 1, 2, 3, 4, 5, 6, 7, 8, 9, 10, 11, 12, 13, 14, 15, 16] (by decide +kernel) (by decide +kernel)) (goodIn_sub (fun _ h => (List.mem_cons_of_mem _ (List.mem_append_right _ h))) (by decide +kernel))
set_option maxRecDepth 20000 in
theorem gX3_isArch_X1_has : GoodIn wzX3_isArch (wsV RX3 146 RX1 yX1_has wsX1_has) := goodIn_app (qof qself _ (by decide +kernel)) ggX3_isArch_X1_has
set_option maxRecDepth 20000 in
theorem ggX3_isArch_X1_spans : GoodIn wzX3_isArch wsX1_spans := goodIn_ca (qgood qself _ [23, 0, 0, 0, 0, 3, 0, 0, 0, 0, 0, 10, 0, 0, 0, 0, 0, 0, 0, 0, 0, 0, 0, 0, 0, 0] [5, 6, 7, 8, 2, 9, 4, 10, 0, 1, 3, 11, 12, 13, 14, 15, 16, 17, 18, 19, 20, 21, 22, 23, 24, 25] (by decide +kernel) (by decide +kernel)) (goodIn_sub (fun _ h => (List.mem_cons_of_mem _ (List.mem_append_right _ h))) (by decide +kernel))
set_option maxRecDepth 20000 in
theorem gX3_isArch_X1_spans : GoodIn wzX3_isArch (wsV RX3 204 RX1 yX1_spans wsX1_spans) := goodIn_app (qof qself _ (by decide +kernel)) ggX3_isArch_X1_spans
set_option maxRecDepth 20000 in
theorem ggX3_lamp_X1_has : GoodIn wzX3_lamp wsX1_has := goodIn_ca (qgood qself _ [31, 0, 0, 0, 0, 0, 0, 0, 0, 0, 0, 0, 0, 0, 0, 0, 0] [0, 1, 2, 3, 4, 5, 6, 7, 8, 9, 10, 11, 12, 13, 14, 15, 16] (by decide +kernel) (by decide +kernel)) (goodIn_sub (fun _ h => (List.mem_cons_of_mem _ (List.mem_append_left _ (List.mem_append_right _ h)))) (by decide +kernel))
set_option maxRecDepth 20000 in
theorem gX3_lamp_X1_has : GoodIn wzX3_lamp (wsV RX3 146 RX1 yX1_has wsX1_has) := goodIn_app (qof qself _ (by decide +kernel)) ggX3_lamp_X1_has
set_option maxRecDepth 20000 in
theorem ggX3_lightBits_X1_lightAt : GoodIn wsX3_lightBits wsX1_lightAt := goodIn_ca (qgood qself _ [6, 13, 0, 0, 0, 0, 0, 0, 0, 0, 0, 0, 0, 0, 0, 0, 0, 0, 0, 0, 0, 14, 0, 0, 0, 0, 0, 0, 0, 0, 0, 0, 0, 0, 0, 0] [2, 3, 4, 0, 5, 6, 7, 8, 1, 9, 10, 11, 12, 13, 14, 15, 16, 17, 18, 19, 20, 21, 22, 23, 24, 25, 26, 27, 28, 29, 30, 31, 32, 33, 34, 35] (by decide +kernel) (by decide +kernel)) (goodIn_sub (fun _ h => (List.mem_cons_of_mem _ (List.mem_append_right _ h))) (by decide +kernel))
set_option maxRecDepth 20000 in
theorem gX3_lightBits_X1_lightAt : GoodIn wsX3_lightBits (wsV RX3 230 RX1 yX1_lightAt wsX1_lightAt) := goodIn_app (qof qself _ (by decide +kernel)) ggX3_lightBits_X1_lightAt
set_option maxRecDepth 20000 in
theorem ggX3_lightBits_X3_bitsOfFloat : GoodIn wsX3_lightBits wsX3_bitsOfFloat := qgood qself _ [42, 0] [0, 1] (by decide +kernel) (by decide +kernel)
set_option maxRecDepth 20000 in
theorem gX3_lightBits_X3_bitsOfFloat : GoodIn wsX3_lightBits (va_wsS RX3 234 yX3_bitsOfFloat wsX3_bitsOfFloat) := goodIn_app (qof qself _ (by decide +kernel)) ggX3_lightBits_X3_bitsOfFloat
set_option maxRecDepth 20000 in
theorem ggX3_isOpen_X1_isOpenWith : GoodIn wsX3_isOpen wsX1_isOpenWith := goodIn_ca (qgood qself _ [8, 16, 0, 0, 0, 0, 0, 0, 0, 0, 0, 0, 0, 0, 0, 0, 0, 0, 0, 0, 0, 0, 0, 0, 0, 0, 0, 0, 0, 0, 0, 0, 0, 0, 0, 0, 0, 0, 0, 0, 0, 14, 0, 0, 0, 0, 0, 0, 0, 0, 0, 0, 0, 0, 0, 0] [2, 3, 4, 5, 6, 7, 1, 8, 9, 10, 0, 11, 12, 13, 14, 15, 16, 17, 18, 19, 20, 21, 22, 23, 24, 25, 26, 27, 28, 29, 30, 31, 32, 33, 34, 35, 36, 37, 38, 39, 40, 41, 42, 43, 44, 45, 46, 47, 48, 49, 50, 51, 52, 53, 54, 55] (by decide +kernel) (by decide +kernel)) (goodIn_sub (fun _ h => (List.mem_cons_of_mem _ (List.mem_append_right _ h))) (by decide +kernel))
set_option maxRecDepth 20000 in
theorem gX3_isOpen_X1_isOpenWith : GoodIn wsX3_isOpen (wsV RX3 238 RX1 yX1_isOpenWith wsX1_isOpenWith) := goodIn_app (qof qself _ (by decide +kernel)) ggX3_isOpen_X1_isOpenWith
set_option maxRecDepth 20000 in
theorem ggX3_carries_X1_highestPlace : GoodIn wzX3_carries wsX1_highestPlace := goodIn_ca (qgood qself _ [10, 13, 0, 0, 0, 0, 0, 0, 0, 0, 56, 0, 0, 0, 0, 0, 0, 0, 0, 0, 0, 0, 0, 0, 0] [2, 3, 0, 4, 5, 6, 7, 1, 8, 9, 10, 11, 12, 13, 14, 15, 16, 17, 18, 19, 20, 21, 22, 23, 24] (by decide +kernel) (by decide +kernel)) (goodIn_sub (fun _ h => (List.mem_cons_of_mem _ (List.mem_append_right _ h))) (by decide +kernel))
set_option maxRecDepth 20000 in
theorem gX3_carries_X1_highestPlace : GoodIn wzX3_carries (wsV RX3 241 RX1 yX1_highestPlace wsX1_highestPlace) := goodIn_app (qof qself _ (by decide +kernel)) ggX3_carries_X1_highestPlace
set_option maxRecDepth 20000 in
theorem ggX3_carries_X1_peopleOn : GoodIn wzX3_carries wsX1_peopleOn := goodIn_ca (qgood qself _ [10, 13, 1, 0, 0, 0, 0, 0, 0, 10, 0, 0, 0, 0, 0, 0, 0, 0, 0, 0, 0, 0, 0, 0, 0, 0, 0, 0, 0, 0, 0, 0, 0, 0, 0, 0, 0, 0, 0, 0, 0, 0, 0, 0, 0, 10, 0, 0, 0, 0, 0, 0, 0, 0, 0, 0, 0, 0, 0, 0] [9, 10, 11, 12, 1, 13, 14, 15, 16, 17, 18, 19, 20, 2, 0, 3, 4, 5, 6, 7, 8, 21, 22, 23, 24, 25, 26, 27, 28, 29, 30, 31, 32, 33, 34, 35, 36, 37, 38, 39, 40, 41, 42, 43, 44, 45, 46, 47, 48, 49, 50, 51, 52, 53, 54, 55, 56, 57, 58, 59] (by decide +kernel) (by decide +kernel)) (goodIn_sub (fun _ h => (List.mem_cons_of_mem _ (List.mem_append_right _ h))) (by decide +kernel))
set_option maxRecDepth 20000 in
theorem gX3_carries_X1_peopleOn : GoodIn wzX3_carries (wsV RX3 246 RX1 yX1_peopleOn wsX1_peopleOn) := goodIn_app (qof qself _ (by decide +kernel)) ggX3_carries_X1_peopleOn
set_option maxRecDepth 20000 in
theorem ggX3_visit_X1_isOpenWith : GoodIn wsX3_visit wsX1_isOpenWith := goodIn_ca (qgood qself _ [14, 16, 0, 0, 0, 0, 0, 0, 0, 0, 0, 0, 0, 0, 0, 0, 0, 0, 0, 0, 0, 0, 0, 0, 0, 0, 0, 0, 0, 0, 0, 0, 0, 0, 0, 0, 0, 0, 0, 0, 0, 10, 0, 0, 0, 0, 0, 0, 0, 0, 0, 0, 0, 0, 0, 0] [2, 3, 4, 5, 6, 7, 1, 8, 9, 10, 0, 11, 12, 13, 14, 15, 16, 17, 18, 19, 20, 21, 22, 23, 24, 25, 26, 27, 28, 29, 30, 31, 32, 33, 34, 35, 36, 37, 38, 39, 40, 41, 42, 43, 44, 45, 46, 47, 48, 49, 50, 51, 52, 53, 54, 55] (by decide +kernel) (by decide +kernel)) (goodIn_sub (fun _ h => (List.mem_cons_of_mem _ (List.mem_append_right _ h))) (by decide +kernel))
set_option maxRecDepth 20000 in
theorem gX3_visit_X1_isOpenWith : GoodIn wsX3_visit (wsV RX3 238 RX1 yX1_isOpenWith wsX1_isOpenWith) := goodIn_app (qof qself _ (by decide +kernel)) ggX3_visit_X1_isOpenWith
set_option maxRecDepth 20000 in
theorem ggX3_plan_X1_plannedCount : GoodIn wsX3_plan wsX1_plannedCount := goodIn_ca (qgood qself _ [25, 0, 0, 0, 0, 0, 0, 0, 0, 0, 0, 0, 0, 0, 0, 0, 0] [0, 1, 2, 3, 4, 5, 6, 7, 8, 9, 10, 11, 12, 13, 14, 15, 16] (by decide +kernel) (by decide +kernel)) (goodIn_sub (fun _ h => (List.mem_cons_of_mem _ (List.mem_append_right _ h))) (by decide +kernel))
set_option maxRecDepth 20000 in
theorem gX3_plan_X1_plannedCount : GoodIn wsX3_plan (wsV RX3 269 RX1 yX1_plannedCount wsX1_plannedCount) := goodIn_app (qof qself _ (by decide +kernel)) ggX3_plan_X1_plannedCount
set_option maxRecDepth 20000 in
theorem ggX3_carve_X1_has : GoodIn wzX3_carve wsX1_has := goodIn_ca (qgood qself _ [34, 0, 77, 0, 0, 0, 0, 0, 0, 0, 0, 0, 0, 0, 0, 0, 0] [0, 1, 2, 3, 4, 5, 6, 7, 8, 9, 10, 11, 12, 13, 14, 15, 16] (by decide +kernel) (by decide +kernel)) (goodIn_sub (fun _ h => (List.mem_cons_of_mem _ (List.mem_append_left _ (List.mem_append_right _ h)))) (by decide +kernel))
set_option maxRecDepth 20000 in
theorem gX3_carve_X1_has : GoodIn wzX3_carve (wsV RX3 146 RX1 yX1_has wsX1_has) := goodIn_app (qof qself _ (by decide +kernel)) ggX3_carve_X1_has
set_option maxRecDepth 20000 in
theorem ggX3_carve_X1_removeCell : GoodIn wzX3_carve wsX1_removeCell := goodIn_ca (qgood qself _ [16, 2, 0, 12, 1, 3, 0, 0, 0, 0, 0, 0, 0, 0, 0, 0, 0, 62, 0, 0, 0, 0, 0, 0, 0, 0, 0, 0, 0, 0, 0, 0] [5, 6, 7, 8, 3, 9, 4, 10, 11, 12, 13, 1, 0, 2, 14, 15, 16, 17, 18, 19, 20, 21, 22, 23, 24, 25, 26, 27, 28, 29, 30, 31] (by decide +kernel) (by decide +kernel)) (goodIn_sub (fun _ h => (List.mem_cons_of_mem _ (List.mem_append_left _ (List.mem_append_right _ h)))) (by decide +kernel))
set_option maxRecDepth 20000 in
theorem gX3_carve_X1_removeCell : GoodIn wzX3_carve (wsV RX3 281 RX1 yX1_removeCell wsX1_removeCell) := goodIn_app (qof qself _ (by decide +kernel)) ggX3_carve_X1_removeCell
set_option maxRecDepth 20000 in
theorem ggX3_carve_X3_letFall : GoodIn wzX3_carve wsX3_letFall := goodIn_ca (qgood qself _ [16, 2, 0, 7, 0, 1, 0, 0, 0, 0, 1, 0, 0, 0, 0, 0, 0, 0, 0, 0, 0, 0, 0, 0, 3, 0, 0, 0, 0, 0, 0, 0, 0, 0, 0, 0, 0, 0, 0, 0, 0, 0, 0, 0, 0, 0, 0, 0, 0, 0, 0, 0, 0, 0, 0, 0, 0, 0, 0, 0, 0, 0, 0, 0, 0, 0, 0, 0, 0, 0, 0, 0, 0, 0, 0, 0, 0, 0, 0, 0, 0, 0, 0, 0, 0, 0, 0, 0, 0, 0, 0, 0, 0, 0, 0, 0, 0, 0, 0, 0, 0, 0, 0, 0, 0, 0, 0, 0, 0, 0, 0, 0] [24, 25, 26, 27, 28, 29, 30, 31, 32, 33, 34, 1, 0, 2, 35, 36, 37, 7, 38, 39, 40, 41, 42, 43, 44, 45, 46, 47, 48, 17, 3, 4, 49, 5, 6, 8, 9, 50, 51, 52, 53, 54, 55, 56, 57, 58, 59, 60, 61, 62, 63, 64, 65, 19, 66, 67, 68, 69, 20, 70, 71, 72, 73, 74, 75, 76, 77, 78, 79, 80, 81, 82, 10, 11, 12, 13, 14, 15, 16, 18, 21, 22, 23, 98, 99, 100, 101, 102, 103, 104, 105, 106, 107, 108, 109, 110, 111, 83, 84, 85, 86, 87, 88, 89, 90, 91, 92, 93, 94, 95, 96, 97] (by decide +kernel) (by decide +kernel)) (goodIn_sub (fun _ h => (List.mem_cons_of_mem _ (List.mem_append_left _ (List.mem_append_right _ h)))) (by decide +kernel))
set_option maxRecDepth 20000 in
theorem gX3_carve_X3_letFall : GoodIn wzX3_carve (wsV RX3 168 RX3 yX3_letFall wsX3_letFall) := goodIn_app (qof qself _ (by decide +kernel)) ggX3_carve_X3_letFall
set_option maxRecDepth 20000 in
theorem ggX3_judge_X1_placesAsPlanned : GoodIn wsX3_judge wsX1_placesAsPlanned := goodIn_ca (qgood qself _ [22, 0, 0, 0, 0, 0, 0, 0, 0, 0, 0, 0, 0, 0, 0, 0, 0, 0] [0, 1, 2, 3, 4, 5, 6, 7, 8, 9, 10, 11, 12, 13, 14, 15, 16, 17] (by decide +kernel) (by decide +kernel)) (goodIn_sub (fun _ h => (List.mem_cons_of_mem _ (List.mem_append_right _ h))) (by decide +kernel))
set_option maxRecDepth 20000 in
theorem gX3_judge_X1_placesAsPlanned : GoodIn wsX3_judge (wsV RX3 284 RX1 yX1_placesAsPlanned wsX1_placesAsPlanned) := goodIn_app (qof qself _ (by decide +kernel)) ggX3_judge_X1_placesAsPlanned
set_option maxRecDepth 20000 in
theorem ggX3_take_X1_has : GoodIn wzX3_take wsX1_has := goodIn_ca (qgood qself _ [31, 0, 73, 0, 0, 0, 0, 0, 0, 0, 0, 0, 0, 0, 0, 0, 0] [0, 1, 2, 3, 4, 5, 6, 7, 8, 9, 10, 11, 12, 13, 14, 15, 16] (by decide +kernel) (by decide +kernel)) (goodIn_sub (fun _ h => (List.mem_cons_of_mem _ (List.mem_append_right _ h))) (by decide +kernel))
set_option maxRecDepth 20000 in
theorem gX3_take_X1_has : GoodIn wzX3_take (wsV RX3 146 RX1 yX1_has wsX1_has) := goodIn_app (qof qself _ (by decide +kernel)) ggX3_take_X1_has
set_option maxRecDepth 20000 in
theorem ggX3_take_X1_wouldFallWithout : GoodIn wzX3_take wsX1_wouldFallWithout := goodIn_ca (qgood qself _ [13, 11, 0, 1, 0, 0, 0, 0, 10, 0, 0, 0, 0, 0, 0, 0, 0, 0, 0, 0, 0, 0, 0, 0, 0, 0, 0, 0, 0, 0, 0, 0, 0, 0, 0, 0, 0, 0, 0, 0, 0, 0, 0, 0, 0, 0, 0, 0, 0, 22, 0, 0, 0, 0, 0, 0, 0, 0, 0, 0, 0, 0, 0, 0] [8, 7, 9, 3, 4, 5, 6, 10, 11, 12, 13, 14, 15, 16, 17, 18, 19, 20, 1, 0, 2, 21, 22, 23, 24, 25, 26, 27, 28, 29, 30, 31, 32, 33, 34, 35, 36, 37, 38, 39, 40, 41, 42, 43, 44, 45, 46, 47, 48, 49, 50, 51, 52, 53, 54, 55, 56, 57, 58, 59, 60, 61, 62, 63] (by decide +kernel) (by decide +kernel)) (goodIn_sub (fun _ h => (List.mem_cons_of_mem _ (List.mem_append_right _ h))) (by decide +kernel))
set_option maxRecDepth 20000 in
theorem gX3_take_X1_wouldFallWithout : GoodIn wzX3_take (wsV RX3 298 RX1 yX1_wouldFallWithout wsX1_wouldFallWithout) := goodIn_app (qof qself _ (by decide +kernel)) ggX3_take_X1_wouldFallWithout
set_option maxRecDepth 20000 in
theorem ggX3_take_X1_removeCell : GoodIn wzX3_take wsX1_removeCell := goodIn_ca (qgood qself _ [13, 2, 0, 12, 1, 22, 16, 4, 9, 0, 0, 0, 0, 0, 0, 0, 0, 10, 0, 0, 0, 0, 0, 0, 0, 0, 0, 0, 0, 0, 0, 0] [8, 9, 10, 11, 3, 12, 4, 5, 13, 6, 7, 1, 0, 2, 14, 15, 16, 17, 18, 19, 20, 21, 22, 23, 24, 25, 26, 27, 28, 29, 30, 31] (by decide +kernel) (by decide +kernel)) (goodIn_sub (fun _ h => (List.mem_cons_of_mem _ (List.mem_append_right _ h))) (by decide +kernel))

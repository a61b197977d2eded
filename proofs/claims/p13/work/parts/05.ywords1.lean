set_option maxRecDepth 20000 in
theorem gX3_take_X1_removeCell : GoodIn wzX3_take (wsV RX3 281 RX1 yX1_removeCell wsX1_removeCell) := goodIn_app (qof qself _ (by decide +kernel)) ggX3_take_X1_removeCell
set_option maxRecDepth 20000 in
theorem ggX3_count_X1_cellCount : GoodIn wsX3_count wsX1_cellCount := goodIn_ca (qgood qself _ [17, 0, 10, 0, 0, 0, 0, 0, 0, 0, 0, 0, 0, 0, 0, 0, 0] [0, 1, 2, 3, 4, 5, 6, 7, 8, 9, 10, 11, 12, 13, 14, 15, 16] (by decide +kernel) (by decide +kernel)) (goodIn_sub (fun _ h => (List.mem_cons_of_mem _ (List.mem_append_right _ h))) (by decide +kernel))
set_option maxRecDepth 20000 in
theorem gX3_count_X1_cellCount : GoodIn wsX3_count (wsV RX3 172 RX1 yX1_cellCount wsX1_cellCount) := goodIn_app (qof qself _ (by decide +kernel)) ggX3_count_X1_cellCount
set_option maxRecDepth 20000 in
theorem ggX3_openShare_X1_isOpenWith : GoodIn wsX3_openShare wsX1_isOpenWith := goodIn_ca (qgood qself _ [9, 15, 0, 0, 0, 0, 0, 0, 0, 0, 0, 0, 0, 0, 0, 0, 0, 0, 0, 0, 0, 0, 0, 0, 0, 0, 0, 0, 0, 0, 0, 0, 0, 0, 0, 0, 0, 0, 0, 0, 0, 14, 0, 0, 0, 0, 0, 0, 0, 0, 0, 0, 0, 0, 0, 0] [2, 3, 4, 5, 6, 7, 1, 8, 9, 10, 0, 11, 12, 13, 14, 15, 16, 17, 18, 19, 20, 21, 22, 23, 24, 25, 26, 27, 28, 29, 30, 31, 32, 33, 34, 35, 36, 37, 38, 39, 40, 41, 42, 43, 44, 45, 46, 47, 48, 49, 50, 51, 52, 53, 54, 55] (by decide +kernel) (by decide +kernel)) (goodIn_sub (fun _ h => (List.mem_cons_of_mem _ (List.mem_append_right _ h))) (by decide +kernel))
set_option maxRecDepth 20000 in
theorem gX3_openShare_X1_isOpenWith : GoodIn wsX3_openShare (wsV RX3 238 RX1 yX1_isOpenWith wsX1_isOpenWith) := goodIn_app (qof qself _ (by decide +kernel)) ggX3_openShare_X1_isOpenWith
set_option maxRecDepth 20000 in
theorem ggX3_meanCreep_X1_cellCount : GoodIn wsX3_meanCreep wsX1_cellCount := goodIn_ca (qgood qself _ [19, 0, 15, 0, 0, 0, 0, 0, 0, 0, 0, 0, 0, 0, 0, 0, 0] [0, 1, 2, 3, 4, 5, 6, 7, 8, 9, 10, 11, 12, 13, 14, 15, 16] (by decide +kernel) (by decide +kernel)) (goodIn_sub (fun _ h => (List.mem_cons_of_mem _ (List.mem_append_right _ h))) (by decide +kernel))
set_option maxRecDepth 20000 in
theorem gX3_meanCreep_X1_cellCount : GoodIn wsX3_meanCreep (wsV RX3 172 RX1 yX1_cellCount wsX1_cellCount) := goodIn_app (qof qself _ (by decide +kernel)) ggX3_meanCreep_X1_cellCount
set_option maxRecDepth 20000 in
theorem ggX3_meanCreep_X1_creepSum : GoodIn wsX3_meanCreep wsX1_creepSum := goodIn_ca (qgood qself _ [20, 3, 0, 10, 0, 0, 0, 0, 0, 0, 0, 0, 0, 0, 0, 0, 0, 0] [1, 0, 2, 3, 4, 5, 6, 7, 8, 9, 10, 11, 12, 13, 14, 15, 16, 17] (by decide +kernel) (by decide +kernel)) (goodIn_sub (fun _ h => (List.mem_cons_of_mem _ (List.mem_append_right _ h))) (by decide +kernel))
set_option maxRecDepth 20000 in
theorem gX3_meanCreep_X1_creepSum : GoodIn wsX3_meanCreep (wsV RX3 311 RX1 yX1_creepSum wsX1_creepSum) := goodIn_app (qof qself _ (by decide +kernel)) ggX3_meanCreep_X1_creepSum
set_option maxRecDepth 20000 in
theorem ggX3_checksum_X1_has : GoodIn wsX3_checksum wsX1_has := goodIn_ca (qgood qself _ [23, 0, 10, 0, 0, 0, 0, 0, 0, 0, 0, 0, 0, 0, 0, 0, 0] [0, 1, 2, 3, 4, 5, 6, 7, 8, 9, 10, 11, 12, 13, 14, 15, 16] (by decide +kernel) (by decide +kernel)) (goodIn_sub (fun _ h => (List.mem_cons_of_mem _ (List.mem_append_right _ h))) (by decide +kernel))
set_option maxRecDepth 20000 in
theorem gX3_checksum_X1_has : GoodIn wsX3_checksum (wsV RX3 146 RX1 yX1_has wsX1_has) := goodIn_app (qof qself _ (by decide +kernel)) ggX3_checksum_X1_has
set_option maxRecDepth 20000 in
theorem ggX3_isSound_X1_bearsItself : GoodIn wsX3_isSound wsX1_bearsItself := goodIn_ca (qgood qself _ [8, 8, 0, 0, 0, 0, 0, 0, 0, 0, 0, 0, 0, 0, 0, 0, 0, 0, 0, 0, 0, 0, 0, 0, 0, 0, 0, 0, 13, 0, 0, 0, 0, 0, 0, 0, 0, 0, 0, 0, 0, 0, 0] [2, 3, 4, 5, 6, 7, 1, 8, 9, 0, 10, 11, 12, 13, 14, 15, 16, 17, 18, 19, 20, 21, 22, 23, 24, 25, 26, 27, 28, 29, 30, 31, 32, 33, 34, 35, 36, 37, 38, 39, 40, 41, 42] (by decide +kernel) (by decide +kernel)) (goodIn_sub (fun _ h => (List.mem_cons_of_mem _ (List.mem_append_right _ h))) (by decide +kernel))
set_option maxRecDepth 20000 in
theorem gX3_isSound_X1_bearsItself : GoodIn wsX3_isSound (wsV RX3 318 RX1 yX1_bearsItself wsX1_bearsItself) := goodIn_app (qof qself _ (by decide +kernel)) ggX3_isSound_X1_bearsItself
set_option maxRecDepth 20000 in
theorem ggX3_letFall_X2_warmthOf : GoodIn wsX3_letFall wsX2_warmthOf := goodIn_ca (qgood qself _ [8, 0, 0, 0, 0, 0, 79, 0, 0, 0] [0, 1, 2, 3, 4, 5, 6, 7, 8, 9] (by decide +kernel) (by decide +kernel)) (goodIn_sub (fun _ h => (List.mem_cons_of_mem _ (List.mem_append_right _ h))) (by decide +kernel))
set_option maxRecDepth 20000 in
theorem gX3_letFall_X2_warmthOf : GoodIn wsX3_letFall (wsV RX3 83 RX2 yX2_warmthOf wsX2_warmthOf) := goodIn_app (qof qself _ (by decide +kernel)) ggX3_letFall_X2_warmthOf
set_option maxRecDepth 20000 in
theorem ggX3_letFall_X1_settle : GoodIn wsX3_letFall wsX1_settle := goodIn_ca (qgood qself _ [11, 0, 0, 3, 0, 0, 0, 0, 0, 0, 0, 0, 0, 0, 0, 0, 0, 0, 0, 0, 0, 0, 0, 0, 0, 0, 0, 0, 0, 0, 0, 0, 0, 0, 0, 0, 0, 0, 0, 0, 0, 0, 0, 0, 0, 0, 0, 0, 0, 0, 0, 0, 0, 0, 0, 0, 0, 0, 0, 0, 0, 0, 0, 0, 0, 0, 0, 0, 0, 14, 0, 0, 0, 0, 0, 0, 0, 0, 0, 0, 0, 0, 0, 0] [4, 5, 6, 7, 3, 8, 9, 10, 11, 12, 13, 14, 15, 16, 1, 17, 18, 19, 20, 21, 22, 23, 24, 25, 26, 27, 28, 29, 30, 31, 32, 33, 34, 35, 36, 37, 38, 39, 40, 41, 42, 43, 44, 45, 46, 47, 48, 49, 50, 51, 52, 53, 54, 55, 56, 57, 58, 59, 60, 61, 62, 63, 64, 65, 0, 2, 66, 67, 68, 69, 70, 71, 72, 73, 74, 75, 76, 77, 78, 79, 80, 81, 82, 83] (by decide +kernel) (by decide +kernel)) (goodIn_sub (fun _ h => (List.mem_cons_of_mem _ (List.mem_append_right _ h))) (by decide +kernel))
set_option maxRecDepth 20000 in
theorem gX3_letFall_X1_settle : GoodIn wsX3_letFall (wsV RX3 327 RX1 yX1_settle wsX1_settle) := goodIn_app (qof qself _ (by decide +kernel)) ggX3_letFall_X1_settle
set_option maxRecDepth 20000 in
theorem ggX3_passHour_X1_wear : GoodIn wsX3_passHour wsX1_wear := goodIn_ca (qgood qself _ [15, 0, 0, 40, 0, 0, 0, 0, 0, 0, 0, 0, 0, 0, 0, 0, 0, 0, 0, 0, 0, 0, 0, 0, 0, 0, 0, 0, 0, 0, 0, 0, 51, 0, 0, 0, 0, 0, 0, 0, 0, 0, 0, 0, 0, 0, 0] [4, 5, 6, 0, 1, 2, 7, 8, 9, 3, 10, 11, 12, 13, 14, 15, 16, 17, 18, 19, 20, 21, 22, 23, 24, 25, 26, 27, 28, 29, 30, 31, 32, 33, 34, 35, 36, 37, 38, 39, 40, 41, 42, 43, 44, 45, 46] (by decide +kernel) (by decide +kernel)) (goodIn_sub (fun _ h => (List.mem_cons_of_mem _ (List.mem_append_left _ (List.mem_append_right _ h)))) (by decide +kernel))
set_option maxRecDepth 20000 in
theorem gX3_passHour_X1_wear : GoodIn wsX3_passHour (wsV RX3 335 RX1 yX1_wear wsX1_wear) := goodIn_app (qof qself _ (by decide +kernel)) ggX3_passHour_X1_wear
set_option maxRecDepth 20000 in
theorem ggX3_passHour_X1_settle : GoodIn wsX3_passHour wsX1_settle := goodIn_ca (qgood qself _ [15, 0, 0, 7, 0, 0, 2, 0, 26, 1, 0, 0, 0, 0, 0, 0, 0, 0, 0, 0, 0, 0, 0, 0, 0, 0, 0, 0, 0, 0, 0, 0, 0, 0, 0, 0, 3, 0, 0, 0, 0, 0, 0, 0, 0, 0, 0, 0, 0, 0, 0, 0, 0, 0, 0, 0, 0, 0, 0, 0, 0, 0, 0, 0, 0, 0, 0, 0, 0, 15, 0, 0, 0, 0, 0, 0, 0, 0, 0, 0, 0, 0, 0, 0] [36, 37, 38, 39, 8, 40, 9, 41, 42, 43, 44, 45, 10, 46, 1, 47, 11, 12, 13, 14, 15, 48, 49, 50, 51, 52, 53, 54, 55, 56, 57, 58, 59, 60, 61, 62, 63, 31, 64, 6, 4, 7, 32, 65, 3, 5, 66, 67, 68, 16, 17, 18, 19, 20, 21, 22, 23, 24, 25, 26, 27, 28, 29, 30, 0, 2, 33, 34, 35, 69, 70, 71, 72, 73, 74, 75, 76, 77, 78, 79, 80, 81, 82, 83] (by decide +kernel) (by decide +kernel)) (goodIn_sub (fun _ h => (List.mem_cons_of_mem _ (List.mem_append_left _ (List.mem_append_right _ h)))) (by decide +kernel))
set_option maxRecDepth 20000 in
theorem gX3_passHour_X1_settle : GoodIn wsX3_passHour (wsV RX3 327 RX1 yX1_settle wsX1_settle) := goodIn_app (qof qself _ (by decide +kernel)) ggX3_passHour_X1_settle
set_option maxRecDepth 20000 in
theorem ggX3_passHour_X1_growOld : GoodIn wsX3_passHour wsX1_growOld := goodIn_ca (qgood qself _ [25, 0, 0, 30, 3, 0, 0, 0, 0, 14, 0, 0, 11, 23, 6, 0, 10, 0, 0, 0, 0, 0, 0, 0, 0, 0, 0, 0, 0, 0, 0] [14, 12, 13, 0, 1, 2, 15, 9, 11, 10, 4, 5, 6, 3, 7, 8, 16, 17, 18, 19, 20, 21, 22, 23, 24, 25, 26, 27, 28, 29, 30] (by decide +kernel) (by decide +kernel)) (goodIn_sub (fun _ h => (List.mem_cons_of_mem _ (List.mem_append_left _ (List.mem_append_right _ h)))) (by decide +kernel))
set_option maxRecDepth 20000 in
theorem gX3_passHour_X1_growOld : GoodIn wsX3_passHour (wsV RX3 339 RX1 yX1_growOld wsX1_growOld) := goodIn_app (qof qself _ (by decide +kernel)) ggX3_passHour_X1_growOld
set_option maxRecDepth 20000 in
theorem ggX5_has_X6_isBetween : GoodIn wsX5_has wsX6_isBetween := qgood qself _ [6] [0] (by decide +kernel) (by decide +kernel)
set_option maxRecDepth 20000 in
theorem gX5_has_X6_isBetween_n31 : GoodIn wsX5_has (wsX6_isBetween) := ggX5_has_X6_isBetween
set_option maxRecDepth 20000 in
theorem ggX5_isBorne_X5_has : GoodIn wsX5_isBorne wsX5_has := qgood qself _ [5, 0, 0, 0, 0, 0, 0, 0, 0, 0, 0, 0, 0, 0, 0, 0, 0] [0, 1, 2, 3, 4, 5, 6, 7, 8, 9, 10, 11, 12, 13, 14, 15, 16] (by decide +kernel) (by decide +kernel)
set_option maxRecDepth 20000 in
theorem gX5_isBorne_X5_has : GoodIn wsX5_isBorne (wsV RX5 37 RX5 yX5_has wsX5_has) := goodIn_app (qof qself _ (by decide +kernel)) ggX5_isBorne_X5_has
set_option maxRecDepth 20000 in
theorem ggX5_isArch_X5_has : GoodIn wsX5_isArch wsX5_has := qgood qself _ [5, 0, 0, 0, 0, 0, 0, 4, 0, 0, 0, 0, 0, 0, 0, 0, 0] [0, 1, 2, 3, 4, 5, 6, 7, 8, 9, 10, 11, 12, 13, 14, 15, 16] (by decide +kernel) (by decide +kernel)
set_option maxRecDepth 20000 in
theorem gX5_isArch_X5_has : GoodIn wsX5_isArch (wsV RX5 37 RX5 yX5_has wsX5_has) := goodIn_app (qof qself _ (by decide +kernel)) ggX5_isArch_X5_has
set_option maxRecDepth 20000 in
theorem ggX5_isArch_X5_isBorne : GoodIn wsX5_isArch wsX5_isBorne := qgood qself _ [1, 0, 0, 0, 0, 0, 0, 0, 0, 0, 0, 3, 0, 0, 0, 0, 0, 0, 0, 0, 0, 0] [11, 0, 1, 2, 3, 4, 5, 6, 7, 8, 9, 10, 12, 13, 14, 15, 16, 17, 18, 19, 20, 21] (by decide +kernel) (by decide +kernel)
set_option maxRecDepth 20000 in
theorem gX5_isArch_X5_isBorne : GoodIn wsX5_isArch (wsV RX5 41 RX5 yX5_isBorne wsX5_isBorne) := goodIn_app (qof qself _ (by decide +kernel)) ggX5_isArch_X5_isBorne
set_option maxRecDepth 20000 in
theorem ggX5_stands_X5_has : GoodIn wsX5_stands wsX5_has := qgood qself _ [5, 0, 0, 0, 0, 0, 0, 8, 0, 0, 0, 0, 0, 0, 0, 0, 0] [0, 1, 2, 3, 4, 5, 6, 7, 8, 9, 10, 11, 12, 13, 14, 15, 16] (by decide +kernel) (by decide +kernel)
set_option maxRecDepth 20000 in
theorem gX5_stands_X5_has : GoodIn wsX5_stands (wsV RX5 37 RX5 yX5_has wsX5_has) := goodIn_app (qof qself _ (by decide +kernel)) ggX5_stands_X5_has
set_option maxRecDepth 20000 in
theorem ggX5_stands_X5_isArch : GoodIn wsX5_stands wsX5_isArch := qgood qself _ [1, 0, 0, 0, 0, 0, 0, 0, 0, 0, 0, 3, 0, 0, 0, 0, 0, 0, 0, 0, 0, 0, 0, 0, 0, 0] [11, 0, 1, 2, 3, 4, 5, 6, 7, 8, 9, 10, 12, 13, 14, 15, 16, 17, 18, 19, 20, 21, 22, 23, 24, 25] (by decide +kernel) (by decide +kernel)
set_option maxRecDepth 20000 in
theorem gX5_stands_X5_isArch : GoodIn wsX5_stands (wsV RX5 44 RX5 yX5_isArch wsX5_isArch) := goodIn_app (qof qself _ (by decide +kernel)) ggX5_stands_X5_isArch
set_option maxRecDepth 20000 in
theorem ggX5_loads_X5_has : GoodIn wsX5_loads wsX5_has := qgood qself _ [3, 4, 0, 0, 0, 0, 0, 12, 0, 0, 0, 0, 0, 0, 0, 0, 0] [1, 2, 3, 0, 4, 5, 6, 7, 8, 9, 10, 11, 12, 13, 14, 15, 16] (by decide +kernel) (by decide +kernel)
set_option maxRecDepth 20000 in
theorem gX5_loads_X5_has : GoodIn wsX5_loads (wsV RX5 37 RX5 yX5_has wsX5_has) := goodIn_app (qof qself _ (by decide +kernel)) ggX5_loads_X5_has
set_option maxRecDepth 20000 in
theorem ggX5_loads_X5_top : GoodIn wsX5_loads wsX5_top := qgood qself _ [3, 0, 0, 0, 0, 0, 0, 0, 0, 0, 0, 3, 8, 0, 0, 0, 0, 0, 0, 0, 0, 0] [11, 1, 2, 3, 4, 5, 6, 7, 0, 8, 9, 10, 12, 13, 14, 15, 16, 17, 18, 19, 20, 21] (by decide +kernel) (by decide +kernel)
set_option maxRecDepth 20000 in
theorem gX5_loads_X5_top : GoodIn wsX5_loads (wsV RX5 49 RX5 yX5_top wsX5_top) := goodIn_app (qof qself _ (by decide +kernel)) ggX5_loads_X5_top
set_option maxRecDepth 20000 in
theorem ggX5_loads_X5_isArch : GoodIn wsX5_loads wsX5_isArch := qgood qself _ [3, 0, 0, 0, 0, 0, 0, 0, 0, 0, 0, 7, 0, 0, 0, 0, 0, 0, 0, 0, 0, 0, 0, 0, 0, 0] [11, 1, 2, 3, 4, 5, 6, 7, 0, 8, 9, 10, 12, 13, 14, 15, 16, 17, 18, 19, 20, 21, 22, 23, 24, 25] (by decide +kernel) (by decide +kernel)
set_option maxRecDepth 20000 in
theorem gX5_loads_X5_isArch : GoodIn wsX5_loads (wsV RX5 44 RX5 yX5_isArch wsX5_isArch) := goodIn_app (qof qself _ (by decide +kernel)) ggX5_loads_X5_isArch
set_option maxRecDepth 20000 in
theorem ggX5_top_X5_has : GoodIn wsX5_top wsX5_has := qgood qself _ [5, 0, 0, 0, 0, 0, 0, 0, 0, 0, 0, 0, 0, 0, 0, 0, 0] [0, 1, 2, 3, 4, 5, 6, 7, 8, 9, 10, 11, 12, 13, 14, 15, 16] (by decide +kernel) (by decide +kernel)
set_option maxRecDepth 20000 in
theorem gX5_top_X5_has : GoodIn wsX5_top (wsV RX5 37 RX5 yX5_has wsX5_has) := goodIn_app (qof qself _ (by decide +kernel)) ggX5_top_X5_has
set_option maxRecDepth 20000 in
theorem ggX5_weak_X5_loads : GoodIn wsX5_weak wsX5_loads := goodIn_ca (qgood qself _ [6, 0, 0, 0, 0, 0, 0, 0, 0, 0, 0, 0, 0, 0, 0, 0, 0, 0, 0, 0, 0, 0, 0, 0, 0, 0, 15, 0, 0, 0, 0, 0, 0, 0, 0, 0, 0, 0, 0, 0, 0] [1, 2, 3, 4, 5, 6, 7, 0, 8, 9, 10, 11, 12, 13, 14, 15, 16, 17, 18, 19, 20, 21, 22, 23, 24, 25, 26, 27, 28, 29, 30, 31, 32, 33, 34, 35, 36, 37, 38, 39, 40] (by decide +kernel) (by decide +kernel)) (goodIn_sub (fun _ h => (List.mem_cons_of_mem _ (List.mem_append_right _ h))) (by decide +kernel))
set_option maxRecDepth 20000 in
theorem gX5_weak_X5_loads : GoodIn wsX5_weak (wsV RX5 84 RX5 yX5_loads wsX5_loads) := goodIn_app (qof qself _ (by decide +kernel)) ggX5_weak_X5_loads
set_option maxRecDepth 20000 in
theorem ggX5_weak_X5_has : GoodIn wsX5_weak wsX5_has := qgood qself _ [10, 3, 0, 0, 0, 0, 0, 27, 0, 0, 0, 0, 0, 0, 0, 0, 0] [1, 2, 3, 0, 4, 5, 6, 7, 8, 9, 10, 11, 12, 13, 14, 15, 16] (by decide +kernel) (by decide +kernel)
set_option maxRecDepth 20000 in
theorem gX5_weak_X5_has : GoodIn wsX5_weak (wsV RX5 37 RX5 yX5_has wsX5_has) := goodIn_app (qof qself _ (by decide +kernel)) ggX5_weak_X5_has
set_option maxRecDepth 20000 in
theorem ggX5_weak_X5_stands : GoodIn wsX5_weak wsX5_stands := qgood qself _ [6, 3, 0, 0, 0, 0, 0, 0, 0, 0, 0, 4, 0, 0, 0, 0, 0, 0, 0, 3, 11, 0, 0, 0, 0, 0, 0, 0, 0, 0] [19, 2, 3, 4, 0, 5, 6, 7, 1, 8, 9, 10, 11, 12, 13, 14, 15, 16, 17, 18, 20, 21, 22, 23, 24, 25, 26, 27, 28, 29] (by decide +kernel) (by decide +kernel)
set_option maxRecDepth 20000 in
theorem gX5_weak_X5_stands : GoodIn wsX5_weak (wsV RX5 88 RX5 yX5_stands wsX5_stands) := goodIn_app (qof qself _ (by decide +kernel)) ggX5_weak_X5_stands
set_option maxRecDepth 20000 in
theorem ggX5_weak_X5_strength : GoodIn wsX5_weak wsX5_strength := qgood qself _ [10, 28, 0, 0, 0, 0, 0, 0, 0, 0, 0, 0, 0, 0, 0, 0, 0, 0, 0, 0, 0, 0, 0, 0] [1, 0, 2, 3, 4, 5, 6, 7, 8, 9, 10, 11, 12, 13, 14, 15, 16, 17, 18, 19, 20, 21, 22, 23] (by decide +kernel) (by decide +kernel)
set_option maxRecDepth 20000 in
theorem gX5_weak_X5_strength : GoodIn wsX5_weak (wsV RX5 91 RX5 yX5_strength wsX5_strength) := goodIn_app (qof qself _ (by decide +kernel)) ggX5_weak_X5_strength
set_option maxRecDepth 20000 in
theorem ggX5_settles_X5_weak : GoodIn wsX5_settles wsX5_weak := goodIn_ca (qgood qself _ [4, 0, 0, 0, 0, 0, 0, 0, 0, 0, 0, 0, 0, 0, 0, 0, 0, 0, 0, 0, 0, 0, 0, 0, 0, 0, 0, 0, 0, 0, 0, 0, 0, 0, 0, 0, 0, 0, 0, 0, 0, 0, 0, 0, 0, 0, 0, 7, 0, 0, 0, 0, 0, 0, 0, 0, 0, 0, 0, 0, 0, 0] [1, 2, 3, 4, 5, 6, 0, 7, 8, 9, 10, 11, 12, 13, 14, 15, 16, 17, 18, 19, 20, 21, 22, 23, 24, 25, 26, 27, 28, 29, 30, 31, 32, 33, 34, 35, 36, 37, 38, 39, 40, 41, 42, 43, 44, 45, 46, 47, 48, 49, 50, 51, 52, 53, 54, 55, 56, 57, 58, 59, 60, 61] (by decide +kernel) (by decide +kernel)) (goodIn_sub (fun _ h => (List.mem_cons_of_mem _ (List.mem_append_right _ h))) (by decide +kernel))
set_option maxRecDepth 20000 in
theorem gX5_settles_X5_weak : GoodIn wsX5_settles (wsV RX5 95 RX5 yX5_weak wsX5_weak) := goodIn_app (qof qself _ (by decide +kernel)) ggX5_settles_X5_weak
set_option maxRecDepth 20000 in
theorem ggX5_settles_X5_falls : GoodIn wsX5_settles wsX5_falls := goodIn_ca (qgood qself _ [14, 39, 0, 0, 0, 0, 0, 0, 0, 0, 0, 0, 0, 0, 0, 5, 0, 0, 0, 0, 0, 0, 0, 0, 0, 0] [1, 0, 2, 3, 4, 5, 6, 7, 8, 9, 10, 11, 12, 13, 14, 15, 16, 17, 18, 19, 20, 21, 22, 23, 24, 25] (by decide +kernel) (by decide +kernel)) (goodIn_sub (fun _ h => (List.mem_cons_of_mem _ (List.mem_append_right _ h))) (by decide +kernel))
set_option maxRecDepth 20000 in
theorem gX5_settles_X5_falls : GoodIn wsX5_settles (wsV RX5 99 RX5 yX5_falls wsX5_falls) := goodIn_app (qof qself _ (by decide +kernel)) ggX5_settles_X5_falls
set_option maxRecDepth 20000 in
theorem ggX5_goes_X6_isBetween : GoodIn wsX5_goes wsX6_isBetween := qgood qself _ [15] [0] (by decide +kernel) (by decide +kernel)
set_option maxRecDepth 20000 in
theorem gX5_goes_X6_isBetween_n31 : GoodIn wsX5_goes (wsX6_isBetween) := ggX5_goes_X6_isBetween
set_option maxRecDepth 20000 in
theorem ggX5_goes_X5_has : GoodIn wsX5_goes wsX5_has := qgood qself _ [7, 5, 0, 0, 4, 0, 0, 43, 0, 0, 0, 0, 0, 0, 0, 0, 0] [4, 5, 6, 0, 1, 2, 3, 7, 8, 9, 10, 11, 12, 13, 14, 15, 16] (by decide +kernel) (by decide +kernel)
set_option maxRecDepth 20000 in
theorem gX5_goes_X5_has : GoodIn wsX5_goes (wsV RX5 37 RX5 yX5_has wsX5_has) := goodIn_app (qof qself _ (by decide +kernel)) ggX5_goes_X5_has
set_option maxRecDepth 20000 in
theorem ggX5_goes_X5_falls : GoodIn wsX5_goes wsX5_falls := goodIn_ca (qgood qself _ [3, 3, 18, 0, 0, 37, 0, 0, 0, 0, 0, 0, 0, 0, 0, 0, 0, 0, 0, 0, 0, 0, 0, 0, 0, 0] [2, 1, 3, 4, 0, 5, 6, 7, 8, 9, 10, 11, 12, 13, 14, 15, 16, 17, 18, 19, 20, 21, 22, 23, 24, 25] (by decide +kernel) (by decide +kernel)) (goodIn_sub (fun _ h => (List.mem_cons_of_mem _ (List.mem_append_right _ h))) (by decide +kernel))
set_option maxRecDepth 20000 in
theorem gX5_goes_X5_falls : GoodIn wsX5_goes (wsV RX5 99 RX5 yX5_falls wsX5_falls) := goodIn_app (qof qself _ (by decide +kernel)) ggX5_goes_X5_falls
set_option maxRecDepth 20000 in
theorem ggX5_goes_X5_settles : GoodIn wsX5_goes wsX5_settles := goodIn_ca (qgood qself _ [1, 0, 0, 3, 0, 0, 0, 0, 1, 0, 0, 0, 0, 0, 0, 0, 0, 0, 0, 0, 0, 0, 0, 0, 3, 0, 0, 0, 0, 0, 0, 0, 0, 0, 0, 0, 0, 0, 0, 0, 0, 0, 0, 0, 0, 0, 0, 0, 0, 0, 0, 0, 0, 0, 0, 0, 0, 0, 0, 0, 0, 0, 0, 0, 0, 0, 0, 0, 0, 0, 0, 0, 0, 0, 0, 0, 0, 0, 0, 0, 0, 0, 0, 0] [24, 25, 26, 27, 14, 28, 0, 1, 29, 30, 31, 32, 33, 34, 3, 11, 12, 13, 15, 16, 17, 8, 9, 10, 35, 36, 37, 38, 39, 40, 41, 42, 43, 44, 45, 46, 47, 48, 49, 50, 51, 52, 53, 54, 55, 56, 6, 57, 4, 5, 7, 18, 19, 20, 21, 22, 23, 2, 58, 59, 60, 61, 62, 63, 64, 65, 66, 67, 79, 80, 81, 82, 83, 68, 69, 70, 71, 72, 73, 74, 75, 76, 77, 78] (by decide +kernel) (by decide +kernel)) (goodIn_sub (fun _ h => (List.mem_cons_of_mem _ (List.mem_append_right _ h))) (by decide +kernel))
set_option maxRecDepth 20000 in
theorem gX5_goes_X5_settles : GoodIn wsX5_goes (wsV RX5 116 RX5 yX5_settles wsX5_settles) := goodIn_app (qof qself _ (by decide +kernel)) ggX5_goes_X5_settles
set_option maxRecDepth 20000 in
theorem ggX5_goes_X5_loads : GoodIn wsX5_goes wsX5_loads := goodIn_ca (qgood qself _ [7, 5, 0, 0, 0, 0, 0, 0, 0, 0, 0, 17, 0, 0, 0, 0, 0, 0, 0, 0, 0, 0, 0, 0, 0, 0, 11, 0, 0, 0, 0, 0, 0, 0, 0, 0, 11, 0, 0, 0, 0] [11, 12, 13, 0, 4, 5, 6, 7, 8, 9, 10, 1, 2, 3, 14, 15, 16, 17, 18, 19, 20, 21, 22, 23, 24, 25, 26, 27, 28, 29, 30, 31, 32, 33, 34, 35, 36, 37, 38, 39, 40] (by decide +kernel) (by decide +kernel)) (goodIn_sub (fun _ h => (List.mem_cons_of_mem _ (List.mem_append_right _ h))) (by decide +kernel))
set_option maxRecDepth 20000 in
theorem gX5_goes_X5_loads : GoodIn wsX5_goes (wsV RX5 84 RX5 yX5_loads wsX5_loads) := goodIn_app (qof qself _ (by decide +kernel)) ggX5_goes_X5_loads
set_option maxRecDepth 20000 in
theorem ggX5_isOpen_X5_loads : GoodIn wsX5_isOpen wsX5_loads := goodIn_ca (qgood qself _ [2, 3, 0, 0, 0, 0, 0, 0, 0, 0, 0, 0, 0, 0, 0, 0, 0, 0, 0, 0, 0, 0, 0, 0, 0, 0, 19, 0, 0, 0, 0, 0, 0, 0, 0, 0, 11, 0, 0, 0, 0] [2, 3, 4, 0, 5, 6, 7, 1, 8, 9, 10, 11, 12, 13, 14, 15, 16, 17, 18, 19, 20, 21, 22, 23, 24, 25, 26, 27, 28, 29, 30, 31, 32, 33, 34, 35, 36, 37, 38, 39, 40] (by decide +kernel) (by decide +kernel)) (goodIn_sub (fun _ h => (List.mem_cons_of_mem _ (List.mem_append_right _ h))) (by decide +kernel))
set_option maxRecDepth 20000 in
theorem gX5_isOpen_X5_loads : GoodIn wsX5_isOpen (wsV RX5 84 RX5 yX5_loads wsX5_loads) := goodIn_app (qof qself _ (by decide +kernel)) ggX5_isOpen_X5_loads
set_option maxRecDepth 20000 in
theorem ggX5_isOpen_X6_warmthOf : GoodIn wsX5_isOpen wsX6_warmthOf := goodIn_ca (qgood qself _ [33, 0, 25, 0, 0, 0, 0, 0, 0, 0, 0, 0, 0] [0, 1, 2, 3, 4, 5, 6, 7, 8, 9, 10, 11, 12] (by decide +kernel) (by decide +kernel)) (goodIn_sub (fun _ h => (List.mem_cons_of_mem _ (List.mem_append_right _ h))) (by decide +kernel))
set_option maxRecDepth 20000 in
theorem gX5_isOpen_X6_warmthOf_n123 : GoodIn wsX5_isOpen (wsX6_warmthOf) := ggX5_isOpen_X6_warmthOf
set_option maxRecDepth 20000 in
theorem ggX5_isOpen_X5_many : GoodIn wsX5_isOpen wsX5_many := qgood qself _ [2, 35, 11, 0, 0, 0, 0, 0, 0, 0, 0, 0] [1, 0, 2, 3, 4, 5, 6, 7, 8, 9, 10, 11] (by decide +kernel) (by decide +kernel)
set_option maxRecDepth 20000 in
theorem gX5_isOpen_X5_many : GoodIn wsX5_isOpen (wsV RX5 126 RX5 yX5_many wsX5_many) := goodIn_app (qof qself _ (by decide +kernel)) ggX5_isOpen_X5_many
set_option maxRecDepth 20000 in
theorem ggX5_isOpen_X5_has : GoodIn wsX5_isOpen wsX5_has := qgood qself _ [2, 10, 0, 0, 0, 0, 0, 31, 0, 0, 0, 0, 0, 0, 0, 0, 0] [1, 2, 3, 0, 4, 5, 6, 7, 8, 9, 10, 11, 12, 13, 14, 15, 16] (by decide +kernel) (by decide +kernel)
set_option maxRecDepth 20000 in
theorem gX5_isOpen_X5_has : GoodIn wsX5_isOpen (wsV RX5 37 RX5 yX5_has wsX5_has) := goodIn_app (qof qself _ (by decide +kernel)) ggX5_isOpen_X5_has
set_option maxRecDepth 20000 in
theorem ggX5_isOpen_X5_strength : GoodIn wsX5_isOpen wsX5_strength := qgood qself _ [2, 39, 0, 0, 0, 0, 0, 0, 0, 0, 0, 0, 0, 0, 0, 0, 0, 0, 0, 11, 0, 0, 0, 0] [1, 0, 2, 3, 4, 5, 6, 7, 8, 9, 10, 11, 12, 13, 14, 15, 16, 17, 18, 19, 20, 21, 22, 23] (by decide +kernel) (by decide +kernel)
set_option maxRecDepth 20000 in
theorem gX5_isOpen_X5_strength : GoodIn wsX5_isOpen (wsV RX5 91 RX5 yX5_strength wsX5_strength) := goodIn_app (qof qself _ (by decide +kernel)) ggX5_isOpen_X5_strength
set_option maxRecDepth 20000 in
theorem ggX6_go_Jx35411_next_0502b : GoodIn wsX6_go wsJx35411_next_0502b := qgood qself _ [45, 3, 3, 0, 0, 0, 4, 3, 0, 0, 0, 0, 0, 72, 0, 0, 0, 0, 0, 0] [7, 6, 1, 8, 2, 9, 10, 11, 0, 12, 3, 4, 5, 13, 14, 15, 16, 17, 18, 19] (by decide +kernel) (by decide +kernel)
set_option maxRecDepth 20000 in
theorem gX6_go_Jx35411_next_0502b_f121Jx35411 : GoodIn wsX6_go (va_wsF RX6 121 RJx35411 ⟨"java/util/Iterator", "next", "()Ljava/lang/Object;"⟩ yJx35411_next_0502b wsJx35411_next_0502b) := goodIn_app (qof qself _ (by decide +kernel)) ggX6_go_Jx35411_next_0502b
set_option maxRecDepth 20000 in
theorem ggX6_go_X5_goes : GoodIn wsX6_go wsX5_goes := goodIn_ca (qgood qself _ [6, 0, 0, 16, 0, 0, 2, 0, 42, 0, 0, 0, 0, 0, 0, 0, 0, 0, 0, 0, 0, 0, 0, 0, 0, 0, 0, 0, 0, 0, 0, 0, 0, 0, 0, 0, 0, 0, 0, 0, 0, 0, 0, 0, 0, 0, 0, 0, 0, 0, 0, 0, 0, 0, 0, 0, 0, 0, 0, 0, 0, 0, 0, 0, 0, 0, 0, 0, 0, 0, 0, 0, 0, 0, 0, 0, 0, 7, 0, 0, 0, 0, 0, 0, 0, 0, 0, 0, 0, 0, 0, 0] [9, 10, 11, 12, 13, 14, 15, 16, 17, 6, 4, 7, 18, 0, 1, 2, 19, 20, 21, 8, 22, 23, 24, 25, 26, 27, 28, 29, 30, 31, 32, 33, 34, 35, 36, 37, 38, 39, 40, 41, 42, 43, 44, 45, 46, 47, 48, 49, 50, 51, 52, 53, 54, 55, 56, 57, 58, 59, 60, 61, 62, 63, 64, 65, 3, 5, 77, 78, 79, 80, 81, 82, 83, 84, 85, 86, 66, 67, 68, 69, 70, 71, 72, 73, 74, 75, 76, 87, 88, 89, 90, 91] (by decide +kernel) (by decide +kernel)) (goodIn_sub (fun _ h => (List.mem_cons_of_mem _ (List.mem_append_left _ (List.mem_append_right _ h)))) (by decide +kernel))
set_option maxRecDepth 20000 in
theorem gX6_go_X5_goes : GoodIn wsX6_go (wsV RX6 127 RX5 yX5_goes wsX5_goes) := goodIn_app (qof qself _ (by decide +kernel)) ggX6_go_X5_goes
set_option maxRecDepth 20000 in
theorem ggX6_isNoCell_Jx4a65c_get_915e3 : GoodIn wsX6_isNoCell wsJx4a65c_get_915e3 := qgood qself _ [13, 1, 11, 0, 0, 0, 0, 0, 0, 0, 0, 0, 0, 0, 0, 0, 19, 0, 0] [2, 1, 3, 4, 5, 6, 7, 8, 9, 10, 11, 12, 13, 0, 14, 15, 16, 17, 18] (by decide +kernel) (by decide +kernel)
set_option maxRecDepth 20000 in
theorem gX6_isNoCell_Jx4a65c_get_915e3_f149Jx4a65c : GoodIn wsX6_isNoCell (va_wsF RX6 149 RJx4a65c ⟨"java/util/List", "get", "(I)Ljava/lang/Object;"⟩ yJx4a65c_get_915e3 wsJx4a65c_get_915e3) := goodIn_app (qof qself _ (by decide +kernel)) ggX6_isNoCell_Jx4a65c_get_915e3
set_option maxRecDepth 20000 in
theorem ggX6_isNoCell_X5_has : GoodIn wsX6_isNoCell wsX5_has := qgood qself _ [6, 10, 0, 26, 0, 0, 0, 14, 0, 0, 0, 0, 0, 0, 0, 0, 0] [3, 4, 5, 6, 1, 0, 2, 7, 8, 9, 10, 11, 12, 13, 14, 15, 16] (by decide +kernel) (by decide +kernel)
set_option maxRecDepth 20000 in
theorem gX6_isNoCell_X5_has : GoodIn wsX6_isNoCell (wsV RX6 153 RX5 yX5_has wsX5_has) := goodIn_app (qof qself _ (by decide +kernel)) ggX6_isNoCell_X5_has
set_option maxRecDepth 20000 in
theorem ggX6_put_Jx4a65c_get_915e3 : GoodIn wsX6_put wsJx4a65c_get_915e3 := qgood qself _ [20, 1, 11, 0, 0, 0, 0, 0, 0, 0, 0, 0, 0, 0, 0, 0, 103, 0, 0] [2, 1, 3, 4, 5, 6, 7, 8, 9, 10, 11, 12, 13, 0, 14, 15, 16, 17, 18] (by decide +kernel) (by decide +kernel)
set_option maxRecDepth 20000 in
theorem gX6_put_Jx4a65c_get_915e3_f149Jx4a65c : GoodIn wsX6_put (va_wsF RX6 149 RJx4a65c ⟨"java/util/List", "get", "(I)Ljava/lang/Object;"⟩ yJx4a65c_get_915e3 wsJx4a65c_get_915e3) := goodIn_app (qof qself _ (by decide +kernel)) ggX6_put_Jx4a65c_get_915e3
set_option maxRecDepth 20000 in
theorem ggX6_put_X5_has : GoodIn wsX6_put wsX5_has := qgood qself _ [13, 10, 0, 26, 0, 0, 0, 80, 0, 0, 0, 0, 0, 0, 0, 0, 0] [3, 4, 5, 6, 1, 0, 2, 7, 8, 9, 10, 11, 12, 13, 14, 15, 16] (by decide +kernel) (by decide +kernel)
set_option maxRecDepth 20000 in
theorem gX6_put_X5_has : GoodIn wsX6_put (wsV RX6 153 RX5 yX5_has wsX5_has) := goodIn_app (qof qself _ (by decide +kernel)) ggX6_put_X5_has
set_option maxRecDepth 20000 in
theorem ggX6_put_X5_stands : GoodIn wsX6_put wsX5_stands := qgood qself _ [13, 10, 0, 23, 0, 0, 0, 0, 0, 0, 3, 0, 0, 0, 0, 0, 0, 0, 0, 0, 67, 0, 0, 0, 0, 0, 0, 0, 0, 0] [10, 11, 3, 4, 5, 6, 7, 8, 9, 1, 0, 2, 12, 13, 14, 15, 16, 17, 18, 19, 20, 21, 22, 23, 24, 25, 26, 27, 28, 29] (by decide +kernel) (by decide +kernel)
set_option maxRecDepth 20000 in
theorem gX6_put_X5_stands : GoodIn wsX6_put (wsV RX6 157 RX5 yX5_stands wsX5_stands) := goodIn_app (qof qself _ (by decide +kernel)) ggX6_put_X5_stands
set_option maxRecDepth 20000 in
theorem ggX6_put_X4_init : GoodIn wsX6_put wsX4_init := qgood qself _ [71, 0, 0, 0, 0, 0, 69, 0, 0, 0, 0] [0, 1, 2, 3, 4, 5, 6, 7, 8, 9, 10] (by decide +kernel) (by decide +kernel)
set_option maxRecDepth 20000 in
theorem gX6_put_X4_init : GoodIn wsX6_put (wsX4_init) := ggX6_put_X4_init
set_option maxRecDepth 20000 in
theorem ggX6_put_X5_settles : GoodIn wsX6_put wsX5_settles := goodIn_ca (qgood qself _ [13, 10, 0, 23, 0, 0, 0, 0, 0, 0, 1, 0, 0, 0, 0, 0, 0, 0, 0, 0, 0, 0, 16, 0, 0, 0, 0, 0, 0, 0, 0, 0, 0, 0, 0, 0, 0, 0, 0, 0, 0, 0, 0, 0, 0, 0, 0, 0, 0, 0, 0, 0, 0, 0, 0, 0, 0, 0, 4, 0, 0, 0, 0, 0, 0, 0, 0, 0, 0, 0, 0, 0, 0, 0, 0, 0, 0, 0, 0, 0, 0, 0, 0, 0] [22, 23, 24, 25, 5, 26, 27, 28, 29, 30, 31, 32, 33, 34, 9, 13, 3, 4, 6, 7, 8, 1, 0, 2, 35, 36, 37, 38, 14, 15, 16, 17, 18, 19, 20, 21, 39, 10, 11, 12, 40, 41, 42, 43, 44, 45, 46, 47, 48, 49, 50, 51, 52, 53, 54, 55, 56, 57, 69, 70, 71, 72, 73, 74, 75, 76, 77, 78, 79, 80, 81, 82, 83, 58, 59, 60, 61, 62, 63, 64, 65, 66, 67, 68] (by decide +kernel) (by decide +kernel)) (goodIn_sub (fun _ h => (List.mem_cons_of_mem _ (List.mem_append_right _ h))) (by decide +kernel))
set_option maxRecDepth 20000 in
theorem gX6_put_X5_settles : GoodIn wsX6_put (wsV RX6 169 RX5 yX5_settles wsX5_settles) := goodIn_app (qof qself _ (by decide +kernel)) ggX6_put_X5_settles
set_option maxRecDepth 20000 in
theorem ggX6_put_X5_many : GoodIn wsX6_put wsX5_many := qgood qself _ [55, 68, 11, 0, 0, 0, 0, 0, 0, 0, 0, 0] [1, 0, 2, 3, 4, 5, 6, 7, 8, 9, 10, 11] (by decide +kernel) (by decide +kernel)
set_option maxRecDepth 20000 in
theorem gX6_put_X5_many : GoodIn wsX6_put (wsV RX6 172 RX5 yX5_many wsX5_many) := goodIn_app (qof qself _ (by decide +kernel)) ggX6_put_X5_many
set_option maxRecDepth 20000 in
theorem ggX6_at_Jx4a65c_get_915e3 : GoodIn wsX6_at wsJx4a65c_get_915e3 := qgood qself _ [13, 1, 11, 0, 0, 0, 0, 0, 0, 0, 0, 0, 0, 0, 0, 0, 34, 0, 0] [2, 1, 3, 4, 5, 6, 7, 8, 9, 10, 11, 12, 13, 0, 14, 15, 16, 17, 18] (by decide +kernel) (by decide +kernel)
set_option maxRecDepth 20000 in
theorem gX6_at_Jx4a65c_get_915e3_f149Jx4a65c : GoodIn wsX6_at (va_wsF RX6 149 RJx4a65c ⟨"java/util/List", "get", "(I)Ljava/lang/Object;"⟩ yJx4a65c_get_915e3 wsJx4a65c_get_915e3) := goodIn_app (qof qself _ (by decide +kernel)) ggX6_at_Jx4a65c_get_915e3
set_option maxRecDepth 20000 in
theorem ggX6_at_X5_has : GoodIn wsX6_at wsX5_has := qgood qself _ [6, 10, 0, 26, 0, 0, 0, 11, 0, 0, 0, 0, 0, 0, 0, 0, 0] [3, 4, 5, 6, 1, 0, 2, 7, 8, 9, 10, 11, 12, 13, 14, 15, 16] (by decide +kernel) (by decide +kernel)
set_option maxRecDepth 20000 in
theorem gX6_at_X5_has : GoodIn wsX6_at (wsV RX6 153 RX5 yX5_has wsX5_has) := goodIn_app (qof qself _ (by decide +kernel)) ggX6_at_X5_has
set_option maxRecDepth 20000 in
theorem ggX6_mass_Jx4a65c_get_915e3 : GoodIn wsX6_mass wsJx4a65c_get_915e3 := qgood qself _ [17, 1, 11, 0, 0, 0, 0, 0, 0, 0, 0, 0, 0, 0, 0, 0, 34, 0, 0] [2, 1, 3, 4, 5, 6, 7, 8, 9, 10, 11, 12, 13, 0, 14, 15, 16, 17, 18] (by decide +kernel) (by decide +kernel)
set_option maxRecDepth 20000 in
theorem gX6_mass_Jx4a65c_get_915e3_f149Jx4a65c : GoodIn wsX6_mass (va_wsF RX6 149 RJx4a65c ⟨"java/util/List", "get", "(I)Ljava/lang/Object;"⟩ yJx4a65c_get_915e3 wsJx4a65c_get_915e3) := goodIn_app (qof qself _ (by decide +kernel)) ggX6_mass_Jx4a65c_get_915e3
set_option maxRecDepth 20000 in
theorem ggX6_load_Jx4a65c_get_915e3 : GoodIn wsX6_load wsJx4a65c_get_915e3 := qgood qself _ [17, 1, 11, 0, 0, 0, 0, 0, 0, 0, 0, 0, 0, 0, 0, 0, 38, 0, 0] [2, 1, 3, 4, 5, 6, 7, 8, 9, 10, 11, 12, 13, 0, 14, 15, 16, 17, 18] (by decide +kernel) (by decide +kernel)
set_option maxRecDepth 20000 in
theorem gX6_load_Jx4a65c_get_915e3_f149Jx4a65c : GoodIn wsX6_load (va_wsF RX6 149 RJx4a65c ⟨"java/util/List", "get", "(I)Ljava/lang/Object;"⟩ yJx4a65c_get_915e3 wsJx4a65c_get_915e3) := goodIn_app (qof qself _ (by decide +kernel)) ggX6_load_Jx4a65c_get_915e3
set_option maxRecDepth 20000 in
theorem ggX6_load_X5_loads : GoodIn wsX6_load wsX5_loads := goodIn_ca (qgood qself _ [6, 14, 0, 23, 0, 0, 0, 0, 0, 0, 3, 0, 0, 0, 0, 0, 0, 0, 0, 0, 0, 0, 0, 0, 0, 0, 14, 0, 0, 0, 0, 0, 0, 0, 0, 0, 0, 0, 0, 0, 0] [10, 11, 12, 9, 13, 3, 4, 5, 6, 7, 8, 1, 0, 2, 14, 15, 16, 17, 18, 19, 20, 21, 22, 23, 24, 25, 26, 27, 28, 29, 30, 31, 32, 33, 34, 35, 36, 37, 38, 39, 40] (by decide +kernel) (by decide +kernel)) (goodIn_sub (fun _ h => (List.mem_cons_of_mem _ (List.mem_append_right _ h))) (by decide +kernel))
set_option maxRecDepth 20000 in
theorem gX6_load_X5_loads : GoodIn wsX6_load (wsV RX6 185 RX5 yX5_loads wsX5_loads) := goodIn_app (qof qself _ (by decide +kernel)) ggX6_load_X5_loads
set_option maxRecDepth 20000 in
theorem ggX6_strength_Jx4a65c_get_915e3 : GoodIn wsX6_strength wsJx4a65c_get_915e3 := qgood qself _ [18, 1, 11, 0, 0, 0, 0, 0, 0, 0, 0, 0, 0, 0, 0, 0, 35, 0, 0] [2, 1, 3, 4, 5, 6, 7, 8, 9, 10, 11, 12, 13, 0, 14, 15, 16, 17, 18] (by decide +kernel) (by decide +kernel)
set_option maxRecDepth 20000 in
theorem gX6_strength_Jx4a65c_get_915e3_f149Jx4a65c : GoodIn wsX6_strength (va_wsF RX6 149 RJx4a65c ⟨"java/util/List", "get", "(I)Ljava/lang/Object;"⟩ yJx4a65c_get_915e3 wsJx4a65c_get_915e3) := goodIn_app (qof qself _ (by decide +kernel)) ggX6_strength_Jx4a65c_get_915e3
set_option maxRecDepth 20000 in
theorem ggX6_strength_X5_strength : GoodIn wsX6_strength wsX5_strength := qgood qself _ [53, 8, 0, 0, 0, 0, 0, 0, 0, 14, 0, 0, 0, 0, 0, 0, 0, 0, 0, 0, 0, 0, 0, 0] [1, 0, 2, 3, 4, 5, 6, 7, 8, 9, 10, 11, 12, 13, 14, 15, 16, 17, 18, 19, 20, 21, 22, 23] (by decide +kernel) (by decide +kernel)
set_option maxRecDepth 20000 in
theorem gX6_strength_X5_strength : GoodIn wsX6_strength (wsV RX6 189 RX5 yX5_strength wsX5_strength) := goodIn_app (qof qself _ (by decide +kernel)) ggX6_strength_X5_strength
set_option maxRecDepth 20000 in
theorem ggX6_creep_Jx4a65c_get_915e3 : GoodIn wsX6_creep wsJx4a65c_get_915e3 := qgood qself _ [17, 1, 11, 0, 0, 0, 0, 0, 0, 0, 0, 0, 0, 0, 0, 0, 34, 0, 0] [2, 1, 3, 4, 5, 6, 7, 8, 9, 10, 11, 12, 13, 0, 14, 15, 16, 17, 18] (by decide +kernel) (by decide +kernel)
set_option maxRecDepth 20000 in
theorem gX6_creep_Jx4a65c_get_915e3_f149Jx4a65c : GoodIn wsX6_creep (va_wsF RX6 149 RJx4a65c ⟨"java/util/List", "get", "(I)Ljava/lang/Object;"⟩ yJx4a65c_get_915e3 wsJx4a65c_get_915e3) := goodIn_app (qof qself _ (by decide +kernel)) ggX6_creep_Jx4a65c_get_915e3
set_option maxRecDepth 20000 in
theorem ggX6_age_Jx4a65c_get_915e3 : GoodIn wsX6_age wsJx4a65c_get_915e3 := qgood qself _ [17, 1, 11, 0, 0, 0, 0, 0, 0, 0, 0, 0, 0, 0, 0, 0, 34, 0, 0] [2, 1, 3, 4, 5, 6, 7, 8, 9, 10, 11, 12, 13, 0, 14, 15, 16, 17, 18] (by decide +kernel) (by decide +kernel)
set_option maxRecDepth 20000 in
theorem gX6_age_Jx4a65c_get_915e3_f149Jx4a65c : GoodIn wsX6_age (va_wsF RX6 149 RJx4a65c ⟨"java/util/List", "get", "(I)Ljava/lang/Object;"⟩ yJx4a65c_get_915e3 wsJx4a65c_get_915e3) := goodIn_app (qof qself _ (by decide +kernel)) ggX6_age_Jx4a65c_get_915e3
set_option maxRecDepth 20000 in
theorem ggX6_isArch_Jx4a65c_get_915e3 : GoodIn wsX6_isArch wsJx4a65c_get_915e3 := qgood qself _ [17, 1, 11, 0, 0, 0, 0, 0, 0, 0, 0, 0, 0, 0, 0, 0, 28, 0, 0] [2, 1, 3, 4, 5, 6, 7, 8, 9, 10, 11, 12, 13, 0, 14, 15, 16, 17, 18] (by decide +kernel) (by decide +kernel)
set_option maxRecDepth 20000 in
theorem gX6_isArch_Jx4a65c_get_915e3_f149Jx4a65c : GoodIn wsX6_isArch (va_wsF RX6 149 RJx4a65c ⟨"java/util/List", "get", "(I)Ljava/lang/Object;"⟩ yJx4a65c_get_915e3 wsJx4a65c_get_915e3) := goodIn_app (qof qself _ (by decide +kernel)) ggX6_isArch_Jx4a65c_get_915e3
set_option maxRecDepth 20000 in
theorem ggX6_isArch_X5_isArch : GoodIn wsX6_isArch wsX5_isArch := qgood qself _ [6, 14, 0, 23, 0, 0, 0, 0, 0, 0, 3, 0, 0, 0, 0, 0, 14, 0, 0, 0, 0, 0, 0, 0, 0, 0] [10, 11, 3, 4, 5, 6, 7, 8, 9, 1, 0, 2, 12, 13, 14, 15, 16, 17, 18, 19, 20, 21, 22, 23, 24, 25] (by decide +kernel) (by decide +kernel)
set_option maxRecDepth 20000 in
theorem gX6_isArch_X5_isArch : GoodIn wsX6_isArch (wsV RX6 199 RX5 yX5_isArch wsX5_isArch) := goodIn_app (qof qself _ (by decide +kernel)) ggX6_isArch_X5_isArch
set_option maxRecDepth 20000 in
theorem ggX6_fell_Jx4a65c_get_915e3 : GoodIn wsX6_fell wsJx4a65c_get_915e3 := qgood qself _ [11, 1, 11, 0, 0, 0, 0, 0, 0, 0, 0, 0, 0, 0, 0, 0, 21, 0, 0] [2, 1, 3, 4, 5, 6, 7, 8, 9, 10, 11, 12, 13, 0, 14, 15, 16, 17, 18] (by decide +kernel) (by decide +kernel)
set_option maxRecDepth 20000 in
theorem gX6_fell_Jx4a65c_get_915e3_f149Jx4a65c : GoodIn wsX6_fell (va_wsF RX6 149 RJx4a65c ⟨"java/util/List", "get", "(I)Ljava/lang/Object;"⟩ yJx4a65c_get_915e3 wsJx4a65c_get_915e3) := goodIn_app (qof qself _ (by decide +kernel)) ggX6_fell_Jx4a65c_get_915e3
set_option maxRecDepth 20000 in
theorem ggX6_lastFell_Jx4a65c_get_915e3 : GoodIn wsX6_lastFell wsJx4a65c_get_915e3 := qgood qself _ [11, 1, 11, 0, 0, 0, 0, 0, 0, 0, 0, 0, 0, 0, 0, 0, 21, 0, 0] [2, 1, 3, 4, 5, 6, 7, 8, 9, 10, 11, 12, 13, 0, 14, 15, 16, 17, 18] (by decide +kernel) (by decide +kernel)
set_option maxRecDepth 20000 in
theorem gX6_lastFell_Jx4a65c_get_915e3_f149Jx4a65c : GoodIn wsX6_lastFell (va_wsF RX6 149 RJx4a65c ⟨"java/util/List", "get", "(I)Ljava/lang/Object;"⟩ yJx4a65c_get_915e3 wsJx4a65c_get_915e3) := goodIn_app (qof qself _ (by decide +kernel)) ggX6_lastFell_Jx4a65c_get_915e3
set_option maxRecDepth 20000 in
theorem ggX6_cover_Jx4a65c_get_915e3 : GoodIn wsX6_cover wsJx4a65c_get_915e3 := qgood qself _ [12, 1, 11, 0, 0, 0, 0, 0, 0, 0, 0, 0, 0, 0, 0, 0, 21, 0, 0] [2, 1, 3, 4, 5, 6, 7, 8, 9, 10, 11, 12, 13, 0, 14, 15, 16, 17, 18] (by decide +kernel) (by decide +kernel)
set_option maxRecDepth 20000 in
theorem gX6_cover_Jx4a65c_get_915e3_f149Jx4a65c : GoodIn wsX6_cover (va_wsF RX6 149 RJx4a65c ⟨"java/util/List", "get", "(I)Ljava/lang/Object;"⟩ yJx4a65c_get_915e3 wsJx4a65c_get_915e3) := goodIn_app (qof qself _ (by decide +kernel)) ggX6_cover_Jx4a65c_get_915e3
set_option maxRecDepth 20000 in
theorem ggX6_lamp_Jx4a65c_get_915e3 : GoodIn wsX6_lamp wsJx4a65c_get_915e3 := qgood qself _ [18, 1, 11, 0, 0, 0, 0, 0, 0, 0, 0, 0, 0, 0, 0, 0, 34, 0, 0] [2, 1, 3, 4, 5, 6, 7, 8, 9, 10, 11, 12, 13, 0, 14, 15, 16, 17, 18] (by decide +kernel) (by decide +kernel)
set_option maxRecDepth 20000 in
theorem gX6_lamp_Jx4a65c_get_915e3_f149Jx4a65c : GoodIn wsX6_lamp (va_wsF RX6 149 RJx4a65c ⟨"java/util/List", "get", "(I)Ljava/lang/Object;"⟩ yJx4a65c_get_915e3 wsJx4a65c_get_915e3) := goodIn_app (qof qself _ (by decide +kernel)) ggX6_lamp_Jx4a65c_get_915e3
set_option maxRecDepth 20000 in
theorem ggX6_lightBits_Jx4a65c_get_915e3 : GoodIn wsX6_lightBits wsJx4a65c_get_915e3 := qgood qself _ [13, 1, 11, 0, 0, 0, 0, 0, 0, 0, 0, 0, 0, 0, 0, 0, 55, 0, 0] [2, 1, 3, 4, 5, 6, 7, 8, 9, 10, 11, 12, 13, 0, 14, 15, 16, 17, 18] (by decide +kernel) (by decide +kernel)
set_option maxRecDepth 20000 in
theorem gX6_lightBits_Jx4a65c_get_915e3_f149Jx4a65c : GoodIn wsX6_lightBits (va_wsF RX6 149 RJx4a65c ⟨"java/util/List", "get", "(I)Ljava/lang/Object;"⟩ yJx4a65c_get_915e3 wsJx4a65c_get_915e3) := goodIn_app (qof qself _ (by decide +kernel)) ggX6_lightBits_Jx4a65c_get_915e3
set_option maxRecDepth 20000 in
theorem ggX6_lightBits_X5_has : GoodIn wsX6_lightBits wsX5_has := qgood qself _ [6, 10, 0, 26, 0, 0, 0, 32, 0, 0, 0, 0, 0, 0, 0, 0, 0] [3, 4, 5, 6, 1, 0, 2, 7, 8, 9, 10, 11, 12, 13, 14, 15, 16] (by decide +kernel) (by decide +kernel)
set_option maxRecDepth 20000 in
theorem gX6_lightBits_X5_has : GoodIn wsX6_lightBits (wsV RX6 153 RX5 yX5_has wsX5_has) := goodIn_app (qof qself _ (by decide +kernel)) ggX6_lightBits_X5_has
set_option maxRecDepth 20000 in
theorem ggX6_lightBits_X4_lets : GoodIn wsX6_lightBits wsX4_lets := qgood qself _ [53, 0, 0, 0, 0, 33, 0, 0, 0, 0] [0, 1, 2, 3, 4, 5, 6, 7, 8, 9] (by decide +kernel) (by decide +kernel)
set_option maxRecDepth 20000 in
theorem gX6_lightBits_X4_lets : GoodIn wsX6_lightBits (wsV RX6 217 RX4 yX4_lets wsX4_lets) := goodIn_app (qof qself _ (by decide +kernel)) ggX6_lightBits_X4_lets
set_option maxRecDepth 20000 in
theorem ggX6_lightBits_Jxf58ca_floatToIntBits_5c35a : GoodIn wsX6_lightBits wsJxf58ca_floatToIntBits_5c35a := qgood qself _ [60, 0, 0, 0, 0, 0, 0, 0, 0, 0] [1, 2, 3, 4, 5, 6, 7, 8, 0, 9] (by decide +kernel) (by decide +kernel)
set_option maxRecDepth 20000 in
theorem gX6_lightBits_Jxf58ca_floatToIntBits_5c35a : GoodIn wsX6_lightBits (va_wsS RX6 221 yJxf58ca_floatToIntBits_5c35a wsJxf58ca_floatToIntBits_5c35a) := goodIn_app (qof qself _ (by decide +kernel)) ggX6_lightBits_Jxf58ca_floatToIntBits_5c35a
set_option maxRecDepth 20000 in
theorem ggX6_isOpen_Jx4a65c_get_915e3 : GoodIn wsX6_isOpen wsJx4a65c_get_915e3 := qgood qself _ [11, 1, 11, 0, 0, 0, 0, 0, 0, 0, 0, 0, 0, 0, 0, 0, 61, 0, 0] [2, 1, 3, 4, 5, 6, 7, 8, 9, 10, 11, 12, 13, 0, 14, 15, 16, 17, 18] (by decide +kernel) (by decide +kernel)
set_option maxRecDepth 20000 in
theorem gX6_isOpen_Jx4a65c_get_915e3_f149Jx4a65c : GoodIn wsX6_isOpen (va_wsF RX6 149 RJx4a65c ⟨"java/util/List", "get", "(I)Ljava/lang/Object;"⟩ yJx4a65c_get_915e3 wsJx4a65c_get_915e3) := goodIn_app (qof qself _ (by decide +kernel)) ggX6_isOpen_Jx4a65c_get_915e3
set_option maxRecDepth 20000 in
theorem ggX6_isOpen_X5_isOpen : GoodIn wsX6_isOpen wsX5_isOpen := goodIn_ca (qgood qself _ [6, 8, 0, 25, 0, 0, 0, 0, 0, 0, 0, 0, 0, 0, 0, 0, 0, 0, 0, 0, 0, 0, 0, 0, 0, 0, 0, 0, 0, 0, 0, 0, 0, 0, 0, 0, 0, 0, 0, 0, 0, 0, 0, 0, 0, 0, 0, 0, 0, 0, 0, 0, 0, 0, 0, 0, 0, 0, 0, 0, 0, 3, 0, 0, 0, 0, 0, 0, 0, 0, 0, 0, 0, 0, 0, 0] [4, 5, 6, 7, 8, 9, 3, 10, 11, 12, 13, 14, 15, 16, 17, 18, 1, 0, 2, 19, 20, 21, 22, 23, 24, 25, 26, 27, 28, 29, 30, 31, 32, 33, 34, 35, 36, 37, 38, 39, 40, 41, 42, 43, 44, 45, 46, 47, 48, 49, 61, 62, 63, 64, 65, 66, 67, 68, 69, 70, 50, 51, 52, 53, 54, 55, 56, 57, 58, 59, 60, 71, 72, 73, 74, 75] (by decide +kernel) (by decide +kernel)) (goodIn_sub (fun _ h => (List.mem_cons_of_mem _ (List.mem_append_right _ h))) (by decide +kernel))
set_option maxRecDepth 20000 in
theorem gX6_isOpen_X5_isOpen : GoodIn wsX6_isOpen (wsV RX6 227 RX5 yX5_isOpen wsX5_isOpen) := goodIn_app (qof qself _ (by decide +kernel)) ggX6_isOpen_X5_isOpen
set_option maxRecDepth 20000 in
theorem ggX6_carries_Jx4a65c_get_915e3 : GoodIn wsX6_carries wsJx4a65c_get_915e3 := qgood qself _ [13, 1, 11, 0, 0, 0, 0, 0, 0, 0, 0, 0, 0, 0, 0, 0, 62, 0, 0] [2, 1, 3, 4, 5, 6, 7, 8, 9, 10, 11, 12, 13, 0, 14, 15, 16, 17, 18] (by decide +kernel) (by decide +kernel)
set_option maxRecDepth 20000 in
theorem gX6_carries_Jx4a65c_get_915e3_f149Jx4a65c : GoodIn wsX6_carries (va_wsF RX6 149 RJx4a65c ⟨"java/util/List", "get", "(I)Ljava/lang/Object;"⟩ yJx4a65c_get_915e3 wsJx4a65c_get_915e3) := goodIn_app (qof qself _ (by decide +kernel)) ggX6_carries_Jx4a65c_get_915e3
set_option maxRecDepth 20000 in
theorem ggX6_carries_X5_top : GoodIn wsX6_carries wsX5_top := qgood qself _ [6, 10, 0, 25, 0, 0, 0, 0, 0, 0, 0, 0, 53, 0, 0, 0, 0, 0, 0, 0, 0, 0] [4, 5, 6, 7, 3, 8, 9, 10, 11, 1, 0, 2, 12, 13, 14, 15, 16, 17, 18, 19, 20, 21] (by decide +kernel) (by decide +kernel)
set_option maxRecDepth 20000 in
theorem gX6_carries_X5_top : GoodIn wsX6_carries (wsV RX6 230 RX5 yX5_top wsX5_top) := goodIn_app (qof qself _ (by decide +kernel)) ggX6_carries_X5_top
set_option maxRecDepth 20000 in
theorem ggX6_carries_X5_isOpen : GoodIn wsX6_carries wsX5_isOpen := goodIn_ca (qgood qself _ [6, 10, 0, 23, 0, 0, 0, 0, 0, 0, 0, 0, 0, 0, 3, 0, 0, 0, 0, 0, 0, 0, 0, 0, 0, 0, 0, 0, 0, 0, 0, 0, 0, 0, 0, 0, 0, 0, 0, 0, 0, 0, 0, 0, 0, 0, 0, 0, 0, 0, 0, 0, 0, 0, 0, 0, 0, 0, 0, 0, 0, 3, 0, 0, 0, 0, 0, 0, 0, 0, 0, 0, 0, 0, 0, 0] [14, 15, 13, 16, 17, 18, 5, 19, 20, 21, 7, 8, 9, 10, 11, 12, 1, 0, 2, 22, 3, 4, 6, 23, 24, 25, 26, 27, 28, 29, 30, 31, 32, 33, 34, 35, 36, 37, 38, 39, 40, 41, 42, 43, 44, 45, 46, 47, 48, 49, 61, 62, 63, 64, 65, 66, 67, 68, 69, 70, 50, 51, 52, 53, 54, 55, 56, 57, 58, 59, 60, 71, 72, 73, 74, 75] (by decide +kernel) (by decide +kernel)) (goodIn_sub (fun _ h => (List.mem_cons_of_mem _ (List.mem_append_right _ h))) (by decide +kernel))
set_option maxRecDepth 20000 in
theorem gX6_carries_X5_isOpen : GoodIn wsX6_carries (wsV RX6 227 RX5 yX5_isOpen wsX5_isOpen) := goodIn_app (qof qself _ (by decide +kernel)) ggX6_carries_X5_isOpen
set_option maxRecDepth 20000 in
theorem ggX6_visit_Jx4a65c_get_915e3 : GoodIn wsX6_visit wsJx4a65c_get_915e3 := qgood qself _ [13, 1, 11, 0, 0, 0, 0, 0, 0, 0, 0, 0, 0, 0, 0, 0, 71, 0, 0] [2, 1, 3, 4, 5, 6, 7, 8, 9, 10, 11, 12, 13, 0, 14, 15, 16, 17, 18] (by decide +kernel) (by decide +kernel)
set_option maxRecDepth 20000 in
theorem gX6_visit_Jx4a65c_get_915e3_f149Jx4a65c : GoodIn wsX6_visit (va_wsF RX6 149 RJx4a65c ⟨"java/util/List", "get", "(I)Ljava/lang/Object;"⟩ yJx4a65c_get_915e3 wsJx4a65c_get_915e3) := goodIn_app (qof qself _ (by decide +kernel)) ggX6_visit_Jx4a65c_get_915e3
set_option maxRecDepth 20000 in
theorem ggX6_visit_X5_isOpen : GoodIn wsX6_visit wsX5_isOpen := goodIn_ca (qgood qself _ [8, 8, 0, 25, 0, 0, 0, 0, 0, 0, 0, 0, 0, 0, 0, 0, 0, 0, 0, 0, 0, 0, 0, 0, 0, 0, 0, 0, 0, 0, 0, 0, 0, 0, 0, 0, 0, 0, 0, 0, 0, 0, 0, 0, 0, 0, 0, 0, 0, 0, 0, 0, 0, 0, 0, 0, 0, 0, 0, 0, 0, 0, 0, 0, 0, 0, 0, 0, 0, 0, 0, 3, 0, 0, 0, 0] [4, 5, 6, 7, 8, 9, 3, 10, 11, 12, 13, 14, 15, 16, 17, 18, 1, 0, 2, 19, 20, 21, 22, 23, 24, 25, 26, 27, 28, 29, 30, 31, 32, 33, 34, 35, 36, 37, 38, 39, 40, 41, 42, 43, 44, 45, 46, 47, 48, 49, 61, 62, 63, 64, 65, 66, 67, 68, 69, 70, 50, 51, 52, 53, 54, 55, 56, 57, 58, 59, 60, 71, 72, 73, 74, 75] (by decide +kernel) (by decide +kernel)) (goodIn_sub (fun _ h => (List.mem_cons_of_mem _ (List.mem_append_right _ h))) (by decide +kernel))
set_option maxRecDepth 20000 in
theorem gX6_visit_X5_isOpen : GoodIn wsX6_visit (wsV RX6 227 RX5 yX5_isOpen wsX5_isOpen) := goodIn_app (qof qself _ (by decide +kernel)) ggX6_visit_X5_isOpen
set_option maxRecDepth 20000 in
theorem ggX6_plan_Jx4a65c_get_915e3 : GoodIn wsX6_plan wsJx4a65c_get_915e3 := qgood qself _ [13, 1, 11, 0, 0, 0, 0, 0, 0, 0, 0, 0, 0, 0, 0, 0, 21, 0, 0] [2, 1, 3, 4, 5, 6, 7, 8, 9, 10, 11, 12, 13, 0, 14, 15, 16, 17, 18] (by decide +kernel) (by decide +kernel)
set_option maxRecDepth 20000 in
theorem gX6_plan_Jx4a65c_get_915e3_f149Jx4a65c : GoodIn wsX6_plan (va_wsF RX6 149 RJx4a65c ⟨"java/util/List", "get", "(I)Ljava/lang/Object;"⟩ yJx4a65c_get_915e3 wsJx4a65c_get_915e3) := goodIn_app (qof qself _ (by decide +kernel)) ggX6_plan_Jx4a65c_get_915e3
set_option maxRecDepth 20000 in
theorem ggX6_carve_Jx4a65c_get_915e3 : GoodIn wsX6_carve wsJx4a65c_get_915e3 := qgood qself _ [15, 1, 11, 0, 0, 0, 0, 0, 0, 0, 0, 0, 0, 0, 0, 0, 89, 0, 0] [2, 1, 3, 4, 5, 6, 7, 8, 9, 10, 11, 12, 13, 0, 14, 15, 16, 17, 18] (by decide +kernel) (by decide +kernel)
set_option maxRecDepth 20000 in
theorem gX6_carve_Jx4a65c_get_915e3_f149Jx4a65c : GoodIn wsX6_carve (va_wsF RX6 149 RJx4a65c ⟨"java/util/List", "get", "(I)Ljava/lang/Object;"⟩ yJx4a65c_get_915e3 wsJx4a65c_get_915e3) := goodIn_app (qof qself _ (by decide +kernel)) ggX6_carve_Jx4a65c_get_915e3

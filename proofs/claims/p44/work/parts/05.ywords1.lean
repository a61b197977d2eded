set_option maxRecDepth 20000 in
theorem gX3_take_X1_removeCell : GoodIn wzX3_take (wsV RX3 281 RX1 yX1_removeCell wsX1_removeCell) := goodIn_app (goodIn_of _ (by decide +kernel)) ggX3_take_X1_removeCell
set_option maxRecDepth 20000 in
theorem ggX3_count_X1_cellCount : GoodIn wsX3_count wsX1_cellCount := goodIn_ca (goodIn_r _ [17, 18, 29, 30, 31, 32, 33, 34, 35, 36, 37, 38, 39, 40, 41, 42, 43] (by decide +kernel) (by decide +kernel)) (goodIn_sub (fun _ h => (List.mem_cons_of_mem _ (List.mem_append_right _ h))) (by decide +kernel))
set_option maxRecDepth 20000 in
theorem gX3_count_X1_cellCount : GoodIn wsX3_count (wsV RX3 172 RX1 yX1_cellCount wsX1_cellCount) := goodIn_app (goodIn_of _ (by decide +kernel)) ggX3_count_X1_cellCount
set_option maxRecDepth 20000 in
theorem ggX3_openShare_X1_isOpenWith : GoodIn wsX3_openShare wsX1_isOpenWith := goodIn_ca (goodIn_r _ [26, 27, 28, 29, 30, 31, 25, 32, 33, 34, 9, 35, 36, 37, 38, 39, 40, 41, 42, 43, 44, 45, 46, 47, 48, 49, 50, 51, 52, 53, 54, 55, 56, 57, 58, 59, 60, 61, 62, 63, 64, 79, 80, 81, 82, 83, 84, 85, 86, 87, 88, 89, 90, 91, 92, 93] (by decide +kernel) (by decide +kernel)) (goodIn_sub (fun _ h => (List.mem_cons_of_mem _ (List.mem_append_right _ h))) (by decide +kernel))
set_option maxRecDepth 20000 in
theorem gX3_openShare_X1_isOpenWith : GoodIn wsX3_openShare (wsV RX3 238 RX1 yX1_isOpenWith wsX1_isOpenWith) := goodIn_app (goodIn_of _ (by decide +kernel)) ggX3_openShare_X1_isOpenWith
set_option maxRecDepth 20000 in
theorem ggX3_meanCreep_X1_cellCount : GoodIn wsX3_meanCreep wsX1_cellCount := goodIn_ca (goodIn_r _ [19, 20, 36, 37, 38, 39, 40, 41, 42, 43, 44, 45, 46, 47, 48, 49, 50] (by decide +kernel) (by decide +kernel)) (goodIn_sub (fun _ h => (List.mem_cons_of_mem _ (List.mem_append_right _ h))) (by decide +kernel))
set_option maxRecDepth 20000 in
theorem gX3_meanCreep_X1_cellCount : GoodIn wsX3_meanCreep (wsV RX3 172 RX1 yX1_cellCount wsX1_cellCount) := goodIn_app (goodIn_of _ (by decide +kernel)) ggX3_meanCreep_X1_cellCount
set_option maxRecDepth 20000 in
theorem ggX3_meanCreep_X1_creepSum : GoodIn wsX3_meanCreep wsX1_creepSum := goodIn_ca (goodIn_r _ [24, 20, 25, 36, 37, 38, 39, 40, 41, 42, 43, 44, 45, 46, 47, 48, 49, 50] (by decide +kernel) (by decide +kernel)) (goodIn_sub (fun _ h => (List.mem_cons_of_mem _ (List.mem_append_right _ h))) (by decide +kernel))
set_option maxRecDepth 20000 in
theorem gX3_meanCreep_X1_creepSum : GoodIn wsX3_meanCreep (wsV RX3 311 RX1 yX1_creepSum wsX1_creepSum) := goodIn_app (goodIn_of _ (by decide +kernel)) ggX3_meanCreep_X1_creepSum
set_option maxRecDepth 20000 in
theorem ggX3_checksum_X1_has : GoodIn wsX3_checksum wsX1_has := goodIn_ca (goodIn_r _ [23, 24, 35, 36, 37, 38, 39, 40, 41, 42, 43, 44, 45, 46, 47, 48, 49] (by decide +kernel) (by decide +kernel)) (goodIn_sub (fun _ h => (List.mem_cons_of_mem _ (List.mem_append_right _ h))) (by decide +kernel))
set_option maxRecDepth 20000 in
theorem gX3_checksum_X1_has : GoodIn wsX3_checksum (wsV RX3 146 RX1 yX1_has wsX1_has) := goodIn_app (goodIn_of _ (by decide +kernel)) ggX3_checksum_X1_has
set_option maxRecDepth 20000 in
theorem ggX3_isSound_X1_bearsItself : GoodIn wsX3_isSound wsX1_bearsItself := goodIn_ca (goodIn_r _ [18, 19, 20, 21, 22, 23, 17, 24, 25, 8, 26, 27, 28, 29, 30, 31, 32, 33, 34, 35, 36, 37, 38, 39, 40, 41, 42, 43, 57, 58, 59, 60, 61, 62, 63, 64, 65, 66, 67, 68, 69, 70, 71] (by decide +kernel) (by decide +kernel)) (goodIn_sub (fun _ h => (List.mem_cons_of_mem _ (List.mem_append_right _ h))) (by decide +kernel))
set_option maxRecDepth 20000 in
theorem gX3_isSound_X1_bearsItself : GoodIn wsX3_isSound (wsV RX3 318 RX1 yX1_bearsItself wsX1_bearsItself) := goodIn_app (goodIn_of _ (by decide +kernel)) ggX3_isSound_X1_bearsItself
set_option maxRecDepth 20000 in
theorem ggX3_letFall_X2_warmthOf : GoodIn wsX3_letFall wsX2_warmthOf := goodIn_ca (goodIn_r _ [8, 9, 10, 11, 12, 13, 93, 94, 95, 96] (by decide +kernel) (by decide +kernel)) (goodIn_sub (fun _ h => (List.mem_cons_of_mem _ (List.mem_append_right _ h))) (by decide +kernel))
set_option maxRecDepth 20000 in
theorem gX3_letFall_X2_warmthOf : GoodIn wsX3_letFall (wsV RX3 83 RX2 yX2_warmthOf wsX2_warmthOf) := goodIn_app (goodIn_of _ (by decide +kernel)) ggX3_letFall_X2_warmthOf
set_option maxRecDepth 20000 in
theorem ggX3_letFall_X1_settle : GoodIn wsX3_letFall wsX1_settle := goodIn_ca (goodIn_r _ [18, 19, 20, 21, 17, 22, 23, 24, 25, 26, 27, 28, 29, 30, 12, 31, 32, 33, 34, 35, 36, 37, 38, 39, 40, 41, 42, 43, 44, 45, 46, 47, 48, 49, 50, 51, 52, 53, 54, 55, 56, 57, 58, 59, 60, 61, 62, 63, 64, 65, 66, 67, 68, 69, 70, 71, 72, 73, 74, 75, 76, 77, 78, 79, 11, 13, 80, 81, 82, 97, 98, 99, 100, 101, 102, 103, 104, 105, 106, 107, 108, 109, 110, 111] (by decide +kernel) (by decide +kernel)) (goodIn_sub (fun _ h => (List.mem_cons_of_mem _ (List.mem_append_right _ h))) (by decide +kernel))
set_option maxRecDepth 20000 in
theorem gX3_letFall_X1_settle : GoodIn wsX3_letFall (wsV RX3 327 RX1 yX1_settle wsX1_settle) := goodIn_app (goodIn_of _ (by decide +kernel)) ggX3_letFall_X1_settle
set_option maxRecDepth 20000 in
theorem ggX3_passHour_X1_wear : GoodIn wsX3_passHour wsX1_wear := goodIn_ca (goodIn_r _ [59, 60, 61, 15, 16, 17, 62, 63, 64, 58, 65, 66, 67, 68, 69, 70, 71, 72, 73, 74, 75, 76, 77, 78, 79, 80, 81, 82, 83, 84, 85, 86, 138, 139, 140, 141, 142, 143, 144, 145, 146, 147, 148, 149, 150, 151, 152] (by decide +kernel) (by decide +kernel)) (goodIn_sub (fun _ h => (List.mem_cons_of_mem _ (List.mem_append_left _ (List.mem_append_right _ h)))) (by decide +kernel))
set_option maxRecDepth 20000 in
theorem gX3_passHour_X1_wear : GoodIn wsX3_passHour (wsV RX3 335 RX1 yX1_wear wsX1_wear) := goodIn_app (goodIn_of _ (by decide +kernel)) ggX3_passHour_X1_wear
set_option maxRecDepth 20000 in
theorem ggX3_passHour_X1_settle : GoodIn wsX3_passHour wsX1_settle := goodIn_ca (goodIn_r _ [90, 91, 92, 93, 58, 94, 60, 95, 96, 97, 98, 99, 61, 100, 16, 101, 62, 63, 64, 65, 66, 102, 103, 104, 105, 106, 107, 108, 109, 110, 111, 112, 113, 114, 115, 116, 117, 82, 118, 30, 26, 31, 83, 119, 25, 27, 120, 121, 122, 67, 68, 69, 70, 71, 72, 73, 74, 75, 76, 77, 78, 79, 80, 81, 15, 17, 84, 85, 86, 138, 139, 140, 141, 142, 143, 144, 145, 146, 147, 148, 149, 150, 151, 152] (by decide +kernel) (by decide +kernel)) (goodIn_sub (fun _ h => (List.mem_cons_of_mem _ (List.mem_append_left _ (List.mem_append_right _ h)))) (by decide +kernel))
set_option maxRecDepth 20000 in
theorem gX3_passHour_X1_settle : GoodIn wsX3_passHour (wsV RX3 327 RX1 yX1_settle wsX1_settle) := goodIn_app (goodIn_of _ (by decide +kernel)) ggX3_passHour_X1_settle
set_option maxRecDepth 20000 in
theorem ggX3_passHour_X1_growOld : GoodIn wsX3_passHour wsX1_growOld := goodIn_ca (goodIn_r _ [126, 95, 119, 25, 26, 27, 127, 81, 83, 82, 62, 63, 64, 58, 65, 66, 138, 139, 140, 141, 142, 143, 144, 145, 146, 147, 148, 149, 150, 151, 152] (by decide +kernel) (by decide +kernel)) (goodIn_sub (fun _ h => (List.mem_cons_of_mem _ (List.mem_append_left _ (List.mem_append_right _ h)))) (by decide +kernel))
set_option maxRecDepth 20000 in
theorem gX3_passHour_X1_growOld : GoodIn wsX3_passHour (wsV RX3 339 RX1 yX1_growOld wsX1_growOld) := goodIn_app (goodIn_of _ (by decide +kernel)) ggX3_passHour_X1_growOld
set_option maxRecDepth 20000 in
theorem ggX5_has_X6_isBetween : GoodIn wsX5_has wsX6_isBetween := goodIn_r _ [6] (by decide +kernel) (by decide +kernel)
set_option maxRecDepth 20000 in
theorem gX5_has_X6_isBetween_n31 : GoodIn wsX5_has (wsX6_isBetween) := ggX5_has_X6_isBetween
set_option maxRecDepth 20000 in
theorem ggX5_isBorne_X5_has : GoodIn wsX5_isBorne wsX5_has := goodIn_r _ [5, 6, 7, 8, 9, 10, 11, 12, 13, 14, 15, 16, 17, 18, 19, 20, 21] (by decide +kernel) (by decide +kernel)
set_option maxRecDepth 20000 in
theorem gX5_isBorne_X5_has : GoodIn wsX5_isBorne (wsV RX5 37 RX5 yX5_has wsX5_has) := goodIn_app (goodIn_of _ (by decide +kernel)) ggX5_isBorne_X5_has
set_option maxRecDepth 20000 in
theorem ggX5_isArch_X5_has : GoodIn wsX5_isArch wsX5_has := goodIn_r _ [5, 6, 7, 8, 9, 10, 11, 16, 17, 18, 19, 20, 21, 22, 23, 24, 25] (by decide +kernel) (by decide +kernel)
set_option maxRecDepth 20000 in
theorem gX5_isArch_X5_has : GoodIn wsX5_isArch (wsV RX5 37 RX5 yX5_has wsX5_has) := goodIn_app (goodIn_of _ (by decide +kernel)) ggX5_isArch_X5_has
set_option maxRecDepth 20000 in
theorem ggX5_isArch_X5_isBorne : GoodIn wsX5_isArch wsX5_isBorne := goodIn_r _ [15, 1, 2, 3, 4, 5, 6, 7, 8, 9, 10, 11, 16, 17, 18, 19, 20, 21, 22, 23, 24, 25] (by decide +kernel) (by decide +kernel)
set_option maxRecDepth 20000 in
theorem gX5_isArch_X5_isBorne : GoodIn wsX5_isArch (wsV RX5 41 RX5 yX5_isBorne wsX5_isBorne) := goodIn_app (goodIn_of _ (by decide +kernel)) ggX5_isArch_X5_isBorne
set_option maxRecDepth 20000 in
theorem ggX5_stands_X5_has : GoodIn wsX5_stands wsX5_has := goodIn_r _ [5, 6, 7, 8, 9, 10, 11, 20, 21, 22, 23, 24, 25, 26, 27, 28, 29] (by decide +kernel) (by decide +kernel)
set_option maxRecDepth 20000 in
theorem gX5_stands_X5_has : GoodIn wsX5_stands (wsV RX5 37 RX5 yX5_has wsX5_has) := goodIn_app (goodIn_of _ (by decide +kernel)) ggX5_stands_X5_has
set_option maxRecDepth 20000 in
theorem ggX5_stands_X5_isArch : GoodIn wsX5_stands wsX5_isArch := goodIn_r _ [15, 1, 2, 3, 4, 5, 6, 7, 8, 9, 10, 11, 16, 17, 18, 19, 20, 21, 22, 23, 24, 25, 26, 27, 28, 29] (by decide +kernel) (by decide +kernel)
set_option maxRecDepth 20000 in
theorem gX5_stands_X5_isArch : GoodIn wsX5_stands (wsV RX5 44 RX5 yX5_isArch wsX5_isArch) := goodIn_app (goodIn_of _ (by decide +kernel)) ggX5_stands_X5_isArch
set_option maxRecDepth 20000 in
theorem ggX5_loads_X5_has : GoodIn wsX5_loads wsX5_has := goodIn_r _ [8, 9, 10, 3, 11, 12, 13, 26, 27, 28, 29, 30, 31, 32, 33, 34, 35] (by decide +kernel) (by decide +kernel)
set_option maxRecDepth 20000 in
theorem gX5_loads_X5_has : GoodIn wsX5_loads (wsV RX5 37 RX5 yX5_has wsX5_has) := goodIn_app (goodIn_of _ (by decide +kernel)) ggX5_loads_X5_has
set_option maxRecDepth 20000 in
theorem ggX5_loads_X5_top : GoodIn wsX5_loads wsX5_top := goodIn_r _ [17, 4, 5, 6, 7, 8, 9, 10, 3, 11, 12, 13, 26, 27, 28, 29, 30, 31, 32, 33, 34, 35] (by decide +kernel) (by decide +kernel)
set_option maxRecDepth 20000 in
theorem gX5_loads_X5_top : GoodIn wsX5_loads (wsV RX5 49 RX5 yX5_top wsX5_top) := goodIn_app (goodIn_of _ (by decide +kernel)) ggX5_loads_X5_top
set_option maxRecDepth 20000 in
theorem ggX5_loads_X5_isArch : GoodIn wsX5_loads wsX5_isArch := goodIn_r _ [21, 4, 5, 6, 7, 8, 9, 10, 3, 11, 12, 13, 22, 23, 24, 25, 26, 27, 28, 29, 30, 31, 32, 33, 34, 35] (by decide +kernel) (by decide +kernel)
set_option maxRecDepth 20000 in
theorem gX5_loads_X5_isArch : GoodIn wsX5_loads (wsV RX5 44 RX5 yX5_isArch wsX5_isArch) := goodIn_app (goodIn_of _ (by decide +kernel)) ggX5_loads_X5_isArch
set_option maxRecDepth 20000 in
theorem ggX5_top_X5_has : GoodIn wsX5_top wsX5_has := goodIn_r _ [5, 6, 7, 8, 9, 10, 11, 12, 13, 14, 15, 16, 17, 18, 19, 20, 21] (by decide +kernel) (by decide +kernel)
set_option maxRecDepth 20000 in
theorem gX5_top_X5_has : GoodIn wsX5_top (wsV RX5 37 RX5 yX5_has wsX5_has) := goodIn_app (goodIn_of _ (by decide +kernel)) ggX5_top_X5_has
set_option maxRecDepth 20000 in
theorem ggX5_weak_X5_loads : GoodIn wsX5_weak wsX5_loads := goodIn_ca (goodIn_r _ [7, 8, 9, 10, 11, 12, 13, 6, 14, 15, 16, 17, 18, 19, 20, 21, 22, 23, 24, 25, 26, 27, 28, 29, 30, 31, 47, 48, 49, 50, 51, 52, 53, 54, 55, 56, 57, 58, 59, 60, 61] (by decide +kernel) (by decide +kernel)) (goodIn_sub (fun _ h => (List.mem_cons_of_mem _ (List.mem_append_right _ h))) (by decide +kernel))
set_option maxRecDepth 20000 in
theorem gX5_weak_X5_loads : GoodIn wsX5_weak (wsV RX5 84 RX5 yX5_loads wsX5_loads) := goodIn_app (goodIn_of _ (by decide +kernel)) ggX5_weak_X5_loads
set_option maxRecDepth 20000 in
theorem ggX5_weak_X5_has : GoodIn wsX5_weak wsX5_has := goodIn_r _ [14, 15, 16, 10, 17, 18, 19, 47, 48, 49, 50, 51, 52, 53, 54, 55, 56] (by decide +kernel) (by decide +kernel)
set_option maxRecDepth 20000 in
theorem gX5_weak_X5_has : GoodIn wsX5_weak (wsV RX5 37 RX5 yX5_has wsX5_has) := goodIn_app (goodIn_of _ (by decide +kernel)) ggX5_weak_X5_has
set_option maxRecDepth 20000 in
theorem ggX5_weak_X5_stands : GoodIn wsX5_weak wsX5_stands := goodIn_r _ [35, 11, 12, 13, 6, 14, 15, 16, 10, 17, 18, 19, 24, 25, 26, 27, 28, 29, 30, 31, 47, 48, 49, 50, 51, 52, 53, 54, 55, 56] (by decide +kernel) (by decide +kernel)
set_option maxRecDepth 20000 in
theorem gX5_weak_X5_stands : GoodIn wsX5_weak (wsV RX5 88 RX5 yX5_stands wsX5_stands) := goodIn_app (goodIn_of _ (by decide +kernel)) ggX5_weak_X5_stands
set_option maxRecDepth 20000 in
theorem ggX5_weak_X5_strength : GoodIn wsX5_weak wsX5_strength := goodIn_r _ [39, 10, 40, 41, 42, 43, 44, 45, 46, 47, 48, 49, 50, 51, 52, 53, 54, 55, 56, 57, 58, 59, 60, 61] (by decide +kernel) (by decide +kernel)
set_option maxRecDepth 20000 in
theorem gX5_weak_X5_strength : GoodIn wsX5_weak (wsV RX5 91 RX5 yX5_strength wsX5_strength) := goodIn_app (goodIn_of _ (by decide +kernel)) ggX5_weak_X5_strength
set_option maxRecDepth 20000 in
theorem ggX5_settles_X5_weak : GoodIn wsX5_settles wsX5_weak := goodIn_ca (goodIn_r _ [5, 6, 7, 8, 9, 10, 4, 11, 12, 13, 14, 15, 16, 17, 18, 19, 20, 21, 22, 23, 24, 25, 26, 27, 28, 29, 30, 31, 32, 33, 34, 35, 36, 37, 38, 39, 40, 41, 42, 43, 44, 45, 46, 47, 48, 49, 50, 58, 59, 60, 61, 62, 63, 64, 65, 66, 67, 68, 69, 70, 71, 72] (by decide +kernel) (by decide +kernel)) (goodIn_sub (fun _ h => (List.mem_cons_of_mem _ (List.mem_append_right _ h))) (by decide +kernel))
set_option maxRecDepth 20000 in
theorem gX5_settles_X5_weak : GoodIn wsX5_settles (wsV RX5 95 RX5 yX5_weak wsX5_weak) := goodIn_app (goodIn_of _ (by decide +kernel)) ggX5_settles_X5_weak
set_option maxRecDepth 20000 in
theorem ggX5_settles_X5_falls : GoodIn wsX5_settles wsX5_falls := goodIn_ca (goodIn_r _ [54, 14, 55, 56, 57, 58, 59, 60, 61, 62, 63, 64, 65, 66, 67, 73, 74, 75, 76, 77, 78, 79, 80, 81, 82, 83] (by decide +kernel) (by decide +kernel)) (goodIn_sub (fun _ h => (List.mem_cons_of_mem _ (List.mem_append_right _ h))) (by decide +kernel))
set_option maxRecDepth 20000 in
theorem gX5_settles_X5_falls : GoodIn wsX5_settles (wsV RX5 99 RX5 yX5_falls wsX5_falls) := goodIn_app (goodIn_of _ (by decide +kernel)) ggX5_settles_X5_falls
set_option maxRecDepth 20000 in
theorem ggX5_goes_X6_isBetween : GoodIn wsX5_goes wsX6_isBetween := goodIn_r _ [15] (by decide +kernel) (by decide +kernel)
set_option maxRecDepth 20000 in
theorem gX5_goes_X6_isBetween_n31 : GoodIn wsX5_goes (wsX6_isBetween) := ggX5_goes_X6_isBetween
set_option maxRecDepth 20000 in
theorem ggX5_goes_X5_has : GoodIn wsX5_goes wsX5_has := goodIn_r _ [20, 21, 22, 7, 13, 14, 15, 66, 67, 68, 69, 70, 71, 72, 73, 74, 75] (by decide +kernel) (by decide +kernel)
set_option maxRecDepth 20000 in
theorem gX5_goes_X5_has : GoodIn wsX5_goes (wsV RX5 37 RX5 yX5_has wsX5_has) := goodIn_app (goodIn_of _ (by decide +kernel)) ggX5_goes_X5_has
set_option maxRecDepth 20000 in
theorem ggX5_goes_X5_falls : GoodIn wsX5_goes wsX5_falls := goodIn_ca (goodIn_r _ [26, 7, 27, 28, 3, 66, 67, 68, 69, 70, 71, 72, 73, 74, 75, 76, 77, 78, 79, 80, 81, 82, 83, 84, 85, 86] (by decide +kernel) (by decide +kernel)) (goodIn_sub (fun _ h => (List.mem_cons_of_mem _ (List.mem_append_right _ h))) (by decide +kernel))
set_option maxRecDepth 20000 in
theorem gX5_goes_X5_falls : GoodIn wsX5_goes (wsV RX5 99 RX5 yX5_falls wsX5_falls) := goodIn_app (goodIn_of _ (by decide +kernel)) ggX5_goes_X5_falls
set_option maxRecDepth 20000 in
theorem ggX5_goes_X5_settles : GoodIn wsX5_goes wsX5_settles := goodIn_ca (goodIn_r _ [32, 33, 34, 35, 19, 36, 1, 2, 37, 38, 39, 40, 41, 42, 7, 16, 17, 18, 20, 21, 22, 13, 14, 15, 43, 44, 45, 46, 47, 48, 49, 50, 51, 52, 53, 54, 55, 56, 57, 58, 59, 60, 61, 62, 63, 64, 10, 65, 8, 9, 11, 23, 24, 25, 26, 27, 28, 3, 66, 67, 68, 69, 70, 71, 72, 73, 74, 75, 87, 88, 89, 90, 91, 76, 77, 78, 79, 80, 81, 82, 83, 84, 85, 86] (by decide +kernel) (by decide +kernel)) (goodIn_sub (fun _ h => (List.mem_cons_of_mem _ (List.mem_append_right _ h))) (by decide +kernel))
set_option maxRecDepth 20000 in
theorem gX5_goes_X5_settles : GoodIn wsX5_goes (wsV RX5 116 RX5 yX5_settles wsX5_settles) := goodIn_app (goodIn_of _ (by decide +kernel)) ggX5_goes_X5_settles
set_option maxRecDepth 20000 in
theorem ggX5_goes_X5_loads : GoodIn wsX5_goes wsX5_loads := goodIn_ca (goodIn_r _ [40, 41, 42, 7, 16, 17, 18, 19, 20, 21, 22, 13, 14, 15, 43, 44, 45, 46, 47, 48, 49, 50, 51, 52, 53, 54, 66, 67, 68, 69, 70, 71, 72, 73, 74, 75, 87, 88, 89, 90, 91] (by decide +kernel) (by decide +kernel)) (goodIn_sub (fun _ h => (List.mem_cons_of_mem _ (List.mem_append_right _ h))) (by decide +kernel))
set_option maxRecDepth 20000 in
theorem gX5_goes_X5_loads : GoodIn wsX5_goes (wsV RX5 84 RX5 yX5_loads wsX5_loads) := goodIn_app (goodIn_of _ (by decide +kernel)) ggX5_goes_X5_loads
set_option maxRecDepth 20000 in
theorem ggX5_isOpen_X5_loads : GoodIn wsX5_isOpen wsX5_loads := goodIn_ca (goodIn_r _ [7, 8, 9, 2, 10, 11, 12, 6, 13, 14, 15, 16, 17, 18, 19, 20, 21, 22, 23, 24, 25, 26, 27, 28, 29, 30, 50, 51, 52, 53, 54, 55, 56, 57, 58, 59, 71, 72, 73, 74, 75] (by decide +kernel) (by decide +kernel)) (goodIn_sub (fun _ h => (List.mem_cons_of_mem _ (List.mem_append_right _ h))) (by decide +kernel))
set_option maxRecDepth 20000 in
theorem gX5_isOpen_X5_loads : GoodIn wsX5_isOpen (wsV RX5 84 RX5 yX5_loads wsX5_loads) := goodIn_app (goodIn_of _ (by decide +kernel)) ggX5_isOpen_X5_loads
set_option maxRecDepth 20000 in
theorem ggX5_isOpen_X6_warmthOf : GoodIn wsX5_isOpen wsX6_warmthOf := goodIn_ca (goodIn_r _ [33, 34, 60, 61, 62, 63, 64, 65, 66, 67, 68, 69, 70] (by decide +kernel) (by decide +kernel)) (goodIn_sub (fun _ h => (List.mem_cons_of_mem _ (List.mem_append_right _ h))) (by decide +kernel))
set_option maxRecDepth 20000 in
theorem gX5_isOpen_X6_warmthOf_n123 : GoodIn wsX5_isOpen (wsX6_warmthOf) := ggX5_isOpen_X6_warmthOf
set_option maxRecDepth 20000 in
theorem ggX5_isOpen_X5_many : GoodIn wsX5_isOpen wsX5_many := goodIn_r _ [38, 2, 50, 51, 52, 53, 54, 55, 56, 57, 58, 59] (by decide +kernel) (by decide +kernel)
set_option maxRecDepth 20000 in
theorem gX5_isOpen_X5_many : GoodIn wsX5_isOpen (wsV RX5 126 RX5 yX5_many wsX5_many) := goodIn_app (goodIn_of _ (by decide +kernel)) ggX5_isOpen_X5_many
set_option maxRecDepth 20000 in
theorem ggX5_isOpen_X5_has : GoodIn wsX5_isOpen wsX5_has := goodIn_r _ [13, 14, 15, 2, 16, 17, 18, 50, 51, 52, 53, 54, 55, 56, 57, 58, 59] (by decide +kernel) (by decide +kernel)
set_option maxRecDepth 20000 in
theorem gX5_isOpen_X5_has : GoodIn wsX5_isOpen (wsV RX5 37 RX5 yX5_has wsX5_has) := goodIn_app (goodIn_of _ (by decide +kernel)) ggX5_isOpen_X5_has
set_option maxRecDepth 20000 in
theorem ggX5_isOpen_X5_strength : GoodIn wsX5_isOpen wsX5_strength := goodIn_r _ [42, 2, 43, 44, 45, 46, 47, 48, 49, 50, 51, 52, 53, 54, 55, 56, 57, 58, 59, 71, 72, 73, 74, 75] (by decide +kernel) (by decide +kernel)
set_option maxRecDepth 20000 in
theorem gX5_isOpen_X5_strength : GoodIn wsX5_isOpen (wsV RX5 91 RX5 yX5_strength wsX5_strength) := goodIn_app (goodIn_of _ (by decide +kernel)) ggX5_isOpen_X5_strength
set_option maxRecDepth 20000 in
theorem ggX6_go_Jx35411_next_0502b : GoodIn wsX6_go wsJx35411_next_0502b := goodIn_r _ [65, 61, 49, 66, 53, 67, 68, 69, 45, 70, 54, 55, 56, 143, 144, 145, 146, 147, 148, 149] (by decide +kernel) (by decide +kernel)
set_option maxRecDepth 20000 in
theorem gX6_go_Jx35411_next_0502b_f121Jx35411 : GoodIn wsX6_go (va_wsF RX6 121 RJx35411 ⟨"java/util/Iterator", "next", "()Ljava/lang/Object;"⟩ yJx35411_next_0502b wsJx35411_next_0502b) := goodIn_app (goodIn_of _ (by decide +kernel)) ggX6_go_Jx35411_next_0502b
set_option maxRecDepth 20000 in
theorem ggX6_go_X5_goes : GoodIn wsX6_go wsX5_goes := goodIn_ca (goodIn_r _ [75, 76, 77, 78, 79, 80, 81, 82, 83, 30, 26, 31, 84, 6, 7, 8, 85, 86, 87, 74, 88, 89, 90, 91, 92, 93, 94, 95, 96, 97, 98, 99, 100, 101, 102, 103, 104, 105, 106, 107, 108, 109, 110, 111, 112, 113, 114, 115, 116, 117, 118, 119, 120, 121, 122, 123, 124, 125, 126, 127, 128, 129, 130, 131, 25, 27, 150, 151, 152, 153, 154, 155, 156, 157, 158, 159, 132, 133, 134, 135, 136, 137, 138, 139, 140, 141, 142, 160, 161, 162, 163, 164] (by decide +kernel) (by decide +kernel)) (goodIn_sub (fun _ h => (List.mem_cons_of_mem _ (List.mem_append_left _ (List.mem_append_right _ h)))) (by decide +kernel))
set_option maxRecDepth 20000 in
theorem gX6_go_X5_goes : GoodIn wsX6_go (wsV RX6 127 RX5 yX5_goes wsX5_goes) := goodIn_app (goodIn_of _ (by decide +kernel)) ggX6_go_X5_goes
set_option maxRecDepth 20000 in
theorem ggX6_isNoCell_Jx4a65c_get_915e3 : GoodIn wsX6_isNoCell wsJx4a65c_get_915e3 := goodIn_r _ [27, 15, 28, 29, 30, 31, 32, 33, 34, 35, 36, 37, 38, 13, 39, 40, 60, 61, 62] (by decide +kernel) (by decide +kernel)
set_option maxRecDepth 20000 in
theorem gX6_isNoCell_Jx4a65c_get_915e3_f149Jx4a65c : GoodIn wsX6_isNoCell (va_wsF RX6 149 RJx4a65c ⟨"java/util/List", "get", "(I)Ljava/lang/Object;"⟩ yJx4a65c_get_915e3 wsJx4a65c_get_915e3) := goodIn_app (goodIn_of _ (by decide +kernel)) ggX6_isNoCell_Jx4a65c_get_915e3
set_option maxRecDepth 20000 in
theorem ggX6_isNoCell_X5_has : GoodIn wsX6_isNoCell wsX5_has := goodIn_r _ [45, 46, 47, 48, 17, 6, 18, 63, 64, 65, 66, 67, 68, 69, 70, 71, 72] (by decide +kernel) (by decide +kernel)
set_option maxRecDepth 20000 in
theorem gX6_isNoCell_X5_has : GoodIn wsX6_isNoCell (wsV RX6 153 RX5 yX5_has wsX5_has) := goodIn_app (goodIn_of _ (by decide +kernel)) ggX6_isNoCell_X5_has
set_option maxRecDepth 20000 in
theorem ggX6_put_Jx4a65c_get_915e3 : GoodIn wsX6_put wsJx4a65c_get_915e3 := goodIn_r _ [34, 22, 35, 36, 37, 38, 39, 40, 41, 42, 43, 44, 45, 20, 46, 47, 151, 152, 153] (by decide +kernel) (by decide +kernel)
set_option maxRecDepth 20000 in
theorem gX6_put_Jx4a65c_get_915e3_f149Jx4a65c : GoodIn wsX6_put (va_wsF RX6 149 RJx4a65c ⟨"java/util/List", "get", "(I)Ljava/lang/Object;"⟩ yJx4a65c_get_915e3 wsJx4a65c_get_915e3) := goodIn_app (goodIn_of _ (by decide +kernel)) ggX6_put_Jx4a65c_get_915e3
set_option maxRecDepth 20000 in
theorem ggX6_put_X5_has : GoodIn wsX6_put wsX5_has := goodIn_r _ [52, 53, 54, 55, 24, 13, 25, 136, 137, 138, 139, 140, 141, 142, 143, 144, 145] (by decide +kernel) (by decide +kernel)
set_option maxRecDepth 20000 in
theorem gX6_put_X5_has : GoodIn wsX6_put (wsV RX6 153 RX5 yX5_has wsX5_has) := goodIn_app (goodIn_of _ (by decide +kernel)) ggX6_put_X5_has
set_option maxRecDepth 20000 in
theorem ggX6_put_X5_stands : GoodIn wsX6_put wsX5_stands := goodIn_r _ [59, 60, 49, 50, 51, 52, 53, 54, 55, 24, 13, 25, 61, 62, 63, 64, 65, 66, 67, 68, 136, 137, 138, 139, 140, 141, 142, 143, 144, 145] (by decide +kernel) (by decide +kernel)
set_option maxRecDepth 20000 in
theorem gX6_put_X5_stands : GoodIn wsX6_put (wsV RX6 157 RX5 yX5_stands wsX5_stands) := goodIn_app (goodIn_of _ (by decide +kernel)) ggX6_put_X5_stands
set_option maxRecDepth 20000 in
theorem ggX6_put_X4_init : GoodIn wsX6_put wsX4_init := goodIn_r _ [71, 72, 73, 74, 75, 76, 146, 147, 148, 149, 150] (by decide +kernel) (by decide +kernel)
set_option maxRecDepth 20000 in
theorem gX6_put_X4_init : GoodIn wsX6_put (wsX4_init) := ggX6_put_X4_init
set_option maxRecDepth 20000 in
theorem ggX6_put_X5_settles : GoodIn wsX6_put wsX5_settles := goodIn_ca (goodIn_r _ [85, 86, 87, 88, 51, 89, 90, 91, 92, 93, 94, 95, 96, 97, 55, 60, 49, 50, 52, 53, 54, 24, 13, 25, 98, 99, 100, 101, 61, 62, 63, 64, 65, 66, 67, 68, 102, 57, 58, 59, 103, 104, 105, 106, 107, 108, 109, 110, 111, 112, 113, 114, 115, 116, 117, 118, 119, 120, 136, 137, 138, 139, 140, 141, 142, 143, 144, 145, 146, 147, 148, 149, 150, 125, 126, 127, 128, 129, 130, 131, 132, 133, 134, 135] (by decide +kernel) (by decide +kernel)) (goodIn_sub (fun _ h => (List.mem_cons_of_mem _ (List.mem_append_right _ h))) (by decide +kernel))
set_option maxRecDepth 20000 in
theorem gX6_put_X5_settles : GoodIn wsX6_put (wsV RX6 169 RX5 yX5_settles wsX5_settles) := goodIn_app (goodIn_of _ (by decide +kernel)) ggX6_put_X5_settles
set_option maxRecDepth 20000 in
theorem ggX6_put_X5_many : GoodIn wsX6_put wsX5_many := goodIn_r _ [124, 55, 136, 137, 138, 139, 140, 141, 142, 143, 144, 145] (by decide +kernel) (by decide +kernel)
set_option maxRecDepth 20000 in
theorem gX6_put_X5_many : GoodIn wsX6_put (wsV RX6 172 RX5 yX5_many wsX5_many) := goodIn_app (goodIn_of _ (by decide +kernel)) ggX6_put_X5_many
set_option maxRecDepth 20000 in
theorem ggX6_at_Jx4a65c_get_915e3 : GoodIn wsX6_at wsJx4a65c_get_915e3 := goodIn_r _ [27, 15, 28, 29, 30, 31, 32, 33, 34, 35, 36, 37, 38, 13, 39, 40, 75, 76, 77] (by decide +kernel) (by decide +kernel)
set_option maxRecDepth 20000 in
theorem gX6_at_Jx4a65c_get_915e3_f149Jx4a65c : GoodIn wsX6_at (va_wsF RX6 149 RJx4a65c ⟨"java/util/List", "get", "(I)Ljava/lang/Object;"⟩ yJx4a65c_get_915e3 wsJx4a65c_get_915e3) := goodIn_app (goodIn_of _ (by decide +kernel)) ggX6_at_Jx4a65c_get_915e3
set_option maxRecDepth 20000 in
theorem ggX6_at_X5_has : GoodIn wsX6_at wsX5_has := goodIn_r _ [45, 46, 47, 48, 17, 6, 18, 60, 61, 62, 63, 64, 65, 66, 67, 68, 69] (by decide +kernel) (by decide +kernel)
set_option maxRecDepth 20000 in
theorem gX6_at_X5_has : GoodIn wsX6_at (wsV RX6 153 RX5 yX5_has wsX5_has) := goodIn_app (goodIn_of _ (by decide +kernel)) ggX6_at_X5_has
set_option maxRecDepth 20000 in
theorem ggX6_mass_Jx4a65c_get_915e3 : GoodIn wsX6_mass wsJx4a65c_get_915e3 := goodIn_r _ [31, 19, 32, 33, 34, 35, 36, 37, 38, 39, 40, 41, 42, 17, 43, 44, 79, 80, 81] (by decide +kernel) (by decide +kernel)
set_option maxRecDepth 20000 in
theorem gX6_mass_Jx4a65c_get_915e3_f149Jx4a65c : GoodIn wsX6_mass (va_wsF RX6 149 RJx4a65c ⟨"java/util/List", "get", "(I)Ljava/lang/Object;"⟩ yJx4a65c_get_915e3 wsJx4a65c_get_915e3) := goodIn_app (goodIn_of _ (by decide +kernel)) ggX6_mass_Jx4a65c_get_915e3
set_option maxRecDepth 20000 in
theorem ggX6_load_Jx4a65c_get_915e3 : GoodIn wsX6_load wsJx4a65c_get_915e3 := goodIn_r _ [31, 19, 32, 33, 34, 35, 36, 37, 38, 39, 40, 41, 42, 17, 43, 44, 83, 84, 85] (by decide +kernel) (by decide +kernel)
set_option maxRecDepth 20000 in
theorem gX6_load_Jx4a65c_get_915e3_f149Jx4a65c : GoodIn wsX6_load (va_wsF RX6 149 RJx4a65c ⟨"java/util/List", "get", "(I)Ljava/lang/Object;"⟩ yJx4a65c_get_915e3 wsJx4a65c_get_915e3) := goodIn_app (goodIn_of _ (by decide +kernel)) ggX6_load_Jx4a65c_get_915e3
set_option maxRecDepth 20000 in
theorem ggX6_load_X5_loads : GoodIn wsX6_load wsX5_loads := goodIn_ca (goodIn_r _ [56, 57, 58, 52, 59, 46, 47, 48, 49, 50, 51, 21, 6, 22, 60, 61, 62, 63, 64, 65, 66, 67, 68, 69, 70, 71, 86, 87, 88, 89, 90, 91, 92, 93, 94, 95, 96, 97, 98, 99, 100] (by decide +kernel) (by decide +kernel)) (goodIn_sub (fun _ h => (List.mem_cons_of_mem _ (List.mem_append_right _ h))) (by decide +kernel))
set_option maxRecDepth 20000 in
theorem gX6_load_X5_loads : GoodIn wsX6_load (wsV RX6 185 RX5 yX5_loads wsX5_loads) := goodIn_app (goodIn_of _ (by decide +kernel)) ggX6_load_X5_loads
set_option maxRecDepth 20000 in
theorem ggX6_strength_Jx4a65c_get_915e3 : GoodIn wsX6_strength wsJx4a65c_get_915e3 := goodIn_r _ [32, 20, 33, 34, 35, 36, 37, 38, 39, 40, 41, 42, 43, 18, 44, 45, 81, 82, 83] (by decide +kernel) (by decide +kernel)
set_option maxRecDepth 20000 in
theorem gX6_strength_Jx4a65c_get_915e3_f149Jx4a65c : GoodIn wsX6_strength (va_wsF RX6 149 RJx4a65c ⟨"java/util/List", "get", "(I)Ljava/lang/Object;"⟩ yJx4a65c_get_915e3 wsJx4a65c_get_915e3) := goodIn_app (goodIn_of _ (by decide +kernel)) ggX6_strength_Jx4a65c_get_915e3
set_option maxRecDepth 20000 in
theorem ggX6_strength_X5_strength : GoodIn wsX6_strength wsX5_strength := goodIn_r _ [62, 53, 63, 64, 65, 66, 67, 68, 69, 84, 85, 86, 87, 88, 89, 90, 91, 92, 93, 94, 95, 96, 97, 98] (by decide +kernel) (by decide +kernel)
set_option maxRecDepth 20000 in
theorem gX6_strength_X5_strength : GoodIn wsX6_strength (wsV RX6 189 RX5 yX5_strength wsX5_strength) := goodIn_app (goodIn_of _ (by decide +kernel)) ggX6_strength_X5_strength
set_option maxRecDepth 20000 in
theorem ggX6_creep_Jx4a65c_get_915e3 : GoodIn wsX6_creep wsJx4a65c_get_915e3 := goodIn_r _ [31, 19, 32, 33, 34, 35, 36, 37, 38, 39, 40, 41, 42, 17, 43, 44, 79, 80, 81] (by decide +kernel) (by decide +kernel)
set_option maxRecDepth 20000 in
theorem gX6_creep_Jx4a65c_get_915e3_f149Jx4a65c : GoodIn wsX6_creep (va_wsF RX6 149 RJx4a65c ⟨"java/util/List", "get", "(I)Ljava/lang/Object;"⟩ yJx4a65c_get_915e3 wsJx4a65c_get_915e3) := goodIn_app (goodIn_of _ (by decide +kernel)) ggX6_creep_Jx4a65c_get_915e3
set_option maxRecDepth 20000 in
theorem ggX6_age_Jx4a65c_get_915e3 : GoodIn wsX6_age wsJx4a65c_get_915e3 := goodIn_r _ [31, 19, 32, 33, 34, 35, 36, 37, 38, 39, 40, 41, 42, 17, 43, 44, 79, 80, 81] (by decide +kernel) (by decide +kernel)
set_option maxRecDepth 20000 in
theorem gX6_age_Jx4a65c_get_915e3_f149Jx4a65c : GoodIn wsX6_age (va_wsF RX6 149 RJx4a65c ⟨"java/util/List", "get", "(I)Ljava/lang/Object;"⟩ yJx4a65c_get_915e3 wsJx4a65c_get_915e3) := goodIn_app (goodIn_of _ (by decide +kernel)) ggX6_age_Jx4a65c_get_915e3
set_option maxRecDepth 20000 in
theorem ggX6_isArch_Jx4a65c_get_915e3 : GoodIn wsX6_isArch wsJx4a65c_get_915e3 := goodIn_r _ [31, 19, 32, 33, 34, 35, 36, 37, 38, 39, 40, 41, 42, 17, 43, 44, 73, 74, 75] (by decide +kernel) (by decide +kernel)
set_option maxRecDepth 20000 in
theorem gX6_isArch_Jx4a65c_get_915e3_f149Jx4a65c : GoodIn wsX6_isArch (va_wsF RX6 149 RJx4a65c ⟨"java/util/List", "get", "(I)Ljava/lang/Object;"⟩ yJx4a65c_get_915e3 wsJx4a65c_get_915e3) := goodIn_app (goodIn_of _ (by decide +kernel)) ggX6_isArch_Jx4a65c_get_915e3
set_option maxRecDepth 20000 in
theorem ggX6_isArch_X5_isArch : GoodIn wsX6_isArch wsX5_isArch := goodIn_r _ [56, 57, 46, 47, 48, 49, 50, 51, 52, 21, 6, 22, 58, 59, 60, 61, 76, 77, 78, 79, 80, 81, 82, 83, 84, 85] (by decide +kernel) (by decide +kernel)
set_option maxRecDepth 20000 in
theorem gX6_isArch_X5_isArch : GoodIn wsX6_isArch (wsV RX6 199 RX5 yX5_isArch wsX5_isArch) := goodIn_app (goodIn_of _ (by decide +kernel)) ggX6_isArch_X5_isArch
set_option maxRecDepth 20000 in
theorem ggX6_fell_Jx4a65c_get_915e3 : GoodIn wsX6_fell wsJx4a65c_get_915e3 := goodIn_r _ [25, 13, 26, 27, 28, 29, 30, 31, 32, 33, 34, 35, 36, 11, 37, 38, 60, 61, 62] (by decide +kernel) (by decide +kernel)
set_option maxRecDepth 20000 in
theorem gX6_fell_Jx4a65c_get_915e3_f149Jx4a65c : GoodIn wsX6_fell (va_wsF RX6 149 RJx4a65c ⟨"java/util/List", "get", "(I)Ljava/lang/Object;"⟩ yJx4a65c_get_915e3 wsJx4a65c_get_915e3) := goodIn_app (goodIn_of _ (by decide +kernel)) ggX6_fell_Jx4a65c_get_915e3
set_option maxRecDepth 20000 in
theorem ggX6_lastFell_Jx4a65c_get_915e3 : GoodIn wsX6_lastFell wsJx4a65c_get_915e3 := goodIn_r _ [25, 13, 26, 27, 28, 29, 30, 31, 32, 33, 34, 35, 36, 11, 37, 38, 60, 61, 62] (by decide +kernel) (by decide +kernel)
set_option maxRecDepth 20000 in
theorem gX6_lastFell_Jx4a65c_get_915e3_f149Jx4a65c : GoodIn wsX6_lastFell (va_wsF RX6 149 RJx4a65c ⟨"java/util/List", "get", "(I)Ljava/lang/Object;"⟩ yJx4a65c_get_915e3 wsJx4a65c_get_915e3) := goodIn_app (goodIn_of _ (by decide +kernel)) ggX6_lastFell_Jx4a65c_get_915e3
set_option maxRecDepth 20000 in
theorem ggX6_cover_Jx4a65c_get_915e3 : GoodIn wsX6_cover wsJx4a65c_get_915e3 := goodIn_r _ [26, 14, 27, 28, 29, 30, 31, 32, 33, 34, 35, 36, 37, 12, 38, 39, 61, 62, 63] (by decide +kernel) (by decide +kernel)
set_option maxRecDepth 20000 in
theorem gX6_cover_Jx4a65c_get_915e3_f149Jx4a65c : GoodIn wsX6_cover (va_wsF RX6 149 RJx4a65c ⟨"java/util/List", "get", "(I)Ljava/lang/Object;"⟩ yJx4a65c_get_915e3 wsJx4a65c_get_915e3) := goodIn_app (goodIn_of _ (by decide +kernel)) ggX6_cover_Jx4a65c_get_915e3
set_option maxRecDepth 20000 in
theorem ggX6_lamp_Jx4a65c_get_915e3 : GoodIn wsX6_lamp wsJx4a65c_get_915e3 := goodIn_r _ [32, 20, 33, 34, 35, 36, 37, 38, 39, 40, 41, 42, 43, 18, 44, 45, 80, 81, 82] (by decide +kernel) (by decide +kernel)
set_option maxRecDepth 20000 in
theorem gX6_lamp_Jx4a65c_get_915e3_f149Jx4a65c : GoodIn wsX6_lamp (va_wsF RX6 149 RJx4a65c ⟨"java/util/List", "get", "(I)Ljava/lang/Object;"⟩ yJx4a65c_get_915e3 wsJx4a65c_get_915e3) := goodIn_app (goodIn_of _ (by decide +kernel)) ggX6_lamp_Jx4a65c_get_915e3
set_option maxRecDepth 20000 in
theorem ggX6_lightBits_Jx4a65c_get_915e3 : GoodIn wsX6_lightBits wsJx4a65c_get_915e3 := goodIn_r _ [27, 15, 28, 29, 30, 31, 32, 33, 34, 35, 36, 37, 38, 13, 39, 40, 96, 97, 98] (by decide +kernel) (by decide +kernel)
set_option maxRecDepth 20000 in
theorem gX6_lightBits_Jx4a65c_get_915e3_f149Jx4a65c : GoodIn wsX6_lightBits (va_wsF RX6 149 RJx4a65c ⟨"java/util/List", "get", "(I)Ljava/lang/Object;"⟩ yJx4a65c_get_915e3 wsJx4a65c_get_915e3) := goodIn_app (goodIn_of _ (by decide +kernel)) ggX6_lightBits_Jx4a65c_get_915e3
set_option maxRecDepth 20000 in
theorem ggX6_lightBits_X5_has : GoodIn wsX6_lightBits wsX5_has := goodIn_r _ [45, 46, 47, 48, 17, 6, 18, 81, 82, 83, 84, 85, 86, 87, 88, 89, 90] (by decide +kernel) (by decide +kernel)
set_option maxRecDepth 20000 in
theorem gX6_lightBits_X5_has : GoodIn wsX6_lightBits (wsV RX6 153 RX5 yX5_has wsX5_has) := goodIn_app (goodIn_of _ (by decide +kernel)) ggX6_lightBits_X5_has
set_option maxRecDepth 20000 in
theorem ggX6_lightBits_X4_lets : GoodIn wsX6_lightBits wsX4_lets := goodIn_r _ [53, 54, 55, 56, 57, 91, 92, 93, 94, 95] (by decide +kernel) (by decide +kernel)
set_option maxRecDepth 20000 in
theorem gX6_lightBits_X4_lets : GoodIn wsX6_lightBits (wsV RX6 217 RX4 yX4_lets wsX4_lets) := goodIn_app (goodIn_of _ (by decide +kernel)) ggX6_lightBits_X4_lets
set_option maxRecDepth 20000 in
theorem ggX6_lightBits_Jxf58ca_floatToIntBits_5c35a : GoodIn wsX6_lightBits wsJxf58ca_floatToIntBits_5c35a := goodIn_r _ [61, 62, 63, 64, 65, 66, 67, 68, 60, 69] (by decide +kernel) (by decide +kernel)
set_option maxRecDepth 20000 in
theorem gX6_lightBits_Jxf58ca_floatToIntBits_5c35a : GoodIn wsX6_lightBits (va_wsS RX6 221 yJxf58ca_floatToIntBits_5c35a wsJxf58ca_floatToIntBits_5c35a) := goodIn_app (goodIn_of _ (by decide +kernel)) ggX6_lightBits_Jxf58ca_floatToIntBits_5c35a
set_option maxRecDepth 20000 in
theorem ggX6_isOpen_Jx4a65c_get_915e3 : GoodIn wsX6_isOpen wsJx4a65c_get_915e3 := goodIn_r _ [25, 13, 26, 27, 28, 29, 30, 31, 32, 33, 34, 35, 36, 11, 37, 38, 100, 101, 102] (by decide +kernel) (by decide +kernel)
set_option maxRecDepth 20000 in
theorem gX6_isOpen_Jx4a65c_get_915e3_f149Jx4a65c : GoodIn wsX6_isOpen (va_wsF RX6 149 RJx4a65c ⟨"java/util/List", "get", "(I)Ljava/lang/Object;"⟩ yJx4a65c_get_915e3 wsJx4a65c_get_915e3) := goodIn_app (goodIn_of _ (by decide +kernel)) ggX6_isOpen_Jx4a65c_get_915e3
set_option maxRecDepth 20000 in
theorem ggX6_isOpen_X5_isOpen : GoodIn wsX6_isOpen wsX5_isOpen := goodIn_ca (goodIn_r _ [43, 44, 45, 46, 47, 48, 42, 49, 50, 51, 52, 53, 54, 55, 56, 57, 15, 6, 16, 58, 59, 60, 61, 62, 63, 64, 65, 66, 67, 68, 69, 70, 71, 72, 73, 74, 75, 76, 77, 78, 79, 80, 81, 82, 83, 84, 85, 86, 87, 88, 103, 104, 105, 106, 107, 108, 109, 110, 111, 112, 89, 90, 91, 92, 93, 94, 95, 96, 97, 98, 99, 113, 114, 115, 116, 117] (by decide +kernel) (by decide +kernel)) (goodIn_sub (fun _ h => (List.mem_cons_of_mem _ (List.mem_append_right _ h))) (by decide +kernel))
set_option maxRecDepth 20000 in
theorem gX6_isOpen_X5_isOpen : GoodIn wsX6_isOpen (wsV RX6 227 RX5 yX5_isOpen wsX5_isOpen) := goodIn_app (goodIn_of _ (by decide +kernel)) ggX6_isOpen_X5_isOpen
set_option maxRecDepth 20000 in
theorem ggX6_carries_Jx4a65c_get_915e3 : GoodIn wsX6_carries wsJx4a65c_get_915e3 := goodIn_r _ [27, 15, 28, 29, 30, 31, 32, 33, 34, 35, 36, 37, 38, 13, 39, 40, 103, 104, 105] (by decide +kernel) (by decide +kernel)
set_option maxRecDepth 20000 in
theorem gX6_carries_Jx4a65c_get_915e3_f149Jx4a65c : GoodIn wsX6_carries (va_wsF RX6 149 RJx4a65c ⟨"java/util/List", "get", "(I)Ljava/lang/Object;"⟩ yJx4a65c_get_915e3 wsJx4a65c_get_915e3) := goodIn_app (goodIn_of _ (by decide +kernel)) ggX6_carries_Jx4a65c_get_915e3
set_option maxRecDepth 20000 in
theorem ggX6_carries_X5_top : GoodIn wsX6_carries wsX5_top := goodIn_r _ [45, 46, 47, 48, 44, 49, 50, 51, 52, 17, 6, 18, 106, 107, 108, 109, 110, 111, 112, 113, 114, 115] (by decide +kernel) (by decide +kernel)
set_option maxRecDepth 20000 in
theorem gX6_carries_X5_top : GoodIn wsX6_carries (wsV RX6 230 RX5 yX5_top wsX5_top) := goodIn_app (goodIn_of _ (by decide +kernel)) ggX6_carries_X5_top
set_option maxRecDepth 20000 in
theorem ggX6_carries_X5_isOpen : GoodIn wsX6_carries wsX5_isOpen := goodIn_ca (goodIn_r _ [56, 57, 52, 58, 59, 60, 44, 61, 62, 63, 46, 47, 48, 49, 50, 51, 17, 6, 18, 64, 42, 43, 45, 65, 66, 67, 68, 69, 70, 71, 72, 73, 74, 75, 76, 77, 78, 79, 80, 81, 82, 83, 84, 85, 86, 87, 88, 89, 90, 91, 106, 107, 108, 109, 110, 111, 112, 113, 114, 115, 92, 93, 94, 95, 96, 97, 98, 99, 100, 101, 102, 116, 117, 118, 119, 120] (by decide +kernel) (by decide +kernel)) (goodIn_sub (fun _ h => (List.mem_cons_of_mem _ (List.mem_append_right _ h))) (by decide +kernel))
set_option maxRecDepth 20000 in
theorem gX6_carries_X5_isOpen : GoodIn wsX6_carries (wsV RX6 227 RX5 yX5_isOpen wsX5_isOpen) := goodIn_app (goodIn_of _ (by decide +kernel)) ggX6_carries_X5_isOpen
set_option maxRecDepth 20000 in
theorem ggX6_visit_Jx4a65c_get_915e3 : GoodIn wsX6_visit wsJx4a65c_get_915e3 := goodIn_r _ [27, 15, 28, 29, 30, 31, 32, 33, 34, 35, 36, 37, 38, 13, 39, 40, 112, 113, 114] (by decide +kernel) (by decide +kernel)
set_option maxRecDepth 20000 in
theorem gX6_visit_Jx4a65c_get_915e3_f149Jx4a65c : GoodIn wsX6_visit (va_wsF RX6 149 RJx4a65c ⟨"java/util/List", "get", "(I)Ljava/lang/Object;"⟩ yJx4a65c_get_915e3 wsJx4a65c_get_915e3) := goodIn_app (goodIn_of _ (by decide +kernel)) ggX6_visit_Jx4a65c_get_915e3
set_option maxRecDepth 20000 in
theorem ggX6_visit_X5_isOpen : GoodIn wsX6_visit wsX5_isOpen := goodIn_ca (goodIn_r _ [45, 46, 47, 48, 49, 50, 44, 51, 52, 53, 54, 55, 56, 57, 58, 59, 17, 8, 18, 60, 61, 62, 63, 64, 65, 66, 67, 68, 69, 70, 71, 72, 73, 74, 75, 76, 77, 78, 79, 80, 81, 82, 83, 84, 85, 86, 87, 88, 89, 90, 102, 103, 104, 105, 106, 107, 108, 109, 110, 111, 91, 92, 93, 94, 95, 96, 97, 98, 99, 100, 101, 115, 116, 117, 118, 119] (by decide +kernel) (by decide +kernel)) (goodIn_sub (fun _ h => (List.mem_cons_of_mem _ (List.mem_append_right _ h))) (by decide +kernel))
set_option maxRecDepth 20000 in
theorem gX6_visit_X5_isOpen : GoodIn wsX6_visit (wsV RX6 227 RX5 yX5_isOpen wsX5_isOpen) := goodIn_app (goodIn_of _ (by decide +kernel)) ggX6_visit_X5_isOpen
set_option maxRecDepth 20000 in
theorem ggX6_plan_Jx4a65c_get_915e3 : GoodIn wsX6_plan wsJx4a65c_get_915e3 := goodIn_r _ [27, 15, 28, 29, 30, 31, 32, 33, 34, 35, 36, 37, 38, 13, 39, 40, 62, 63, 64] (by decide +kernel) (by decide +kernel)
set_option maxRecDepth 20000 in
theorem gX6_plan_Jx4a65c_get_915e3_f149Jx4a65c : GoodIn wsX6_plan (va_wsF RX6 149 RJx4a65c ⟨"java/util/List", "get", "(I)Ljava/lang/Object;"⟩ yJx4a65c_get_915e3 wsJx4a65c_get_915e3) := goodIn_app (goodIn_of _ (by decide +kernel)) ggX6_plan_Jx4a65c_get_915e3
set_option maxRecDepth 20000 in
theorem ggX6_carve_Jx4a65c_get_915e3 : GoodIn wsX6_carve wsJx4a65c_get_915e3 := goodIn_r _ [29, 17, 30, 31, 32, 33, 34, 35, 36, 37, 38, 39, 40, 15, 41, 42, 132, 133, 134] (by decide +kernel) (by decide +kernel)
set_option maxRecDepth 20000 in
theorem gX6_carve_Jx4a65c_get_915e3_f149Jx4a65c : GoodIn wsX6_carve (va_wsF RX6 149 RJx4a65c ⟨"java/util/List", "get", "(I)Ljava/lang/Object;"⟩ yJx4a65c_get_915e3 wsJx4a65c_get_915e3) := goodIn_app (goodIn_of _ (by decide +kernel)) ggX6_carve_Jx4a65c_get_915e3

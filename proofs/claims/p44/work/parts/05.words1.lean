set_option maxRecDepth 20000 in
theorem ggX6_wet_X6_isWrong : GoodIn wsX6_wet wsX6_isWrong := goodIn_r _ [9, 10, 20, 21, 22, 23, 24, 25, 26, 27, 28, 29, 30] (by decide +kernel) (by decide +kernel)
set_option maxRecDepth 20000 in
theorem gX6_wet_X6_isWrong : GoodIn wsX6_wet (wsV RX6 61 RX6 yX6_isWrong wsX6_isWrong) := goodIn_app (goodIn_of _ (by decide +kernel)) ggX6_wet_X6_isWrong
set_option maxRecDepth 20000 in
theorem ggX6_wet_X6_wetOf : GoodIn wsX6_wet wsX6_wetOf := goodIn_ca (goodIn_r _ [14, 15, 16, 17, 18, 4, 19, 20, 21, 22, 23, 24, 25, 26, 27, 28, 29, 30] (by decide +kernel) (by decide +kernel)) (goodIn_sub (fun _ h => (List.mem_cons_of_mem _ (List.mem_append_right _ h))) (by decide +kernel))
set_option maxRecDepth 20000 in
theorem gX6_wet_X6_wetOf : GoodIn wsX6_wet (wsV RX6 73 RX6 yX6_wetOf wsX6_wetOf) := goodIn_app (goodIn_of _ (by decide +kernel)) ggX6_wet_X6_wetOf
set_option maxRecDepth 20000 in
theorem ggX6_freezes_X6_wetOf : GoodIn wsX6_freezes wsX6_wetOf := goodIn_ca (goodIn_r _ [17, 18, 19, 20, 21, 16, 22, 23, 24, 25, 26, 27, 28, 29, 30, 31, 32, 33] (by decide +kernel) (by decide +kernel)) (goodIn_sub (fun _ h => (List.mem_cons_of_mem _ (List.mem_append_left _ (List.mem_append_right _ h)))) (by decide +kernel))
set_option maxRecDepth 20000 in
theorem gX6_freezes_X6_wetOf : GoodIn wsX6_freezes (wsV RX6 73 RX6 yX6_wetOf wsX6_wetOf) := goodIn_app (goodIn_of _ (by decide +kernel)) ggX6_freezes_X6_wetOf
set_option maxRecDepth 20000 in
theorem ggX6_isNoField_X6_isBetween : GoodIn wsX6_isNoField wsX6_isBetween := goodIn_r _ [5] (by decide +kernel) (by decide +kernel)
set_option maxRecDepth 20000 in
theorem gX6_isNoField_X6_isBetween : GoodIn wsX6_isNoField (va_wsS RX6 46 yX6_isBetween wsX6_isBetween) := goodIn_app (goodIn_of _ (by decide +kernel)) ggX6_isNoField_X6_isBetween
set_option maxRecDepth 20000 in
theorem ggX6_isNoField_X6_isWrong : GoodIn wsX6_isNoField wsX6_isWrong := goodIn_r _ [9, 10, 11, 12, 13, 14, 15, 16, 17, 18, 19, 20, 21] (by decide +kernel) (by decide +kernel)
set_option maxRecDepth 20000 in
theorem gX6_isNoField_X6_isWrong : GoodIn wsX6_isNoField (wsV RX6 61 RX6 yX6_isWrong wsX6_isWrong) := goodIn_app (goodIn_of _ (by decide +kernel)) ggX6_isNoField_X6_isWrong
set_option maxRecDepth 20000 in
theorem ggX6_ice_X6_isNoField : GoodIn wsX6_ice wsX6_isNoField := goodIn_r _ [6, 7, 8, 9, 5, 10, 11, 12, 13, 14, 15, 16, 17, 18, 19, 20, 21, 22, 23, 24, 25, 26] (by decide +kernel) (by decide +kernel)
set_option maxRecDepth 20000 in
theorem gX6_ice_X6_isNoField : GoodIn wsX6_ice (wsV RX6 94 RX6 yX6_isNoField wsX6_isNoField) := goodIn_app (goodIn_of _ (by decide +kernel)) ggX6_ice_X6_isNoField
set_option maxRecDepth 20000 in
theorem ggX6_clear_X6_isNoField : GoodIn wsX6_clear wsX6_isNoField := goodIn_r _ [6, 7, 8, 9, 5, 10, 11, 12, 13, 14, 15, 16, 17, 18, 19, 20, 21, 22, 23, 24, 25, 26] (by decide +kernel) (by decide +kernel)
set_option maxRecDepth 20000 in
theorem gX6_clear_X6_isNoField : GoodIn wsX6_clear (wsV RX6 94 RX6 yX6_isNoField wsX6_isNoField) := goodIn_app (goodIn_of _ (by decide +kernel)) ggX6_clear_X6_isNoField
set_option maxRecDepth 20000 in
theorem ggX6_bears_X6_isNoField : GoodIn wsX6_bears wsX6_isNoField := goodIn_r _ [5, 6, 7, 8, 4, 9, 10, 11, 12, 13, 14, 21, 22, 23, 24, 25, 26, 27, 28, 29, 30, 31] (by decide +kernel) (by decide +kernel)
set_option maxRecDepth 20000 in
theorem gX6_bears_X6_isNoField : GoodIn wsX6_bears (wsV RX6 94 RX6 yX6_isNoField wsX6_isNoField) := goodIn_app (goodIn_of _ (by decide +kernel)) ggX6_bears_X6_isNoField
set_option maxRecDepth 20000 in
theorem ggX6_bears_X6_hasRoad : GoodIn wsX6_bears wsX6_hasRoad := goodIn_ca (goodIn_r _ [18, 19, 20, 21, 22, 23, 24, 25, 26, 27, 28, 29, 30, 31] (by decide +kernel) (by decide +kernel)) (goodIn_sub (fun _ h => (List.mem_cons_of_mem _ (List.mem_append_right _ h))) (by decide +kernel))
set_option maxRecDepth 20000 in
theorem gX6_bears_X6_hasRoad : GoodIn wsX6_bears (wsV RX6 97 RX6 yX6_hasRoad wsX6_hasRoad) := goodIn_app (goodIn_of _ (by decide +kernel)) ggX6_bears_X6_hasRoad
set_option maxRecDepth 20000 in
theorem ggX6_cut_X6_isNoField : GoodIn wsX6_cut wsX6_isNoField := goodIn_r _ [11, 12, 13, 14, 10, 15, 16, 17, 18, 19, 20, 25, 26, 27, 28, 29, 30, 31, 32, 33, 34, 35] (by decide +kernel) (by decide +kernel)
set_option maxRecDepth 20000 in
theorem gX6_cut_X6_isNoField : GoodIn wsX6_cut (wsV RX6 94 RX6 yX6_isNoField wsX6_isNoField) := goodIn_app (goodIn_of _ (by decide +kernel)) ggX6_cut_X6_isNoField
set_option maxRecDepth 20000 in
theorem ggX6_cut_X6_isBetween : GoodIn wsX6_cut wsX6_isBetween := goodIn_r _ [15] (by decide +kernel) (by decide +kernel)
set_option maxRecDepth 20000 in
theorem gX6_cut_X6_isBetween : GoodIn wsX6_cut (va_wsS RX6 46 yX6_isBetween wsX6_isBetween) := goodIn_app (goodIn_of _ (by decide +kernel)) ggX6_cut_X6_isBetween
set_option maxRecDepth 20000 in
theorem ggX6_cut_X6_hasRoad : GoodIn wsX6_cut wsX6_hasRoad := goodIn_ca (goodIn_r _ [24, 2, 3, 25, 26, 27, 28, 29, 30, 31, 32, 33, 34, 35] (by decide +kernel) (by decide +kernel)) (goodIn_sub (fun _ h => (List.mem_cons_of_mem _ (List.mem_append_right _ h))) (by decide +kernel))
set_option maxRecDepth 20000 in
theorem gX6_cut_X6_hasRoad : GoodIn wsX6_cut (wsV RX6 97 RX6 yX6_hasRoad wsX6_hasRoad) := goodIn_app (goodIn_of _ (by decide +kernel)) ggX6_cut_X6_hasRoad
set_option maxRecDepth 20000 in
theorem ggX6_cut_X6_isWrong : GoodIn wsX6_cut wsX6_isWrong := goodIn_r _ [19, 20, 25, 26, 27, 28, 29, 30, 31, 32, 33, 34, 35] (by decide +kernel) (by decide +kernel)
set_option maxRecDepth 20000 in
theorem gX6_cut_X6_isWrong : GoodIn wsX6_cut (wsV RX6 61 RX6 yX6_isWrong wsX6_isWrong) := goodIn_app (goodIn_of _ (by decide +kernel)) ggX6_cut_X6_isWrong
set_option maxRecDepth 20000 in
theorem ggX6_lorries_X6_isBetween : GoodIn wsX6_lorries wsX6_isBetween := goodIn_r _ [11] (by decide +kernel) (by decide +kernel)
set_option maxRecDepth 20000 in
theorem gX6_lorries_X6_isBetween : GoodIn wsX6_lorries (va_wsS RX6 46 yX6_isBetween wsX6_isBetween) := goodIn_app (goodIn_of _ (by decide +kernel)) ggX6_lorries_X6_isBetween
set_option maxRecDepth 20000 in
theorem ggX6_lorries_X6_isWrong : GoodIn wsX6_lorries wsX6_isWrong := goodIn_r _ [15, 16, 17, 18, 19, 20, 21, 22, 23, 24, 25, 26, 27] (by decide +kernel) (by decide +kernel)
set_option maxRecDepth 20000 in
theorem gX6_lorries_X6_isWrong : GoodIn wsX6_lorries (wsV RX6 61 RX6 yX6_isWrong wsX6_isWrong) := goodIn_app (goodIn_of _ (by decide +kernel)) ggX6_lorries_X6_isWrong
set_option maxRecDepth 20000 in
theorem ggX6_go_X6_isBetween : GoodIn wsX6_go wsX6_isBetween := goodIn_r _ [8] (by decide +kernel) (by decide +kernel)
set_option maxRecDepth 20000 in
theorem gX6_go_X6_isBetween : GoodIn wsX6_go (va_wsS RX6 46 yX6_isBetween wsX6_isBetween) := goodIn_app (goodIn_of _ (by decide +kernel)) ggX6_go_X6_isBetween
set_option maxRecDepth 20000 in
theorem ggX6_go_X6_isWrong : GoodIn wsX6_go wsX6_isWrong := goodIn_r _ [12, 13, 132, 133, 134, 135, 136, 137, 138, 139, 140, 141, 142] (by decide +kernel) (by decide +kernel)
set_option maxRecDepth 20000 in
theorem gX6_go_X6_isWrong : GoodIn wsX6_go (wsV RX6 61 RX6 yX6_isWrong wsX6_isWrong) := goodIn_app (goodIn_of _ (by decide +kernel)) ggX6_go_X6_isWrong
set_option maxRecDepth 20000 in
theorem ggX6_go_X6_warmthOf : GoodIn wsX6_go wsX6_warmthOf := goodIn_ca (goodIn_r _ [17, 18, 132, 133, 134, 135, 136, 137, 138, 139, 140, 141, 142] (by decide +kernel) (by decide +kernel)) (goodIn_sub (fun _ h => (List.mem_cons_of_mem _ (List.mem_append_left _ (List.mem_append_right _ h)))) (by decide +kernel))
set_option maxRecDepth 20000 in
theorem gX6_go_X6_warmthOf : GoodIn wsX6_go (wsV RX6 67 RX6 yX6_warmthOf wsX6_warmthOf) := goodIn_app (goodIn_of _ (by decide +kernel)) ggX6_go_X6_warmthOf
set_option maxRecDepth 20000 in
theorem ggX6_go_X6_freezes : GoodIn wsX6_go wsX6_freezes := goodIn_ca (goodIn_ca (goodIn_r _ [22, 23, 24, 25, 26, 27, 28, 29, 30, 31, 32, 2, 33, 34, 35, 36, 7, 37, 18, 14, 15, 16, 17, 132, 133, 134, 135, 136, 137, 138, 139, 140, 141, 142] (by decide +kernel) (by decide +kernel)) (goodIn_sub (fun _ h => (List.mem_cons_of_mem _ (List.mem_append_left _ (List.mem_append_right _ h)))) (by decide +kernel))) (goodIn_sub (fun _ h => (List.mem_cons_of_mem _ (List.mem_append_right _ h))) (by decide +kernel))
set_option maxRecDepth 20000 in
theorem gX6_go_X6_freezes : GoodIn wsX6_go (wsV RX6 105 RX6 yX6_freezes wsX6_freezes) := goodIn_app (goodIn_of _ (by decide +kernel)) ggX6_go_X6_freezes
set_option maxRecDepth 20000 in
theorem ggX6_go_Jx4a65c_iterator_32c93 : GoodIn wsX6_go wsJx4a65c_iterator_32c93 := goodIn_r _ [42, 43, 44, 45, 46, 47, 48, 49, 50, 51, 52, 53, 54, 55, 56, 143, 144, 145, 146, 147, 148, 149] (by decide +kernel) (by decide +kernel)
set_option maxRecDepth 20000 in
theorem gX6_go_Jx4a65c_iterator_32c93_f109Jx4a65c : GoodIn wsX6_go (va_wsF RX6 109 RJx4a65c ⟨"java/util/List", "iterator", "()Ljava/util/Iterator;"⟩ yJx4a65c_iterator_32c93 wsJx4a65c_iterator_32c93) := goodIn_app (goodIn_of _ (by decide +kernel)) ggX6_go_Jx4a65c_iterator_32c93
set_option maxRecDepth 20000 in
theorem ggX6_go_Jx35411_hasNext_aae02 : GoodIn wsX6_go wsJx35411_hasNext_aae02 := goodIn_r _ [60, 61, 49, 143, 144, 145, 146, 147, 148, 149] (by decide +kernel) (by decide +kernel)
set_option maxRecDepth 20000 in
theorem gX6_go_Jx35411_hasNext_aae02_f115Jx35411 : GoodIn wsX6_go (va_wsF RX6 115 RJx35411 ⟨"java/util/Iterator", "hasNext", "()Z"⟩ yJx35411_hasNext_aae02 wsJx35411_hasNext_aae02) := goodIn_app (goodIn_of _ (by decide +kernel)) ggX6_go_Jx35411_hasNext_aae02
set_option maxRecDepth 20000 in
theorem ggX6_site_Jx4a65c_size_8abf5 : GoodIn wsX6_site wsJx4a65c_size_8abf5 := goodIn_r _ [9, 10, 103, 104, 105] (by decide +kernel) (by decide +kernel)
set_option maxRecDepth 20000 in
theorem gX6_site_Jx4a65c_size_8abf5_f130Jx4a65c : GoodIn wsX6_site (va_wsF RX6 130 RJx4a65c ⟨"java/util/List", "size", "()I"⟩ yJx4a65c_size_8abf5 wsJx4a65c_size_8abf5) := goodIn_app (goodIn_of _ (by decide +kernel)) ggX6_site_Jx4a65c_size_8abf5
set_option maxRecDepth 20000 in
theorem ggX6_site_X6_isWrong : GoodIn wsX6_site wsX6_isWrong := goodIn_r _ [15, 16, 82, 83, 84, 85, 86, 87, 88, 89, 90, 91, 92] (by decide +kernel) (by decide +kernel)
set_option maxRecDepth 20000 in
theorem gX6_site_X6_isWrong : GoodIn wsX6_site (wsV RX6 61 RX6 yX6_isWrong wsX6_isWrong) := goodIn_app (goodIn_of _ (by decide +kernel)) ggX6_site_X6_isWrong
set_option maxRecDepth 20000 in
theorem ggX6_site_X5_init : GoodIn wsX6_site wsX5_init := goodIn_r _ [18, 19, 20, 21, 22, 23, 24, 25, 26, 27, 93, 94, 95, 96, 97, 98, 99, 100, 101, 102] (by decide +kernel) (by decide +kernel)
set_option maxRecDepth 20000 in
theorem gX6_site_X5_init_n134 : GoodIn wsX6_site (wsX5_init) := ggX6_site_X5_init
set_option maxRecDepth 20000 in
theorem ggX6_site_Jx4a65c_add_9ea2d : GoodIn wsX6_site wsJx4a65c_add_9ea2d := goodIn_r _ [31, 32, 33, 34, 10, 35, 36, 37, 8, 38, 39, 40, 41, 42, 43, 44, 45, 46, 47, 48, 49, 50, 51, 52, 53, 54, 55, 56, 57, 58, 59, 60, 61, 62, 63, 64, 65, 66, 67, 68, 69, 70, 71, 72, 73, 74, 75, 76, 77, 78, 79, 80, 81, 103, 104, 105] (by decide +kernel) (by decide +kernel)
set_option maxRecDepth 20000 in
theorem gX6_site_Jx4a65c_add_9ea2d_f137Jx4a65c : GoodIn wsX6_site (va_wsF RX6 137 RJx4a65c ⟨"java/util/List", "add", "(Ljava/lang/Object;)Z"⟩ yJx4a65c_add_9ea2d wsJx4a65c_add_9ea2d) := goodIn_app (goodIn_of _ (by decide +kernel)) ggX6_site_Jx4a65c_add_9ea2d
set_option maxRecDepth 20000 in
theorem ggX6_isNoSite_Jx4a65c_size_8abf5 : GoodIn wsX6_isNoSite wsJx4a65c_size_8abf5 := goodIn_r _ [6, 7, 28, 29, 30] (by decide +kernel) (by decide +kernel)
set_option maxRecDepth 20000 in
theorem gX6_isNoSite_Jx4a65c_size_8abf5_f130Jx4a65c : GoodIn wsX6_isNoSite (va_wsF RX6 130 RJx4a65c ⟨"java/util/List", "size", "()I"⟩ yJx4a65c_size_8abf5 wsJx4a65c_size_8abf5) := goodIn_app (goodIn_of _ (by decide +kernel)) ggX6_isNoSite_Jx4a65c_size_8abf5
set_option maxRecDepth 20000 in
theorem ggX6_isNoSite_X6_isBetween : GoodIn wsX6_isNoSite wsX6_isBetween := goodIn_r _ [11] (by decide +kernel) (by decide +kernel)
set_option maxRecDepth 20000 in
theorem gX6_isNoSite_X6_isBetween : GoodIn wsX6_isNoSite (va_wsS RX6 46 yX6_isBetween wsX6_isBetween) := goodIn_app (goodIn_of _ (by decide +kernel)) ggX6_isNoSite_X6_isBetween
set_option maxRecDepth 20000 in
theorem ggX6_isNoSite_X6_isWrong : GoodIn wsX6_isNoSite wsX6_isWrong := goodIn_r _ [15, 16, 17, 18, 19, 20, 21, 22, 23, 24, 25, 26, 27] (by decide +kernel) (by decide +kernel)
set_option maxRecDepth 20000 in
theorem gX6_isNoSite_X6_isWrong : GoodIn wsX6_isNoSite (wsV RX6 61 RX6 yX6_isWrong wsX6_isWrong) := goodIn_app (goodIn_of _ (by decide +kernel)) ggX6_isNoSite_X6_isWrong
set_option maxRecDepth 20000 in
theorem ggX6_isNoPlace_Jx4a65c_size_8abf5 : GoodIn wsX6_isNoPlace wsJx4a65c_size_8abf5 := goodIn_r _ [8, 9, 30, 31, 32] (by decide +kernel) (by decide +kernel)
set_option maxRecDepth 20000 in
theorem gX6_isNoPlace_Jx4a65c_size_8abf5_f130Jx4a65c : GoodIn wsX6_isNoPlace (va_wsF RX6 130 RJx4a65c ⟨"java/util/List", "size", "()I"⟩ yJx4a65c_size_8abf5 wsJx4a65c_size_8abf5) := goodIn_app (goodIn_of _ (by decide +kernel)) ggX6_isNoPlace_Jx4a65c_size_8abf5
set_option maxRecDepth 20000 in
theorem ggX6_isNoPlace_X6_isBetween : GoodIn wsX6_isNoPlace wsX6_isBetween := goodIn_r _ [13] (by decide +kernel) (by decide +kernel)
set_option maxRecDepth 20000 in
theorem gX6_isNoPlace_X6_isBetween : GoodIn wsX6_isNoPlace (va_wsS RX6 46 yX6_isBetween wsX6_isBetween) := goodIn_app (goodIn_of _ (by decide +kernel)) ggX6_isNoPlace_X6_isBetween
set_option maxRecDepth 20000 in
theorem ggX6_isNoPlace_X6_isWrong : GoodIn wsX6_isNoPlace wsX6_isWrong := goodIn_r _ [17, 18, 19, 20, 21, 22, 23, 24, 25, 26, 27, 28, 29] (by decide +kernel) (by decide +kernel)
set_option maxRecDepth 20000 in
theorem gX6_isNoPlace_X6_isWrong : GoodIn wsX6_isNoPlace (wsV RX6 61 RX6 yX6_isWrong wsX6_isWrong) := goodIn_app (goodIn_of _ (by decide +kernel)) ggX6_isNoPlace_X6_isWrong
set_option maxRecDepth 20000 in
theorem ggX6_isNoCell_X6_isNoPlace : GoodIn wsX6_isNoCell wsX6_isNoPlace := goodIn_r _ [7, 1, 8, 9, 10, 11, 12, 13, 14, 15, 16, 17, 6, 18, 19, 20, 21, 22, 23, 49, 50, 51, 52, 53, 54, 55, 56, 57, 58, 59, 60, 61, 62] (by decide +kernel) (by decide +kernel)
set_option maxRecDepth 20000 in
theorem gX6_isNoCell_X6_isNoPlace : GoodIn wsX6_isNoCell (wsV RX6 145 RX6 yX6_isNoPlace wsX6_isNoPlace) := goodIn_app (goodIn_of _ (by decide +kernel)) ggX6_isNoCell_X6_isNoPlace
set_option maxRecDepth 20000 in
theorem ggX6_isNoCell_X6_isWrong : GoodIn wsX6_isNoCell wsX6_isWrong := goodIn_r _ [22, 23, 49, 50, 51, 52, 53, 54, 55, 56, 57, 58, 59] (by decide +kernel) (by decide +kernel)
set_option maxRecDepth 20000 in
theorem gX6_isNoCell_X6_isWrong : GoodIn wsX6_isNoCell (wsV RX6 61 RX6 yX6_isWrong wsX6_isWrong) := goodIn_app (goodIn_of _ (by decide +kernel)) ggX6_isNoCell_X6_isWrong
set_option maxRecDepth 20000 in
theorem ggX6_put_X6_isNoPlace : GoodIn wsX6_put wsX6_isNoPlace := goodIn_r _ [14, 1, 15, 16, 17, 18, 19, 20, 21, 22, 23, 24, 13, 25, 26, 27, 28, 29, 30, 125, 126, 127, 128, 129, 130, 131, 132, 133, 134, 135, 151, 152, 153] (by decide +kernel) (by decide +kernel)
set_option maxRecDepth 20000 in
theorem gX6_put_X6_isNoPlace : GoodIn wsX6_put (wsV RX6 145 RX6 yX6_isNoPlace wsX6_isNoPlace) := goodIn_app (goodIn_of _ (by decide +kernel)) ggX6_put_X6_isNoPlace
set_option maxRecDepth 20000 in
theorem ggX6_put_X6_isWrong : GoodIn wsX6_put wsX6_isWrong := goodIn_r _ [29, 30, 125, 126, 127, 128, 129, 130, 131, 132, 133, 134, 135] (by decide +kernel) (by decide +kernel)
set_option maxRecDepth 20000 in
theorem gX6_put_X6_isWrong : GoodIn wsX6_put (wsV RX6 61 RX6 yX6_isWrong wsX6_isWrong) := goodIn_app (goodIn_of _ (by decide +kernel)) ggX6_put_X6_isWrong
set_option maxRecDepth 20000 in
theorem ggX6_put_X6_warmthOf : GoodIn wsX6_put wsX6_warmthOf := goodIn_ca (goodIn_r _ [80, 81, 125, 126, 127, 128, 129, 130, 131, 132, 133, 134, 135] (by decide +kernel) (by decide +kernel)) (goodIn_sub (fun _ h => (List.mem_cons_of_mem _ (List.mem_append_right _ h))) (by decide +kernel))
set_option maxRecDepth 20000 in
theorem gX6_put_X6_warmthOf : GoodIn wsX6_put (wsV RX6 67 RX6 yX6_warmthOf wsX6_warmthOf) := goodIn_app (goodIn_of _ (by decide +kernel)) ggX6_put_X6_warmthOf
set_option maxRecDepth 20000 in
theorem ggX6_at_X6_isNoPlace : GoodIn wsX6_at wsX6_isNoPlace := goodIn_r _ [7, 1, 8, 9, 10, 11, 12, 13, 14, 15, 16, 17, 6, 18, 19, 20, 21, 22, 23, 49, 50, 51, 52, 53, 54, 55, 56, 57, 58, 59, 75, 76, 77] (by decide +kernel) (by decide +kernel)
set_option maxRecDepth 20000 in
theorem gX6_at_X6_isNoPlace : GoodIn wsX6_at (wsV RX6 145 RX6 yX6_isNoPlace wsX6_isNoPlace) := goodIn_app (goodIn_of _ (by decide +kernel)) ggX6_at_X6_isNoPlace
set_option maxRecDepth 20000 in
theorem ggX6_mass_X6_isNoCell : GoodIn wsX6_mass wsX6_isNoCell := goodIn_r _ [7, 1, 2, 8, 9, 10, 6, 11, 12, 13, 14, 15, 16, 17, 18, 19, 20, 21, 22, 23, 24, 25, 26, 27, 28, 29, 30, 31, 32, 33, 34, 35, 36, 37, 38, 39, 40, 41, 42, 43, 44, 45, 46, 47, 48, 49, 50, 51, 52, 53, 54, 55, 56, 57, 58, 59, 60, 61, 62, 63, 79, 80, 81, 64, 65, 66, 67, 68, 69, 70, 71, 72, 73] (by decide +kernel) (by decide +kernel)
set_option maxRecDepth 20000 in
theorem gX6_mass_X6_isNoCell : GoodIn wsX6_mass (wsV RX6 179 RX6 yX6_isNoCell wsX6_isNoCell) := goodIn_app (goodIn_of _ (by decide +kernel)) ggX6_mass_X6_isNoCell
set_option maxRecDepth 20000 in
theorem ggX6_load_X6_isNoCell : GoodIn wsX6_load wsX6_isNoCell := goodIn_r _ [7, 1, 2, 8, 9, 10, 6, 11, 12, 13, 14, 15, 16, 17, 18, 19, 20, 21, 22, 23, 24, 25, 26, 27, 28, 29, 30, 31, 32, 33, 34, 35, 36, 37, 38, 39, 40, 41, 42, 43, 44, 45, 46, 47, 48, 49, 50, 51, 52, 72, 73, 74, 75, 76, 77, 78, 79, 80, 81, 82, 83, 84, 85, 86, 87, 88, 89, 90, 91, 92, 93, 94, 95] (by decide +kernel) (by decide +kernel)
set_option maxRecDepth 20000 in
theorem gX6_load_X6_isNoCell : GoodIn wsX6_load (wsV RX6 179 RX6 yX6_isNoCell wsX6_isNoCell) := goodIn_app (goodIn_of _ (by decide +kernel)) ggX6_load_X6_isNoCell
set_option maxRecDepth 20000 in
theorem ggX6_strength_X6_isNoCell : GoodIn wsX6_strength wsX6_isNoCell := goodIn_r _ [8, 1, 2, 9, 10, 11, 7, 12, 13, 14, 15, 16, 17, 18, 19, 20, 21, 22, 23, 24, 25, 26, 27, 28, 29, 30, 31, 32, 33, 34, 35, 36, 37, 38, 39, 40, 41, 42, 43, 44, 45, 46, 47, 48, 49, 50, 51, 52, 53, 70, 71, 72, 73, 74, 75, 76, 77, 78, 79, 80, 81, 82, 83, 84, 85, 86, 87, 88, 89, 90, 91, 92, 93] (by decide +kernel) (by decide +kernel)
set_option maxRecDepth 20000 in
theorem gX6_strength_X6_isNoCell : GoodIn wsX6_strength (wsV RX6 179 RX6 yX6_isNoCell wsX6_isNoCell) := goodIn_app (goodIn_of _ (by decide +kernel)) ggX6_strength_X6_isNoCell
set_option maxRecDepth 20000 in
theorem ggX6_strength_X6_warmthOf : GoodIn wsX6_strength wsX6_warmthOf := goodIn_ca (goodIn_r _ [57, 58, 70, 71, 72, 73, 74, 75, 76, 77, 78, 79, 80] (by decide +kernel) (by decide +kernel)) (goodIn_sub (fun _ h => (List.mem_cons_of_mem _ (List.mem_append_right _ h))) (by decide +kernel))
set_option maxRecDepth 20000 in
theorem gX6_strength_X6_warmthOf : GoodIn wsX6_strength (wsV RX6 67 RX6 yX6_warmthOf wsX6_warmthOf) := goodIn_app (goodIn_of _ (by decide +kernel)) ggX6_strength_X6_warmthOf
set_option maxRecDepth 20000 in
theorem ggX6_creep_X6_isNoCell : GoodIn wsX6_creep wsX6_isNoCell := goodIn_r _ [7, 1, 2, 8, 9, 10, 6, 11, 12, 13, 14, 15, 16, 17, 18, 19, 20, 21, 22, 23, 24, 25, 26, 27, 28, 29, 30, 31, 32, 33, 34, 35, 36, 37, 38, 39, 40, 41, 42, 43, 44, 45, 46, 47, 48, 49, 50, 51, 52, 53, 54, 55, 56, 57, 58, 59, 60, 61, 62, 63, 79, 80, 81, 64, 65, 66, 67, 68, 69, 70, 71, 72, 73] (by decide +kernel) (by decide +kernel)
set_option maxRecDepth 20000 in
theorem gX6_creep_X6_isNoCell : GoodIn wsX6_creep (wsV RX6 179 RX6 yX6_isNoCell wsX6_isNoCell) := goodIn_app (goodIn_of _ (by decide +kernel)) ggX6_creep_X6_isNoCell
set_option maxRecDepth 20000 in
theorem ggX6_age_X6_isNoCell : GoodIn wsX6_age wsX6_isNoCell := goodIn_r _ [7, 1, 2, 8, 9, 10, 6, 11, 12, 13, 14, 15, 16, 17, 18, 19, 20, 21, 22, 23, 24, 25, 26, 27, 28, 29, 30, 31, 32, 33, 34, 35, 36, 37, 38, 39, 40, 41, 42, 43, 44, 45, 46, 47, 48, 49, 50, 51, 52, 53, 54, 55, 56, 57, 58, 59, 60, 61, 62, 63, 79, 80, 81, 64, 65, 66, 67, 68, 69, 70, 71, 72, 73] (by decide +kernel) (by decide +kernel)
set_option maxRecDepth 20000 in
theorem gX6_age_X6_isNoCell : GoodIn wsX6_age (wsV RX6 179 RX6 yX6_isNoCell wsX6_isNoCell) := goodIn_app (goodIn_of _ (by decide +kernel)) ggX6_age_X6_isNoCell
set_option maxRecDepth 20000 in
theorem ggX6_isArch_X6_isNoCell : GoodIn wsX6_isArch wsX6_isNoCell := goodIn_r _ [7, 1, 2, 8, 9, 10, 6, 11, 12, 13, 14, 15, 16, 17, 18, 19, 20, 21, 22, 23, 24, 25, 26, 27, 28, 29, 30, 31, 32, 33, 34, 35, 36, 37, 38, 39, 40, 41, 42, 43, 44, 45, 46, 47, 48, 49, 50, 51, 52, 62, 63, 64, 65, 66, 67, 68, 69, 70, 71, 72, 73, 74, 75, 76, 77, 78, 79, 80, 81, 82, 83, 84, 85] (by decide +kernel) (by decide +kernel)
set_option maxRecDepth 20000 in
theorem gX6_isArch_X6_isNoCell : GoodIn wsX6_isArch (wsV RX6 179 RX6 yX6_isNoCell wsX6_isNoCell) := goodIn_app (goodIn_of _ (by decide +kernel)) ggX6_isArch_X6_isNoCell
set_option maxRecDepth 20000 in
theorem ggX6_fell_X6_isNoSite : GoodIn wsX6_fell wsX6_isNoSite := goodIn_r _ [7, 1, 8, 9, 10, 11, 12, 13, 14, 15, 6, 16, 17, 18, 19, 20, 21, 39, 40, 41, 42, 43, 44, 45, 46, 47, 48, 49, 60, 61, 62] (by decide +kernel) (by decide +kernel)
set_option maxRecDepth 20000 in
theorem gX6_fell_X6_isNoSite : GoodIn wsX6_fell (wsV RX6 202 RX6 yX6_isNoSite wsX6_isNoSite) := goodIn_app (goodIn_of _ (by decide +kernel)) ggX6_fell_X6_isNoSite
set_option maxRecDepth 20000 in
theorem ggX6_lastFell_X6_isNoSite : GoodIn wsX6_lastFell wsX6_isNoSite := goodIn_r _ [7, 1, 8, 9, 10, 11, 12, 13, 14, 15, 6, 16, 17, 18, 19, 20, 21, 39, 40, 41, 42, 43, 44, 45, 46, 47, 48, 49, 60, 61, 62] (by decide +kernel) (by decide +kernel)
set_option maxRecDepth 20000 in
theorem gX6_lastFell_X6_isNoSite : GoodIn wsX6_lastFell (wsV RX6 202 RX6 yX6_isNoSite wsX6_isNoSite) := goodIn_app (goodIn_of _ (by decide +kernel)) ggX6_lastFell_X6_isNoSite
set_option maxRecDepth 20000 in
theorem ggX6_lastFell_X6_isWrong : GoodIn wsX6_lastFell wsX6_isWrong := goodIn_r _ [20, 21, 39, 40, 41, 42, 43, 44, 45, 46, 47, 48, 49] (by decide +kernel) (by decide +kernel)
set_option maxRecDepth 20000 in
theorem gX6_lastFell_X6_isWrong : GoodIn wsX6_lastFell (wsV RX6 61 RX6 yX6_isWrong wsX6_isWrong) := goodIn_app (goodIn_of _ (by decide +kernel)) ggX6_lastFell_X6_isWrong
set_option maxRecDepth 20000 in
theorem ggX6_cover_X6_isNoSite : GoodIn wsX6_cover wsX6_isNoSite := goodIn_r _ [8, 1, 9, 10, 11, 12, 13, 14, 15, 16, 7, 17, 18, 19, 20, 21, 22, 40, 41, 42, 43, 44, 45, 46, 47, 48, 49, 50, 61, 62, 63] (by decide +kernel) (by decide +kernel)
set_option maxRecDepth 20000 in
theorem gX6_cover_X6_isNoSite : GoodIn wsX6_cover (wsV RX6 202 RX6 yX6_isNoSite wsX6_isNoSite) := goodIn_app (goodIn_of _ (by decide +kernel)) ggX6_cover_X6_isNoSite
set_option maxRecDepth 20000 in
theorem ggX6_lamp_X6_isNoCell : GoodIn wsX6_lamp wsX6_isNoCell := goodIn_r _ [8, 1, 2, 9, 10, 11, 7, 12, 13, 14, 15, 16, 17, 18, 19, 20, 21, 22, 23, 24, 25, 26, 27, 28, 29, 30, 31, 32, 33, 34, 35, 36, 37, 38, 39, 40, 41, 42, 43, 44, 45, 46, 47, 48, 49, 50, 51, 52, 53, 54, 55, 56, 57, 58, 59, 60, 61, 62, 63, 64, 80, 81, 82, 65, 66, 67, 68, 69, 70, 71, 72, 73, 74] (by decide +kernel) (by decide +kernel)
set_option maxRecDepth 20000 in
theorem gX6_lamp_X6_isNoCell : GoodIn wsX6_lamp (wsV RX6 179 RX6 yX6_isNoCell wsX6_isNoCell) := goodIn_app (goodIn_of _ (by decide +kernel)) ggX6_lamp_X6_isNoCell
set_option maxRecDepth 20000 in
theorem ggX6_lamp_X6_isWrong : GoodIn wsX6_lamp wsX6_isWrong := goodIn_r _ [27, 28, 54, 55, 56, 57, 58, 59, 60, 61, 62, 63, 64] (by decide +kernel) (by decide +kernel)
set_option maxRecDepth 20000 in
theorem gX6_lamp_X6_isWrong : GoodIn wsX6_lamp (wsV RX6 61 RX6 yX6_isWrong wsX6_isWrong) := goodIn_app (goodIn_of _ (by decide +kernel)) ggX6_lamp_X6_isWrong
set_option maxRecDepth 20000 in
theorem ggX6_lightBits_X6_isNoPlace : GoodIn wsX6_lightBits wsX6_isNoPlace := goodIn_r _ [7, 1, 8, 9, 10, 11, 12, 13, 14, 15, 16, 17, 6, 18, 19, 20, 21, 22, 23, 70, 71, 72, 73, 74, 75, 76, 77, 78, 79, 80, 96, 97, 98] (by decide +kernel) (by decide +kernel)
set_option maxRecDepth 20000 in
theorem gX6_lightBits_X6_isNoPlace : GoodIn wsX6_lightBits (wsV RX6 145 RX6 yX6_isNoPlace wsX6_isNoPlace) := goodIn_app (goodIn_of _ (by decide +kernel)) ggX6_lightBits_X6_isNoPlace
set_option maxRecDepth 20000 in
theorem ggX6_isOpen_X6_isNoSite : GoodIn wsX6_isOpen wsX6_isNoSite := goodIn_r _ [7, 1, 8, 9, 10, 11, 12, 13, 14, 15, 6, 16, 17, 18, 19, 20, 21, 89, 90, 91, 92, 93, 94, 95, 96, 97, 98, 99, 100, 101, 102] (by decide +kernel) (by decide +kernel)
set_option maxRecDepth 20000 in
theorem gX6_isOpen_X6_isNoSite : GoodIn wsX6_isOpen (wsV RX6 202 RX6 yX6_isNoSite wsX6_isNoSite) := goodIn_app (goodIn_of _ (by decide +kernel)) ggX6_isOpen_X6_isNoSite
set_option maxRecDepth 20000 in
theorem ggX6_carries_X6_isNoPlace : GoodIn wsX6_carries wsX6_isNoPlace := goodIn_r _ [7, 1, 8, 9, 10, 11, 12, 13, 14, 15, 16, 17, 6, 18, 19, 20, 21, 22, 23, 92, 93, 94, 95, 96, 97, 98, 99, 100, 101, 102, 103, 104, 105] (by decide +kernel) (by decide +kernel)
set_option maxRecDepth 20000 in
theorem gX6_carries_X6_isNoPlace : GoodIn wsX6_carries (wsV RX6 145 RX6 yX6_isNoPlace wsX6_isNoPlace) := goodIn_app (goodIn_of _ (by decide +kernel)) ggX6_carries_X6_isNoPlace
set_option maxRecDepth 20000 in
theorem ggX6_carries_X6_isWrong : GoodIn wsX6_carries wsX6_isWrong := goodIn_r _ [22, 23, 92, 93, 94, 95, 96, 97, 98, 99, 100, 101, 102] (by decide +kernel) (by decide +kernel)
set_option maxRecDepth 20000 in
theorem gX6_carries_X6_isWrong : GoodIn wsX6_carries (wsV RX6 61 RX6 yX6_isWrong wsX6_isWrong) := goodIn_app (goodIn_of _ (by decide +kernel)) ggX6_carries_X6_isWrong
set_option maxRecDepth 20000 in
theorem ggX6_visit_X6_isNoSite : GoodIn wsX6_visit wsX6_isNoSite := goodIn_r _ [9, 2, 10, 11, 12, 13, 14, 15, 16, 17, 8, 18, 19, 20, 21, 22, 23, 91, 92, 93, 94, 95, 96, 97, 98, 99, 100, 101, 112, 113, 114] (by decide +kernel) (by decide +kernel)
set_option maxRecDepth 20000 in
theorem gX6_visit_X6_isNoSite : GoodIn wsX6_visit (wsV RX6 202 RX6 yX6_isNoSite wsX6_isNoSite) := goodIn_app (goodIn_of _ (by decide +kernel)) ggX6_visit_X6_isNoSite
set_option maxRecDepth 20000 in
theorem ggX6_visit_X6_isBetween : GoodIn wsX6_visit wsX6_isBetween := goodIn_r _ [18] (by decide +kernel) (by decide +kernel)
set_option maxRecDepth 20000 in
theorem gX6_visit_X6_isBetween : GoodIn wsX6_visit (va_wsS RX6 46 yX6_isBetween wsX6_isBetween) := goodIn_app (goodIn_of _ (by decide +kernel)) ggX6_visit_X6_isBetween
set_option maxRecDepth 20000 in
theorem ggX6_visit_X6_isWrong : GoodIn wsX6_visit wsX6_isWrong := goodIn_r _ [22, 23, 91, 92, 93, 94, 95, 96, 97, 98, 99, 100, 101] (by decide +kernel) (by decide +kernel)
set_option maxRecDepth 20000 in
theorem gX6_visit_X6_isWrong : GoodIn wsX6_visit (wsV RX6 61 RX6 yX6_isWrong wsX6_isWrong) := goodIn_app (goodIn_of _ (by decide +kernel)) ggX6_visit_X6_isWrong
set_option maxRecDepth 20000 in
theorem ggX6_squareBits_X6_isBetween : GoodIn wsX6_squareBits wsX6_isBetween := goodIn_r _ [11] (by decide +kernel) (by decide +kernel)
set_option maxRecDepth 20000 in
theorem gX6_squareBits_X6_isBetween : GoodIn wsX6_squareBits (va_wsS RX6 46 yX6_isBetween wsX6_isBetween) := goodIn_app (goodIn_of _ (by decide +kernel)) ggX6_squareBits_X6_isBetween
set_option maxRecDepth 20000 in
theorem ggX6_squareBits_X6_isWrong : GoodIn wsX6_squareBits wsX6_isWrong := goodIn_r _ [15, 16, 34, 35, 36, 37, 38, 39, 40, 41, 42, 43, 44] (by decide +kernel) (by decide +kernel)
set_option maxRecDepth 20000 in
theorem gX6_squareBits_X6_isWrong : GoodIn wsX6_squareBits (wsV RX6 61 RX6 yX6_isWrong wsX6_isWrong) := goodIn_app (goodIn_of _ (by decide +kernel)) ggX6_squareBits_X6_isWrong
set_option maxRecDepth 20000 in
theorem ggX6_squareBits_X6_warmthOf : GoodIn wsX6_squareBits wsX6_warmthOf := goodIn_ca (goodIn_r _ [20, 21, 34, 35, 36, 37, 38, 39, 40, 41, 42, 43, 44] (by decide +kernel) (by decide +kernel)) (goodIn_sub (fun _ h => (List.mem_cons_of_mem _ (List.mem_append_right _ h))) (by decide +kernel))
set_option maxRecDepth 20000 in
theorem gX6_squareBits_X6_warmthOf : GoodIn wsX6_squareBits (wsV RX6 67 RX6 yX6_warmthOf wsX6_warmthOf) := goodIn_app (goodIn_of _ (by decide +kernel)) ggX6_squareBits_X6_warmthOf
set_option maxRecDepth 20000 in
theorem ggX6_squareBits_Jxe99ae_doubleToLongBits_ccdee : GoodIn wsX6_squareBits wsJxe99ae_doubleToLongBits_ccdee := goodIn_r _ [25, 26, 27, 28, 29, 30, 31, 32, 24, 33] (by decide +kernel) (by decide +kernel)
set_option maxRecDepth 20000 in
theorem gX6_squareBits_Jxe99ae_doubleToLongBits_ccdee : GoodIn wsX6_squareBits (va_wsS RX6 246 yJxe99ae_doubleToLongBits_ccdee wsJxe99ae_doubleToLongBits_ccdee) := goodIn_app (goodIn_of _ (by decide +kernel)) ggX6_squareBits_Jxe99ae_doubleToLongBits_ccdee
set_option maxRecDepth 20000 in
theorem ggX6_plan_X6_isNoPlace : GoodIn wsX6_plan wsX6_isNoPlace := goodIn_r _ [7, 1, 8, 9, 10, 11, 12, 13, 14, 15, 16, 17, 6, 18, 19, 20, 21, 22, 23, 41, 42, 43, 44, 45, 46, 47, 48, 49, 50, 51, 62, 63, 64] (by decide +kernel) (by decide +kernel)
set_option maxRecDepth 20000 in
theorem gX6_plan_X6_isNoPlace : GoodIn wsX6_plan (wsV RX6 145 RX6 yX6_isNoPlace wsX6_isNoPlace) := goodIn_app (goodIn_of _ (by decide +kernel)) ggX6_plan_X6_isNoPlace
set_option maxRecDepth 20000 in
theorem ggX6_carve_X6_isNoPlace : GoodIn wsX6_carve wsX6_isNoPlace := goodIn_r _ [9, 1, 10, 11, 12, 13, 14, 15, 16, 17, 18, 19, 8, 20, 21, 22, 23, 24, 25, 106, 107, 108, 109, 110, 111, 112, 113, 114, 115, 116, 132, 133, 134] (by decide +kernel) (by decide +kernel)
set_option maxRecDepth 20000 in
theorem gX6_carve_X6_isNoPlace : GoodIn wsX6_carve (wsV RX6 145 RX6 yX6_isNoPlace wsX6_isNoPlace) := goodIn_app (goodIn_of _ (by decide +kernel)) ggX6_carve_X6_isNoPlace
set_option maxRecDepth 20000 in
theorem ggX6_carve_X6_isBetween : GoodIn wsX6_carve wsX6_isBetween := goodIn_r _ [20] (by decide +kernel) (by decide +kernel)
set_option maxRecDepth 20000 in
theorem gX6_carve_X6_isBetween : GoodIn wsX6_carve (va_wsS RX6 46 yX6_isBetween wsX6_isBetween) := goodIn_app (goodIn_of _ (by decide +kernel)) ggX6_carve_X6_isBetween
set_option maxRecDepth 20000 in
theorem ggX6_carve_X6_isWrong : GoodIn wsX6_carve wsX6_isWrong := goodIn_r _ [24, 25, 106, 107, 108, 109, 110, 111, 112, 113, 114, 115, 116] (by decide +kernel) (by decide +kernel)
set_option maxRecDepth 20000 in
theorem gX6_carve_X6_isWrong : GoodIn wsX6_carve (wsV RX6 61 RX6 yX6_isWrong wsX6_isWrong) := goodIn_app (goodIn_of _ (by decide +kernel)) ggX6_carve_X6_isWrong
set_option maxRecDepth 20000 in
theorem ggX6_carve_X6_warmthOf : GoodIn wsX6_carve wsX6_warmthOf := goodIn_ca (goodIn_r _ [46, 47, 106, 107, 108, 109, 110, 111, 112, 113, 114, 115, 116] (by decide +kernel) (by decide +kernel)) (goodIn_sub (fun _ h => (List.mem_cons_of_mem _ (List.mem_append_right _ h))) (by decide +kernel))
set_option maxRecDepth 20000 in
theorem gX6_carve_X6_warmthOf : GoodIn wsX6_carve (wsV RX6 67 RX6 yX6_warmthOf wsX6_warmthOf) := goodIn_app (goodIn_of _ (by decide +kernel)) ggX6_carve_X6_warmthOf
set_option maxRecDepth 20000 in
theorem ggX6_hours_X6_isNoSite : GoodIn wsX6_hours wsX6_isNoSite := goodIn_r _ [7, 1, 8, 9, 10, 11, 12, 13, 14, 15, 6, 16, 17, 18, 19, 20, 21, 39, 40, 41, 42, 43, 44, 45, 46, 47, 48, 49, 60, 61, 62] (by decide +kernel) (by decide +kernel)
set_option maxRecDepth 20000 in
theorem gX6_hours_X6_isNoSite : GoodIn wsX6_hours (wsV RX6 202 RX6 yX6_isNoSite wsX6_isNoSite) := goodIn_app (goodIn_of _ (by decide +kernel)) ggX6_hours_X6_isNoSite
set_option maxRecDepth 20000 in
theorem ggX6_judge_X6_isNoSite : GoodIn wsX6_judge wsX6_isNoSite := goodIn_r _ [9, 1, 10, 11, 12, 13, 14, 15, 16, 17, 8, 18, 19, 20, 21, 22, 23, 49, 50, 51, 52, 53, 54, 55, 56, 57, 58, 59, 70, 71, 72] (by decide +kernel) (by decide +kernel)
set_option maxRecDepth 20000 in
theorem gX6_judge_X6_isNoSite : GoodIn wsX6_judge (wsV RX6 202 RX6 yX6_isNoSite wsX6_isNoSite) := goodIn_app (goodIn_of _ (by decide +kernel)) ggX6_judge_X6_isNoSite
set_option maxRecDepth 20000 in
theorem ggX6_mark_X6_isNoSite : GoodIn wsX6_mark wsX6_isNoSite := goodIn_r _ [7, 1, 8, 9, 10, 11, 12, 13, 14, 15, 6, 16, 17, 18, 19, 20, 21, 39, 40, 41, 42, 43, 44, 45, 46, 47, 48, 49, 60, 61, 62] (by decide +kernel) (by decide +kernel)
set_option maxRecDepth 20000 in
theorem gX6_mark_X6_isNoSite : GoodIn wsX6_mark (wsV RX6 202 RX6 yX6_isNoSite wsX6_isNoSite) := goodIn_app (goodIn_of _ (by decide +kernel)) ggX6_mark_X6_isNoSite
set_option maxRecDepth 20000 in
theorem ggX6_mark_X6_isWrong : GoodIn wsX6_mark wsX6_isWrong := goodIn_r _ [20, 21, 39, 40, 41, 42, 43, 44, 45, 46, 47, 48, 49] (by decide +kernel) (by decide +kernel)
set_option maxRecDepth 20000 in
theorem gX6_mark_X6_isWrong : GoodIn wsX6_mark (wsV RX6 61 RX6 yX6_isWrong wsX6_isWrong) := goodIn_app (goodIn_of _ (by decide +kernel)) ggX6_mark_X6_isWrong
set_option maxRecDepth 20000 in
theorem ggX6_take_X6_isNoCell : GoodIn wsX6_take wsX6_isNoCell := goodIn_r _ [8, 1, 2, 9, 10, 11, 7, 12, 13, 14, 15, 16, 17, 18, 19, 20, 21, 22, 23, 24, 25, 26, 27, 28, 29, 30, 31, 32, 33, 34, 35, 36, 37, 38, 39, 40, 41, 42, 43, 44, 45, 46, 47, 48, 49, 50, 51, 52, 53, 99, 100, 101, 102, 103, 104, 105, 106, 107, 108, 109, 125, 126, 127, 110, 111, 112, 113, 114, 115, 116, 117, 118, 119] (by decide +kernel) (by decide +kernel)
set_option maxRecDepth 20000 in
theorem gX6_take_X6_isNoCell : GoodIn wsX6_take (wsV RX6 179 RX6 yX6_isNoCell wsX6_isNoCell) := goodIn_app (goodIn_of _ (by decide +kernel)) ggX6_take_X6_isNoCell
set_option maxRecDepth 20000 in
theorem ggX6_take_X6_warmthOf : GoodIn wsX6_take wsX6_warmthOf := goodIn_ca (goodIn_r _ [57, 58, 99, 100, 101, 102, 103, 104, 105, 106, 107, 108, 109] (by decide +kernel) (by decide +kernel)) (goodIn_sub (fun _ h => (List.mem_cons_of_mem _ (List.mem_append_right _ h))) (by decide +kernel))
set_option maxRecDepth 20000 in
theorem gX6_take_X6_warmthOf : GoodIn wsX6_take (wsV RX6 67 RX6 yX6_warmthOf wsX6_warmthOf) := goodIn_app (goodIn_of _ (by decide +kernel)) ggX6_take_X6_warmthOf
set_option maxRecDepth 20000 in
theorem ggX6_take_X6_isWrong : GoodIn wsX6_take wsX6_isWrong := goodIn_r _ [27, 28, 99, 100, 101, 102, 103, 104, 105, 106, 107, 108, 109] (by decide +kernel) (by decide +kernel)
set_option maxRecDepth 20000 in
theorem gX6_take_X6_isWrong : GoodIn wsX6_take (wsV RX6 61 RX6 yX6_isWrong wsX6_isWrong) := goodIn_app (goodIn_of _ (by decide +kernel)) ggX6_take_X6_isWrong
set_option maxRecDepth 20000 in
theorem ggX6_count_X6_isNoSite : GoodIn wsX6_count wsX6_isNoSite := goodIn_r _ [7, 1, 8, 9, 10, 11, 12, 13, 14, 15, 6, 16, 17, 18, 19, 20, 21, 45, 46, 47, 48, 49, 50, 51, 52, 53, 54, 55, 56, 57, 58] (by decide +kernel) (by decide +kernel)
set_option maxRecDepth 20000 in
theorem gX6_count_X6_isNoSite : GoodIn wsX6_count (wsV RX6 202 RX6 yX6_isNoSite wsX6_isNoSite) := goodIn_app (goodIn_of _ (by decide +kernel)) ggX6_count_X6_isNoSite
set_option maxRecDepth 20000 in
theorem ggX6_openShare_Jx4a65c_iterator_32c93 : GoodIn wsX6_openShare wsJx4a65c_iterator_32c93 := goodIn_r _ [7, 8, 9, 10, 11, 12, 13, 14, 15, 16, 17, 18, 19, 20, 21, 114, 115, 116, 117, 118, 119, 120] (by decide +kernel) (by decide +kernel)
set_option maxRecDepth 20000 in
theorem gX6_openShare_Jx4a65c_iterator_32c93_f109Jx4a65c : GoodIn wsX6_openShare (va_wsF RX6 109 RJx4a65c ⟨"java/util/List", "iterator", "()Ljava/util/Iterator;"⟩ yJx4a65c_iterator_32c93 wsJx4a65c_iterator_32c93) := goodIn_app (goodIn_of _ (by decide +kernel)) ggX6_openShare_Jx4a65c_iterator_32c93
set_option maxRecDepth 20000 in
theorem ggX6_openShare_Jx35411_hasNext_aae02 : GoodIn wsX6_openShare wsJx35411_hasNext_aae02 := goodIn_r _ [25, 26, 14, 114, 115, 116, 117, 118, 119, 120] (by decide +kernel) (by decide +kernel)
set_option maxRecDepth 20000 in
theorem gX6_openShare_Jx35411_hasNext_aae02_f115Jx35411 : GoodIn wsX6_openShare (va_wsF RX6 115 RJx35411 ⟨"java/util/Iterator", "hasNext", "()Z"⟩ yJx35411_hasNext_aae02 wsJx35411_hasNext_aae02) := goodIn_app (goodIn_of _ (by decide +kernel)) ggX6_openShare_Jx35411_hasNext_aae02
set_option maxRecDepth 20000 in
theorem ggX6_openShare_Jx4a65c_isEmpty_aae02 : GoodIn wsX6_openShare wsJx4a65c_isEmpty_aae02 := goodIn_r _ [92, 93, 118, 119, 120] (by decide +kernel) (by decide +kernel)
set_option maxRecDepth 20000 in
theorem gX6_openShare_Jx4a65c_isEmpty_aae02_f272Jx4a65c : GoodIn wsX6_openShare (va_wsF RX6 272 RJx4a65c ⟨"java/util/List", "isEmpty", "()Z"⟩ yJx4a65c_isEmpty_aae02 wsJx4a65c_isEmpty_aae02) := goodIn_app (goodIn_of _ (by decide +kernel)) ggX6_openShare_Jx4a65c_isEmpty_aae02
set_option maxRecDepth 20000 in
theorem ggX6_openShare_X6_isWrong : GoodIn wsX6_openShare wsX6_isWrong := goodIn_r _ [97, 98, 103, 104, 105, 106, 107, 108, 109, 110, 111, 112, 113] (by decide +kernel) (by decide +kernel)
set_option maxRecDepth 20000 in
theorem gX6_openShare_X6_isWrong : GoodIn wsX6_openShare (wsV RX6 61 RX6 yX6_isWrong wsX6_isWrong) := goodIn_app (goodIn_of _ (by decide +kernel)) ggX6_openShare_X6_isWrong
set_option maxRecDepth 20000 in
theorem ggX6_openShare_Jx4a65c_size_8abf5 : GoodIn wsX6_openShare wsJx4a65c_size_8abf5 := goodIn_r _ [102, 93, 118, 119, 120] (by decide +kernel) (by decide +kernel)
set_option maxRecDepth 20000 in
theorem gX6_openShare_Jx4a65c_size_8abf5_f130Jx4a65c : GoodIn wsX6_openShare (va_wsF RX6 130 RJx4a65c ⟨"java/util/List", "size", "()I"⟩ yJx4a65c_size_8abf5 wsJx4a65c_size_8abf5) := goodIn_app (goodIn_of _ (by decide +kernel)) ggX6_openShare_Jx4a65c_size_8abf5
set_option maxRecDepth 20000 in
theorem ggX6_meanCreep_X6_isNoSite : GoodIn wsX6_meanCreep wsX6_isNoSite := goodIn_r _ [7, 1, 8, 9, 10, 11, 12, 13, 14, 15, 6, 16, 17, 18, 19, 20, 21, 45, 46, 47, 48, 49, 50, 51, 52, 53, 54, 55, 71, 72, 73] (by decide +kernel) (by decide +kernel)
set_option maxRecDepth 20000 in
theorem gX6_meanCreep_X6_isNoSite : GoodIn wsX6_meanCreep (wsV RX6 202 RX6 yX6_isNoSite wsX6_isNoSite) := goodIn_app (goodIn_of _ (by decide +kernel)) ggX6_meanCreep_X6_isNoSite
set_option maxRecDepth 20000 in
theorem ggX6_meanCreep_X6_isWrong : GoodIn wsX6_meanCreep wsX6_isWrong := goodIn_r _ [20, 21, 45, 46, 47, 48, 49, 50, 51, 52, 53, 54, 55] (by decide +kernel) (by decide +kernel)
set_option maxRecDepth 20000 in
theorem gX6_meanCreep_X6_isWrong : GoodIn wsX6_meanCreep (wsV RX6 61 RX6 yX6_isWrong wsX6_isWrong) := goodIn_app (goodIn_of _ (by decide +kernel)) ggX6_meanCreep_X6_isWrong
set_option maxRecDepth 20000 in
theorem ggX6_checksum_Jx4a65c_iterator_32c93 : GoodIn wsX6_checksum wsJx4a65c_iterator_32c93 := goodIn_r _ [13, 14, 15, 16, 17, 18, 19, 20, 21, 22, 23, 24, 25, 26, 27, 68, 69, 70, 71, 72, 73, 74] (by decide +kernel) (by decide +kernel)
set_option maxRecDepth 20000 in
theorem gX6_checksum_Jx4a65c_iterator_32c93_f109Jx4a65c : GoodIn wsX6_checksum (va_wsF RX6 109 RJx4a65c ⟨"java/util/List", "iterator", "()Ljava/util/Iterator;"⟩ yJx4a65c_iterator_32c93 wsJx4a65c_iterator_32c93) := goodIn_app (goodIn_of _ (by decide +kernel)) ggX6_checksum_Jx4a65c_iterator_32c93
set_option maxRecDepth 20000 in
theorem ggX6_checksum_Jx35411_hasNext_aae02 : GoodIn wsX6_checksum wsJx35411_hasNext_aae02 := goodIn_r _ [31, 32, 20, 68, 69, 70, 71, 72, 73, 74] (by decide +kernel) (by decide +kernel)

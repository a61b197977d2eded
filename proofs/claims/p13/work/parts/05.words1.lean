set_option maxRecDepth 20000 in
theorem ggX6_wet_X6_isWrong : GoodIn wsX6_wet wsX6_isWrong := qgood qself _ [9, 0, 9, 0, 0, 0, 0, 0, 0, 0, 0, 0, 0] [0, 1, 2, 3, 4, 5, 6, 7, 8, 9, 10, 11, 12] (by decide +kernel) (by decide +kernel)
set_option maxRecDepth 20000 in
theorem gX6_wet_X6_isWrong : GoodIn wsX6_wet (wsV RX6 61 RX6 yX6_isWrong wsX6_isWrong) := goodIn_app (qof qself _ (by decide +kernel)) ggX6_wet_X6_isWrong
set_option maxRecDepth 20000 in
theorem ggX6_wet_X6_wetOf : GoodIn wsX6_wet wsX6_wetOf := goodIn_ca (qgood qself _ [4, 9, 0, 0, 0, 0, 0, 0, 0, 0, 0, 0, 0, 0, 0, 0, 0, 0] [1, 2, 3, 4, 5, 0, 6, 7, 8, 9, 10, 11, 12, 13, 14, 15, 16, 17] (by decide +kernel) (by decide +kernel)) (goodIn_sub (fun _ h => (List.mem_cons_of_mem _ (List.mem_append_right _ h))) (by decide +kernel))
set_option maxRecDepth 20000 in
theorem gX6_wet_X6_wetOf : GoodIn wsX6_wet (wsV RX6 73 RX6 yX6_wetOf wsX6_wetOf) := goodIn_app (qof qself _ (by decide +kernel)) ggX6_wet_X6_wetOf
set_option maxRecDepth 20000 in
theorem ggX6_freezes_X6_wetOf : GoodIn wsX6_freezes wsX6_wetOf := goodIn_ca (qgood qself _ [16, 0, 0, 0, 0, 0, 0, 0, 0, 0, 0, 0, 0, 0, 0, 0, 0, 0] [1, 2, 3, 4, 5, 0, 6, 7, 8, 9, 10, 11, 12, 13, 14, 15, 16, 17] (by decide +kernel) (by decide +kernel)) (goodIn_sub (fun _ h => (List.mem_cons_of_mem _ (List.mem_append_left _ (List.mem_append_right _ h)))) (by decide +kernel))
set_option maxRecDepth 20000 in
theorem gX6_freezes_X6_wetOf : GoodIn wsX6_freezes (wsV RX6 73 RX6 yX6_wetOf wsX6_wetOf) := goodIn_app (qof qself _ (by decide +kernel)) ggX6_freezes_X6_wetOf
set_option maxRecDepth 20000 in
theorem ggX6_isNoField_X6_isBetween : GoodIn wsX6_isNoField wsX6_isBetween := qgood qself _ [5] [0] (by decide +kernel) (by decide +kernel)
set_option maxRecDepth 20000 in
theorem gX6_isNoField_X6_isBetween : GoodIn wsX6_isNoField (va_wsS RX6 46 yX6_isBetween wsX6_isBetween) := goodIn_app (qof qself _ (by decide +kernel)) ggX6_isNoField_X6_isBetween
set_option maxRecDepth 20000 in
theorem ggX6_isNoField_X6_isWrong : GoodIn wsX6_isNoField wsX6_isWrong := qgood qself _ [9, 0, 0, 0, 0, 0, 0, 0, 0, 0, 0, 0, 0] [0, 1, 2, 3, 4, 5, 6, 7, 8, 9, 10, 11, 12] (by decide +kernel) (by decide +kernel)
set_option maxRecDepth 20000 in
theorem gX6_isNoField_X6_isWrong : GoodIn wsX6_isNoField (wsV RX6 61 RX6 yX6_isWrong wsX6_isWrong) := goodIn_app (qof qself _ (by decide +kernel)) ggX6_isNoField_X6_isWrong
set_option maxRecDepth 20000 in
theorem ggX6_ice_X6_isNoField : GoodIn wsX6_ice wsX6_isNoField := qgood qself _ [5, 0, 0, 0, 0, 0, 0, 0, 0, 0, 0, 0, 0, 0, 0, 0, 0, 0, 0, 0, 0, 0] [1, 2, 3, 4, 0, 5, 6, 7, 8, 9, 10, 11, 12, 13, 14, 15, 16, 17, 18, 19, 20, 21] (by decide +kernel) (by decide +kernel)
set_option maxRecDepth 20000 in
theorem gX6_ice_X6_isNoField : GoodIn wsX6_ice (wsV RX6 94 RX6 yX6_isNoField wsX6_isNoField) := goodIn_app (qof qself _ (by decide +kernel)) ggX6_ice_X6_isNoField
set_option maxRecDepth 20000 in
theorem ggX6_clear_X6_isNoField : GoodIn wsX6_clear wsX6_isNoField := qgood qself _ [5, 0, 0, 0, 0, 0, 0, 0, 0, 0, 0, 0, 0, 0, 0, 0, 0, 0, 0, 0, 0, 0] [1, 2, 3, 4, 0, 5, 6, 7, 8, 9, 10, 11, 12, 13, 14, 15, 16, 17, 18, 19, 20, 21] (by decide +kernel) (by decide +kernel)
set_option maxRecDepth 20000 in
theorem gX6_clear_X6_isNoField : GoodIn wsX6_clear (wsV RX6 94 RX6 yX6_isNoField wsX6_isNoField) := goodIn_app (qof qself _ (by decide +kernel)) ggX6_clear_X6_isNoField
set_option maxRecDepth 20000 in
theorem ggX6_bears_X6_isNoField : GoodIn wsX6_bears wsX6_isNoField := qgood qself _ [4, 0, 0, 0, 0, 0, 0, 0, 0, 0, 0, 6, 0, 0, 0, 0, 0, 0, 0, 0, 0, 0] [1, 2, 3, 4, 0, 5, 6, 7, 8, 9, 10, 11, 12, 13, 14, 15, 16, 17, 18, 19, 20, 21] (by decide +kernel) (by decide +kernel)
set_option maxRecDepth 20000 in
theorem gX6_bears_X6_isNoField : GoodIn wsX6_bears (wsV RX6 94 RX6 yX6_isNoField wsX6_isNoField) := goodIn_app (qof qself _ (by decide +kernel)) ggX6_bears_X6_isNoField
set_option maxRecDepth 20000 in
theorem ggX6_bears_X6_hasRoad : GoodIn wsX6_bears wsX6_hasRoad := goodIn_ca (qgood qself _ [18, 0, 0, 0, 0, 0, 0, 0, 0, 0, 0, 0, 0, 0] [0, 1, 2, 3, 4, 5, 6, 7, 8, 9, 10, 11, 12, 13] (by decide +kernel) (by decide +kernel)) (goodIn_sub (fun _ h => (List.mem_cons_of_mem _ (List.mem_append_right _ h))) (by decide +kernel))
set_option maxRecDepth 20000 in
theorem gX6_bears_X6_hasRoad : GoodIn wsX6_bears (wsV RX6 97 RX6 yX6_hasRoad wsX6_hasRoad) := goodIn_app (qof qself _ (by decide +kernel)) ggX6_bears_X6_hasRoad
set_option maxRecDepth 20000 in
theorem ggX6_cut_X6_isNoField : GoodIn wsX6_cut wsX6_isNoField := qgood qself _ [10, 0, 0, 0, 0, 0, 0, 0, 0, 0, 0, 4, 0, 0, 0, 0, 0, 0, 0, 0, 0, 0] [1, 2, 3, 4, 0, 5, 6, 7, 8, 9, 10, 11, 12, 13, 14, 15, 16, 17, 18, 19, 20, 21] (by decide +kernel) (by decide +kernel)
set_option maxRecDepth 20000 in
theorem gX6_cut_X6_isNoField : GoodIn wsX6_cut (wsV RX6 94 RX6 yX6_isNoField wsX6_isNoField) := goodIn_app (qof qself _ (by decide +kernel)) ggX6_cut_X6_isNoField
set_option maxRecDepth 20000 in
theorem ggX6_cut_X6_isBetween : GoodIn wsX6_cut wsX6_isBetween := qgood qself _ [15] [0] (by decide +kernel) (by decide +kernel)
set_option maxRecDepth 20000 in
theorem gX6_cut_X6_isBetween : GoodIn wsX6_cut (va_wsS RX6 46 yX6_isBetween wsX6_isBetween) := goodIn_app (qof qself _ (by decide +kernel)) ggX6_cut_X6_isBetween
set_option maxRecDepth 20000 in
theorem ggX6_cut_X6_hasRoad : GoodIn wsX6_cut wsX6_hasRoad := goodIn_ca (qgood qself _ [2, 0, 20, 0, 0, 0, 0, 0, 0, 0, 0, 0, 0, 0] [2, 0, 1, 3, 4, 5, 6, 7, 8, 9, 10, 11, 12, 13] (by decide +kernel) (by decide +kernel)) (goodIn_sub (fun _ h => (List.mem_cons_of_mem _ (List.mem_append_right _ h))) (by decide +kernel))
set_option maxRecDepth 20000 in
theorem gX6_cut_X6_hasRoad : GoodIn wsX6_cut (wsV RX6 97 RX6 yX6_hasRoad wsX6_hasRoad) := goodIn_app (qof qself _ (by decide +kernel)) ggX6_cut_X6_hasRoad
set_option maxRecDepth 20000 in
theorem ggX6_cut_X6_isWrong : GoodIn wsX6_cut wsX6_isWrong := qgood qself _ [19, 0, 4, 0, 0, 0, 0, 0, 0, 0, 0, 0, 0] [0, 1, 2, 3, 4, 5, 6, 7, 8, 9, 10, 11, 12] (by decide +kernel) (by decide +kernel)
set_option maxRecDepth 20000 in
theorem gX6_cut_X6_isWrong : GoodIn wsX6_cut (wsV RX6 61 RX6 yX6_isWrong wsX6_isWrong) := goodIn_app (qof qself _ (by decide +kernel)) ggX6_cut_X6_isWrong
set_option maxRecDepth 20000 in
theorem ggX6_lorries_X6_isBetween : GoodIn wsX6_lorries wsX6_isBetween := qgood qself _ [11] [0] (by decide +kernel) (by decide +kernel)
set_option maxRecDepth 20000 in
theorem gX6_lorries_X6_isBetween : GoodIn wsX6_lorries (va_wsS RX6 46 yX6_isBetween wsX6_isBetween) := goodIn_app (qof qself _ (by decide +kernel)) ggX6_lorries_X6_isBetween
set_option maxRecDepth 20000 in
theorem ggX6_lorries_X6_isWrong : GoodIn wsX6_lorries wsX6_isWrong := qgood qself _ [15, 0, 0, 0, 0, 0, 0, 0, 0, 0, 0, 0, 0] [0, 1, 2, 3, 4, 5, 6, 7, 8, 9, 10, 11, 12] (by decide +kernel) (by decide +kernel)
set_option maxRecDepth 20000 in
theorem gX6_lorries_X6_isWrong : GoodIn wsX6_lorries (wsV RX6 61 RX6 yX6_isWrong wsX6_isWrong) := goodIn_app (qof qself _ (by decide +kernel)) ggX6_lorries_X6_isWrong
set_option maxRecDepth 20000 in
theorem ggX6_go_X6_isBetween : GoodIn wsX6_go wsX6_isBetween := qgood qself _ [8] [0] (by decide +kernel) (by decide +kernel)
set_option maxRecDepth 20000 in
theorem gX6_go_X6_isBetween : GoodIn wsX6_go (va_wsS RX6 46 yX6_isBetween wsX6_isBetween) := goodIn_app (qof qself _ (by decide +kernel)) ggX6_go_X6_isBetween
set_option maxRecDepth 20000 in
theorem ggX6_go_X6_isWrong : GoodIn wsX6_go wsX6_isWrong := qgood qself _ [12, 0, 118, 0, 0, 0, 0, 0, 0, 0, 0, 0, 0] [0, 1, 2, 3, 4, 5, 6, 7, 8, 9, 10, 11, 12] (by decide +kernel) (by decide +kernel)
set_option maxRecDepth 20000 in
theorem gX6_go_X6_isWrong : GoodIn wsX6_go (wsV RX6 61 RX6 yX6_isWrong wsX6_isWrong) := goodIn_app (qof qself _ (by decide +kernel)) ggX6_go_X6_isWrong
set_option maxRecDepth 20000 in
theorem ggX6_go_X6_warmthOf : GoodIn wsX6_go wsX6_warmthOf := goodIn_ca (qgood qself _ [17, 0, 113, 0, 0, 0, 0, 0, 0, 0, 0, 0, 0] [0, 1, 2, 3, 4, 5, 6, 7, 8, 9, 10, 11, 12] (by decide +kernel) (by decide +kernel)) (goodIn_sub (fun _ h => (List.mem_cons_of_mem _ (List.mem_append_left _ (List.mem_append_right _ h)))) (by decide +kernel))
set_option maxRecDepth 20000 in
theorem gX6_go_X6_warmthOf : GoodIn wsX6_go (wsV RX6 67 RX6 yX6_warmthOf wsX6_warmthOf) := goodIn_app (qof qself _ (by decide +kernel)) ggX6_go_X6_warmthOf
set_option maxRecDepth 20000 in
theorem ggX6_go_X6_freezes : GoodIn wsX6_go wsX6_freezes := goodIn_ca (goodIn_ca (qgood qself _ [2, 4, 6, 0, 0, 0, 0, 3, 0, 0, 0, 0, 0, 0, 0, 0, 0, 0, 0, 0, 0, 0, 0, 94, 0, 0, 0, 0, 0, 0, 0, 0, 0, 0] [7, 8, 9, 10, 11, 12, 13, 14, 15, 16, 17, 0, 18, 19, 20, 21, 1, 22, 6, 2, 3, 4, 5, 23, 24, 25, 26, 27, 28, 29, 30, 31, 32, 33] (by decide +kernel) (by decide +kernel)) (goodIn_sub (fun _ h => (List.mem_cons_of_mem _ (List.mem_append_left _ (List.mem_append_right _ h)))) (by decide +kernel))) (goodIn_sub (fun _ h => (List.mem_cons_of_mem _ (List.mem_append_right _ h))) (by decide +kernel))
set_option maxRecDepth 20000 in
theorem gX6_go_X6_freezes : GoodIn wsX6_go (wsV RX6 105 RX6 yX6_freezes wsX6_freezes) := goodIn_app (qof qself _ (by decide +kernel)) ggX6_go_X6_freezes
set_option maxRecDepth 20000 in
theorem ggX6_go_Jx4a65c_iterator_32c93 : GoodIn wsX6_go wsJx4a65c_iterator_32c93 := qgood qself _ [42, 0, 0, 0, 0, 0, 0, 0, 0, 0, 0, 0, 0, 0, 0, 86, 0, 0, 0, 0, 0, 0] [0, 1, 2, 3, 4, 5, 6, 7, 8, 9, 10, 11, 12, 13, 14, 15, 16, 17, 18, 19, 20, 21] (by decide +kernel) (by decide +kernel)
set_option maxRecDepth 20000 in
theorem gX6_go_Jx4a65c_iterator_32c93_f109Jx4a65c : GoodIn wsX6_go (va_wsF RX6 109 RJx4a65c ⟨"java/util/List", "iterator", "()Ljava/util/Iterator;"⟩ yJx4a65c_iterator_32c93 wsJx4a65c_iterator_32c93) := goodIn_app (qof qself _ (by decide +kernel)) ggX6_go_Jx4a65c_iterator_32c93
set_option maxRecDepth 20000 in
theorem ggX6_go_Jx35411_hasNext_aae02 : GoodIn wsX6_go wsJx35411_hasNext_aae02 := qgood qself _ [49, 10, 0, 81, 0, 0, 0, 0, 0, 0] [1, 2, 0, 3, 4, 5, 6, 7, 8, 9] (by decide +kernel) (by decide +kernel)
set_option maxRecDepth 20000 in
theorem gX6_go_Jx35411_hasNext_aae02_f115Jx35411 : GoodIn wsX6_go (va_wsF RX6 115 RJx35411 ⟨"java/util/Iterator", "hasNext", "()Z"⟩ yJx35411_hasNext_aae02 wsJx35411_hasNext_aae02) := goodIn_app (qof qself _ (by decide +kernel)) ggX6_go_Jx35411_hasNext_aae02
set_option maxRecDepth 20000 in
theorem ggX6_site_Jx4a65c_size_8abf5 : GoodIn wsX6_site wsJx4a65c_size_8abf5 := qgood qself _ [9, 0, 92, 0, 0] [0, 1, 2, 3, 4] (by decide +kernel) (by decide +kernel)
set_option maxRecDepth 20000 in
theorem gX6_site_Jx4a65c_size_8abf5_f130Jx4a65c : GoodIn wsX6_site (va_wsF RX6 130 RJx4a65c ⟨"java/util/List", "size", "()I"⟩ yJx4a65c_size_8abf5 wsJx4a65c_size_8abf5) := goodIn_app (qof qself _ (by decide +kernel)) ggX6_site_Jx4a65c_size_8abf5
set_option maxRecDepth 20000 in
theorem ggX6_site_X6_isWrong : GoodIn wsX6_site wsX6_isWrong := qgood qself _ [15, 0, 65, 0, 0, 0, 0, 0, 0, 0, 0, 0, 0] [0, 1, 2, 3, 4, 5, 6, 7, 8, 9, 10, 11, 12] (by decide +kernel) (by decide +kernel)
set_option maxRecDepth 20000 in
theorem gX6_site_X6_isWrong : GoodIn wsX6_site (wsV RX6 61 RX6 yX6_isWrong wsX6_isWrong) := goodIn_app (qof qself _ (by decide +kernel)) ggX6_site_X6_isWrong
set_option maxRecDepth 20000 in
theorem ggX6_site_X5_init : GoodIn wsX6_site wsX5_init := qgood qself _ [18, 0, 0, 0, 0, 0, 0, 0, 0, 0, 65, 0, 0, 0, 0, 0, 0, 0, 0, 0] [0, 1, 2, 3, 4, 5, 6, 7, 8, 9, 10, 11, 12, 13, 14, 15, 16, 17, 18, 19] (by decide +kernel) (by decide +kernel)
set_option maxRecDepth 20000 in
theorem gX6_site_X5_init_n134 : GoodIn wsX6_site (wsX5_init) := ggX6_site_X5_init
set_option maxRecDepth 20000 in
theorem ggX6_site_Jx4a65c_add_9ea2d : GoodIn wsX6_site wsJx4a65c_add_9ea2d := qgood qself _ [8, 1, 20, 0, 0, 0, 0, 0, 0, 0, 0, 0, 0, 0, 0, 0, 0, 0, 0, 0, 0, 0, 0, 0, 0, 0, 0, 0, 0, 0, 0, 0, 0, 0, 0, 0, 0, 0, 0, 0, 0, 0, 0, 0, 0, 0, 0, 0, 0, 0, 0, 0, 0, 21, 0, 0] [2, 3, 4, 5, 1, 6, 7, 8, 0, 9, 10, 11, 12, 13, 14, 15, 16, 17, 18, 19, 20, 21, 22, 23, 24, 25, 26, 27, 28, 29, 30, 31, 32, 33, 34, 35, 36, 37, 38, 39, 40, 41, 42, 43, 44, 45, 46, 47, 48, 49, 50, 51, 52, 53, 54, 55] (by decide +kernel) (by decide +kernel)
set_option maxRecDepth 20000 in
theorem gX6_site_Jx4a65c_add_9ea2d_f137Jx4a65c : GoodIn wsX6_site (va_wsF RX6 137 RJx4a65c ⟨"java/util/List", "add", "(Ljava/lang/Object;)Z"⟩ yJx4a65c_add_9ea2d wsJx4a65c_add_9ea2d) := goodIn_app (qof qself _ (by decide +kernel)) ggX6_site_Jx4a65c_add_9ea2d
set_option maxRecDepth 20000 in
theorem ggX6_isNoSite_Jx4a65c_size_8abf5 : GoodIn wsX6_isNoSite wsJx4a65c_size_8abf5 := qgood qself _ [6, 0, 20, 0, 0] [0, 1, 2, 3, 4] (by decide +kernel) (by decide +kernel)
set_option maxRecDepth 20000 in
theorem gX6_isNoSite_Jx4a65c_size_8abf5_f130Jx4a65c : GoodIn wsX6_isNoSite (va_wsF RX6 130 RJx4a65c ⟨"java/util/List", "size", "()I"⟩ yJx4a65c_size_8abf5 wsJx4a65c_size_8abf5) := goodIn_app (qof qself _ (by decide +kernel)) ggX6_isNoSite_Jx4a65c_size_8abf5
set_option maxRecDepth 20000 in
theorem ggX6_isNoSite_X6_isBetween : GoodIn wsX6_isNoSite wsX6_isBetween := qgood qself _ [11] [0] (by decide +kernel) (by decide +kernel)
set_option maxRecDepth 20000 in
theorem gX6_isNoSite_X6_isBetween : GoodIn wsX6_isNoSite (va_wsS RX6 46 yX6_isBetween wsX6_isBetween) := goodIn_app (qof qself _ (by decide +kernel)) ggX6_isNoSite_X6_isBetween
set_option maxRecDepth 20000 in
theorem ggX6_isNoSite_X6_isWrong : GoodIn wsX6_isNoSite wsX6_isWrong := qgood qself _ [15, 0, 0, 0, 0, 0, 0, 0, 0, 0, 0, 0, 0] [0, 1, 2, 3, 4, 5, 6, 7, 8, 9, 10, 11, 12] (by decide +kernel) (by decide +kernel)
set_option maxRecDepth 20000 in
theorem gX6_isNoSite_X6_isWrong : GoodIn wsX6_isNoSite (wsV RX6 61 RX6 yX6_isWrong wsX6_isWrong) := goodIn_app (qof qself _ (by decide +kernel)) ggX6_isNoSite_X6_isWrong
set_option maxRecDepth 20000 in
theorem ggX6_isNoPlace_Jx4a65c_size_8abf5 : GoodIn wsX6_isNoPlace wsJx4a65c_size_8abf5 := qgood qself _ [8, 0, 20, 0, 0] [0, 1, 2, 3, 4] (by decide +kernel) (by decide +kernel)
set_option maxRecDepth 20000 in
theorem gX6_isNoPlace_Jx4a65c_size_8abf5_f130Jx4a65c : GoodIn wsX6_isNoPlace (va_wsF RX6 130 RJx4a65c ⟨"java/util/List", "size", "()I"⟩ yJx4a65c_size_8abf5 wsJx4a65c_size_8abf5) := goodIn_app (qof qself _ (by decide +kernel)) ggX6_isNoPlace_Jx4a65c_size_8abf5
set_option maxRecDepth 20000 in
theorem ggX6_isNoPlace_X6_isBetween : GoodIn wsX6_isNoPlace wsX6_isBetween := qgood qself _ [13] [0] (by decide +kernel) (by decide +kernel)
set_option maxRecDepth 20000 in
theorem gX6_isNoPlace_X6_isBetween : GoodIn wsX6_isNoPlace (va_wsS RX6 46 yX6_isBetween wsX6_isBetween) := goodIn_app (qof qself _ (by decide +kernel)) ggX6_isNoPlace_X6_isBetween
set_option maxRecDepth 20000 in
theorem ggX6_isNoPlace_X6_isWrong : GoodIn wsX6_isNoPlace wsX6_isWrong := qgood qself _ [17, 0, 0, 0, 0, 0, 0, 0, 0, 0, 0, 0, 0] [0, 1, 2, 3, 4, 5, 6, 7, 8, 9, 10, 11, 12] (by decide +kernel) (by decide +kernel)
set_option maxRecDepth 20000 in
theorem gX6_isNoPlace_X6_isWrong : GoodIn wsX6_isNoPlace (wsV RX6 61 RX6 yX6_isWrong wsX6_isWrong) := goodIn_app (qof qself _ (by decide +kernel)) ggX6_isNoPlace_X6_isWrong
set_option maxRecDepth 20000 in
theorem ggX6_isNoCell_X6_isNoPlace : GoodIn wsX6_isNoCell wsX6_isNoPlace := qgood qself _ [1, 4, 0, 0, 0, 0, 0, 0, 0, 0, 0, 0, 0, 0, 0, 0, 0, 0, 0, 25, 0, 0, 0, 0, 0, 0, 0, 0, 0, 0, 0, 0, 0] [2, 0, 3, 4, 5, 6, 7, 8, 9, 10, 11, 12, 1, 13, 14, 15, 16, 17, 18, 19, 20, 21, 22, 23, 24, 25, 26, 27, 28, 29, 30, 31, 32] (by decide +kernel) (by decide +kernel)
set_option maxRecDepth 20000 in
theorem gX6_isNoCell_X6_isNoPlace : GoodIn wsX6_isNoCell (wsV RX6 145 RX6 yX6_isNoPlace wsX6_isNoPlace) := goodIn_app (qof qself _ (by decide +kernel)) ggX6_isNoCell_X6_isNoPlace
set_option maxRecDepth 20000 in
theorem ggX6_isNoCell_X6_isWrong : GoodIn wsX6_isNoCell wsX6_isWrong := qgood qself _ [22, 0, 25, 0, 0, 0, 0, 0, 0, 0, 0, 0, 0] [0, 1, 2, 3, 4, 5, 6, 7, 8, 9, 10, 11, 12] (by decide +kernel) (by decide +kernel)
set_option maxRecDepth 20000 in
theorem gX6_isNoCell_X6_isWrong : GoodIn wsX6_isNoCell (wsV RX6 61 RX6 yX6_isWrong wsX6_isWrong) := goodIn_app (qof qself _ (by decide +kernel)) ggX6_isNoCell_X6_isWrong
set_option maxRecDepth 20000 in
theorem ggX6_put_X6_isNoPlace : GoodIn wsX6_put wsX6_isNoPlace := qgood qself _ [1, 11, 0, 0, 0, 0, 0, 0, 0, 0, 0, 0, 0, 0, 0, 0, 0, 0, 0, 94, 0, 0, 0, 0, 0, 0, 0, 0, 0, 0, 15, 0, 0] [2, 0, 3, 4, 5, 6, 7, 8, 9, 10, 11, 12, 1, 13, 14, 15, 16, 17, 18, 19, 20, 21, 22, 23, 24, 25, 26, 27, 28, 29, 30, 31, 32] (by decide +kernel) (by decide +kernel)
set_option maxRecDepth 20000 in
theorem gX6_put_X6_isNoPlace : GoodIn wsX6_put (wsV RX6 145 RX6 yX6_isNoPlace wsX6_isNoPlace) := goodIn_app (qof qself _ (by decide +kernel)) ggX6_put_X6_isNoPlace
set_option maxRecDepth 20000 in
theorem ggX6_put_X6_isWrong : GoodIn wsX6_put wsX6_isWrong := qgood qself _ [29, 0, 94, 0, 0, 0, 0, 0, 0, 0, 0, 0, 0] [0, 1, 2, 3, 4, 5, 6, 7, 8, 9, 10, 11, 12] (by decide +kernel) (by decide +kernel)
set_option maxRecDepth 20000 in
theorem gX6_put_X6_isWrong : GoodIn wsX6_put (wsV RX6 61 RX6 yX6_isWrong wsX6_isWrong) := goodIn_app (qof qself _ (by decide +kernel)) ggX6_put_X6_isWrong
set_option maxRecDepth 20000 in
theorem ggX6_put_X6_warmthOf : GoodIn wsX6_put wsX6_warmthOf := goodIn_ca (qgood qself _ [80, 0, 43, 0, 0, 0, 0, 0, 0, 0, 0, 0, 0] [0, 1, 2, 3, 4, 5, 6, 7, 8, 9, 10, 11, 12] (by decide +kernel) (by decide +kernel)) (goodIn_sub (fun _ h => (List.mem_cons_of_mem _ (List.mem_append_right _ h))) (by decide +kernel))
set_option maxRecDepth 20000 in
theorem gX6_put_X6_warmthOf : GoodIn wsX6_put (wsV RX6 67 RX6 yX6_warmthOf wsX6_warmthOf) := goodIn_app (qof qself _ (by decide +kernel)) ggX6_put_X6_warmthOf
set_option maxRecDepth 20000 in
theorem ggX6_at_X6_isNoPlace : GoodIn wsX6_at wsX6_isNoPlace := qgood qself _ [1, 4, 0, 0, 0, 0, 0, 0, 0, 0, 0, 0, 0, 0, 0, 0, 0, 0, 0, 25, 0, 0, 0, 0, 0, 0, 0, 0, 0, 0, 15, 0, 0] [2, 0, 3, 4, 5, 6, 7, 8, 9, 10, 11, 12, 1, 13, 14, 15, 16, 17, 18, 19, 20, 21, 22, 23, 24, 25, 26, 27, 28, 29, 30, 31, 32] (by decide +kernel) (by decide +kernel)
set_option maxRecDepth 20000 in
theorem gX6_at_X6_isNoPlace : GoodIn wsX6_at (wsV RX6 145 RX6 yX6_isNoPlace wsX6_isNoPlace) := goodIn_app (qof qself _ (by decide +kernel)) ggX6_at_X6_isNoPlace
set_option maxRecDepth 20000 in
theorem ggX6_mass_X6_isNoCell : GoodIn wsX6_mass wsX6_isNoCell := qgood qself _ [1, 0, 3, 0, 0, 0, 0, 0, 0, 0, 0, 0, 0, 0, 0, 0, 0, 0, 0, 0, 0, 0, 0, 0, 0, 0, 0, 0, 0, 0, 0, 0, 0, 0, 0, 0, 0, 0, 0, 0, 0, 0, 0, 0, 0, 0, 0, 0, 0, 0, 0, 0, 0, 0, 0, 0, 0, 0, 0, 0, 0, 0, 0, 0, 0, 0, 0, 0, 0, 0, 5, 0, 0] [3, 0, 1, 4, 5, 6, 2, 7, 8, 9, 10, 11, 12, 13, 14, 15, 16, 17, 18, 19, 20, 21, 22, 23, 24, 25, 26, 27, 28, 29, 30, 31, 32, 33, 34, 35, 36, 37, 38, 39, 40, 41, 42, 43, 44, 45, 46, 47, 48, 49, 50, 51, 52, 53, 54, 55, 56, 57, 58, 59, 70, 71, 72, 60, 61, 62, 63, 64, 65, 66, 67, 68, 69] (by decide +kernel) (by decide +kernel)
set_option maxRecDepth 20000 in
theorem gX6_mass_X6_isNoCell : GoodIn wsX6_mass (wsV RX6 179 RX6 yX6_isNoCell wsX6_isNoCell) := goodIn_app (qof qself _ (by decide +kernel)) ggX6_mass_X6_isNoCell
set_option maxRecDepth 20000 in
theorem ggX6_load_X6_isNoCell : GoodIn wsX6_load wsX6_isNoCell := qgood qself _ [1, 0, 3, 0, 0, 0, 0, 0, 0, 0, 0, 0, 0, 0, 0, 0, 0, 0, 0, 0, 0, 0, 0, 0, 0, 0, 0, 0, 0, 0, 0, 0, 0, 0, 0, 0, 0, 0, 0, 0, 0, 0, 0, 0, 0, 0, 0, 0, 0, 19, 0, 0, 0, 0, 0, 0, 0, 0, 0, 0, 0, 0, 0, 0, 0, 0, 0, 0, 0, 0, 0, 0, 0] [3, 0, 1, 4, 5, 6, 2, 7, 8, 9, 10, 11, 12, 13, 14, 15, 16, 17, 18, 19, 20, 21, 22, 23, 24, 25, 26, 27, 28, 29, 30, 31, 32, 33, 34, 35, 36, 37, 38, 39, 40, 41, 42, 43, 44, 45, 46, 47, 48, 49, 50, 51, 52, 53, 54, 55, 56, 57, 58, 59, 60, 61, 62, 63, 64, 65, 66, 67, 68, 69, 70, 71, 72] (by decide +kernel) (by decide +kernel)
set_option maxRecDepth 20000 in
theorem gX6_load_X6_isNoCell : GoodIn wsX6_load (wsV RX6 179 RX6 yX6_isNoCell wsX6_isNoCell) := goodIn_app (qof qself _ (by decide +kernel)) ggX6_load_X6_isNoCell
set_option maxRecDepth 20000 in
theorem ggX6_strength_X6_isNoCell : GoodIn wsX6_strength wsX6_isNoCell := qgood qself _ [1, 0, 4, 0, 0, 0, 0, 0, 0, 0, 0, 0, 0, 0, 0, 0, 0, 0, 0, 0, 0, 0, 0, 0, 0, 0, 0, 0, 0, 0, 0, 0, 0, 0, 0, 0, 0, 0, 0, 0, 0, 0, 0, 0, 0, 0, 0, 0, 0, 16, 0, 0, 0, 0, 0, 0, 0, 0, 0, 0, 0, 0, 0, 0, 0, 0, 0, 0, 0, 0, 0, 0, 0] [3, 0, 1, 4, 5, 6, 2, 7, 8, 9, 10, 11, 12, 13, 14, 15, 16, 17, 18, 19, 20, 21, 22, 23, 24, 25, 26, 27, 28, 29, 30, 31, 32, 33, 34, 35, 36, 37, 38, 39, 40, 41, 42, 43, 44, 45, 46, 47, 48, 49, 50, 51, 52, 53, 54, 55, 56, 57, 58, 59, 60, 61, 62, 63, 64, 65, 66, 67, 68, 69, 70, 71, 72] (by decide +kernel) (by decide +kernel)
set_option maxRecDepth 20000 in
theorem gX6_strength_X6_isNoCell : GoodIn wsX6_strength (wsV RX6 179 RX6 yX6_isNoCell wsX6_isNoCell) := goodIn_app (qof qself _ (by decide +kernel)) ggX6_strength_X6_isNoCell
set_option maxRecDepth 20000 in
theorem ggX6_strength_X6_warmthOf : GoodIn wsX6_strength wsX6_warmthOf := goodIn_ca (qgood qself _ [57, 0, 11, 0, 0, 0, 0, 0, 0, 0, 0, 0, 0] [0, 1, 2, 3, 4, 5, 6, 7, 8, 9, 10, 11, 12] (by decide +kernel) (by decide +kernel)) (goodIn_sub (fun _ h => (List.mem_cons_of_mem _ (List.mem_append_right _ h))) (by decide +kernel))
set_option maxRecDepth 20000 in
theorem gX6_strength_X6_warmthOf : GoodIn wsX6_strength (wsV RX6 67 RX6 yX6_warmthOf wsX6_warmthOf) := goodIn_app (qof qself _ (by decide +kernel)) ggX6_strength_X6_warmthOf
set_option maxRecDepth 20000 in
theorem ggX6_creep_X6_isNoCell : GoodIn wsX6_creep wsX6_isNoCell := qgood qself _ [1, 0, 3, 0, 0, 0, 0, 0, 0, 0, 0, 0, 0, 0, 0, 0, 0, 0, 0, 0, 0, 0, 0, 0, 0, 0, 0, 0, 0, 0, 0, 0, 0, 0, 0, 0, 0, 0, 0, 0, 0, 0, 0, 0, 0, 0, 0, 0, 0, 0, 0, 0, 0, 0, 0, 0, 0, 0, 0, 0, 0, 0, 0, 0, 0, 0, 0, 0, 0, 0, 5, 0, 0] [3, 0, 1, 4, 5, 6, 2, 7, 8, 9, 10, 11, 12, 13, 14, 15, 16, 17, 18, 19, 20, 21, 22, 23, 24, 25, 26, 27, 28, 29, 30, 31, 32, 33, 34, 35, 36, 37, 38, 39, 40, 41, 42, 43, 44, 45, 46, 47, 48, 49, 50, 51, 52, 53, 54, 55, 56, 57, 58, 59, 70, 71, 72, 60, 61, 62, 63, 64, 65, 66, 67, 68, 69] (by decide +kernel) (by decide +kernel)
set_option maxRecDepth 20000 in
theorem gX6_creep_X6_isNoCell : GoodIn wsX6_creep (wsV RX6 179 RX6 yX6_isNoCell wsX6_isNoCell) := goodIn_app (qof qself _ (by decide +kernel)) ggX6_creep_X6_isNoCell
set_option maxRecDepth 20000 in
theorem ggX6_age_X6_isNoCell : GoodIn wsX6_age wsX6_isNoCell := qgood qself _ [1, 0, 3, 0, 0, 0, 0, 0, 0, 0, 0, 0, 0, 0, 0, 0, 0, 0, 0, 0, 0, 0, 0, 0, 0, 0, 0, 0, 0, 0, 0, 0, 0, 0, 0, 0, 0, 0, 0, 0, 0, 0, 0, 0, 0, 0, 0, 0, 0, 0, 0, 0, 0, 0, 0, 0, 0, 0, 0, 0, 0, 0, 0, 0, 0, 0, 0, 0, 0, 0, 5, 0, 0] [3, 0, 1, 4, 5, 6, 2, 7, 8, 9, 10, 11, 12, 13, 14, 15, 16, 17, 18, 19, 20, 21, 22, 23, 24, 25, 26, 27, 28, 29, 30, 31, 32, 33, 34, 35, 36, 37, 38, 39, 40, 41, 42, 43, 44, 45, 46, 47, 48, 49, 50, 51, 52, 53, 54, 55, 56, 57, 58, 59, 70, 71, 72, 60, 61, 62, 63, 64, 65, 66, 67, 68, 69] (by decide +kernel) (by decide +kernel)
set_option maxRecDepth 20000 in
theorem gX6_age_X6_isNoCell : GoodIn wsX6_age (wsV RX6 179 RX6 yX6_isNoCell wsX6_isNoCell) := goodIn_app (qof qself _ (by decide +kernel)) ggX6_age_X6_isNoCell
set_option maxRecDepth 20000 in
theorem ggX6_isArch_X6_isNoCell : GoodIn wsX6_isArch wsX6_isNoCell := qgood qself _ [1, 0, 3, 0, 0, 0, 0, 0, 0, 0, 0, 0, 0, 0, 0, 0, 0, 0, 0, 0, 0, 0, 0, 0, 0, 0, 0, 0, 0, 0, 0, 0, 0, 0, 0, 0, 0, 0, 0, 0, 0, 0, 0, 0, 0, 0, 0, 0, 0, 9, 0, 0, 0, 0, 0, 0, 0, 0, 0, 0, 0, 0, 0, 0, 0, 0, 0, 0, 0, 0, 0, 0, 0] [3, 0, 1, 4, 5, 6, 2, 7, 8, 9, 10, 11, 12, 13, 14, 15, 16, 17, 18, 19, 20, 21, 22, 23, 24, 25, 26, 27, 28, 29, 30, 31, 32, 33, 34, 35, 36, 37, 38, 39, 40, 41, 42, 43, 44, 45, 46, 47, 48, 49, 50, 51, 52, 53, 54, 55, 56, 57, 58, 59, 60, 61, 62, 63, 64, 65, 66, 67, 68, 69, 70, 71, 72] (by decide +kernel) (by decide +kernel)
set_option maxRecDepth 20000 in
theorem gX6_isArch_X6_isNoCell : GoodIn wsX6_isArch (wsV RX6 179 RX6 yX6_isNoCell wsX6_isNoCell) := goodIn_app (qof qself _ (by decide +kernel)) ggX6_isArch_X6_isNoCell
set_option maxRecDepth 20000 in
theorem ggX6_fell_X6_isNoSite : GoodIn wsX6_fell wsX6_isNoSite := qgood qself _ [1, 4, 0, 0, 0, 0, 0, 0, 0, 0, 0, 0, 0, 0, 0, 0, 0, 17, 0, 0, 0, 0, 0, 0, 0, 0, 0, 0, 10, 0, 0] [2, 0, 3, 4, 5, 6, 7, 8, 9, 10, 1, 11, 12, 13, 14, 15, 16, 17, 18, 19, 20, 21, 22, 23, 24, 25, 26, 27, 28, 29, 30] (by decide +kernel) (by decide +kernel)
set_option maxRecDepth 20000 in
theorem gX6_fell_X6_isNoSite : GoodIn wsX6_fell (wsV RX6 202 RX6 yX6_isNoSite wsX6_isNoSite) := goodIn_app (qof qself _ (by decide +kernel)) ggX6_fell_X6_isNoSite
set_option maxRecDepth 20000 in
theorem ggX6_lastFell_X6_isNoSite : GoodIn wsX6_lastFell wsX6_isNoSite := qgood qself _ [1, 4, 0, 0, 0, 0, 0, 0, 0, 0, 0, 0, 0, 0, 0, 0, 0, 17, 0, 0, 0, 0, 0, 0, 0, 0, 0, 0, 10, 0, 0] [2, 0, 3, 4, 5, 6, 7, 8, 9, 10, 1, 11, 12, 13, 14, 15, 16, 17, 18, 19, 20, 21, 22, 23, 24, 25, 26, 27, 28, 29, 30] (by decide +kernel) (by decide +kernel)
set_option maxRecDepth 20000 in
theorem gX6_lastFell_X6_isNoSite : GoodIn wsX6_lastFell (wsV RX6 202 RX6 yX6_isNoSite wsX6_isNoSite) := goodIn_app (qof qself _ (by decide +kernel)) ggX6_lastFell_X6_isNoSite
set_option maxRecDepth 20000 in
theorem ggX6_lastFell_X6_isWrong : GoodIn wsX6_lastFell wsX6_isWrong := qgood qself _ [20, 0, 17, 0, 0, 0, 0, 0, 0, 0, 0, 0, 0] [0, 1, 2, 3, 4, 5, 6, 7, 8, 9, 10, 11, 12] (by decide +kernel) (by decide +kernel)
set_option maxRecDepth 20000 in
theorem gX6_lastFell_X6_isWrong : GoodIn wsX6_lastFell (wsV RX6 61 RX6 yX6_isWrong wsX6_isWrong) := goodIn_app (qof qself _ (by decide +kernel)) ggX6_lastFell_X6_isWrong
set_option maxRecDepth 20000 in
theorem ggX6_cover_X6_isNoSite : GoodIn wsX6_cover wsX6_isNoSite := qgood qself _ [1, 5, 0, 0, 0, 0, 0, 0, 0, 0, 0, 0, 0, 0, 0, 0, 0, 17, 0, 0, 0, 0, 0, 0, 0, 0, 0, 0, 10, 0, 0] [2, 0, 3, 4, 5, 6, 7, 8, 9, 10, 1, 11, 12, 13, 14, 15, 16, 17, 18, 19, 20, 21, 22, 23, 24, 25, 26, 27, 28, 29, 30] (by decide +kernel) (by decide +kernel)
set_option maxRecDepth 20000 in
theorem gX6_cover_X6_isNoSite : GoodIn wsX6_cover (wsV RX6 202 RX6 yX6_isNoSite wsX6_isNoSite) := goodIn_app (qof qself _ (by decide +kernel)) ggX6_cover_X6_isNoSite
set_option maxRecDepth 20000 in
theorem ggX6_lamp_X6_isNoCell : GoodIn wsX6_lamp wsX6_isNoCell := qgood qself _ [1, 0, 4, 0, 0, 0, 0, 0, 0, 0, 0, 0, 0, 0, 0, 0, 0, 0, 0, 0, 0, 0, 0, 0, 0, 0, 0, 0, 0, 0, 0, 0, 0, 0, 0, 0, 0, 0, 0, 0, 0, 0, 0, 0, 0, 0, 0, 0, 0, 0, 0, 0, 0, 0, 0, 0, 0, 0, 0, 0, 0, 0, 0, 0, 0, 0, 0, 0, 0, 0, 5, 0, 0] [3, 0, 1, 4, 5, 6, 2, 7, 8, 9, 10, 11, 12, 13, 14, 15, 16, 17, 18, 19, 20, 21, 22, 23, 24, 25, 26, 27, 28, 29, 30, 31, 32, 33, 34, 35, 36, 37, 38, 39, 40, 41, 42, 43, 44, 45, 46, 47, 48, 49, 50, 51, 52, 53, 54, 55, 56, 57, 58, 59, 70, 71, 72, 60, 61, 62, 63, 64, 65, 66, 67, 68, 69] (by decide +kernel) (by decide +kernel)
set_option maxRecDepth 20000 in
theorem gX6_lamp_X6_isNoCell : GoodIn wsX6_lamp (wsV RX6 179 RX6 yX6_isNoCell wsX6_isNoCell) := goodIn_app (qof qself _ (by decide +kernel)) ggX6_lamp_X6_isNoCell
set_option maxRecDepth 20000 in
theorem ggX6_lamp_X6_isWrong : GoodIn wsX6_lamp wsX6_isWrong := qgood qself _ [27, 0, 25, 0, 0, 0, 0, 0, 0, 0, 0, 0, 0] [0, 1, 2, 3, 4, 5, 6, 7, 8, 9, 10, 11, 12] (by decide +kernel) (by decide +kernel)
set_option maxRecDepth 20000 in
theorem gX6_lamp_X6_isWrong : GoodIn wsX6_lamp (wsV RX6 61 RX6 yX6_isWrong wsX6_isWrong) := goodIn_app (qof qself _ (by decide +kernel)) ggX6_lamp_X6_isWrong
set_option maxRecDepth 20000 in
theorem ggX6_lightBits_X6_isNoPlace : GoodIn wsX6_lightBits wsX6_isNoPlace := qgood qself _ [1, 4, 0, 0, 0, 0, 0, 0, 0, 0, 0, 0, 0, 0, 0, 0, 0, 0, 0, 46, 0, 0, 0, 0, 0, 0, 0, 0, 0, 0, 15, 0, 0] [2, 0, 3, 4, 5, 6, 7, 8, 9, 10, 11, 12, 1, 13, 14, 15, 16, 17, 18, 19, 20, 21, 22, 23, 24, 25, 26, 27, 28, 29, 30, 31, 32] (by decide +kernel) (by decide +kernel)
set_option maxRecDepth 20000 in
theorem gX6_lightBits_X6_isNoPlace : GoodIn wsX6_lightBits (wsV RX6 145 RX6 yX6_isNoPlace wsX6_isNoPlace) := goodIn_app (qof qself _ (by decide +kernel)) ggX6_lightBits_X6_isNoPlace
set_option maxRecDepth 20000 in
theorem ggX6_isOpen_X6_isNoSite : GoodIn wsX6_isOpen wsX6_isNoSite := qgood qself _ [1, 4, 0, 0, 0, 0, 0, 0, 0, 0, 0, 0, 0, 0, 0, 0, 0, 67, 0, 0, 0, 0, 0, 0, 0, 0, 0, 0, 0, 0, 0] [2, 0, 3, 4, 5, 6, 7, 8, 9, 10, 1, 11, 12, 13, 14, 15, 16, 17, 18, 19, 20, 21, 22, 23, 24, 25, 26, 27, 28, 29, 30] (by decide +kernel) (by decide +kernel)
set_option maxRecDepth 20000 in
theorem gX6_isOpen_X6_isNoSite : GoodIn wsX6_isOpen (wsV RX6 202 RX6 yX6_isNoSite wsX6_isNoSite) := goodIn_app (qof qself _ (by decide +kernel)) ggX6_isOpen_X6_isNoSite
set_option maxRecDepth 20000 in
theorem ggX6_carries_X6_isNoPlace : GoodIn wsX6_carries wsX6_isNoPlace := qgood qself _ [1, 4, 0, 0, 0, 0, 0, 0, 0, 0, 0, 0, 0, 0, 0, 0, 0, 0, 0, 68, 0, 0, 0, 0, 0, 0, 0, 0, 0, 0, 0, 0, 0] [2, 0, 3, 4, 5, 6, 7, 8, 9, 10, 11, 12, 1, 13, 14, 15, 16, 17, 18, 19, 20, 21, 22, 23, 24, 25, 26, 27, 28, 29, 30, 31, 32] (by decide +kernel) (by decide +kernel)
set_option maxRecDepth 20000 in
theorem gX6_carries_X6_isNoPlace : GoodIn wsX6_carries (wsV RX6 145 RX6 yX6_isNoPlace wsX6_isNoPlace) := goodIn_app (qof qself _ (by decide +kernel)) ggX6_carries_X6_isNoPlace
set_option maxRecDepth 20000 in
theorem ggX6_carries_X6_isWrong : GoodIn wsX6_carries wsX6_isWrong := qgood qself _ [22, 0, 68, 0, 0, 0, 0, 0, 0, 0, 0, 0, 0] [0, 1, 2, 3, 4, 5, 6, 7, 8, 9, 10, 11, 12] (by decide +kernel) (by decide +kernel)
set_option maxRecDepth 20000 in
theorem gX6_carries_X6_isWrong : GoodIn wsX6_carries (wsV RX6 61 RX6 yX6_isWrong wsX6_isWrong) := goodIn_app (qof qself _ (by decide +kernel)) ggX6_carries_X6_isWrong
set_option maxRecDepth 20000 in
theorem ggX6_visit_X6_isNoSite : GoodIn wsX6_visit wsX6_isNoSite := qgood qself _ [2, 5, 0, 0, 0, 0, 0, 0, 0, 0, 0, 0, 0, 0, 0, 0, 0, 67, 0, 0, 0, 0, 0, 0, 0, 0, 0, 0, 10, 0, 0] [2, 0, 3, 4, 5, 6, 7, 8, 9, 10, 1, 11, 12, 13, 14, 15, 16, 17, 18, 19, 20, 21, 22, 23, 24, 25, 26, 27, 28, 29, 30] (by decide +kernel) (by decide +kernel)
set_option maxRecDepth 20000 in
theorem gX6_visit_X6_isNoSite : GoodIn wsX6_visit (wsV RX6 202 RX6 yX6_isNoSite wsX6_isNoSite) := goodIn_app (qof qself _ (by decide +kernel)) ggX6_visit_X6_isNoSite
set_option maxRecDepth 20000 in
theorem ggX6_visit_X6_isBetween : GoodIn wsX6_visit wsX6_isBetween := qgood qself _ [18] [0] (by decide +kernel) (by decide +kernel)
set_option maxRecDepth 20000 in
theorem gX6_visit_X6_isBetween : GoodIn wsX6_visit (va_wsS RX6 46 yX6_isBetween wsX6_isBetween) := goodIn_app (qof qself _ (by decide +kernel)) ggX6_visit_X6_isBetween
set_option maxRecDepth 20000 in
theorem ggX6_visit_X6_isWrong : GoodIn wsX6_visit wsX6_isWrong := qgood qself _ [22, 0, 67, 0, 0, 0, 0, 0, 0, 0, 0, 0, 0] [0, 1, 2, 3, 4, 5, 6, 7, 8, 9, 10, 11, 12] (by decide +kernel) (by decide +kernel)
set_option maxRecDepth 20000 in
theorem gX6_visit_X6_isWrong : GoodIn wsX6_visit (wsV RX6 61 RX6 yX6_isWrong wsX6_isWrong) := goodIn_app (qof qself _ (by decide +kernel)) ggX6_visit_X6_isWrong
set_option maxRecDepth 20000 in
theorem ggX6_squareBits_X6_isBetween : GoodIn wsX6_squareBits wsX6_isBetween := qgood qself _ [11] [0] (by decide +kernel) (by decide +kernel)
set_option maxRecDepth 20000 in
theorem gX6_squareBits_X6_isBetween : GoodIn wsX6_squareBits (va_wsS RX6 46 yX6_isBetween wsX6_isBetween) := goodIn_app (qof qself _ (by decide +kernel)) ggX6_squareBits_X6_isBetween
set_option maxRecDepth 20000 in
theorem ggX6_squareBits_X6_isWrong : GoodIn wsX6_squareBits wsX6_isWrong := qgood qself _ [15, 0, 17, 0, 0, 0, 0, 0, 0, 0, 0, 0, 0] [0, 1, 2, 3, 4, 5, 6, 7, 8, 9, 10, 11, 12] (by decide +kernel) (by decide +kernel)
set_option maxRecDepth 20000 in
theorem gX6_squareBits_X6_isWrong : GoodIn wsX6_squareBits (wsV RX6 61 RX6 yX6_isWrong wsX6_isWrong) := goodIn_app (qof qself _ (by decide +kernel)) ggX6_squareBits_X6_isWrong
set_option maxRecDepth 20000 in
theorem ggX6_squareBits_X6_warmthOf : GoodIn wsX6_squareBits wsX6_warmthOf := goodIn_ca (qgood qself _ [20, 0, 12, 0, 0, 0, 0, 0, 0, 0, 0, 0, 0] [0, 1, 2, 3, 4, 5, 6, 7, 8, 9, 10, 11, 12] (by decide +kernel) (by decide +kernel)) (goodIn_sub (fun _ h => (List.mem_cons_of_mem _ (List.mem_append_right _ h))) (by decide +kernel))
set_option maxRecDepth 20000 in
theorem gX6_squareBits_X6_warmthOf : GoodIn wsX6_squareBits (wsV RX6 67 RX6 yX6_warmthOf wsX6_warmthOf) := goodIn_app (qof qself _ (by decide +kernel)) ggX6_squareBits_X6_warmthOf
set_option maxRecDepth 20000 in
theorem ggX6_squareBits_Jxe99ae_doubleToLongBits_ccdee : GoodIn wsX6_squareBits wsJxe99ae_doubleToLongBits_ccdee := qgood qself _ [24, 0, 0, 0, 0, 0, 0, 0, 0, 0] [1, 2, 3, 4, 5, 6, 7, 8, 0, 9] (by decide +kernel) (by decide +kernel)
set_option maxRecDepth 20000 in
theorem gX6_squareBits_Jxe99ae_doubleToLongBits_ccdee : GoodIn wsX6_squareBits (va_wsS RX6 246 yJxe99ae_doubleToLongBits_ccdee wsJxe99ae_doubleToLongBits_ccdee) := goodIn_app (qof qself _ (by decide +kernel)) ggX6_squareBits_Jxe99ae_doubleToLongBits_ccdee
set_option maxRecDepth 20000 in
theorem ggX6_plan_X6_isNoPlace : GoodIn wsX6_plan wsX6_isNoPlace := qgood qself _ [1, 4, 0, 0, 0, 0, 0, 0, 0, 0, 0, 0, 0, 0, 0, 0, 0, 0, 0, 17, 0, 0, 0, 0, 0, 0, 0, 0, 0, 0, 10, 0, 0] [2, 0, 3, 4, 5, 6, 7, 8, 9, 10, 11, 12, 1, 13, 14, 15, 16, 17, 18, 19, 20, 21, 22, 23, 24, 25, 26, 27, 28, 29, 30, 31, 32] (by decide +kernel) (by decide +kernel)
set_option maxRecDepth 20000 in
theorem gX6_plan_X6_isNoPlace : GoodIn wsX6_plan (wsV RX6 145 RX6 yX6_isNoPlace wsX6_isNoPlace) := goodIn_app (qof qself _ (by decide +kernel)) ggX6_plan_X6_isNoPlace
set_option maxRecDepth 20000 in
theorem ggX6_carve_X6_isNoPlace : GoodIn wsX6_carve wsX6_isNoPlace := qgood qself _ [1, 6, 0, 0, 0, 0, 0, 0, 0, 0, 0, 0, 0, 0, 0, 0, 0, 0, 0, 80, 0, 0, 0, 0, 0, 0, 0, 0, 0, 0, 15, 0, 0] [2, 0, 3, 4, 5, 6, 7, 8, 9, 10, 11, 12, 1, 13, 14, 15, 16, 17, 18, 19, 20, 21, 22, 23, 24, 25, 26, 27, 28, 29, 30, 31, 32] (by decide +kernel) (by decide +kernel)
set_option maxRecDepth 20000 in
theorem gX6_carve_X6_isNoPlace : GoodIn wsX6_carve (wsV RX6 145 RX6 yX6_isNoPlace wsX6_isNoPlace) := goodIn_app (qof qself _ (by decide +kernel)) ggX6_carve_X6_isNoPlace
set_option maxRecDepth 20000 in
theorem ggX6_carve_X6_isBetween : GoodIn wsX6_carve wsX6_isBetween := qgood qself _ [20] [0] (by decide +kernel) (by decide +kernel)
set_option maxRecDepth 20000 in
theorem gX6_carve_X6_isBetween : GoodIn wsX6_carve (va_wsS RX6 46 yX6_isBetween wsX6_isBetween) := goodIn_app (qof qself _ (by decide +kernel)) ggX6_carve_X6_isBetween
set_option maxRecDepth 20000 in
theorem ggX6_carve_X6_isWrong : GoodIn wsX6_carve wsX6_isWrong := qgood qself _ [24, 0, 80, 0, 0, 0, 0, 0, 0, 0, 0, 0, 0] [0, 1, 2, 3, 4, 5, 6, 7, 8, 9, 10, 11, 12] (by decide +kernel) (by decide +kernel)
set_option maxRecDepth 20000 in
theorem gX6_carve_X6_isWrong : GoodIn wsX6_carve (wsV RX6 61 RX6 yX6_isWrong wsX6_isWrong) := goodIn_app (qof qself _ (by decide +kernel)) ggX6_carve_X6_isWrong
set_option maxRecDepth 20000 in
theorem ggX6_carve_X6_warmthOf : GoodIn wsX6_carve wsX6_warmthOf := goodIn_ca (qgood qself _ [46, 0, 58, 0, 0, 0, 0, 0, 0, 0, 0, 0, 0] [0, 1, 2, 3, 4, 5, 6, 7, 8, 9, 10, 11, 12] (by decide +kernel) (by decide +kernel)) (goodIn_sub (fun _ h => (List.mem_cons_of_mem _ (List.mem_append_right _ h))) (by decide +kernel))
set_option maxRecDepth 20000 in
theorem gX6_carve_X6_warmthOf : GoodIn wsX6_carve (wsV RX6 67 RX6 yX6_warmthOf wsX6_warmthOf) := goodIn_app (qof qself _ (by decide +kernel)) ggX6_carve_X6_warmthOf
set_option maxRecDepth 20000 in
theorem ggX6_hours_X6_isNoSite : GoodIn wsX6_hours wsX6_isNoSite := qgood qself _ [1, 4, 0, 0, 0, 0, 0, 0, 0, 0, 0, 0, 0, 0, 0, 0, 0, 17, 0, 0, 0, 0, 0, 0, 0, 0, 0, 0, 10, 0, 0] [2, 0, 3, 4, 5, 6, 7, 8, 9, 10, 1, 11, 12, 13, 14, 15, 16, 17, 18, 19, 20, 21, 22, 23, 24, 25, 26, 27, 28, 29, 30] (by decide +kernel) (by decide +kernel)
set_option maxRecDepth 20000 in
theorem gX6_hours_X6_isNoSite : GoodIn wsX6_hours (wsV RX6 202 RX6 yX6_isNoSite wsX6_isNoSite) := goodIn_app (qof qself _ (by decide +kernel)) ggX6_hours_X6_isNoSite
set_option maxRecDepth 20000 in
theorem ggX6_judge_X6_isNoSite : GoodIn wsX6_judge wsX6_isNoSite := qgood qself _ [1, 6, 0, 0, 0, 0, 0, 0, 0, 0, 0, 0, 0, 0, 0, 0, 0, 25, 0, 0, 0, 0, 0, 0, 0, 0, 0, 0, 10, 0, 0] [2, 0, 3, 4, 5, 6, 7, 8, 9, 10, 1, 11, 12, 13, 14, 15, 16, 17, 18, 19, 20, 21, 22, 23, 24, 25, 26, 27, 28, 29, 30] (by decide +kernel) (by decide +kernel)
set_option maxRecDepth 20000 in
theorem gX6_judge_X6_isNoSite : GoodIn wsX6_judge (wsV RX6 202 RX6 yX6_isNoSite wsX6_isNoSite) := goodIn_app (qof qself _ (by decide +kernel)) ggX6_judge_X6_isNoSite
set_option maxRecDepth 20000 in
theorem ggX6_mark_X6_isNoSite : GoodIn wsX6_mark wsX6_isNoSite := qgood qself _ [1, 4, 0, 0, 0, 0, 0, 0, 0, 0, 0, 0, 0, 0, 0, 0, 0, 17, 0, 0, 0, 0, 0, 0, 0, 0, 0, 0, 10, 0, 0] [2, 0, 3, 4, 5, 6, 7, 8, 9, 10, 1, 11, 12, 13, 14, 15, 16, 17, 18, 19, 20, 21, 22, 23, 24, 25, 26, 27, 28, 29, 30] (by decide +kernel) (by decide +kernel)
set_option maxRecDepth 20000 in
theorem gX6_mark_X6_isNoSite : GoodIn wsX6_mark (wsV RX6 202 RX6 yX6_isNoSite wsX6_isNoSite) := goodIn_app (qof qself _ (by decide +kernel)) ggX6_mark_X6_isNoSite
set_option maxRecDepth 20000 in
theorem ggX6_mark_X6_isWrong : GoodIn wsX6_mark wsX6_isWrong := qgood qself _ [20, 0, 17, 0, 0, 0, 0, 0, 0, 0, 0, 0, 0] [0, 1, 2, 3, 4, 5, 6, 7, 8, 9, 10, 11, 12] (by decide +kernel) (by decide +kernel)
set_option maxRecDepth 20000 in
theorem gX6_mark_X6_isWrong : GoodIn wsX6_mark (wsV RX6 61 RX6 yX6_isWrong wsX6_isWrong) := goodIn_app (qof qself _ (by decide +kernel)) ggX6_mark_X6_isWrong
set_option maxRecDepth 20000 in
theorem ggX6_take_X6_isNoCell : GoodIn wsX6_take wsX6_isNoCell := qgood qself _ [1, 0, 4, 0, 0, 0, 0, 0, 0, 0, 0, 0, 0, 0, 0, 0, 0, 0, 0, 0, 0, 0, 0, 0, 0, 0, 0, 0, 0, 0, 0, 0, 0, 0, 0, 0, 0, 0, 0, 0, 0, 0, 0, 0, 0, 0, 0, 0, 0, 45, 0, 0, 0, 0, 0, 0, 0, 0, 0, 0, 0, 0, 0, 0, 0, 0, 0, 0, 0, 0, 5, 0, 0] [3, 0, 1, 4, 5, 6, 2, 7, 8, 9, 10, 11, 12, 13, 14, 15, 16, 17, 18, 19, 20, 21, 22, 23, 24, 25, 26, 27, 28, 29, 30, 31, 32, 33, 34, 35, 36, 37, 38, 39, 40, 41, 42, 43, 44, 45, 46, 47, 48, 49, 50, 51, 52, 53, 54, 55, 56, 57, 58, 59, 70, 71, 72, 60, 61, 62, 63, 64, 65, 66, 67, 68, 69] (by decide +kernel) (by decide +kernel)
set_option maxRecDepth 20000 in
theorem gX6_take_X6_isNoCell : GoodIn wsX6_take (wsV RX6 179 RX6 yX6_isNoCell wsX6_isNoCell) := goodIn_app (qof qself _ (by decide +kernel)) ggX6_take_X6_isNoCell
set_option maxRecDepth 20000 in
theorem ggX6_take_X6_warmthOf : GoodIn wsX6_take wsX6_warmthOf := goodIn_ca (qgood qself _ [57, 0, 40, 0, 0, 0, 0, 0, 0, 0, 0, 0, 0] [0, 1, 2, 3, 4, 5, 6, 7, 8, 9, 10, 11, 12] (by decide +kernel) (by decide +kernel)) (goodIn_sub (fun _ h => (List.mem_cons_of_mem _ (List.mem_append_right _ h))) (by decide +kernel))
set_option maxRecDepth 20000 in
theorem gX6_take_X6_warmthOf : GoodIn wsX6_take (wsV RX6 67 RX6 yX6_warmthOf wsX6_warmthOf) := goodIn_app (qof qself _ (by decide +kernel)) ggX6_take_X6_warmthOf
set_option maxRecDepth 20000 in
theorem ggX6_take_X6_isWrong : GoodIn wsX6_take wsX6_isWrong := qgood qself _ [27, 0, 70, 0, 0, 0, 0, 0, 0, 0, 0, 0, 0] [0, 1, 2, 3, 4, 5, 6, 7, 8, 9, 10, 11, 12] (by decide +kernel) (by decide +kernel)
set_option maxRecDepth 20000 in
theorem gX6_take_X6_isWrong : GoodIn wsX6_take (wsV RX6 61 RX6 yX6_isWrong wsX6_isWrong) := goodIn_app (qof qself _ (by decide +kernel)) ggX6_take_X6_isWrong
set_option maxRecDepth 20000 in
theorem ggX6_count_X6_isNoSite : GoodIn wsX6_count wsX6_isNoSite := qgood qself _ [1, 4, 0, 0, 0, 0, 0, 0, 0, 0, 0, 0, 0, 0, 0, 0, 0, 23, 0, 0, 0, 0, 0, 0, 0, 0, 0, 0, 0, 0, 0] [2, 0, 3, 4, 5, 6, 7, 8, 9, 10, 1, 11, 12, 13, 14, 15, 16, 17, 18, 19, 20, 21, 22, 23, 24, 25, 26, 27, 28, 29, 30] (by decide +kernel) (by decide +kernel)
set_option maxRecDepth 20000 in
theorem gX6_count_X6_isNoSite : GoodIn wsX6_count (wsV RX6 202 RX6 yX6_isNoSite wsX6_isNoSite) := goodIn_app (qof qself _ (by decide +kernel)) ggX6_count_X6_isNoSite
set_option maxRecDepth 20000 in
theorem ggX6_openShare_Jx4a65c_iterator_32c93 : GoodIn wsX6_openShare wsJx4a65c_iterator_32c93 := qgood qself _ [7, 0, 0, 0, 0, 0, 0, 0, 0, 0, 0, 0, 0, 0, 0, 92, 0, 0, 0, 0, 0, 0] [0, 1, 2, 3, 4, 5, 6, 7, 8, 9, 10, 11, 12, 13, 14, 15, 16, 17, 18, 19, 20, 21] (by decide +kernel) (by decide +kernel)
set_option maxRecDepth 20000 in
theorem gX6_openShare_Jx4a65c_iterator_32c93_f109Jx4a65c : GoodIn wsX6_openShare (va_wsF RX6 109 RJx4a65c ⟨"java/util/List", "iterator", "()Ljava/util/Iterator;"⟩ yJx4a65c_iterator_32c93 wsJx4a65c_iterator_32c93) := goodIn_app (qof qself _ (by decide +kernel)) ggX6_openShare_Jx4a65c_iterator_32c93
set_option maxRecDepth 20000 in
theorem ggX6_openShare_Jx35411_hasNext_aae02 : GoodIn wsX6_openShare wsJx35411_hasNext_aae02 := qgood qself _ [14, 10, 0, 87, 0, 0, 0, 0, 0, 0] [1, 2, 0, 3, 4, 5, 6, 7, 8, 9] (by decide +kernel) (by decide +kernel)
set_option maxRecDepth 20000 in
theorem gX6_openShare_Jx35411_hasNext_aae02_f115Jx35411 : GoodIn wsX6_openShare (va_wsF RX6 115 RJx35411 ⟨"java/util/Iterator", "hasNext", "()Z"⟩ yJx35411_hasNext_aae02 wsJx35411_hasNext_aae02) := goodIn_app (qof qself _ (by decide +kernel)) ggX6_openShare_Jx35411_hasNext_aae02
set_option maxRecDepth 20000 in
theorem ggX6_openShare_Jx4a65c_isEmpty_aae02 : GoodIn wsX6_openShare wsJx4a65c_isEmpty_aae02 := qgood qself _ [92, 0, 24, 0, 0] [0, 1, 2, 3, 4] (by decide +kernel) (by decide +kernel)
set_option maxRecDepth 20000 in
theorem gX6_openShare_Jx4a65c_isEmpty_aae02_f272Jx4a65c : GoodIn wsX6_openShare (va_wsF RX6 272 RJx4a65c ⟨"java/util/List", "isEmpty", "()Z"⟩ yJx4a65c_isEmpty_aae02 wsJx4a65c_isEmpty_aae02) := goodIn_app (qof qself _ (by decide +kernel)) ggX6_openShare_Jx4a65c_isEmpty_aae02
set_option maxRecDepth 20000 in
theorem ggX6_openShare_X6_isWrong : GoodIn wsX6_openShare wsX6_isWrong := qgood qself _ [97, 0, 4, 0, 0, 0, 0, 0, 0, 0, 0, 0, 0] [0, 1, 2, 3, 4, 5, 6, 7, 8, 9, 10, 11, 12] (by decide +kernel) (by decide +kernel)
set_option maxRecDepth 20000 in
theorem gX6_openShare_X6_isWrong : GoodIn wsX6_openShare (wsV RX6 61 RX6 yX6_isWrong wsX6_isWrong) := goodIn_app (qof qself _ (by decide +kernel)) ggX6_openShare_X6_isWrong
set_option maxRecDepth 20000 in
theorem ggX6_openShare_Jx4a65c_size_8abf5 : GoodIn wsX6_openShare wsJx4a65c_size_8abf5 := qgood qself _ [93, 8, 15, 0, 0] [1, 0, 2, 3, 4] (by decide +kernel) (by decide +kernel)
set_option maxRecDepth 20000 in
theorem gX6_openShare_Jx4a65c_size_8abf5_f130Jx4a65c : GoodIn wsX6_openShare (va_wsF RX6 130 RJx4a65c ⟨"java/util/List", "size", "()I"⟩ yJx4a65c_size_8abf5 wsJx4a65c_size_8abf5) := goodIn_app (qof qself _ (by decide +kernel)) ggX6_openShare_Jx4a65c_size_8abf5
set_option maxRecDepth 20000 in
theorem ggX6_meanCreep_X6_isNoSite : GoodIn wsX6_meanCreep wsX6_isNoSite := qgood qself _ [1, 4, 0, 0, 0, 0, 0, 0, 0, 0, 0, 0, 0, 0, 0, 0, 0, 23, 0, 0, 0, 0, 0, 0, 0, 0, 0, 0, 15, 0, 0] [2, 0, 3, 4, 5, 6, 7, 8, 9, 10, 1, 11, 12, 13, 14, 15, 16, 17, 18, 19, 20, 21, 22, 23, 24, 25, 26, 27, 28, 29, 30] (by decide +kernel) (by decide +kernel)
set_option maxRecDepth 20000 in
theorem gX6_meanCreep_X6_isNoSite : GoodIn wsX6_meanCreep (wsV RX6 202 RX6 yX6_isNoSite wsX6_isNoSite) := goodIn_app (qof qself _ (by decide +kernel)) ggX6_meanCreep_X6_isNoSite
set_option maxRecDepth 20000 in
theorem ggX6_meanCreep_X6_isWrong : GoodIn wsX6_meanCreep wsX6_isWrong := qgood qself _ [20, 0, 23, 0, 0, 0, 0, 0, 0, 0, 0, 0, 0] [0, 1, 2, 3, 4, 5, 6, 7, 8, 9, 10, 11, 12] (by decide +kernel) (by decide +kernel)
set_option maxRecDepth 20000 in
theorem gX6_meanCreep_X6_isWrong : GoodIn wsX6_meanCreep (wsV RX6 61 RX6 yX6_isWrong wsX6_isWrong) := goodIn_app (qof qself _ (by decide +kernel)) ggX6_meanCreep_X6_isWrong
set_option maxRecDepth 20000 in
theorem ggX6_checksum_Jx4a65c_iterator_32c93 : GoodIn wsX6_checksum wsJx4a65c_iterator_32c93 := qgood qself _ [13, 0, 0, 0, 0, 0, 0, 0, 0, 0, 0, 0, 0, 0, 0, 40, 0, 0, 0, 0, 0, 0] [0, 1, 2, 3, 4, 5, 6, 7, 8, 9, 10, 11, 12, 13, 14, 15, 16, 17, 18, 19, 20, 21] (by decide +kernel) (by decide +kernel)
set_option maxRecDepth 20000 in
theorem gX6_checksum_Jx4a65c_iterator_32c93_f109Jx4a65c : GoodIn wsX6_checksum (va_wsF RX6 109 RJx4a65c ⟨"java/util/List", "iterator", "()Ljava/util/Iterator;"⟩ yJx4a65c_iterator_32c93 wsJx4a65c_iterator_32c93) := goodIn_app (qof qself _ (by decide +kernel)) ggX6_checksum_Jx4a65c_iterator_32c93
set_option maxRecDepth 20000 in
theorem ggX6_checksum_Jx35411_hasNext_aae02 : GoodIn wsX6_checksum wsJx35411_hasNext_aae02 := qgood qself _ [20, 10, 0, 35, 0, 0, 0, 0, 0, 0] [1, 2, 0, 3, 4, 5, 6, 7, 8, 9] (by decide +kernel) (by decide +kernel)

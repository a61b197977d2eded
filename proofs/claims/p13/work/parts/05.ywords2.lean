set_option maxRecDepth 20000 in
theorem ggX6_carve_X5_settles : GoodIn wsX6_carve wsX5_settles := goodIn_ca (qgood qself _ [8, 10, 0, 30, 0, 0, 0, 0, 0, 0, 0, 0, 0, 0, 0, 0, 0, 0, 0, 0, 0, 0, 0, 0, 0, 0, 0, 0, 0, 0, 0, 0, 0, 0, 0, 0, 0, 0, 0, 0, 0, 0, 0, 0, 0, 0, 0, 0, 0, 0, 0, 0, 0, 0, 0, 0, 0, 0, 0, 0, 0, 0, 0, 0, 0, 0, 0, 0, 0, 0, 0, 0, 0, 0, 0, 0, 0, 0, 0, 0, 0, 0, 0, 0] [4, 5, 6, 7, 3, 8, 9, 10, 11, 12, 13, 14, 15, 16, 17, 18, 19, 20, 21, 22, 23, 1, 0, 2, 24, 25, 26, 27, 28, 29, 30, 31, 32, 33, 34, 35, 36, 37, 38, 39, 40, 41, 42, 43, 44, 45, 46, 47, 48, 49, 50, 51, 52, 53, 54, 55, 56, 57, 69, 70, 71, 72, 73, 74, 75, 76, 77, 78, 79, 80, 81, 82, 83, 58, 59, 60, 61, 62, 63, 64, 65, 66, 67, 68] (by decide +kernel) (by decide +kernel)) (goodIn_sub (fun _ h => (List.mem_cons_of_mem _ (List.mem_append_right _ h))) (by decide +kernel))
set_option maxRecDepth 20000 in
theorem gX6_carve_X5_settles : GoodIn wsX6_carve (wsV RX6 169 RX5 yX5_settles wsX5_settles) := goodIn_app (qof qself _ (by decide +kernel)) ggX6_carve_X5_settles
set_option maxRecDepth 20000 in
theorem ggX6_hours_Jx4a65c_get_915e3 : GoodIn wsX6_hours wsJx4a65c_get_915e3 := qgood qself _ [11, 1, 11, 0, 0, 0, 0, 0, 0, 0, 0, 0, 0, 0, 0, 0, 21, 0, 0] [2, 1, 3, 4, 5, 6, 7, 8, 9, 10, 11, 12, 13, 0, 14, 15, 16, 17, 18] (by decide +kernel) (by decide +kernel)
set_option maxRecDepth 20000 in
theorem gX6_hours_Jx4a65c_get_915e3_f149Jx4a65c : GoodIn wsX6_hours (va_wsF RX6 149 RJx4a65c ⟨"java/util/List", "get", "(I)Ljava/lang/Object;"⟩ yJx4a65c_get_915e3 wsJx4a65c_get_915e3) := goodIn_app (qof qself _ (by decide +kernel)) ggX6_hours_Jx4a65c_get_915e3
set_option maxRecDepth 20000 in
theorem ggX6_judge_Jx4a65c_get_915e3 : GoodIn wsX6_judge wsJx4a65c_get_915e3 := qgood qself _ [13, 1, 11, 0, 0, 0, 0, 0, 0, 0, 0, 0, 0, 0, 0, 0, 29, 0, 0] [2, 1, 3, 4, 5, 6, 7, 8, 9, 10, 11, 12, 13, 0, 14, 15, 16, 17, 18] (by decide +kernel) (by decide +kernel)
set_option maxRecDepth 20000 in
theorem gX6_judge_Jx4a65c_get_915e3_f149Jx4a65c : GoodIn wsX6_judge (va_wsF RX6 149 RJx4a65c ⟨"java/util/List", "get", "(I)Ljava/lang/Object;"⟩ yJx4a65c_get_915e3 wsJx4a65c_get_915e3) := goodIn_app (qof qself _ (by decide +kernel)) ggX6_judge_Jx4a65c_get_915e3
set_option maxRecDepth 20000 in
theorem ggX6_judge_X5_has : GoodIn wsX6_judge wsX5_has := qgood qself _ [8, 8, 0, 26, 0, 0, 0, 11, 0, 0, 0, 0, 0, 0, 0, 0, 0] [3, 4, 5, 6, 1, 0, 2, 7, 8, 9, 10, 11, 12, 13, 14, 15, 16] (by decide +kernel) (by decide +kernel)
set_option maxRecDepth 20000 in
theorem gX6_judge_X5_has : GoodIn wsX6_judge (wsV RX6 153 RX5 yX5_has wsX5_has) := goodIn_app (qof qself _ (by decide +kernel)) ggX6_judge_X5_has
set_option maxRecDepth 20000 in
theorem ggX6_mark_Jx4a65c_get_915e3 : GoodIn wsX6_mark wsJx4a65c_get_915e3 := qgood qself _ [11, 1, 11, 0, 0, 0, 0, 0, 0, 0, 0, 0, 0, 0, 0, 0, 21, 0, 0] [2, 1, 3, 4, 5, 6, 7, 8, 9, 10, 11, 12, 13, 0, 14, 15, 16, 17, 18] (by decide +kernel) (by decide +kernel)
set_option maxRecDepth 20000 in
theorem gX6_mark_Jx4a65c_get_915e3_f149Jx4a65c : GoodIn wsX6_mark (va_wsF RX6 149 RJx4a65c ⟨"java/util/List", "get", "(I)Ljava/lang/Object;"⟩ yJx4a65c_get_915e3 wsJx4a65c_get_915e3) := goodIn_app (qof qself _ (by decide +kernel)) ggX6_mark_Jx4a65c_get_915e3
set_option maxRecDepth 20000 in
theorem ggX6_take_Jx4a65c_get_915e3 : GoodIn wsX6_take wsJx4a65c_get_915e3 := qgood qself _ [18, 1, 11, 0, 0, 0, 0, 0, 0, 0, 0, 0, 0, 0, 0, 0, 79, 0, 0] [2, 1, 3, 4, 5, 6, 7, 8, 9, 10, 11, 12, 13, 0, 14, 15, 16, 17, 18] (by decide +kernel) (by decide +kernel)
set_option maxRecDepth 20000 in
theorem gX6_take_Jx4a65c_get_915e3_f149Jx4a65c : GoodIn wsX6_take (va_wsF RX6 149 RJx4a65c ⟨"java/util/List", "get", "(I)Ljava/lang/Object;"⟩ yJx4a65c_get_915e3 wsJx4a65c_get_915e3) := goodIn_app (qof qself _ (by decide +kernel)) ggX6_take_Jx4a65c_get_915e3
set_option maxRecDepth 20000 in
theorem ggX6_take_X5_weak : GoodIn wsX6_take wsX5_weak := goodIn_ca (qgood qself _ [7, 14, 0, 23, 0, 0, 0, 0, 0, 0, 8, 0, 0, 0, 0, 0, 0, 0, 0, 0, 0, 0, 0, 0, 0, 0, 0, 0, 0, 0, 0, 0, 0, 0, 0, 0, 0, 0, 0, 0, 0, 0, 0, 0, 0, 0, 0, 11, 0, 0, 0, 0, 0, 0, 0, 0, 0, 0, 0, 0, 0, 0] [10, 11, 12, 13, 14, 15, 5, 16, 17, 18, 9, 19, 3, 4, 6, 7, 8, 1, 0, 2, 20, 21, 22, 23, 24, 25, 26, 27, 28, 29, 30, 31, 32, 33, 34, 35, 36, 37, 38, 39, 40, 41, 42, 43, 44, 45, 46, 47, 48, 49, 50, 51, 52, 53, 54, 55, 56, 57, 58, 59, 60, 61] (by decide +kernel) (by decide +kernel)) (goodIn_sub (fun _ h => (List.mem_cons_of_mem _ (List.mem_append_right _ h))) (by decide +kernel))
set_option maxRecDepth 20000 in
theorem gX6_take_X5_weak : GoodIn wsX6_take (wsV RX6 268 RX5 yX5_weak wsX5_weak) := goodIn_app (qof qself _ (by decide +kernel)) ggX6_take_X5_weak
set_option maxRecDepth 20000 in
theorem ggX6_count_Jx4a65c_get_915e3 : GoodIn wsX6_count wsJx4a65c_get_915e3 := qgood qself _ [11, 1, 11, 0, 0, 0, 0, 0, 0, 0, 0, 0, 0, 0, 0, 0, 17, 0, 0] [2, 1, 3, 4, 5, 6, 7, 8, 9, 10, 11, 12, 13, 0, 14, 15, 16, 17, 18] (by decide +kernel) (by decide +kernel)
set_option maxRecDepth 20000 in
theorem gX6_count_Jx4a65c_get_915e3_f149Jx4a65c : GoodIn wsX6_count (va_wsF RX6 149 RJx4a65c ⟨"java/util/List", "get", "(I)Ljava/lang/Object;"⟩ yJx4a65c_get_915e3 wsJx4a65c_get_915e3) := goodIn_app (qof qself _ (by decide +kernel)) ggX6_count_Jx4a65c_get_915e3
set_option maxRecDepth 20000 in
theorem ggX6_count_X5_many : GoodIn wsX6_count wsX5_many := qgood qself _ [43, 0, 14, 0, 0, 0, 0, 0, 0, 0, 0, 0] [0, 1, 2, 3, 4, 5, 6, 7, 8, 9, 10, 11] (by decide +kernel) (by decide +kernel)
set_option maxRecDepth 20000 in
theorem gX6_count_X5_many : GoodIn wsX6_count (wsV RX6 172 RX5 yX5_many wsX5_many) := goodIn_app (qof qself _ (by decide +kernel)) ggX6_count_X5_many
set_option maxRecDepth 20000 in
theorem ggX6_openShare_Jx35411_next_0502b : GoodIn wsX6_openShare wsJx35411_next_0502b := qgood qself _ [10, 3, 3, 0, 0, 0, 4, 3, 0, 0, 0, 0, 0, 78, 0, 0, 0, 0, 0, 0] [7, 6, 1, 8, 2, 9, 10, 11, 0, 12, 3, 4, 5, 13, 14, 15, 16, 17, 18, 19] (by decide +kernel) (by decide +kernel)
set_option maxRecDepth 20000 in
theorem gX6_openShare_Jx35411_next_0502b_f121Jx35411 : GoodIn wsX6_openShare (va_wsF RX6 121 RJx35411 ⟨"java/util/Iterator", "next", "()Ljava/lang/Object;"⟩ yJx35411_next_0502b wsJx35411_next_0502b) := goodIn_app (qof qself _ (by decide +kernel)) ggX6_openShare_Jx35411_next_0502b
set_option maxRecDepth 20000 in
theorem ggX6_openShare_X5_isOpen : GoodIn wsX6_openShare wsX5_isOpen := goodIn_ca (qgood qself _ [39, 0, 0, 0, 0, 0, 0, 0, 0, 0, 0, 0, 0, 0, 0, 0, 0, 0, 0, 0, 0, 0, 0, 0, 0, 0, 0, 0, 0, 0, 0, 0, 0, 0, 0, 0, 0, 0, 0, 0, 0, 0, 0, 0, 0, 0, 0, 0, 0, 0, 14, 0, 0, 0, 0, 0, 0, 0, 0, 0, 0, 7, 0, 0, 0, 0, 0, 0, 0, 0, 0, 0, 0, 0, 0, 0] [1, 2, 3, 4, 5, 6, 0, 7, 8, 9, 10, 11, 12, 13, 14, 15, 16, 17, 18, 19, 20, 21, 22, 23, 24, 25, 26, 27, 28, 29, 30, 31, 32, 33, 34, 35, 36, 37, 38, 39, 40, 41, 42, 43, 44, 45, 46, 47, 48, 49, 61, 62, 63, 64, 65, 66, 67, 68, 69, 70, 50, 51, 52, 53, 54, 55, 56, 57, 58, 59, 60, 71, 72, 73, 74, 75] (by decide +kernel) (by decide +kernel)) (goodIn_sub (fun _ h => (List.mem_cons_of_mem _ (List.mem_append_right _ h))) (by decide +kernel))
set_option maxRecDepth 20000 in
theorem gX6_openShare_X5_isOpen : GoodIn wsX6_openShare (wsV RX6 227 RX5 yX5_isOpen wsX5_isOpen) := goodIn_app (qof qself _ (by decide +kernel)) ggX6_openShare_X5_isOpen
set_option maxRecDepth 20000 in
theorem ggX6_meanCreep_Jx4a65c_get_915e3 : GoodIn wsX6_meanCreep wsJx4a65c_get_915e3 := qgood qself _ [11, 1, 11, 0, 0, 0, 0, 0, 0, 0, 0, 0, 0, 0, 0, 0, 32, 0, 0] [2, 1, 3, 4, 5, 6, 7, 8, 9, 10, 11, 12, 13, 0, 14, 15, 16, 17, 18] (by decide +kernel) (by decide +kernel)
set_option maxRecDepth 20000 in
theorem gX6_meanCreep_Jx4a65c_get_915e3_f149Jx4a65c : GoodIn wsX6_meanCreep (va_wsF RX6 149 RJx4a65c ⟨"java/util/List", "get", "(I)Ljava/lang/Object;"⟩ yJx4a65c_get_915e3 wsJx4a65c_get_915e3) := goodIn_app (qof qself _ (by decide +kernel)) ggX6_meanCreep_Jx4a65c_get_915e3
set_option maxRecDepth 20000 in
theorem ggX6_meanCreep_X5_many : GoodIn wsX6_meanCreep wsX5_many := qgood qself _ [43, 0, 11, 0, 0, 0, 0, 0, 0, 0, 0, 0] [0, 1, 2, 3, 4, 5, 6, 7, 8, 9, 10, 11] (by decide +kernel) (by decide +kernel)
set_option maxRecDepth 20000 in
theorem gX6_meanCreep_X5_many : GoodIn wsX6_meanCreep (wsV RX6 172 RX5 yX5_many wsX5_many) := goodIn_app (qof qself _ (by decide +kernel)) ggX6_meanCreep_X5_many
set_option maxRecDepth 20000 in
theorem ggX6_checksum_Jx35411_next_0502b : GoodIn wsX6_checksum wsJx35411_next_0502b := qgood qself _ [16, 3, 3, 0, 0, 0, 4, 3, 0, 0, 0, 0, 0, 26, 0, 0, 0, 0, 0, 0] [7, 6, 1, 8, 2, 9, 10, 11, 0, 12, 3, 4, 5, 13, 14, 15, 16, 17, 18, 19] (by decide +kernel) (by decide +kernel)
set_option maxRecDepth 20000 in
theorem gX6_checksum_Jx35411_next_0502b_f121Jx35411 : GoodIn wsX6_checksum (va_wsF RX6 121 RJx35411 ⟨"java/util/Iterator", "next", "()Ljava/lang/Object;"⟩ yJx35411_next_0502b wsJx35411_next_0502b) := goodIn_app (qof qself _ (by decide +kernel)) ggX6_checksum_Jx35411_next_0502b
set_option maxRecDepth 20000 in
theorem ggJxf58ca_floatToIntBits_5c35a_Jxf58ca_isNaN_12338 : GoodIn wsJxf58ca_floatToIntBits_5c35a wsJxf58ca_isNaN_12338 := qgood qself _ [9] [0] (by decide +kernel) (by decide +kernel)
set_option maxRecDepth 20000 in
theorem gJxf58ca_floatToIntBits_5c35a_Jxf58ca_isNaN_12338 : GoodIn wsJxf58ca_floatToIntBits_5c35a (va_wsS RJxf58ca 59 yJxf58ca_isNaN_12338 wsJxf58ca_isNaN_12338) := goodIn_app (qof qself _ (by decide +kernel)) ggJxf58ca_floatToIntBits_5c35a_Jxf58ca_isNaN_12338
set_option maxRecDepth 20000 in
theorem ggJx35411_next_0502b_Jx35411_checkForComodification_da8c8 : GoodIn wsJx35411_next_0502b wsJx35411_checkForComodification_da8c8 := qgood qself _ [2, 6, 0, 0, 0, 0, 0, 0, 0, 0, 0, 0] [1, 0, 2, 3, 4, 5, 6, 7, 8, 9, 10, 11] (by decide +kernel) (by decide +kernel)
set_option maxRecDepth 20000 in
theorem gJx35411_next_0502b_Jx35411_checkForComodification_da8c8 : GoodIn wsJx35411_next_0502b (wsV RJx35411 31 RJx35411 yJx35411_checkForComodification_da8c8 wsJx35411_checkForComodification_da8c8) := goodIn_app (qof qself _ (by decide +kernel)) ggJx35411_next_0502b_Jx35411_checkForComodification_da8c8
set_option maxRecDepth 20000 in
theorem ggJx4a65c_grow_92f84_J8_newLength_cabcc : GoodIn wsJx4a65c_grow_92f84 wsJ8_newLength_cabcc := qgood qself _ [4, 0, 0, 3, 0, 0, 0, 0, 0, 0] [4, 5, 0, 1, 2, 6, 7, 8, 3, 9] (by decide +kernel) (by decide +kernel)
set_option maxRecDepth 20000 in
theorem gJx4a65c_grow_92f84_J8_newLength_cabcc : GoodIn wsJx4a65c_grow_92f84 (va_wsS RJx4a65c 73 yJ8_newLength_cabcc wsJ8_newLength_cabcc) := goodIn_app (qof qself _ (by decide +kernel)) ggJx4a65c_grow_92f84_J8_newLength_cabcc
set_option maxRecDepth 20000 in
theorem ggJx4a65c_grow_92f84_J7_copyOf_1904c : GoodIn wsJx4a65c_grow_92f84 wsJ7_copyOf_1904c := qgood qself _ [5, 13, 0, 0, 0, 0, 0, 0, 0, 0, 0, 0, 0, 0, 0, 0, 0, 0, 0] [2, 3, 4, 5, 6, 7, 8, 1, 9, 10, 11, 12, 13, 0, 14, 15, 16, 17, 18] (by decide +kernel) (by decide +kernel)
set_option maxRecDepth 20000 in
theorem gJx4a65c_grow_92f84_J7_copyOf_1904c : GoodIn wsJx4a65c_grow_92f84 (va_wsS RJx4a65c 66 yJ7_copyOf_1904c wsJ7_copyOf_1904c) := goodIn_app (qof qself _ (by decide +kernel)) ggJx4a65c_grow_92f84_J7_copyOf_1904c
set_option maxRecDepth 20000 in
theorem ggJx4a65c_get_915e3_J15_checkIndex_7cf53 : GoodIn wsJx4a65c_get_915e3 wsJ15_checkIndex_7cf53 := qgood qself _ [5, 0, 0, 0, 0] [0, 1, 2, 3, 4] (by decide +kernel) (by decide +kernel)
set_option maxRecDepth 20000 in
theorem gJx4a65c_get_915e3_J15_checkIndex_7cf53 : GoodIn wsJx4a65c_get_915e3 (va_wsS RJx4a65c 118 yJ15_checkIndex_7cf53 wsJ15_checkIndex_7cf53) := goodIn_app (qof qself _ (by decide +kernel)) ggJx4a65c_get_915e3_J15_checkIndex_7cf53
set_option maxRecDepth 20000 in
theorem ggJx4a65c_get_915e3_Jx4a65c_elementData_915e3 : GoodIn wsJx4a65c_get_915e3 wsJx4a65c_elementData_915e3 := qgood qself _ [14, 0, 0, 0, 0] [0, 1, 2, 3, 4] (by decide +kernel) (by decide +kernel)
set_option maxRecDepth 20000 in
theorem gJx4a65c_get_915e3_Jx4a65c_elementData_915e3 : GoodIn wsJx4a65c_get_915e3 (wsV RJx4a65c 123 RJx4a65c yJx4a65c_elementData_915e3 wsJx4a65c_elementData_915e3) := goodIn_app (qof qself _ (by decide +kernel)) ggJx4a65c_get_915e3_Jx4a65c_elementData_915e3
set_option maxRecDepth 20000 in
theorem ggJ7_copyOf_1904c_J7_copyOf_6403c : GoodIn wsJ7_copyOf_1904c wsJ7_copyOf_6403c := qgood qself _ [8, 0, 0, 0, 0, 0, 0, 0, 0, 0, 0] [0, 1, 2, 3, 4, 5, 6, 7, 8, 9, 10] (by decide +kernel) (by decide +kernel)
set_option maxRecDepth 20000 in
theorem gJ7_copyOf_1904c_J7_copyOf_6403c : GoodIn wsJ7_copyOf_1904c (va_wsS RJ7 300 yJ7_copyOf_6403c wsJ7_copyOf_6403c) := goodIn_app (qof qself _ (by decide +kernel)) ggJ7_copyOf_1904c_J7_copyOf_6403c
set_option maxRecDepth 20000 in
theorem ggJ15_checkIndex_7cf53_J3_checkIndex_8e157 : GoodIn wsJ15_checkIndex_7cf53 wsJ3_checkIndex_8e157 := qgood qself _ [4] [0] (by decide +kernel) (by decide +kernel)
set_option maxRecDepth 20000 in
theorem gJ15_checkIndex_7cf53_J3_checkIndex_8e157 : GoodIn wsJ15_checkIndex_7cf53 (va_wsS RJ15 105 yJ3_checkIndex_8e157 wsJ3_checkIndex_8e157) := goodIn_app (qof qself _ (by decide +kernel)) ggJ15_checkIndex_7cf53_J3_checkIndex_8e157
set_option maxRecDepth 20000 in
theorem ggJ8_newLength_cabcc_J8_hugeLength_7cf53 : GoodIn wsJ8_newLength_cabcc wsJ8_hugeLength_7cf53 := qgood qself _ [5, 3] [1, 0] (by decide +kernel) (by decide +kernel)
set_option maxRecDepth 20000 in
theorem gJ8_newLength_cabcc_J8_hugeLength_7cf53 : GoodIn wsJ8_newLength_cabcc (va_wsS RJ8 201 yJ8_hugeLength_7cf53 wsJ8_hugeLength_7cf53) := goodIn_app (qof qself _ (by decide +kernel)) ggJ8_newLength_cabcc_J8_hugeLength_7cf53

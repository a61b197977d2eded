set_option maxRecDepth 20000 in
theorem ggL_law_L_isOpen_p6 : GoodIn wzL_law wsX10 := goodIn_r _ [1115, 1116, 1117, 1118, 1119, 1120, 1121, 1122, 1123, 1124, 1125, 1126, 1127, 1128, 1129] (by decide +kernel) (by decide +kernel)
set_option maxRecDepth 20000 in
theorem ggL_law_L_isOpen : GoodIn wzL_law wsL_isOpen := goodIn_app (a := [.codeWith yL_isOpen cL_isOpen 4 (some .int) [(0, 16, 19, 54)]]) ggL_law_L_isOpen_p0 (goodIn_app (goodIn_app (goodIn_app (goodIn_app (goodIn_app (goodIn_app ggL_law_L_isOpen_p1 (goodIn_app ggL_law_L_isOpen_p2 ggL_law_L_isOpen_p3)) ggL_law_L_isOpen_p4) ggL_law_L_isOpen_p5) ggL_law_L_isOpen_p6) (goodIn_sub (fun _ h => (List.mem_append_left _ (List.mem_append_left _ (List.mem_append_left _ (List.mem_append_left _ (List.mem_append_left _ (List.mem_append_left _ (List.mem_append_right _ h)))))))) (by decide +kernel))) (goodIn_sub (fun _ h => (List.mem_append_left _ (List.mem_append_right _ h))) (by decide +kernel)))
set_option maxRecDepth 20000 in
theorem gL_law_L_isOpen : GoodIn wzL_law (va_wsS RL 246 yL_isOpen wsL_isOpen) := goodIn_app (goodIn_of _ (by decide +kernel)) ggL_law_L_isOpen
set_option maxRecDepth 20000 in
theorem ggL_law_X6_isOpen_p0 : GoodIn wzL_law [.code yX6_isOpen cX6_isOpen 2 (some .boolean)] := goodIn_r _ [847] (by decide +kernel) (by decide +kernel)
set_option maxRecDepth 20000 in
theorem ggL_law_X6_isOpen_p1 : GoodIn wzL_law wsX6_isOpen_r1 := goodIn_r _ [60, 277, 746, 747, 748, 5, 749, 509, 510, 511, 59, 512, 513, 111, 112, 113, 114, 115, 116, 117, 118, 610, 611, 612] (by decide +kernel) (by decide +kernel)
set_option maxRecDepth 20000 in
theorem ggL_law_X6_isOpen_p2 : GoodIn wzL_law wsX6_isOpen_r2 := goodIn_r _ [613, 614, 615, 616, 617, 618, 619, 620, 621, 622, 623, 624, 625, 65, 848, 849, 850, 319, 851, 323, 327, 350, 351, 352] (by decide +kernel) (by decide +kernel)
set_option maxRecDepth 20000 in
theorem ggL_law_X6_isOpen_p3 : GoodIn wzL_law wsX6_isOpen_r3 := goodIn_r _ [353, 354, 35, 330, 331, 332, 333, 334, 335, 355, 356, 357, 358, 359, 360, 361, 362, 363, 364, 365, 366, 136, 137, 138] (by decide +kernel) (by decide +kernel)
set_option maxRecDepth 20000 in
theorem ggL_law_X6_isOpen_p4 : GoodIn wzL_law wsX6_isOpen_r4 := goodIn_r _ [52, 852, 636, 637, 638, 371, 372, 373, 374, 375, 184, 181, 185, 328, 180, 182] (by decide +kernel) (by decide +kernel)
set_option maxRecDepth 20000 in
theorem ggL_law_X6_isOpen_p5 : GoodIn wzL_law wsX60 := goodIn_r _ [1094, 1095, 1096, 1097, 1098, 1099, 1100, 1101, 1102, 1103, 1104] (by decide +kernel) (by decide +kernel)
set_option maxRecDepth 20000 in
theorem ggL_law_X6_isOpen_p6 : GoodIn wzL_law wsJx4a65c0 := goodIn_r _ [1112, 1113, 1114] (by decide +kernel) (by decide +kernel)
set_option maxRecDepth 20000 in
theorem ggL_law_X6_isOpen_p7 : GoodIn wzL_law wsX50 := goodIn_r _ [1134, 1135, 1136, 1137, 1138, 1139, 1140, 1141, 1142, 1143] (by decide +kernel) (by decide +kernel)
set_option maxRecDepth 20000 in
theorem ggL_law_X6_isOpen_p8 : GoodIn wzL_law wsX40 := goodIn_r _ [1144, 1145, 1146, 1147, 1148] (by decide +kernel) (by decide +kernel)
set_option maxRecDepth 20000 in
theorem ggL_law_X6_isOpen : GoodIn wzL_law wsX6_isOpen := goodIn_app (a := [.code yX6_isOpen cX6_isOpen 2 (some .boolean)]) ggL_law_X6_isOpen_p0 (goodIn_app (goodIn_app (goodIn_app (goodIn_app (goodIn_app (goodIn_app ggL_law_X6_isOpen_p1 (goodIn_app ggL_law_X6_isOpen_p2 (goodIn_app ggL_law_X6_isOpen_p3 ggL_law_X6_isOpen_p4))) ggL_law_X6_isOpen_p5) ggL_law_X6_isOpen_p6) ggL_law_X6_isOpen_p7) ggL_law_X6_isOpen_p8) (goodIn_sub (fun _ h => (List.mem_append_left _ (List.mem_append_left _ (List.mem_append_left _ (List.mem_append_left _ (List.mem_append_left _ (List.mem_append_left _ (List.mem_append_right _ h)))))))) (by decide +kernel)))
set_option maxRecDepth 20000 in
theorem gL_law_X6_isOpen : GoodIn wzL_law (wsV RL 248 RX6 yX6_isOpen wsX6_isOpen) := goodIn_app (goodIn_of _ (by decide +kernel)) ggL_law_X6_isOpen
set_option maxRecDepth 20000 in
theorem ggL_law_L_carries_p0 : GoodIn wzL_law [.codeWith yL_carries cL_carries 5 (some .int) [(0, 10, 13, 54), (0, 10, 17, 64)]] := goodIn_r _ [855] (by decide +kernel) (by decide +kernel)
set_option maxRecDepth 20000 in
theorem ggL_law_L_carries_p1 : GoodIn wzL_law wsL_carries_r1 := goodIn_r _ [566, 654, 856, 857, 858, 2, 859, 571, 572, 659, 660, 17, 25, 573, 574, 575, 576, 98, 99, 100, 191, 192, 193, 194] (by decide +kernel) (by decide +kernel)
set_option maxRecDepth 20000 in
theorem ggL_law_L_carries_p2 : GoodIn wzL_law wsL_carries_r2 := goodIn_r _ [24, 23, 860, 861, 862, 202, 863, 244, 245, 206, 207, 208, 209, 210, 126, 127, 128, 16, 129, 36, 37, 864, 865, 866] (by decide +kernel) (by decide +kernel)
set_option maxRecDepth 20000 in
theorem ggL_law_L_carries_p3 : GoodIn wzL_law wsL_carries_r3 := goodIn_r _ [867, 868, 841, 842, 843, 225, 239, 240, 241, 242, 243, 205, 246, 247, 248, 249, 250, 251, 252, 253, 258, 259, 260, 261] (by decide +kernel) (by decide +kernel)
set_option maxRecDepth 20000 in
theorem ggL_law_L_carries_p4 : GoodIn wzL_law wsL_carries_r4 := goodIn_r _ [226, 262, 184, 181, 185, 227, 263, 180, 182, 264, 265, 266] (by decide +kernel) (by decide +kernel)
set_option maxRecDepth 20000 in
theorem ggL_law_L_carries_p5 : GoodIn wzL_law wsX30 := goodIn_r _ [1084, 1085, 1086, 1087, 1088, 1089, 1090, 1091, 1092, 1093] (by decide +kernel) (by decide +kernel)
set_option maxRecDepth 20000 in
theorem ggL_law_L_carries_p6 : GoodIn wzL_law wsX10 := goodIn_r _ [1115, 1116, 1117, 1118, 1119, 1120, 1121, 1122, 1123, 1124, 1125, 1126, 1127, 1128, 1129] (by decide +kernel) (by decide +kernel)
set_option maxRecDepth 20000 in
theorem ggL_law_L_carries_p7 : GoodIn wzL_law wsX20 := goodIn_r _ [1105, 1106, 1107, 1108] (by decide +kernel) (by decide +kernel)
set_option maxRecDepth 20000 in
theorem ggL_law_L_carries : GoodIn wzL_law wzL_carries := goodIn_app (a := [.codeWith yL_carries cL_carries 5 (some .int) [(0, 10, 13, 54), (0, 10, 17, 64)]]) ggL_law_L_carries_p0 (goodIn_app (goodIn_app (goodIn_app (goodIn_app (goodIn_app (goodIn_app ggL_law_L_carries_p1 (goodIn_app ggL_law_L_carries_p2 (goodIn_app ggL_law_L_carries_p3 ggL_law_L_carries_p4))) ggL_law_L_carries_p5) ggL_law_L_carries_p6) ggL_law_L_carries_p7) (goodIn_sub (fun _ h => (List.mem_append_left _ (List.mem_append_left _ (List.mem_append_left _ (List.mem_append_left _ (List.mem_append_left _ (List.mem_append_left _ (List.mem_append_right _ h)))))))) (by decide +kernel))) (goodIn_sub (fun _ h => (List.mem_append_left _ (List.mem_append_right _ h))) (by decide +kernel)))
set_option maxRecDepth 20000 in
theorem gL_law_L_carries : GoodIn wzL_law (va_wsS RL 249 yL_carries wzL_carries) := goodIn_app (goodIn_of _ (by decide +kernel)) ggL_law_L_carries
set_option maxRecDepth 20000 in
theorem ggL_law_X6_carries_p0 : GoodIn wzL_law [.code yX6_carries cX6_carries 5 (some .int)] := goodIn_r _ [872] (by decide +kernel) (by decide +kernel)
set_option maxRecDepth 20000 in
theorem ggL_law_X6_carries_p1 : GoodIn wzL_law wsX6_carries_r1 := goodIn_r _ [60, 277, 604, 605, 606, 5, 607, 608, 609, 509, 510, 511, 59, 512, 513, 111, 112, 113, 114, 115, 116, 117, 118, 610] (by decide +kernel) (by decide +kernel)
set_option maxRecDepth 20000 in
theorem ggL_law_X6_carries_p2 : GoodIn wzL_law wsX6_carries_r2 := goodIn_r _ [611, 612, 613, 614, 615, 616, 617, 618, 619, 620, 621, 622, 623, 624, 625, 65, 873, 356, 357, 319, 358, 330, 331, 332] (by decide +kernel) (by decide +kernel)
set_option maxRecDepth 20000 in
theorem ggL_law_X6_carries_p3 : GoodIn wzL_law wsX6_carries_r3 := goodIn_r _ [333, 334, 335, 327, 848, 849, 850, 851, 323, 350, 351, 352, 353, 354, 35, 355, 359, 360, 361, 362, 363, 364, 365, 366] (by decide +kernel) (by decide +kernel)
set_option maxRecDepth 20000 in
theorem ggL_law_X6_carries_p4 : GoodIn wzL_law wsX6_carries_r4 := goodIn_r _ [136, 137, 138, 52, 852, 636, 637, 638, 371, 372, 373, 374, 375, 184, 181, 185, 328, 180, 182] (by decide +kernel) (by decide +kernel)
set_option maxRecDepth 20000 in
theorem ggL_law_X6_carries_p5 : GoodIn wzL_law wsX60 := goodIn_r _ [1094, 1095, 1096, 1097, 1098, 1099, 1100, 1101, 1102, 1103, 1104] (by decide +kernel) (by decide +kernel)
set_option maxRecDepth 20000 in
theorem ggL_law_X6_carries_p6 : GoodIn wzL_law wsJx4a65c0 := goodIn_r _ [1112, 1113, 1114] (by decide +kernel) (by decide +kernel)
set_option maxRecDepth 20000 in
theorem ggL_law_X6_carries_p7 : GoodIn wzL_law wsX50 := goodIn_r _ [1134, 1135, 1136, 1137, 1138, 1139, 1140, 1141, 1142, 1143] (by decide +kernel) (by decide +kernel)
set_option maxRecDepth 20000 in
theorem ggL_law_X6_carries_p8 : GoodIn wzL_law wsX40 := goodIn_r _ [1144, 1145, 1146, 1147, 1148] (by decide +kernel) (by decide +kernel)
set_option maxRecDepth 20000 in
theorem ggL_law_X6_carries : GoodIn wzL_law wsX6_carries := goodIn_app (a := [.code yX6_carries cX6_carries 5 (some .int)]) ggL_law_X6_carries_p0 (goodIn_app (goodIn_app (goodIn_app (goodIn_app (goodIn_app (goodIn_app ggL_law_X6_carries_p1 (goodIn_app ggL_law_X6_carries_p2 (goodIn_app ggL_law_X6_carries_p3 ggL_law_X6_carries_p4))) ggL_law_X6_carries_p5) ggL_law_X6_carries_p6) ggL_law_X6_carries_p7) ggL_law_X6_carries_p8) (goodIn_sub (fun _ h => (List.mem_append_left _ (List.mem_append_left _ (List.mem_append_left _ (List.mem_append_left _ (List.mem_append_left _ (List.mem_append_left _ (List.mem_append_right _ h)))))))) (by decide +kernel)))
set_option maxRecDepth 20000 in
theorem gL_law_X6_carries : GoodIn wzL_law (wsV RL 251 RX6 yX6_carries wsX6_carries) := goodIn_app (goodIn_of _ (by decide +kernel)) ggL_law_X6_carries
set_option maxRecDepth 20000 in
theorem ggL_law_L_visit_p0 : GoodIn wzL_law [.codeWith yL_visit cL_visit 5 (some .int) [(0, 10, 13, 54), (0, 10, 17, 13), (0, 10, 21, 15)]] := goodIn_r _ [876] (by decide +kernel) (by decide +kernel)
set_option maxRecDepth 20000 in
theorem ggL_law_L_visit_p1 : GoodIn wzL_law wsL_visit_r1 := goodIn_r _ [566, 84, 85, 877, 878, 879, 2, 880, 571, 572, 90, 91, 92, 93, 17, 25, 881, 30, 191, 192, 193, 194, 24, 23] (by decide +kernel) (by decide +kernel)
set_option maxRecDepth 20000 in
theorem ggL_law_L_visit_p2 : GoodIn wzL_law wsL_visit_r2 := goodIn_r _ [98, 99, 100, 126, 127, 128, 16, 129, 36, 37, 840, 841, 842, 202, 843, 225, 239, 240, 241, 242, 243, 205, 244, 245] (by decide +kernel) (by decide +kernel)
set_option maxRecDepth 20000 in
theorem ggL_law_L_visit_p3 : GoodIn wzL_law wsL_visit_r3 := goodIn_r _ [206, 207, 208, 209, 210, 246, 247, 248, 249, 250, 251, 252, 253, 258, 259, 260, 261, 226, 262, 184, 181, 185, 227, 263] (by decide +kernel) (by decide +kernel)
set_option maxRecDepth 20000 in
theorem ggL_law_L_visit_p4 : GoodIn wzL_law wsL_visit_r4 := goodIn_r _ [180, 182, 264, 265, 266] (by decide +kernel) (by decide +kernel)
set_option maxRecDepth 20000 in
theorem ggL_law_L_visit_p5 : GoodIn wzL_law wsX30 := goodIn_r _ [1084, 1085, 1086, 1087, 1088, 1089, 1090, 1091, 1092, 1093] (by decide +kernel) (by decide +kernel)
set_option maxRecDepth 20000 in
theorem ggL_law_L_visit_p6 : GoodIn wzL_law wsX10 := goodIn_r _ [1115, 1116, 1117, 1118, 1119, 1120, 1121, 1122, 1123, 1124, 1125, 1126, 1127, 1128, 1129] (by decide +kernel) (by decide +kernel)
set_option maxRecDepth 20000 in
theorem ggL_law_L_visit_p7 : GoodIn wzL_law wsX20 := goodIn_r _ [1105, 1106, 1107, 1108] (by decide +kernel) (by decide +kernel)
set_option maxRecDepth 20000 in
theorem ggL_law_L_visit : GoodIn wzL_law wsL_visit := goodIn_app (a := [.codeWith yL_visit cL_visit 5 (some .int) [(0, 10, 13, 54), (0, 10, 17, 13), (0, 10, 21, 15)]]) ggL_law_L_visit_p0 (goodIn_app (goodIn_app (goodIn_app (goodIn_app (goodIn_app (goodIn_app (goodIn_app (goodIn_app ggL_law_L_visit_p1 (goodIn_app ggL_law_L_visit_p2 (goodIn_app ggL_law_L_visit_p3 ggL_law_L_visit_p4))) ggL_law_L_visit_p5) ggL_law_L_visit_p6) ggL_law_L_visit_p7) (goodIn_sub (fun _ h => (List.mem_append_left _ (List.mem_append_left _ (List.mem_append_left _ (List.mem_append_left _ (List.mem_append_left _ (List.mem_append_left _ (List.mem_append_right _ h)))))))) (by decide +kernel))) (goodIn_sub (fun _ h => (List.mem_append_left _ (List.mem_append_right _ h))) (by decide +kernel))) (goodIn_sub (fun _ h => (List.mem_append_left _ (List.mem_append_left _ (List.mem_append_left _ (List.mem_append_left _ (List.mem_append_left _ (List.mem_append_right _ h))))))) (by decide +kernel))) (goodIn_sub (fun _ h => (List.mem_append_left _ (List.mem_append_left _ (List.mem_append_left _ (List.mem_append_left _ (List.mem_append_right _ h)))))) (by decide +kernel)))
set_option maxRecDepth 20000 in
theorem gL_law_L_visit : GoodIn wzL_law (va_wsS RL 252 yL_visit wsL_visit) := goodIn_app (goodIn_of _ (by decide +kernel)) ggL_law_L_visit
set_option maxRecDepth 20000 in
theorem ggL_law_X6_visit_p0 : GoodIn wzL_law [.code yX6_visit cX6_visit 3 (some .int)] := goodIn_r _ [885] (by decide +kernel) (by decide +kernel)
set_option maxRecDepth 20000 in
theorem ggL_law_X6_visit_p1 : GoodIn wzL_law wsX6_visit_r1 := goodIn_r _ [886, 60, 277, 448, 746, 747, 748, 5, 749, 509, 510, 511, 59, 512, 513, 111, 112, 113, 114, 115, 116, 117, 118, 610] (by decide +kernel) (by decide +kernel)
set_option maxRecDepth 20000 in
theorem ggL_law_X6_visit_p2 : GoodIn wzL_law wsX6_visit_r2 := goodIn_r _ [611, 612, 613, 614, 615, 616, 617, 618, 619, 620, 621, 622, 623, 624, 625, 65, 848, 849, 850, 319, 851, 323, 327, 350] (by decide +kernel) (by decide +kernel)
set_option maxRecDepth 20000 in
theorem ggL_law_X6_visit_p3 : GoodIn wzL_law wsX6_visit_r3 := goodIn_r _ [351, 352, 353, 354, 35, 330, 331, 332, 333, 334, 335, 355, 356, 357, 358, 359, 360, 361, 362, 363, 364, 365, 366, 136] (by decide +kernel) (by decide +kernel)
set_option maxRecDepth 20000 in
theorem ggL_law_X6_visit_p4 : GoodIn wzL_law wsX6_visit_r4 := goodIn_r _ [137, 138, 52, 852, 636, 637, 638, 371, 372, 373, 374, 375, 184, 181, 185, 328, 180, 182] (by decide +kernel) (by decide +kernel)
set_option maxRecDepth 20000 in
theorem ggL_law_X6_visit_p5 : GoodIn wzL_law wsX60 := goodIn_r _ [1094, 1095, 1096, 1097, 1098, 1099, 1100, 1101, 1102, 1103, 1104] (by decide +kernel) (by decide +kernel)
set_option maxRecDepth 20000 in
theorem ggL_law_X6_visit_p6 : GoodIn wzL_law wsX50 := goodIn_r _ [1134, 1135, 1136, 1137, 1138, 1139, 1140, 1141, 1142, 1143] (by decide +kernel) (by decide +kernel)
set_option maxRecDepth 20000 in
theorem ggL_law_X6_visit_p7 : GoodIn wzL_law wsJx4a65c0 := goodIn_r _ [1112, 1113, 1114] (by decide +kernel) (by decide +kernel)
set_option maxRecDepth 20000 in
theorem ggL_law_X6_visit_p8 : GoodIn wzL_law wsX40 := goodIn_r _ [1144, 1145, 1146, 1147, 1148] (by decide +kernel) (by decide +kernel)
set_option maxRecDepth 20000 in
theorem ggL_law_X6_visit : GoodIn wzL_law wsX6_visit := goodIn_app (a := [.code yX6_visit cX6_visit 3 (some .int)]) ggL_law_X6_visit_p0 (goodIn_app (goodIn_app (goodIn_app (goodIn_app (goodIn_app (goodIn_app ggL_law_X6_visit_p1 (goodIn_app ggL_law_X6_visit_p2 (goodIn_app ggL_law_X6_visit_p3 ggL_law_X6_visit_p4))) ggL_law_X6_visit_p5) ggL_law_X6_visit_p6) ggL_law_X6_visit_p7) ggL_law_X6_visit_p8) (goodIn_sub (fun _ h => (List.mem_append_left _ (List.mem_append_left _ (List.mem_append_left _ (List.mem_append_left _ (List.mem_append_left _ (List.mem_append_left _ (List.mem_append_right _ h)))))))) (by decide +kernel)))
set_option maxRecDepth 20000 in
theorem gL_law_X6_visit : GoodIn wzL_law (wsV RL 254 RX6 yX6_visit wsX6_visit) := goodIn_app (goodIn_of _ (by decide +kernel)) ggL_law_X6_visit
set_option maxRecDepth 20000 in
theorem ggL_law_L_squareBits : GoodIn wzL_law wsL_squareBits := goodIn_ca (goodIn_ca (goodIn_r _ [889, 84, 890, 891, 892, 2, 893, 90, 91, 894, 895, 17, 25, 896, 98, 99, 100, 126, 127, 128, 16, 129, 36, 37, 897, 898, 899, 900, 901, 902, 1084, 1085, 1086, 1087, 1088, 1089, 1090, 1091, 1092, 1093, 1105, 1106, 1107, 1108] (by decide +kernel) (by decide +kernel)) (goodIn_sub (fun _ h => (List.mem_append_left _ (List.mem_append_left _ (List.mem_append_left _ (List.mem_append_left _ (List.mem_append_left _ (List.mem_append_left _ (List.mem_append_right _ h)))))))) (by decide +kernel))) (goodIn_sub (fun _ h => (List.mem_append_left _ (List.mem_append_left _ (List.mem_append_left _ (List.mem_append_left _ (List.mem_append_left _ (List.mem_append_right _ h))))))) (by decide +kernel))
set_option maxRecDepth 20000 in
theorem gL_law_L_squareBits : GoodIn wzL_law (va_wsS RL 255 yL_squareBits wsL_squareBits) := goodIn_app (goodIn_of _ (by decide +kernel)) ggL_law_L_squareBits
set_option maxRecDepth 20000 in
theorem ggL_law_X6_squareBits : GoodIn wzL_law wsX6_squareBits := goodIn_ca (goodIn_r _ [906, 105, 609, 907, 908, 909, 110, 910, 111, 112, 5, 113, 114, 115, 116, 117, 118, 135, 136, 137, 138, 52, 911, 912, 913, 914, 915, 916, 917, 918, 919, 920, 921, 922, 1094, 1095, 1096, 1097, 1098, 1099, 1100, 1101, 1102, 1103, 1104] (by decide +kernel) (by decide +kernel)) (goodIn_sub (fun _ h => (List.mem_append_left _ (List.mem_append_left _ (List.mem_append_left _ (List.mem_append_left _ (List.mem_append_left _ (List.mem_append_left _ (List.mem_append_right _ h)))))))) (by decide +kernel))
set_option maxRecDepth 20000 in
theorem gL_law_X6_squareBits : GoodIn wzL_law (wsV RL 258 RX6 yX6_squareBits wsX6_squareBits) := goodIn_app (goodIn_of _ (by decide +kernel)) ggL_law_X6_squareBits
set_option maxRecDepth 20000 in
theorem ggL_law_L_plan : GoodIn wzL_law wsL_plan := goodIn_ca (goodIn_ca (goodIn_r _ [925, 566, 926, 927, 928, 2, 929, 571, 572, 930, 573, 574, 575, 576, 98, 99, 100, 191, 192, 193, 194, 24, 23, 577, 244, 245, 931, 932, 933, 202, 934, 497, 1115, 1116, 1117, 1118, 1119, 1120, 1121, 1122, 1123, 1124, 1125, 1126, 1127, 1128, 1129, 1084, 1085, 1086, 1087, 1088, 1089, 1090, 1091, 1092, 1093] (by decide +kernel) (by decide +kernel)) (goodIn_sub (fun _ h => (List.mem_append_left _ (List.mem_append_left _ (List.mem_append_left _ (List.mem_append_left _ (List.mem_append_left _ (List.mem_append_left _ (List.mem_append_right _ h)))))))) (by decide +kernel))) (goodIn_sub (fun _ h => (List.mem_append_left _ (List.mem_append_right _ h))) (by decide +kernel))
set_option maxRecDepth 20000 in
theorem gL_law_L_plan : GoodIn wzL_law (va_wsS RL 259 yL_plan wsL_plan) := goodIn_app (goodIn_of _ (by decide +kernel)) ggL_law_L_plan
set_option maxRecDepth 20000 in
theorem ggL_law_X6_plan : GoodIn wzL_law wsX6_plan := goodIn_ca (goodIn_r _ [938, 60, 277, 604, 605, 606, 5, 607, 608, 609, 509, 510, 511, 59, 512, 513, 111, 112, 113, 114, 115, 116, 117, 118, 610, 611, 612, 613, 614, 615, 616, 617, 618, 619, 620, 621, 622, 623, 624, 625, 65, 1094, 1095, 1096, 1097, 1098, 1099, 1100, 1101, 1102, 1103, 1104, 1134, 1135, 1136, 1137, 1138, 1139, 1140, 1141, 1142, 1143, 1112, 1113, 1114] (by decide +kernel) (by decide +kernel)) (goodIn_sub (fun _ h => (List.mem_append_left _ (List.mem_append_left _ (List.mem_append_left _ (List.mem_append_left _ (List.mem_append_left _ (List.mem_append_left _ (List.mem_append_right _ h)))))))) (by decide +kernel))
set_option maxRecDepth 20000 in
theorem gL_law_X6_plan : GoodIn wzL_law (wsV RL 261 RX6 yX6_plan wsX6_plan) := goodIn_app (goodIn_of _ (by decide +kernel)) ggL_law_X6_plan
set_option maxRecDepth 20000 in
theorem ggL_law_L_carve_p0 : GoodIn wzL_law [.codeWith yL_carve cL_carve 7 (some .int) [(0, 14, 17, 54), (0, 14, 21, 13), (0, 14, 25, 64), (0, 14, 29, 27), (0, 14, 33, 15)]] := goodIn_r _ [941] (by decide +kernel) (by decide +kernel)
set_option maxRecDepth 20000 in
theorem ggL_law_L_carve_p1 : GoodIn wzL_law wsL_carve_r1 := goodIn_r _ [566, 84, 654, 163, 85, 942, 943, 944, 2, 945, 571, 572, 90, 91, 659, 660, 168, 169, 92, 93, 946, 661, 573, 574] (by decide +kernel) (by decide +kernel)
set_option maxRecDepth 20000 in
theorem ggL_law_L_carve_p2 : GoodIn wzL_law wsL_carve_r2 := goodIn_r _ [575, 576, 98, 99, 100, 191, 192, 193, 194, 24, 23, 577, 244, 245, 578, 207, 208, 202, 209, 210, 947, 218, 219, 220] (by decide +kernel) (by decide +kernel)
set_option maxRecDepth 20000 in
theorem ggL_law_L_carve_p3 : GoodIn wzL_law wsL_carve_r3 := goodIn_r _ [221, 222, 223, 224, 205, 225, 226, 227, 228, 229, 230, 589, 590, 591, 592, 17, 25, 30, 126, 127, 128, 16, 129, 36] (by decide +kernel) (by decide +kernel)
set_option maxRecDepth 20000 in
theorem ggL_law_L_carve_p4 : GoodIn wzL_law wsL_carve_r4 := goodIn_r _ [37, 231, 232, 233, 234, 235, 236, 237, 238, 204, 239, 240, 241, 242, 243, 206, 246, 247, 248, 249, 250, 251, 252, 253] (by decide +kernel) (by decide +kernel)
set_option maxRecDepth 20000 in
theorem ggL_law_L_carve_p5 : GoodIn wzL_law wsL_carve_r5 := goodIn_r _ [254, 255, 256, 257, 258, 259, 260, 261, 262, 184, 181, 185, 263, 180, 182, 264, 265, 266, 211, 212, 213, 214, 215, 216] (by decide +kernel) (by decide +kernel)
set_option maxRecDepth 20000 in
theorem ggL_law_L_carve_p6 : GoodIn wzL_law wsL_carve_r6 := goodIn_r _ [217] (by decide +kernel) (by decide +kernel)
set_option maxRecDepth 20000 in
theorem ggL_law_L_carve_p7 : GoodIn wzL_law wsX10 := goodIn_r _ [1115, 1116, 1117, 1118, 1119, 1120, 1121, 1122, 1123, 1124, 1125, 1126, 1127, 1128, 1129] (by decide +kernel) (by decide +kernel)
set_option maxRecDepth 20000 in
theorem ggL_law_L_carve_p8 : GoodIn wzL_law wsX30 := goodIn_r _ [1084, 1085, 1086, 1087, 1088, 1089, 1090, 1091, 1092, 1093] (by decide +kernel) (by decide +kernel)
set_option maxRecDepth 20000 in
theorem ggL_law_L_carve_p9 : GoodIn wzL_law wsX20 := goodIn_r _ [1105, 1106, 1107, 1108] (by decide +kernel) (by decide +kernel)
set_option maxRecDepth 20000 in
theorem ggL_law_L_carve : GoodIn wzL_law wzL_carve := goodIn_app (a := [.codeWith yL_carve cL_carve 7 (some .int) [(0, 14, 17, 54), (0, 14, 21, 13), (0, 14, 25, 64), (0, 14, 29, 27), (0, 14, 33, 15)]]) ggL_law_L_carve_p0 (goodIn_app (goodIn_app (goodIn_app (goodIn_app (goodIn_app (goodIn_app (goodIn_app (goodIn_app (goodIn_app ggL_law_L_carve_p1 (goodIn_app ggL_law_L_carve_p2 (goodIn_app ggL_law_L_carve_p3 (goodIn_app ggL_law_L_carve_p4 (goodIn_app ggL_law_L_carve_p5 ggL_law_L_carve_p6))))) ggL_law_L_carve_p7) ggL_law_L_carve_p8) ggL_law_L_carve_p9) (goodIn_sub (fun _ h => (List.mem_append_left _ (List.mem_append_left _ (List.mem_append_left _ (List.mem_append_left _ (List.mem_append_left _ (List.mem_append_left _ (List.mem_append_right _ h)))))))) (by decide +kernel))) (goodIn_sub (fun _ h => (List.mem_append_left _ (List.mem_append_right _ h))) (by decide +kernel))) (goodIn_sub (fun _ h => (List.mem_append_left _ (List.mem_append_left _ (List.mem_append_left _ (List.mem_append_left _ (List.mem_append_left _ (List.mem_append_right _ h))))))) (by decide +kernel))) (goodIn_sub (fun _ h => (List.mem_append_left _ (List.mem_append_left _ (List.mem_append_left _ (List.mem_append_right _ h))))) (by decide +kernel))) (goodIn_sub (fun _ h => (List.mem_append_left _ (List.mem_append_left _ (List.mem_append_left _ (List.mem_append_left _ (List.mem_append_right _ h)))))) (by decide +kernel)))
set_option maxRecDepth 20000 in
theorem gL_law_L_carve : GoodIn wzL_law (va_wsS RL 262 yL_carve wzL_carve) := goodIn_app (goodIn_of _ (by decide +kernel)) ggL_law_L_carve
set_option maxRecDepth 20000 in
theorem ggL_law_X6_carve_p0 : GoodIn wzL_law [.code yX6_carve cX6_carve 7 (some .int)] := goodIn_r _ [951] (by decide +kernel) (by decide +kernel)
set_option maxRecDepth 20000 in
theorem ggL_law_X6_carve_p1 : GoodIn wzL_law wsX6_carve_r1 := goodIn_r _ [60, 277, 107, 110, 604, 605, 606, 5, 607, 608, 609, 509, 510, 511, 59, 512, 513, 111, 112, 113, 114, 115, 116, 117] (by decide +kernel) (by decide +kernel)
set_option maxRecDepth 20000 in
theorem ggL_law_X6_carve_p2 : GoodIn wzL_law wsX6_carve_r2 := goodIn_r _ [118, 610, 611, 612, 613, 614, 615, 616, 617, 618, 619, 620, 621, 622, 623, 624, 625, 65, 135, 136, 137, 138, 52, 634] (by decide +kernel) (by decide +kernel)
set_option maxRecDepth 20000 in
theorem ggL_law_X6_carve_p3 : GoodIn wzL_law wsX6_carve_r3 := goodIn_r _ [343, 344, 319, 345, 346, 347, 348, 349, 321, 322, 350, 351, 352, 353, 354, 35, 327, 330, 331, 332, 333, 334, 335, 355] (by decide +kernel) (by decide +kernel)
set_option maxRecDepth 20000 in
theorem ggL_law_X6_carve_p4 : GoodIn wzL_law wsX6_carve_r4 := goodIn_r _ [356, 357, 358, 359, 360, 361, 362, 363, 364, 365, 366, 367, 368, 369, 370, 371, 372, 373, 374, 375, 184, 181, 185, 328] (by decide +kernel) (by decide +kernel)
set_option maxRecDepth 20000 in
theorem ggL_law_X6_carve_p5 : GoodIn wzL_law wsX6_carve_r5 := goodIn_r _ [180, 182, 336, 337, 338, 339, 340, 341, 323] (by decide +kernel) (by decide +kernel)
set_option maxRecDepth 20000 in
theorem ggL_law_X6_carve_p6 : GoodIn wzL_law wsX60 := goodIn_r _ [1094, 1095, 1096, 1097, 1098, 1099, 1100, 1101, 1102, 1103, 1104] (by decide +kernel) (by decide +kernel)
set_option maxRecDepth 20000 in
theorem ggL_law_X6_carve_p7 : GoodIn wzL_law wsX50 := goodIn_r _ [1134, 1135, 1136, 1137, 1138, 1139, 1140, 1141, 1142, 1143] (by decide +kernel) (by decide +kernel)
set_option maxRecDepth 20000 in
theorem ggL_law_X6_carve_p8 : GoodIn wzL_law wsX40 := goodIn_r _ [1144, 1145, 1146, 1147, 1148] (by decide +kernel) (by decide +kernel)
set_option maxRecDepth 20000 in
theorem ggL_law_X6_carve_p9 : GoodIn wzL_law wsJx4a65c0 := goodIn_r _ [1112, 1113, 1114] (by decide +kernel) (by decide +kernel)
set_option maxRecDepth 20000 in
theorem ggL_law_X6_carve : GoodIn wzL_law wsX6_carve := goodIn_app (a := [.code yX6_carve cX6_carve 7 (some .int)]) ggL_law_X6_carve_p0 (goodIn_app (goodIn_app (goodIn_app (goodIn_app (goodIn_app (goodIn_app ggL_law_X6_carve_p1 (goodIn_app ggL_law_X6_carve_p2 (goodIn_app ggL_law_X6_carve_p3 (goodIn_app ggL_law_X6_carve_p4 ggL_law_X6_carve_p5)))) ggL_law_X6_carve_p6) ggL_law_X6_carve_p7) ggL_law_X6_carve_p8) ggL_law_X6_carve_p9) (goodIn_sub (fun _ h => (List.mem_append_left _ (List.mem_append_left _ (List.mem_append_left _ (List.mem_append_left _ (List.mem_append_left _ (List.mem_append_left _ (List.mem_append_right _ h)))))))) (by decide +kernel)))
set_option maxRecDepth 20000 in
theorem gL_law_X6_carve : GoodIn wzL_law (wsV RL 265 RX6 yX6_carve wsX6_carve) := goodIn_app (goodIn_of _ (by decide +kernel)) ggL_law_X6_carve
set_option maxRecDepth 20000 in
theorem ggL_law_L_hours : GoodIn wzL_law wsL_hours := goodIn_ca (goodIn_ca (goodIn_r _ [954, 566, 955, 956, 957, 2, 958, 571, 572, 946, 191, 192, 193, 194, 24, 23, 98, 99, 100, 1115, 1116, 1117, 1118, 1119, 1120, 1121, 1122, 1123, 1124, 1125, 1126, 1127, 1128, 1129, 1084, 1085, 1086, 1087, 1088, 1089, 1090, 1091, 1092, 1093] (by decide +kernel) (by decide +kernel)) (goodIn_sub (fun _ h => (List.mem_append_left _ (List.mem_append_left _ (List.mem_append_left _ (List.mem_append_left _ (List.mem_append_left _ (List.mem_append_left _ (List.mem_append_right _ h)))))))) (by decide +kernel))) (goodIn_sub (fun _ h => (List.mem_append_left _ (List.mem_append_right _ h))) (by decide +kernel))
set_option maxRecDepth 20000 in
theorem gL_law_L_hours : GoodIn wzL_law (va_wsS RL 266 yL_hours wsL_hours) := goodIn_app (goodIn_of _ (by decide +kernel)) ggL_law_L_hours
set_option maxRecDepth 20000 in
theorem ggL_law_X6_hours : GoodIn wzL_law wsX6_hours := goodIn_r _ [962, 60, 277, 746, 747, 748, 5, 749, 509, 510, 511, 59, 512, 513, 111, 112, 113, 114, 115, 116, 117, 118, 610, 611, 612, 613, 614, 615, 616, 617, 618, 619, 620, 621, 622, 623, 624, 625, 65, 1094, 1095, 1096, 1097, 1098, 1099, 1100, 1101, 1102, 1103, 1104, 1134, 1135, 1136, 1137, 1138, 1139, 1140, 1141, 1142, 1143, 1112, 1113, 1114] (by decide +kernel) (by decide +kernel)
set_option maxRecDepth 20000 in
theorem gL_law_X6_hours : GoodIn wzL_law (wsV RL 268 RX6 yX6_hours wsX6_hours) := goodIn_app (goodIn_of _ (by decide +kernel)) ggL_law_X6_hours
set_option maxRecDepth 20000 in
theorem ggL_law_L_judge : GoodIn wzL_law wsL_judge := goodIn_ca (goodIn_ca (goodIn_r _ [965, 566, 966, 967, 968, 2, 969, 571, 572, 970, 895, 741, 971, 972, 191, 192, 193, 194, 24, 23, 98, 99, 100, 973, 974, 975, 202, 976, 497, 210, 1115, 1116, 1117, 1118, 1119, 1120, 1121, 1122, 1123, 1124, 1125, 1126, 1127, 1128, 1129, 1084, 1085, 1086, 1087, 1088, 1089, 1090, 1091, 1092, 1093] (by decide +kernel) (by decide +kernel)) (goodIn_sub (fun _ h => (List.mem_append_left _ (List.mem_append_left _ (List.mem_append_left _ (List.mem_append_left _ (List.mem_append_left _ (List.mem_append_left _ (List.mem_append_right _ h)))))))) (by decide +kernel))) (goodIn_sub (fun _ h => (List.mem_append_left _ (List.mem_append_right _ h))) (by decide +kernel))
set_option maxRecDepth 20000 in
theorem gL_law_L_judge : GoodIn wzL_law (va_wsS RL 269 yL_judge wsL_judge) := goodIn_app (goodIn_of _ (by decide +kernel)) ggL_law_L_judge
set_option maxRecDepth 20000 in
theorem ggL_law_X6_judge : GoodIn wzL_law wsX6_judge := goodIn_ca (goodIn_r _ [980, 60, 277, 981, 909, 746, 747, 748, 5, 749, 509, 510, 511, 59, 512, 513, 111, 112, 113, 114, 115, 116, 117, 118, 610, 611, 612, 613, 614, 615, 616, 617, 618, 619, 620, 621, 622, 623, 624, 625, 65, 626, 331, 332, 319, 333, 334, 335, 327, 1094, 1095, 1096, 1097, 1098, 1099, 1100, 1101, 1102, 1103, 1104, 1134, 1135, 1136, 1137, 1138, 1139, 1140, 1141, 1142, 1143, 1112, 1113, 1114] (by decide +kernel) (by decide +kernel)) (goodIn_sub (fun _ h => (List.mem_append_left _ (List.mem_append_left _ (List.mem_append_left _ (List.mem_append_left _ (List.mem_append_left _ (List.mem_append_left _ (List.mem_append_right _ h)))))))) (by decide +kernel))
set_option maxRecDepth 20000 in
theorem gL_law_X6_judge : GoodIn wzL_law (wsV RL 272 RX6 yX6_judge wsX6_judge) := goodIn_app (goodIn_of _ (by decide +kernel)) ggL_law_X6_judge
set_option maxRecDepth 20000 in
theorem ggL_law_L_mark : GoodIn wzL_law wzL_mark := goodIn_ca (goodIn_ca (goodIn_r _ [984, 566, 654, 985, 986, 987, 2, 988, 571, 572, 659, 660, 972, 971, 191, 192, 193, 194, 24, 23, 98, 99, 100, 1115, 1116, 1117, 1118, 1119, 1120, 1121, 1122, 1123, 1124, 1125, 1126, 1127, 1128, 1129, 1084, 1085, 1086, 1087, 1088, 1089, 1090, 1091, 1092, 1093] (by decide +kernel) (by decide +kernel)) (goodIn_sub (fun _ h => (List.mem_append_left _ (List.mem_append_left _ (List.mem_append_left _ (List.mem_append_left _ (List.mem_append_left _ (List.mem_append_left _ (List.mem_append_right _ h)))))))) (by decide +kernel))) (goodIn_sub (fun _ h => (List.mem_append_left _ (List.mem_append_right _ h))) (by decide +kernel))
set_option maxRecDepth 20000 in
theorem gL_law_L_mark : GoodIn wzL_law (va_wsS RL 273 yL_mark wzL_mark) := goodIn_app (goodIn_of _ (by decide +kernel)) ggL_law_L_mark
set_option maxRecDepth 20000 in
theorem ggL_law_X6_mark : GoodIn wzL_law wsX6_mark := goodIn_r _ [992, 60, 277, 746, 747, 748, 5, 749, 509, 510, 511, 59, 512, 513, 111, 112, 113, 114, 115, 116, 117, 118, 610, 611, 612, 613, 614, 615, 616, 617, 618, 619, 620, 621, 622, 623, 624, 625, 65, 1094, 1095, 1096, 1097, 1098, 1099, 1100, 1101, 1102, 1103, 1104, 1134, 1135, 1136, 1137, 1138, 1139, 1140, 1141, 1142, 1143, 1112, 1113, 1114] (by decide +kernel) (by decide +kernel)
set_option maxRecDepth 20000 in
theorem gL_law_X6_mark : GoodIn wzL_law (wsV RL 275 RX6 yX6_mark wsX6_mark) := goodIn_app (goodIn_of _ (by decide +kernel)) ggL_law_X6_mark
set_option maxRecDepth 20000 in
theorem ggL_law_L_take_p0 : GoodIn wzL_law [.codeWith yL_take cL_take 6 (some .int) [(0, 12, 15, 54), (0, 12, 19, 64), (0, 12, 23, 15)]] := goodIn_r _ [995] (by decide +kernel) (by decide +kernel)
set_option maxRecDepth 20000 in
theorem ggL_law_L_take_p1 : GoodIn wzL_law wsL_take_r1 := goodIn_r _ [566, 654, 85, 996, 997, 998, 2, 999, 571, 572, 659, 660, 92, 93, 17, 25, 661, 573, 574, 575, 576, 98, 99, 100] (by decide +kernel) (by decide +kernel)
set_option maxRecDepth 20000 in
theorem ggL_law_L_take_p2 : GoodIn wzL_law wsL_take_r2 := goodIn_r _ [191, 192, 193, 194, 24, 23, 577, 244, 245, 578, 207, 208, 202, 209, 210, 126, 127, 128, 16, 129, 36, 37, 1000, 1001] (by decide +kernel) (by decide +kernel)
set_option maxRecDepth 20000 in
theorem ggL_law_L_take_p3 : GoodIn wzL_law wsL_take_r3 := goodIn_r _ [1002, 1003, 206, 235, 236, 237, 238, 204, 239, 240, 241, 242, 243, 205, 246, 247, 248, 249, 250, 251, 252, 253, 254, 255] (by decide +kernel) (by decide +kernel)
set_option maxRecDepth 20000 in
theorem ggL_law_L_take_p4 : GoodIn wzL_law wsL_take_r4 := goodIn_r _ [256, 257, 258, 259, 260, 261, 226, 262, 184, 181, 185, 227, 263, 180, 182, 264, 265, 266, 947, 218, 219, 220, 221, 222] (by decide +kernel) (by decide +kernel)
set_option maxRecDepth 20000 in
theorem ggL_law_L_take_p5 : GoodIn wzL_law wsL_take_r5 := goodIn_r _ [223, 224, 225, 228, 229, 230] (by decide +kernel) (by decide +kernel)
set_option maxRecDepth 20000 in
theorem ggL_law_L_take_p6 : GoodIn wzL_law wsX30 := goodIn_r _ [1084, 1085, 1086, 1087, 1088, 1089, 1090, 1091, 1092, 1093] (by decide +kernel) (by decide +kernel)
set_option maxRecDepth 20000 in
theorem ggL_law_L_take_p7 : GoodIn wzL_law wsX10 := goodIn_r _ [1115, 1116, 1117, 1118, 1119, 1120, 1121, 1122, 1123, 1124, 1125, 1126, 1127, 1128, 1129] (by decide +kernel) (by decide +kernel)
set_option maxRecDepth 20000 in
theorem ggL_law_L_take_p8 : GoodIn wzL_law wsX20 := goodIn_r _ [1105, 1106, 1107, 1108] (by decide +kernel) (by decide +kernel)
set_option maxRecDepth 20000 in
theorem ggL_law_L_take : GoodIn wzL_law wzL_take := goodIn_app (a := [.codeWith yL_take cL_take 6 (some .int) [(0, 12, 15, 54), (0, 12, 19, 64), (0, 12, 23, 15)]]) ggL_law_L_take_p0 (goodIn_app (goodIn_app (goodIn_app (goodIn_app (goodIn_app (goodIn_app (goodIn_app ggL_law_L_take_p1 (goodIn_app ggL_law_L_take_p2 (goodIn_app ggL_law_L_take_p3 (goodIn_app ggL_law_L_take_p4 ggL_law_L_take_p5)))) ggL_law_L_take_p6) ggL_law_L_take_p7) ggL_law_L_take_p8) (goodIn_sub (fun _ h => (List.mem_append_left _ (List.mem_append_left _ (List.mem_append_left _ (List.mem_append_left _ (List.mem_append_left _ (List.mem_append_left _ (List.mem_append_right _ h)))))))) (by decide +kernel))) (goodIn_sub (fun _ h => (List.mem_append_left _ (List.mem_append_right _ h))) (by decide +kernel))) (goodIn_sub (fun _ h => (List.mem_append_left _ (List.mem_append_left _ (List.mem_append_left _ (List.mem_append_left _ (List.mem_append_right _ h)))))) (by decide +kernel)))
set_option maxRecDepth 20000 in
theorem gL_law_L_take : GoodIn wzL_law (va_wsS RL 276 yL_take wzL_take) := goodIn_app (goodIn_of _ (by decide +kernel)) ggL_law_L_take
set_option maxRecDepth 20000 in
theorem ggL_law_X6_take_p0 : GoodIn wzL_law [.code yX6_take cX6_take 15 (some .int)] := goodIn_r _ [1007] (by decide +kernel) (by decide +kernel)
set_option maxRecDepth 20000 in
theorem ggL_law_X6_take_p1 : GoodIn wzL_law wsX6_take_r1 := goodIn_r _ [60, 277, 110, 666, 667, 668, 5, 669, 604, 605, 606, 607, 608, 609, 509, 510, 511, 59, 512, 513, 111, 112, 113, 114] (by decide +kernel) (by decide +kernel)
set_option maxRecDepth 20000 in
theorem ggL_law_X6_take_p2 : GoodIn wzL_law wsX6_take_r2 := goodIn_r _ [115, 116, 117, 118, 610, 611, 612, 613, 614, 615, 616, 617, 618, 619, 620, 621, 622, 623, 624, 625, 65, 626, 331, 332] (by decide +kernel) (by decide +kernel)
set_option maxRecDepth 20000 in
theorem ggL_law_X6_take_p3 : GoodIn wzL_law wsX6_take_r3 := goodIn_r _ [319, 333, 334, 335, 327, 135, 136, 137, 138, 52, 1008, 347, 348, 349, 321, 322, 350, 351, 352, 353, 354, 35, 330, 355] (by decide +kernel) (by decide +kernel)
set_option maxRecDepth 20000 in
theorem ggL_law_X6_take_p4 : GoodIn wzL_law wsX6_take_r4 := goodIn_r _ [356, 357, 358, 359, 360, 361, 362, 363, 364, 365, 366, 367, 368, 369, 370, 371, 372, 373, 374, 375, 184, 181, 185, 328] (by decide +kernel) (by decide +kernel)
set_option maxRecDepth 20000 in
theorem ggL_law_X6_take_p5 : GoodIn wzL_law wsX6_take_r5 := goodIn_r _ [180, 182] (by decide +kernel) (by decide +kernel)
set_option maxRecDepth 20000 in
theorem ggL_law_X6_take_p6 : GoodIn wzL_law wsX60 := goodIn_r _ [1094, 1095, 1096, 1097, 1098, 1099, 1100, 1101, 1102, 1103, 1104] (by decide +kernel) (by decide +kernel)
set_option maxRecDepth 20000 in
theorem ggL_law_X6_take_p7 : GoodIn wzL_law wsX50 := goodIn_r _ [1134, 1135, 1136, 1137, 1138, 1139, 1140, 1141, 1142, 1143] (by decide +kernel) (by decide +kernel)
set_option maxRecDepth 20000 in
theorem ggL_law_X6_take_p8 : GoodIn wzL_law wsX40 := goodIn_r _ [1144, 1145, 1146, 1147, 1148] (by decide +kernel) (by decide +kernel)

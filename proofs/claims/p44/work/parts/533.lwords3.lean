set_option maxRecDepth 20000 in
theorem ggL_law_X6_take_p9 : GoodIn wzL_law wsJx4a65c0 := goodIn_r _ [1112, 1113, 1114] (by decide +kernel) (by decide +kernel)
set_option maxRecDepth 20000 in
theorem ggL_law_X6_take : GoodIn wzL_law wsX6_take := goodIn_app (a := [.code yX6_take cX6_take 15 (some .int)]) ggL_law_X6_take_p0 (goodIn_app (goodIn_app (goodIn_app (goodIn_app (goodIn_app (goodIn_app ggL_law_X6_take_p1 (goodIn_app ggL_law_X6_take_p2 (goodIn_app ggL_law_X6_take_p3 (goodIn_app ggL_law_X6_take_p4 ggL_law_X6_take_p5)))) ggL_law_X6_take_p6) ggL_law_X6_take_p7) ggL_law_X6_take_p8) ggL_law_X6_take_p9) (goodIn_sub (fun _ h => (List.mem_append_left _ (List.mem_append_left _ (List.mem_append_left _ (List.mem_append_left _ (List.mem_append_left _ (List.mem_append_left _ (List.mem_append_right _ h)))))))) (by decide +kernel)))
set_option maxRecDepth 20000 in
theorem gL_law_X6_take : GoodIn wzL_law (wsV RL 278 RX6 yX6_take wsX6_take) := goodIn_app (goodIn_of _ (by decide +kernel)) ggL_law_X6_take
set_option maxRecDepth 20000 in
theorem ggL_law_X3_money : GoodIn wzL_law wsX3_money := goodIn_r _ [1012, 30, 1084, 1085, 1086, 1087, 1088, 1089, 1090, 1091, 1092, 1093] (by decide +kernel) (by decide +kernel)
set_option maxRecDepth 20000 in
theorem gL_law_X3_money : GoodIn wzL_law (wsV RL 279 RX3 yX3_money wsX3_money) := goodIn_app (goodIn_of _ (by decide +kernel)) ggL_law_X3_money
set_option maxRecDepth 20000 in
theorem ggL_law_X6_money : GoodIn wzL_law wsX6_money := goodIn_r _ [1016, 118, 448, 1094, 1095, 1096, 1097, 1098, 1099, 1100, 1101, 1102, 1103, 1104] (by decide +kernel) (by decide +kernel)
set_option maxRecDepth 20000 in
theorem gL_law_X6_money : GoodIn wzL_law (wsV RL 282 RX6 yX6_money wsX6_money) := goodIn_app (goodIn_of _ (by decide +kernel)) ggL_law_X6_money
set_option maxRecDepth 20000 in
theorem ggL_law_L_count : GoodIn wzL_law wsL_count := goodIn_ca (goodIn_ca (goodIn_r _ [1019, 566, 1020, 1021, 1022, 2, 1023, 571, 572, 191, 192, 193, 194, 24, 23, 98, 99, 100, 593, 594, 595, 202, 596, 210, 1084, 1085, 1086, 1087, 1088, 1089, 1090, 1091, 1092, 1093, 1115, 1116, 1117, 1118, 1119, 1120, 1121, 1122, 1123, 1124, 1125, 1126, 1127, 1128, 1129] (by decide +kernel) (by decide +kernel)) (goodIn_sub (fun _ h => (List.mem_append_left _ (List.mem_append_left _ (List.mem_append_left _ (List.mem_append_left _ (List.mem_append_left _ (List.mem_append_left _ (List.mem_append_right _ h)))))))) (by decide +kernel))) (goodIn_sub (fun _ h => (List.mem_append_left _ (List.mem_append_right _ h))) (by decide +kernel))
set_option maxRecDepth 20000 in
theorem gL_law_L_count : GoodIn wzL_law (va_wsS RL 283 yL_count wsL_count) := goodIn_app (goodIn_of _ (by decide +kernel)) ggL_law_L_count
set_option maxRecDepth 20000 in
theorem ggL_law_X6_count : GoodIn wzL_law wsX6_count := goodIn_r _ [1027, 60, 277, 746, 747, 748, 5, 749, 509, 510, 511, 59, 512, 513, 111, 112, 113, 114, 115, 116, 117, 118, 610, 611, 612, 613, 614, 615, 616, 617, 618, 619, 620, 621, 622, 623, 624, 625, 65, 635, 636, 637, 319, 638, 327, 1094, 1095, 1096, 1097, 1098, 1099, 1100, 1101, 1102, 1103, 1104, 1112, 1113, 1114, 1134, 1135, 1136, 1137, 1138, 1139, 1140, 1141, 1142, 1143] (by decide +kernel) (by decide +kernel)
set_option maxRecDepth 20000 in
theorem gL_law_X6_count : GoodIn wzL_law (wsV RL 285 RX6 yX6_count wsX6_count) := goodIn_app (goodIn_of _ (by decide +kernel)) ggL_law_X6_count
set_option maxRecDepth 20000 in
theorem ggL_law_L_openShare_p0 : GoodIn wzL_law [.codeWith yL_openShare cL_openShare 3 (some .int) [(0, 8, 11, 140)]] := goodIn_r _ [1030] (by decide +kernel) (by decide +kernel)
set_option maxRecDepth 20000 in
theorem ggL_law_L_openShare_p1 : GoodIn wzL_law wsL_openShare_r1 := goodIn_r _ [1031, 1032, 1033, 1034, 2, 1035, 1036, 1037, 24, 17, 25, 191, 192, 193, 194, 23, 98, 99, 100, 126, 127, 128, 16, 129] (by decide +kernel) (by decide +kernel)
set_option maxRecDepth 20000 in
theorem ggL_law_L_openShare_p2 : GoodIn wzL_law wsL_openShare_r2 := goodIn_r _ [36, 37, 840, 841, 842, 202, 843, 225, 239, 240, 241, 242, 243, 205, 244, 245, 206, 207, 208, 209, 210, 246, 247, 248] (by decide +kernel) (by decide +kernel)
set_option maxRecDepth 20000 in
theorem ggL_law_L_openShare_p3 : GoodIn wzL_law wsL_openShare_r3 := goodIn_r _ [249, 250, 251, 252, 253, 258, 259, 260, 261, 226, 262, 184, 181, 185, 227, 263, 180, 182, 264, 265, 266] (by decide +kernel) (by decide +kernel)
set_option maxRecDepth 20000 in
theorem ggL_law_L_openShare_p4 : GoodIn wzL_law wsX30 := goodIn_r _ [1084, 1085, 1086, 1087, 1088, 1089, 1090, 1091, 1092, 1093] (by decide +kernel) (by decide +kernel)
set_option maxRecDepth 20000 in
theorem ggL_law_L_openShare_p5 : GoodIn wzL_law wsX20 := goodIn_r _ [1105, 1106, 1107, 1108] (by decide +kernel) (by decide +kernel)
set_option maxRecDepth 20000 in
theorem ggL_law_L_openShare_p6 : GoodIn wzL_law wsX10 := goodIn_r _ [1115, 1116, 1117, 1118, 1119, 1120, 1121, 1122, 1123, 1124, 1125, 1126, 1127, 1128, 1129] (by decide +kernel) (by decide +kernel)
set_option maxRecDepth 20000 in
theorem ggL_law_L_openShare : GoodIn wzL_law wsL_openShare := goodIn_app (a := [.codeWith yL_openShare cL_openShare 3 (some .int) [(0, 8, 11, 140)]]) ggL_law_L_openShare_p0 (goodIn_app (goodIn_app (goodIn_app (goodIn_app (goodIn_app (goodIn_app ggL_law_L_openShare_p1 (goodIn_app ggL_law_L_openShare_p2 ggL_law_L_openShare_p3)) ggL_law_L_openShare_p4) ggL_law_L_openShare_p5) ggL_law_L_openShare_p6) (goodIn_sub (fun _ h => (List.mem_append_left _ (List.mem_append_left _ (List.mem_append_left _ (List.mem_append_left _ (List.mem_append_left _ (List.mem_append_left _ (List.mem_append_right _ h)))))))) (by decide +kernel))) (goodIn_sub (fun _ h => (List.mem_append_right _ h)) (by decide +kernel)))
set_option maxRecDepth 20000 in
theorem gL_law_L_openShare : GoodIn wzL_law (va_wsS RL 286 yL_openShare wsL_openShare) := goodIn_app (goodIn_of _ (by decide +kernel)) ggL_law_L_openShare
set_option maxRecDepth 20000 in
theorem ggL_law_X6_openShare_p0 : GoodIn wzL_law [.code yX6_openShare cX6_openShare 4 (some .float)] := goodIn_r _ [1041] (by decide +kernel) (by decide +kernel)
set_option maxRecDepth 20000 in
theorem ggL_law_X6_openShare_p1 : GoodIn wzL_law wsX6_openShare_r1 := goodIn_r _ [60, 277, 286, 287, 288, 59, 289, 290, 291, 292, 293, 294, 295, 296, 297, 12, 13, 298, 299, 300, 301, 302, 303, 304] (by decide +kernel) (by decide +kernel)
set_option maxRecDepth 20000 in
theorem ggL_law_X6_openShare_p2 : GoodIn wzL_law wsX6_openShare_r2 := goodIn_r _ [305, 306, 307, 308, 309, 310, 311, 312, 313, 314, 315, 848, 849, 850, 319, 851, 323, 327, 350, 351, 352, 353, 354, 35] (by decide +kernel) (by decide +kernel)
set_option maxRecDepth 20000 in
theorem ggL_law_X6_openShare_p3 : GoodIn wzL_law wsX6_openShare_r3 := goodIn_r _ [330, 331, 332, 333, 334, 335, 112, 5, 113, 355, 356, 357, 358, 359, 360, 361, 362, 363, 364, 365, 366, 136, 137, 138] (by decide +kernel) (by decide +kernel)
set_option maxRecDepth 20000 in
theorem ggL_law_X6_openShare_p4 : GoodIn wzL_law wsX6_openShare_r4 := goodIn_r _ [52, 852, 636, 637, 638, 371, 372, 373, 374, 375, 184, 181, 185, 328, 180, 182, 1042, 1043, 1044, 1045, 513, 114, 115, 116] (by decide +kernel) (by decide +kernel)
set_option maxRecDepth 20000 in
theorem ggL_law_X6_openShare_p5 : GoodIn wzL_law wsX6_openShare_r5 := goodIn_r _ [117, 118, 509, 510, 511, 512] (by decide +kernel) (by decide +kernel)
set_option maxRecDepth 20000 in
theorem ggL_law_X6_openShare_p6 : GoodIn wzL_law wsX60 := goodIn_r _ [1094, 1095, 1096, 1097, 1098, 1099, 1100, 1101, 1102, 1103, 1104] (by decide +kernel) (by decide +kernel)
set_option maxRecDepth 20000 in
theorem ggL_law_X6_openShare_p7 : GoodIn wzL_law wsJx354110 := goodIn_r _ [1130, 1131, 1132, 1133] (by decide +kernel) (by decide +kernel)
set_option maxRecDepth 20000 in
theorem ggL_law_X6_openShare_p8 : GoodIn wzL_law wsJx4a65c0 := goodIn_r _ [1112, 1113, 1114] (by decide +kernel) (by decide +kernel)
set_option maxRecDepth 20000 in
theorem ggL_law_X6_openShare_p9 : GoodIn wzL_law wsX50 := goodIn_r _ [1134, 1135, 1136, 1137, 1138, 1139, 1140, 1141, 1142, 1143] (by decide +kernel) (by decide +kernel)
set_option maxRecDepth 20000 in
theorem ggL_law_X6_openShare_p10 : GoodIn wzL_law wsX40 := goodIn_r _ [1144, 1145, 1146, 1147, 1148] (by decide +kernel) (by decide +kernel)
set_option maxRecDepth 20000 in
theorem ggL_law_X6_openShare : GoodIn wzL_law wsX6_openShare := goodIn_app (a := [.code yX6_openShare cX6_openShare 4 (some .float)]) ggL_law_X6_openShare_p0 (goodIn_app (goodIn_app (goodIn_app (goodIn_app (goodIn_app (goodIn_app (goodIn_app ggL_law_X6_openShare_p1 (goodIn_app ggL_law_X6_openShare_p2 (goodIn_app ggL_law_X6_openShare_p3 (goodIn_app ggL_law_X6_openShare_p4 ggL_law_X6_openShare_p5)))) ggL_law_X6_openShare_p6) ggL_law_X6_openShare_p7) ggL_law_X6_openShare_p8) ggL_law_X6_openShare_p9) ggL_law_X6_openShare_p10) (goodIn_sub (fun _ h => (List.mem_append_left _ (List.mem_append_left _ (List.mem_append_left _ (List.mem_append_left _ (List.mem_append_left _ (List.mem_append_left _ (List.mem_append_right _ h)))))))) (by decide +kernel)))
set_option maxRecDepth 20000 in
theorem gL_law_X6_openShare : GoodIn wzL_law (wsV RL 289 RX6 yX6_openShare wsX6_openShare) := goodIn_app (goodIn_of _ (by decide +kernel)) ggL_law_X6_openShare
set_option maxRecDepth 20000 in
theorem ggL_law_L_meanCreep : GoodIn wzL_law wsL_meanCreep := goodIn_ca (goodIn_ca (goodIn_ca (goodIn_r _ [1048, 566, 1031, 1049, 1050, 1051, 2, 1052, 571, 572, 1036, 1037, 191, 192, 193, 194, 24, 23, 98, 99, 100, 593, 594, 595, 202, 596, 210, 1053, 1054, 1055, 1056, 225, 1084, 1085, 1086, 1087, 1088, 1089, 1090, 1091, 1092, 1093, 1115, 1116, 1117, 1118, 1119, 1120, 1121, 1122, 1123, 1124, 1125, 1126, 1127, 1128, 1129] (by decide +kernel) (by decide +kernel)) (goodIn_sub (fun _ h => (List.mem_append_left _ (List.mem_append_left _ (List.mem_append_left _ (List.mem_append_left _ (List.mem_append_left _ (List.mem_append_left _ (List.mem_append_right _ h)))))))) (by decide +kernel))) (goodIn_sub (fun _ h => (List.mem_append_left _ (List.mem_append_right _ h))) (by decide +kernel))) (goodIn_sub (fun _ h => (List.mem_append_right _ h)) (by decide +kernel))
set_option maxRecDepth 20000 in
theorem gL_law_L_meanCreep : GoodIn wzL_law (va_wsS RL 290 yL_meanCreep wsL_meanCreep) := goodIn_app (goodIn_of _ (by decide +kernel)) ggL_law_L_meanCreep
set_option maxRecDepth 20000 in
theorem ggL_law_X6_meanCreep : GoodIn wzL_law wsX6_meanCreep := goodIn_r _ [1060, 60, 277, 746, 747, 748, 5, 749, 509, 510, 511, 59, 512, 513, 111, 112, 113, 114, 115, 116, 117, 118, 610, 611, 612, 613, 614, 615, 616, 617, 618, 619, 620, 621, 622, 623, 624, 625, 65, 635, 636, 637, 319, 638, 327, 1094, 1095, 1096, 1097, 1098, 1099, 1100, 1101, 1102, 1103, 1104, 1134, 1135, 1136, 1137, 1138, 1139, 1140, 1141, 1142, 1143, 1144, 1145, 1146, 1147, 1148, 1112, 1113, 1114] (by decide +kernel) (by decide +kernel)
set_option maxRecDepth 20000 in
theorem gL_law_X6_meanCreep : GoodIn wzL_law (wsV RL 292 RX6 yX6_meanCreep wsX6_meanCreep) := goodIn_app (goodIn_of _ (by decide +kernel)) ggL_law_X6_meanCreep
set_option maxRecDepth 20000 in
theorem ggL_law_X3_checksum : GoodIn wzL_law wsX3_checksum := goodIn_ca (goodIn_r _ [1064, 1065, 24, 1066, 661, 704, 30, 28, 21, 391, 191, 192, 193, 2, 194, 23, 98, 99, 100, 578, 207, 208, 202, 209, 210, 1084, 1085, 1086, 1087, 1088, 1089, 1090, 1091, 1092, 1093, 1115, 1116, 1117, 1118, 1119, 1120, 1121, 1122, 1123, 1124, 1125, 1126, 1127, 1128, 1129, 1109, 1110, 1111] (by decide +kernel) (by decide +kernel)) (goodIn_sub (fun _ h => (List.mem_append_left _ (List.mem_append_left _ (List.mem_append_left _ (List.mem_append_left _ (List.mem_append_left _ (List.mem_append_left _ (List.mem_append_right _ h)))))))) (by decide +kernel))
set_option maxRecDepth 20000 in
theorem gL_law_X3_checksum : GoodIn wzL_law (wsV RL 293 RX3 yX3_checksum wsX3_checksum) := goodIn_app (goodIn_of _ (by decide +kernel)) ggL_law_X3_checksum
set_option maxRecDepth 20000 in
theorem ggL_law_X6_checksum : GoodIn wzL_law wsX6_checksum := goodIn_ca (goodIn_r _ [1070, 118, 608, 60, 277, 1071, 448, 285, 53, 286, 287, 288, 59, 289, 290, 291, 292, 293, 294, 295, 296, 297, 12, 13, 298, 299, 300, 301, 302, 303, 304, 305, 306, 307, 308, 309, 310, 311, 312, 313, 314, 315, 1094, 1095, 1096, 1097, 1098, 1099, 1100, 1101, 1102, 1103, 1104, 1134, 1135, 1136, 1137, 1138, 1139, 1140, 1141, 1142, 1143, 1144, 1145, 1146, 1147, 1148, 1130, 1131, 1132, 1133, 1112, 1113, 1114] (by decide +kernel) (by decide +kernel)) (goodIn_sub (fun _ h => (List.mem_append_left _ (List.mem_append_left _ (List.mem_append_left _ (List.mem_append_left _ (List.mem_append_left _ (List.mem_append_left _ (List.mem_append_right _ h)))))))) (by decide +kernel))
set_option maxRecDepth 20000 in
theorem gL_law_X6_checksum : GoodIn wzL_law (wsV RL 297 RX6 yX6_checksum wsX6_checksum) := goodIn_app (goodIn_of _ (by decide +kernel)) ggL_law_X6_checksum
set_option maxRecDepth 20000 in
theorem ggL_law_X3_isSound : GoodIn wzL_law wsX3_isSound := goodIn_ca (goodIn_r _ [1075, 24, 21, 408, 391, 191, 192, 193, 2, 194, 23, 98, 99, 100, 1076, 1077, 1078, 202, 1079, 205, 239, 240, 241, 242, 243, 244, 245, 206, 207, 208, 209, 210, 246, 247, 248, 249, 250, 251, 252, 253, 254, 255, 256, 257, 1084, 1085, 1086, 1087, 1088, 1089, 1090, 1091, 1092, 1093, 1109, 1110, 1111, 1115, 1116, 1117, 1118, 1119, 1120, 1121, 1122, 1123, 1124, 1125, 1126, 1127, 1128, 1129] (by decide +kernel) (by decide +kernel)) (goodIn_sub (fun _ h => (List.mem_append_left _ (List.mem_append_left _ (List.mem_append_left _ (List.mem_append_left _ (List.mem_append_left _ (List.mem_append_left _ (List.mem_append_right _ h)))))))) (by decide +kernel))
set_option maxRecDepth 20000 in
theorem gL_law_X3_isSound : GoodIn wzL_law (wsV RL 298 RX3 yX3_isSound wsX3_isSound) := goodIn_app (goodIn_of _ (by decide +kernel)) ggL_law_X3_isSound
set_option maxRecDepth 20000 in
theorem ggL_law_X6_isSound : GoodIn wzL_law wsX6_isSound := goodIn_r _ [1083, 118, 1094, 1095, 1096, 1097, 1098, 1099, 1100, 1101, 1102, 1103, 1104] (by decide +kernel) (by decide +kernel)
set_option maxRecDepth 20000 in
theorem gL_law_X6_isSound : GoodIn wzL_law (wsV RL 302 RX6 yX6_isSound wsX6_isSound) := goodIn_app (goodIn_of _ (by decide +kernel)) ggL_law_X6_isSound



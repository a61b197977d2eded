set_option maxRecDepth 20000 in
theorem ggL_law_X6_take_p7 : GoodIn wzL_law wsX50 := goodIn_r _ [1138, 1139, 1140, 1141, 1142, 1143, 1144, 1145, 1146, 1147] (by decide +kernel) (by decide +kernel)
set_option maxRecDepth 20000 in
theorem ggL_law_X6_take_p8 : GoodIn wzL_law wsX40 := goodIn_r _ [1148, 1149, 1150, 1151, 1152] (by decide +kernel) (by decide +kernel)
set_option maxRecDepth 20000 in
theorem ggL_law_X6_take_p9 : GoodIn wzL_law wsJx4a65c0 := goodIn_r _ [1116, 1117, 1118] (by decide +kernel) (by decide +kernel)
set_option maxRecDepth 20000 in
theorem ggL_law_X6_take : GoodIn wzL_law wsX6_take := goodIn_app (a := [.code yX6_take cX6_take 15 (some .int)]) ggL_law_X6_take_p0 (goodIn_app (goodIn_app (goodIn_app (goodIn_app (goodIn_app (goodIn_app ggL_law_X6_take_p1 (goodIn_app ggL_law_X6_take_p2 (goodIn_app ggL_law_X6_take_p3 (goodIn_app ggL_law_X6_take_p4 ggL_law_X6_take_p5)))) ggL_law_X6_take_p6) ggL_law_X6_take_p7) ggL_law_X6_take_p8) ggL_law_X6_take_p9) (goodIn_sub (fun _ h => (List.mem_append_left _ (List.mem_append_left _ (List.mem_append_left _ (List.mem_append_left _ (List.mem_append_left _ (List.mem_append_left _ (List.mem_append_right _ h)))))))) (by decide +kernel)))
set_option maxRecDepth 20000 in
theorem gL_law_X6_take : GoodIn wzL_law (wsV RL 281 RX6 yX6_take wsX6_take) := goodIn_app (goodIn_of _ (by decide +kernel)) ggL_law_X6_take
set_option maxRecDepth 20000 in
theorem ggL_law_X3_money : GoodIn wzL_law wsX3_money := goodIn_r _ [1016, 30, 1088, 1089, 1090, 1091, 1092, 1093, 1094, 1095, 1096, 1097] (by decide +kernel) (by decide +kernel)
set_option maxRecDepth 20000 in
theorem gL_law_X3_money : GoodIn wzL_law (wsV RL 282 RX3 yX3_money wsX3_money) := goodIn_app (goodIn_of _ (by decide +kernel)) ggL_law_X3_money
set_option maxRecDepth 20000 in
theorem ggL_law_X6_money : GoodIn wzL_law wsX6_money := goodIn_r _ [1020, 118, 452, 1098, 1099, 1100, 1101, 1102, 1103, 1104, 1105, 1106, 1107, 1108] (by decide +kernel) (by decide +kernel)
set_option maxRecDepth 20000 in
theorem gL_law_X6_money : GoodIn wzL_law (wsV RL 285 RX6 yX6_money wsX6_money) := goodIn_app (goodIn_of _ (by decide +kernel)) ggL_law_X6_money
set_option maxRecDepth 20000 in
theorem ggL_law_L_count : GoodIn wzL_law wsL_count := goodIn_ca (goodIn_ca (goodIn_r _ [1023, 570, 1024, 1025, 1026, 2, 1027, 575, 576, 191, 192, 193, 194, 24, 23, 98, 99, 100, 597, 598, 599, 202, 600, 210, 1088, 1089, 1090, 1091, 1092, 1093, 1094, 1095, 1096, 1097, 1119, 1120, 1121, 1122, 1123, 1124, 1125, 1126, 1127, 1128, 1129, 1130, 1131, 1132, 1133] (by decide +kernel) (by decide +kernel)) (goodIn_sub (fun _ h => (List.mem_append_left _ (List.mem_append_left _ (List.mem_append_left _ (List.mem_append_left _ (List.mem_append_left _ (List.mem_append_left _ (List.mem_append_right _ h)))))))) (by decide +kernel))) (goodIn_sub (fun _ h => (List.mem_append_left _ (List.mem_append_right _ h))) (by decide +kernel))
set_option maxRecDepth 20000 in
theorem gL_law_L_count : GoodIn wzL_law (va_wsS RL 286 yL_count wsL_count) := goodIn_app (goodIn_of _ (by decide +kernel)) ggL_law_L_count
set_option maxRecDepth 20000 in
theorem ggL_law_X6_count : GoodIn wzL_law wsX6_count := goodIn_r _ [1031, 60, 277, 750, 751, 752, 5, 753, 513, 514, 515, 59, 516, 517, 111, 112, 113, 114, 115, 116, 117, 118, 614, 615, 616, 617, 618, 619, 620, 621, 622, 623, 624, 625, 626, 627, 628, 629, 65, 639, 640, 641, 319, 642, 327, 1098, 1099, 1100, 1101, 1102, 1103, 1104, 1105, 1106, 1107, 1108, 1116, 1117, 1118, 1138, 1139, 1140, 1141, 1142, 1143, 1144, 1145, 1146, 1147] (by decide +kernel) (by decide +kernel)
set_option maxRecDepth 20000 in
theorem gL_law_X6_count : GoodIn wzL_law (wsV RL 288 RX6 yX6_count wsX6_count) := goodIn_app (goodIn_of _ (by decide +kernel)) ggL_law_X6_count
set_option maxRecDepth 20000 in
theorem ggL_law_L_openShare_p0 : GoodIn wzL_law [.codeWith yL_openShare cL_openShare 3 (some .int) [(0, 8, 11, 140)]] := goodIn_r _ [1034] (by decide +kernel) (by decide +kernel)
set_option maxRecDepth 20000 in
theorem ggL_law_L_openShare_p1 : GoodIn wzL_law wsL_openShare_r1 := goodIn_r _ [1035, 1036, 1037, 1038, 2, 1039, 1040, 1041, 24, 17, 25, 191, 192, 193, 194, 23, 98, 99, 100, 126, 127, 128, 16, 129] (by decide +kernel) (by decide +kernel)
set_option maxRecDepth 20000 in
theorem ggL_law_L_openShare_p2 : GoodIn wzL_law wsL_openShare_r2 := goodIn_r _ [36, 37, 844, 845, 846, 202, 847, 225, 239, 240, 241, 242, 243, 205, 244, 245, 206, 207, 208, 209, 210, 246, 247, 248] (by decide +kernel) (by decide +kernel)
set_option maxRecDepth 20000 in
theorem ggL_law_L_openShare_p3 : GoodIn wzL_law wsL_openShare_r3 := goodIn_r _ [249, 250, 251, 252, 253, 258, 259, 260, 261, 226, 262, 184, 181, 185, 227, 263, 180, 182, 264, 265, 266] (by decide +kernel) (by decide +kernel)
set_option maxRecDepth 20000 in
theorem ggL_law_L_openShare_p4 : GoodIn wzL_law wsX30 := goodIn_r _ [1088, 1089, 1090, 1091, 1092, 1093, 1094, 1095, 1096, 1097] (by decide +kernel) (by decide +kernel)
set_option maxRecDepth 20000 in
theorem ggL_law_L_openShare_p5 : GoodIn wzL_law wsX20 := goodIn_r _ [1109, 1110, 1111, 1112] (by decide +kernel) (by decide +kernel)
set_option maxRecDepth 20000 in
theorem ggL_law_L_openShare_p6 : GoodIn wzL_law wsX10 := goodIn_r _ [1119, 1120, 1121, 1122, 1123, 1124, 1125, 1126, 1127, 1128, 1129, 1130, 1131, 1132, 1133] (by decide +kernel) (by decide +kernel)
set_option maxRecDepth 20000 in
theorem ggL_law_L_openShare : GoodIn wzL_law wsL_openShare := goodIn_app (a := [.codeWith yL_openShare cL_openShare 3 (some .int) [(0, 8, 11, 140)]]) ggL_law_L_openShare_p0 (goodIn_app (goodIn_app (goodIn_app (goodIn_app (goodIn_app (goodIn_app ggL_law_L_openShare_p1 (goodIn_app ggL_law_L_openShare_p2 ggL_law_L_openShare_p3)) ggL_law_L_openShare_p4) ggL_law_L_openShare_p5) ggL_law_L_openShare_p6) (goodIn_sub (fun _ h => (List.mem_append_left _ (List.mem_append_left _ (List.mem_append_left _ (List.mem_append_left _ (List.mem_append_left _ (List.mem_append_left _ (List.mem_append_right _ h)))))))) (by decide +kernel))) (goodIn_sub (fun _ h => (List.mem_append_right _ h)) (by decide +kernel)))
set_option maxRecDepth 20000 in
theorem gL_law_L_openShare : GoodIn wzL_law (va_wsS RL 289 yL_openShare wsL_openShare) := goodIn_app (goodIn_of _ (by decide +kernel)) ggL_law_L_openShare
set_option maxRecDepth 20000 in
theorem ggL_law_X6_openShare_p0 : GoodIn wzL_law [.code yX6_openShare cX6_openShare 4 (some .float)] := goodIn_r _ [1045] (by decide +kernel) (by decide +kernel)
set_option maxRecDepth 20000 in
theorem ggL_law_X6_openShare_p1 : GoodIn wzL_law wsX6_openShare_r1 := goodIn_r _ [60, 277, 286, 287, 288, 59, 289, 290, 291, 292, 293, 294, 295, 296, 297, 12, 13, 298, 299, 300, 301, 302, 303, 304] (by decide +kernel) (by decide +kernel)
set_option maxRecDepth 20000 in
theorem ggL_law_X6_openShare_p2 : GoodIn wzL_law wsX6_openShare_r2 := goodIn_r _ [305, 306, 307, 308, 309, 310, 311, 312, 313, 314, 315, 852, 853, 854, 319, 855, 323, 327, 350, 351, 352, 353, 354, 35] (by decide +kernel) (by decide +kernel)
set_option maxRecDepth 20000 in
theorem ggL_law_X6_openShare_p3 : GoodIn wzL_law wsX6_openShare_r3 := goodIn_r _ [330, 331, 332, 333, 334, 335, 112, 5, 113, 355, 356, 357, 358, 359, 360, 361, 362, 363, 364, 365, 366, 136, 137, 138] (by decide +kernel) (by decide +kernel)
set_option maxRecDepth 20000 in
theorem ggL_law_X6_openShare_p4 : GoodIn wzL_law wsX6_openShare_r4 := goodIn_r _ [52, 856, 640, 641, 642, 371, 372, 373, 374, 375, 184, 181, 185, 328, 180, 182, 1046, 1047, 1048, 1049, 517, 114, 115, 116] (by decide +kernel) (by decide +kernel)
set_option maxRecDepth 20000 in
theorem ggL_law_X6_openShare_p5 : GoodIn wzL_law wsX6_openShare_r5 := goodIn_r _ [117, 118, 513, 514, 515, 516] (by decide +kernel) (by decide +kernel)
set_option maxRecDepth 20000 in
theorem ggL_law_X6_openShare_p6 : GoodIn wzL_law wsX60 := goodIn_r _ [1098, 1099, 1100, 1101, 1102, 1103, 1104, 1105, 1106, 1107, 1108] (by decide +kernel) (by decide +kernel)
set_option maxRecDepth 20000 in
theorem ggL_law_X6_openShare_p7 : GoodIn wzL_law wsJx354110 := goodIn_r _ [1134, 1135, 1136, 1137] (by decide +kernel) (by decide +kernel)
set_option maxRecDepth 20000 in
theorem ggL_law_X6_openShare_p8 : GoodIn wzL_law wsJx4a65c0 := goodIn_r _ [1116, 1117, 1118] (by decide +kernel) (by decide +kernel)
set_option maxRecDepth 20000 in
theorem ggL_law_X6_openShare_p9 : GoodIn wzL_law wsX50 := goodIn_r _ [1138, 1139, 1140, 1141, 1142, 1143, 1144, 1145, 1146, 1147] (by decide +kernel) (by decide +kernel)
set_option maxRecDepth 20000 in
theorem ggL_law_X6_openShare_p10 : GoodIn wzL_law wsX40 := goodIn_r _ [1148, 1149, 1150, 1151, 1152] (by decide +kernel) (by decide +kernel)
set_option maxRecDepth 20000 in
theorem ggL_law_X6_openShare : GoodIn wzL_law wsX6_openShare := goodIn_app (a := [.code yX6_openShare cX6_openShare 4 (some .float)]) ggL_law_X6_openShare_p0 (goodIn_app (goodIn_app (goodIn_app (goodIn_app (goodIn_app (goodIn_app (goodIn_app ggL_law_X6_openShare_p1 (goodIn_app ggL_law_X6_openShare_p2 (goodIn_app ggL_law_X6_openShare_p3 (goodIn_app ggL_law_X6_openShare_p4 ggL_law_X6_openShare_p5)))) ggL_law_X6_openShare_p6) ggL_law_X6_openShare_p7) ggL_law_X6_openShare_p8) ggL_law_X6_openShare_p9) ggL_law_X6_openShare_p10) (goodIn_sub (fun _ h => (List.mem_append_left _ (List.mem_append_left _ (List.mem_append_left _ (List.mem_append_left _ (List.mem_append_left _ (List.mem_append_left _ (List.mem_append_right _ h)))))))) (by decide +kernel)))
set_option maxRecDepth 20000 in
theorem gL_law_X6_openShare : GoodIn wzL_law (wsV RL 292 RX6 yX6_openShare wsX6_openShare) := goodIn_app (goodIn_of _ (by decide +kernel)) ggL_law_X6_openShare
set_option maxRecDepth 20000 in
theorem ggL_law_L_meanCreep : GoodIn wzL_law wsL_meanCreep := goodIn_ca (goodIn_ca (goodIn_ca (goodIn_r _ [1052, 570, 1035, 1053, 1054, 1055, 2, 1056, 575, 576, 1040, 1041, 191, 192, 193, 194, 24, 23, 98, 99, 100, 597, 598, 599, 202, 600, 210, 1057, 1058, 1059, 1060, 225, 1088, 1089, 1090, 1091, 1092, 1093, 1094, 1095, 1096, 1097, 1119, 1120, 1121, 1122, 1123, 1124, 1125, 1126, 1127, 1128, 1129, 1130, 1131, 1132, 1133] (by decide +kernel) (by decide +kernel)) (goodIn_sub (fun _ h => (List.mem_append_left _ (List.mem_append_left _ (List.mem_append_left _ (List.mem_append_left _ (List.mem_append_left _ (List.mem_append_left _ (List.mem_append_right _ h)))))))) (by decide +kernel))) (goodIn_sub (fun _ h => (List.mem_append_left _ (List.mem_append_right _ h))) (by decide +kernel))) (goodIn_sub (fun _ h => (List.mem_append_right _ h)) (by decide +kernel))
set_option maxRecDepth 20000 in
theorem gL_law_L_meanCreep : GoodIn wzL_law (va_wsS RL 293 yL_meanCreep wsL_meanCreep) := goodIn_app (goodIn_of _ (by decide +kernel)) ggL_law_L_meanCreep
set_option maxRecDepth 20000 in
theorem ggL_law_X6_meanCreep : GoodIn wzL_law wsX6_meanCreep := goodIn_r _ [1064, 60, 277, 750, 751, 752, 5, 753, 513, 514, 515, 59, 516, 517, 111, 112, 113, 114, 115, 116, 117, 118, 614, 615, 616, 617, 618, 619, 620, 621, 622, 623, 624, 625, 626, 627, 628, 629, 65, 639, 640, 641, 319, 642, 327, 1098, 1099, 1100, 1101, 1102, 1103, 1104, 1105, 1106, 1107, 1108, 1138, 1139, 1140, 1141, 1142, 1143, 1144, 1145, 1146, 1147, 1148, 1149, 1150, 1151, 1152, 1116, 1117, 1118] (by decide +kernel) (by decide +kernel)
set_option maxRecDepth 20000 in
theorem gL_law_X6_meanCreep : GoodIn wzL_law (wsV RL 295 RX6 yX6_meanCreep wsX6_meanCreep) := goodIn_app (goodIn_of _ (by decide +kernel)) ggL_law_X6_meanCreep
set_option maxRecDepth 20000 in
theorem ggL_law_X3_checksum : GoodIn wzL_law wsX3_checksum := goodIn_ca (goodIn_r _ [1068, 1069, 24, 1070, 665, 708, 30, 28, 21, 395, 191, 192, 193, 2, 194, 23, 98, 99, 100, 582, 207, 208, 202, 209, 210, 1088, 1089, 1090, 1091, 1092, 1093, 1094, 1095, 1096, 1097, 1119, 1120, 1121, 1122, 1123, 1124, 1125, 1126, 1127, 1128, 1129, 1130, 1131, 1132, 1133, 1113, 1114, 1115] (by decide +kernel) (by decide +kernel)) (goodIn_sub (fun _ h => (List.mem_append_left _ (List.mem_append_left _ (List.mem_append_left _ (List.mem_append_left _ (List.mem_append_left _ (List.mem_append_left _ (List.mem_append_right _ h)))))))) (by decide +kernel))
set_option maxRecDepth 20000 in
theorem gL_law_X3_checksum : GoodIn wzL_law (wsV RL 296 RX3 yX3_checksum wsX3_checksum) := goodIn_app (goodIn_of _ (by decide +kernel)) ggL_law_X3_checksum
set_option maxRecDepth 20000 in
theorem ggL_law_X6_checksum : GoodIn wzL_law wsX6_checksum := goodIn_ca (goodIn_r _ [1074, 118, 612, 60, 277, 1075, 452, 285, 53, 286, 287, 288, 59, 289, 290, 291, 292, 293, 294, 295, 296, 297, 12, 13, 298, 299, 300, 301, 302, 303, 304, 305, 306, 307, 308, 309, 310, 311, 312, 313, 314, 315, 1098, 1099, 1100, 1101, 1102, 1103, 1104, 1105, 1106, 1107, 1108, 1138, 1139, 1140, 1141, 1142, 1143, 1144, 1145, 1146, 1147, 1148, 1149, 1150, 1151, 1152, 1134, 1135, 1136, 1137, 1116, 1117, 1118] (by decide +kernel) (by decide +kernel)) (goodIn_sub (fun _ h => (List.mem_append_left _ (List.mem_append_left _ (List.mem_append_left _ (List.mem_append_left _ (List.mem_append_left _ (List.mem_append_left _ (List.mem_append_right _ h)))))))) (by decide +kernel))
set_option maxRecDepth 20000 in
theorem gL_law_X6_checksum : GoodIn wzL_law (wsV RL 300 RX6 yX6_checksum wsX6_checksum) := goodIn_app (goodIn_of _ (by decide +kernel)) ggL_law_X6_checksum
set_option maxRecDepth 20000 in
theorem ggL_law_X3_isSound : GoodIn wzL_law wsX3_isSound := goodIn_ca (goodIn_r _ [1079, 24, 21, 412, 395, 191, 192, 193, 2, 194, 23, 98, 99, 100, 1080, 1081, 1082, 202, 1083, 205, 239, 240, 241, 242, 243, 244, 245, 206, 207, 208, 209, 210, 246, 247, 248, 249, 250, 251, 252, 253, 254, 255, 256, 257, 1088, 1089, 1090, 1091, 1092, 1093, 1094, 1095, 1096, 1097, 1113, 1114, 1115, 1119, 1120, 1121, 1122, 1123, 1124, 1125, 1126, 1127, 1128, 1129, 1130, 1131, 1132, 1133] (by decide +kernel) (by decide +kernel)) (goodIn_sub (fun _ h => (List.mem_append_left _ (List.mem_append_left _ (List.mem_append_left _ (List.mem_append_left _ (List.mem_append_left _ (List.mem_append_left _ (List.mem_append_right _ h)))))))) (by decide +kernel))
set_option maxRecDepth 20000 in
theorem gL_law_X3_isSound : GoodIn wzL_law (wsV RL 301 RX3 yX3_isSound wsX3_isSound) := goodIn_app (goodIn_of _ (by decide +kernel)) ggL_law_X3_isSound
set_option maxRecDepth 20000 in
theorem ggL_law_X6_isSound : GoodIn wzL_law wsX6_isSound := goodIn_r _ [1087, 118, 1098, 1099, 1100, 1101, 1102, 1103, 1104, 1105, 1106, 1107, 1108] (by decide +kernel) (by decide +kernel)
set_option maxRecDepth 20000 in
theorem gL_law_X6_isSound : GoodIn wzL_law (wsV RL 305 RX6 yX6_isSound wsX6_isSound) := goodIn_app (goodIn_of _ (by decide +kernel)) ggL_law_X6_isSound



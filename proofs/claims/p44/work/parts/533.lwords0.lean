set_option maxRecDepth 20000 in
theorem ggL_law_X3_init : GoodIn wzL_law wsX3_init := goodIn_ca (goodIn_r _ [10, 11, 12, 13, 14, 15, 16, 17, 18, 19, 20, 21, 22, 23, 24, 25, 26, 27, 28, 29, 30, 31, 32, 33, 34, 35, 36, 37, 38, 39, 40, 41, 42, 43, 44, 45, 46, 1105, 1106, 1107, 1108, 1084, 1085, 1086, 1087, 1088, 1089, 1090, 1091, 1092, 1093, 1109, 1110, 1111] (by decide +kernel) (by decide +kernel)) (goodIn_sub (fun _ h => (List.mem_append_left _ (List.mem_append_left _ (List.mem_append_left _ (List.mem_append_left _ (List.mem_append_left _ (List.mem_append_left _ (List.mem_append_right _ h)))))))) (by decide +kernel))
set_option maxRecDepth 20000 in
theorem gL_law_X3_init : GoodIn wzL_law (wsX3_init) := ggL_law_X3_init
set_option maxRecDepth 20000 in
theorem ggL_law_X6_init : GoodIn wzL_law wsX6_init := goodIn_ca (goodIn_r _ [49, 50, 12, 13, 51, 52, 35, 53, 54, 55, 56, 57, 58, 59, 60, 61, 62, 63, 64, 65, 66, 67, 68, 69, 70, 71, 72, 73, 74, 75, 76, 77, 78, 79, 1094, 1095, 1096, 1097, 1098, 1099, 1100, 1101, 1102, 1103, 1104, 1112, 1113, 1114] (by decide +kernel) (by decide +kernel)) (goodIn_sub (fun _ h => (List.mem_append_left _ (List.mem_append_left _ (List.mem_append_left _ (List.mem_append_left _ (List.mem_append_left _ (List.mem_append_left _ (List.mem_append_right _ h)))))))) (by decide +kernel))
set_option maxRecDepth 20000 in
theorem gL_law_X6_init : GoodIn wzL_law (wsX6_init) := ggL_law_X6_init
set_option maxRecDepth 20000 in
theorem ggL_law_L_weather : GoodIn wzL_law wsL_weather := goodIn_ca (goodIn_ca (goodIn_ca (goodIn_r _ [83, 84, 85, 86, 87, 88, 2, 89, 90, 91, 92, 93, 25, 17, 94, 95, 96, 97, 98, 99, 100, 1084, 1085, 1086, 1087, 1088, 1089, 1090, 1091, 1092, 1093, 1105, 1106, 1107, 1108] (by decide +kernel) (by decide +kernel)) (goodIn_sub (fun _ h => (List.mem_append_left _ (List.mem_append_left _ (List.mem_append_left _ (List.mem_append_left _ (List.mem_append_left _ (List.mem_append_left _ (List.mem_append_right _ h)))))))) (by decide +kernel))) (goodIn_sub (fun _ h => (List.mem_append_left _ (List.mem_append_left _ (List.mem_append_left _ (List.mem_append_left _ (List.mem_append_left _ (List.mem_append_right _ h))))))) (by decide +kernel))) (goodIn_sub (fun _ h => (List.mem_append_left _ (List.mem_append_left _ (List.mem_append_left _ (List.mem_append_left _ (List.mem_append_right _ h)))))) (by decide +kernel))
set_option maxRecDepth 20000 in
theorem gL_law_L_weather : GoodIn wzL_law (va_wsS RL 149 yL_weather wsL_weather) := goodIn_app (goodIn_of _ (by decide +kernel)) ggL_law_L_weather
set_option maxRecDepth 20000 in
theorem ggL_law_X6_weather : GoodIn wzL_law wsX6_weather := goodIn_ca (goodIn_r _ [104, 105, 106, 107, 108, 109, 110, 52, 35, 111, 112, 5, 113, 114, 115, 116, 117, 118, 1094, 1095, 1096, 1097, 1098, 1099, 1100, 1101, 1102, 1103, 1104] (by decide +kernel) (by decide +kernel)) (goodIn_sub (fun _ h => (List.mem_append_left _ (List.mem_append_left _ (List.mem_append_left _ (List.mem_append_left _ (List.mem_append_left _ (List.mem_append_left _ (List.mem_append_right _ h)))))))) (by decide +kernel))
set_option maxRecDepth 20000 in
theorem gL_law_X6_weather : GoodIn wzL_law (wsV RL 154 RX6 yX6_weather wsX6_weather) := goodIn_app (goodIn_of _ (by decide +kernel)) ggL_law_X6_weather
set_option maxRecDepth 20000 in
theorem ggL_law_L_warmth : GoodIn wzL_law wsL_warmth := goodIn_ca (goodIn_ca (goodIn_r _ [121, 84, 122, 123, 124, 2, 125, 90, 91, 17, 98, 99, 100, 126, 127, 128, 16, 129, 36, 37, 1084, 1085, 1086, 1087, 1088, 1089, 1090, 1091, 1092, 1093, 1105, 1106, 1107, 1108] (by decide +kernel) (by decide +kernel)) (goodIn_sub (fun _ h => (List.mem_append_left _ (List.mem_append_left _ (List.mem_append_left _ (List.mem_append_left _ (List.mem_append_left _ (List.mem_append_left _ (List.mem_append_right _ h)))))))) (by decide +kernel))) (goodIn_sub (fun _ h => (List.mem_append_left _ (List.mem_append_left _ (List.mem_append_left _ (List.mem_append_left _ (List.mem_append_left _ (List.mem_append_right _ h))))))) (by decide +kernel))
set_option maxRecDepth 20000 in
theorem gL_law_L_warmth : GoodIn wzL_law (va_wsS RL 155 yL_warmth wsL_warmth) := goodIn_app (goodIn_of _ (by decide +kernel)) ggL_law_L_warmth
set_option maxRecDepth 20000 in
theorem ggL_law_X6_warmth : GoodIn wzL_law wsX6_warmth := goodIn_ca (goodIn_r _ [133, 134, 111, 112, 5, 113, 114, 115, 116, 117, 118, 135, 136, 137, 138, 52, 1094, 1095, 1096, 1097, 1098, 1099, 1100, 1101, 1102, 1103, 1104] (by decide +kernel) (by decide +kernel)) (goodIn_sub (fun _ h => (List.mem_append_left _ (List.mem_append_left _ (List.mem_append_left _ (List.mem_append_left _ (List.mem_append_left _ (List.mem_append_left _ (List.mem_append_right _ h)))))))) (by decide +kernel))
set_option maxRecDepth 20000 in
theorem gL_law_X6_warmth : GoodIn wzL_law (wsV RL 158 RX6 yX6_warmth wsX6_warmth) := goodIn_app (goodIn_of _ (by decide +kernel)) ggL_law_X6_warmth
set_option maxRecDepth 20000 in
theorem ggL_law_L_wet : GoodIn wzL_law wsL_wet := goodIn_ca (goodIn_ca (goodIn_r _ [141, 84, 142, 143, 144, 2, 145, 90, 91, 17, 98, 99, 100, 146, 147, 148, 16, 149, 39, 150, 127, 128, 129, 36, 37, 1084, 1085, 1086, 1087, 1088, 1089, 1090, 1091, 1092, 1093, 1105, 1106, 1107, 1108] (by decide +kernel) (by decide +kernel)) (goodIn_sub (fun _ h => (List.mem_append_left _ (List.mem_append_left _ (List.mem_append_left _ (List.mem_append_left _ (List.mem_append_left _ (List.mem_append_left _ (List.mem_append_right _ h)))))))) (by decide +kernel))) (goodIn_sub (fun _ h => (List.mem_append_left _ (List.mem_append_left _ (List.mem_append_left _ (List.mem_append_left _ (List.mem_append_left _ (List.mem_append_right _ h))))))) (by decide +kernel))
set_option maxRecDepth 20000 in
theorem gL_law_L_wet : GoodIn wzL_law (va_wsS RL 159 yL_wet wsL_wet) := goodIn_app (goodIn_of _ (by decide +kernel)) ggL_law_L_wet
set_option maxRecDepth 20000 in
theorem ggL_law_X6_wet : GoodIn wzL_law wsX6_wet := goodIn_ca (goodIn_r _ [154, 155, 111, 112, 5, 113, 114, 115, 116, 117, 118, 156, 157, 158, 159, 52, 135, 136, 137, 138, 1094, 1095, 1096, 1097, 1098, 1099, 1100, 1101, 1102, 1103, 1104] (by decide +kernel) (by decide +kernel)) (goodIn_sub (fun _ h => (List.mem_append_left _ (List.mem_append_left _ (List.mem_append_left _ (List.mem_append_left _ (List.mem_append_left _ (List.mem_append_left _ (List.mem_append_right _ h)))))))) (by decide +kernel))
set_option maxRecDepth 20000 in
theorem gL_law_X6_wet : GoodIn wzL_law (wsV RL 161 RX6 yX6_wet wsX6_wet) := goodIn_app (goodIn_of _ (by decide +kernel)) ggL_law_X6_wet
set_option maxRecDepth 20000 in
theorem ggL_law_L_go_p0 : GoodIn wzL_law [.codeWith yL_go cL_go 4 (some .int) [(0, 9, 12, 13), (0, 9, 15, 27)]] := goodIn_r _ [162] (by decide +kernel) (by decide +kernel)
set_option maxRecDepth 20000 in
theorem ggL_law_L_go_p1 : GoodIn wzL_law wsL_go_r1 := goodIn_r _ [84, 163, 164, 165, 166, 2, 167, 90, 91, 168, 169, 25, 98, 99, 100, 170, 171, 172, 173, 17, 21, 29, 24, 174] (by decide +kernel) (by decide +kernel)
set_option maxRecDepth 20000 in
theorem ggL_law_L_go_p2 : GoodIn wzL_law wsL_go_r2 := goodIn_r _ [30, 126, 127, 128, 16, 129, 36, 37, 175, 176, 177, 20, 178, 44, 179, 180, 181, 182, 45, 183, 184, 185, 146, 147] (by decide +kernel) (by decide +kernel)
set_option maxRecDepth 20000 in
theorem ggL_law_L_go_p3 : GoodIn wzL_law wsL_go_r3 := goodIn_r _ [148, 149, 39, 150, 186, 187, 188, 189, 28, 190, 191, 192, 193, 194, 23, 195, 196, 197, 198, 38, 199, 200, 201, 202] (by decide +kernel) (by decide +kernel)
set_option maxRecDepth 20000 in
theorem ggL_law_L_go_p4 : GoodIn wzL_law wsL_go_r4 := goodIn_r _ [203, 204, 205, 206, 207, 208, 209, 210, 211, 212, 213, 214, 215, 216, 217, 218, 219, 220, 221, 222, 223, 224, 225, 226] (by decide +kernel) (by decide +kernel)
set_option maxRecDepth 20000 in
theorem ggL_law_L_go_p5 : GoodIn wzL_law wsL_go_r5 := goodIn_r _ [227, 228, 229, 230, 231, 232, 233, 234, 235, 236, 237, 238, 239, 240, 241, 242, 243, 244, 245, 246, 247, 248, 249, 250] (by decide +kernel) (by decide +kernel)
set_option maxRecDepth 20000 in
theorem ggL_law_L_go_p6 : GoodIn wzL_law wsL_go_r6 := goodIn_r _ [251, 252, 253, 254, 255, 256, 257, 258, 259, 260, 261, 262, 263, 264, 265, 266, 267, 268, 269, 270, 271] (by decide +kernel) (by decide +kernel)
set_option maxRecDepth 20000 in
theorem ggL_law_L_go_p7 : GoodIn wzL_law wsX30 := goodIn_r _ [1084, 1085, 1086, 1087, 1088, 1089, 1090, 1091, 1092, 1093] (by decide +kernel) (by decide +kernel)
set_option maxRecDepth 20000 in
theorem ggL_law_L_go_p8 : GoodIn wzL_law wsX10 := goodIn_r _ [1115, 1116, 1117, 1118, 1119, 1120, 1121, 1122, 1123, 1124, 1125, 1126, 1127, 1128, 1129] (by decide +kernel) (by decide +kernel)
set_option maxRecDepth 20000 in
theorem ggL_law_L_go_p9 : GoodIn wzL_law wsX20 := goodIn_r _ [1105, 1106, 1107, 1108] (by decide +kernel) (by decide +kernel)
set_option maxRecDepth 20000 in
theorem ggL_law_L_go_p10 : GoodIn wzL_law wsX00 := goodIn_r _ [1109, 1110, 1111] (by decide +kernel) (by decide +kernel)
set_option maxRecDepth 20000 in
theorem ggL_law_L_go : GoodIn wzL_law wsL_go := goodIn_app (a := [.codeWith yL_go cL_go 4 (some .int) [(0, 9, 12, 13), (0, 9, 15, 27)]]) ggL_law_L_go_p0 (goodIn_app (goodIn_app (goodIn_app (goodIn_app (goodIn_app (goodIn_app (goodIn_app (goodIn_app (goodIn_app ggL_law_L_go_p1 (goodIn_app ggL_law_L_go_p2 (goodIn_app ggL_law_L_go_p3 (goodIn_app ggL_law_L_go_p4 (goodIn_app ggL_law_L_go_p5 ggL_law_L_go_p6))))) ggL_law_L_go_p7) ggL_law_L_go_p8) ggL_law_L_go_p9) ggL_law_L_go_p10) (goodIn_sub (fun _ h => (List.mem_append_left _ (List.mem_append_left _ (List.mem_append_left _ (List.mem_append_left _ (List.mem_append_left _ (List.mem_append_left _ (List.mem_append_right _ h)))))))) (by decide +kernel))) (goodIn_sub (fun _ h => (List.mem_append_left _ (List.mem_append_left _ (List.mem_append_left _ (List.mem_append_left _ (List.mem_append_left _ (List.mem_append_right _ h))))))) (by decide +kernel))) (goodIn_sub (fun _ h => (List.mem_append_left _ (List.mem_append_left _ (List.mem_append_left _ (List.mem_append_right _ h))))) (by decide +kernel))) (goodIn_sub (fun _ h => (List.mem_append_left _ (List.mem_append_left _ (List.mem_append_right _ h)))) (by decide +kernel)))
set_option maxRecDepth 20000 in
theorem gL_law_L_go : GoodIn wzL_law (va_wsS RL 162 yL_go wsL_go) := goodIn_app (goodIn_of _ (by decide +kernel)) ggL_law_L_go
set_option maxRecDepth 20000 in
theorem ggL_law_X6_go_p0 : GoodIn wzL_law [.code yX6_go cX6_go 6 (some .int)] := goodIn_r _ [275] (by decide +kernel) (by decide +kernel)
set_option maxRecDepth 20000 in
theorem ggL_law_X6_go_p1 : GoodIn wzL_law wsX6_go_r1 := goodIn_r _ [276, 110, 60, 277, 111, 112, 5, 113, 114, 115, 116, 117, 118, 135, 136, 137, 138, 52, 278, 279, 280, 281, 53, 282] (by decide +kernel) (by decide +kernel)
set_option maxRecDepth 20000 in
theorem ggL_law_X6_go_p2 : GoodIn wzL_law wsX6_go_r2 := goodIn_r _ [184, 181, 185, 54, 283, 180, 182, 284, 285, 156, 157, 158, 159, 286, 287, 288, 59, 289, 290, 291, 292, 293, 294, 295] (by decide +kernel) (by decide +kernel)
set_option maxRecDepth 20000 in
theorem ggL_law_X6_go_p3 : GoodIn wzL_law wsX6_go_r3 := goodIn_r _ [296, 297, 12, 13, 298, 299, 300, 301, 302, 303, 304, 305, 306, 307, 308, 309, 310, 311, 312, 313, 314, 315, 316, 317] (by decide +kernel) (by decide +kernel)
set_option maxRecDepth 20000 in
theorem ggL_law_X6_go_p4 : GoodIn wzL_law wsX6_go_r4 := goodIn_r _ [318, 319, 320, 321, 322, 323, 324, 325, 326, 327, 328, 329, 330, 331, 332, 333, 334, 335, 336, 337, 338, 339, 340, 341] (by decide +kernel) (by decide +kernel)
set_option maxRecDepth 20000 in
theorem ggL_law_X6_go_p5 : GoodIn wzL_law wsX6_go_r5 := goodIn_r _ [342, 343, 344, 345, 346, 347, 348, 349, 350, 351, 352, 353, 354, 35, 355, 356, 357, 358, 359, 360, 361, 362, 363, 364] (by decide +kernel) (by decide +kernel)
set_option maxRecDepth 20000 in
theorem ggL_law_X6_go_p6 : GoodIn wzL_law wsX6_go_r6 := goodIn_r _ [365, 366, 367, 368, 369, 370, 371, 372, 373, 374, 375] (by decide +kernel) (by decide +kernel)
set_option maxRecDepth 20000 in
theorem ggL_law_X6_go_p7 : GoodIn wzL_law wsX60 := goodIn_r _ [1094, 1095, 1096, 1097, 1098, 1099, 1100, 1101, 1102, 1103, 1104] (by decide +kernel) (by decide +kernel)
set_option maxRecDepth 20000 in
theorem ggL_law_X6_go_p8 : GoodIn wzL_law wsJx354110 := goodIn_r _ [1130, 1131, 1132, 1133] (by decide +kernel) (by decide +kernel)
set_option maxRecDepth 20000 in
theorem ggL_law_X6_go_p9 : GoodIn wzL_law wsJx4a65c0 := goodIn_r _ [1112, 1113, 1114] (by decide +kernel) (by decide +kernel)
set_option maxRecDepth 20000 in
theorem ggL_law_X6_go_p10 : GoodIn wzL_law wsX50 := goodIn_r _ [1134, 1135, 1136, 1137, 1138, 1139, 1140, 1141, 1142, 1143] (by decide +kernel) (by decide +kernel)
set_option maxRecDepth 20000 in
theorem ggL_law_X6_go_p11 : GoodIn wzL_law wsX40 := goodIn_r _ [1144, 1145, 1146, 1147, 1148] (by decide +kernel) (by decide +kernel)
set_option maxRecDepth 20000 in
theorem ggL_law_X6_go : GoodIn wzL_law wsX6_go := goodIn_app (a := [.code yX6_go cX6_go 6 (some .int)]) ggL_law_X6_go_p0 (goodIn_app (goodIn_app (goodIn_app (goodIn_app (goodIn_app (goodIn_app (goodIn_app (goodIn_app ggL_law_X6_go_p1 (goodIn_app ggL_law_X6_go_p2 (goodIn_app ggL_law_X6_go_p3 (goodIn_app ggL_law_X6_go_p4 (goodIn_app ggL_law_X6_go_p5 ggL_law_X6_go_p6))))) ggL_law_X6_go_p7) ggL_law_X6_go_p8) ggL_law_X6_go_p9) ggL_law_X6_go_p10) ggL_law_X6_go_p11) (goodIn_sub (fun _ h => (List.mem_append_left _ (List.mem_append_left _ (List.mem_append_left _ (List.mem_append_left _ (List.mem_append_left _ (List.mem_append_left _ (List.mem_append_right _ h)))))))) (by decide +kernel))) (goodIn_sub (fun _ h => (List.mem_append_left _ (List.mem_append_left _ (List.mem_append_right _ h)))) (by decide +kernel)))
set_option maxRecDepth 20000 in
theorem gL_law_X6_go : GoodIn wzL_law (wsV RL 164 RX6 yX6_go wsX6_go) := goodIn_app (goodIn_of _ (by decide +kernel)) ggL_law_X6_go
set_option maxRecDepth 20000 in
theorem ggL_law_X3_now : GoodIn wzL_law wsX3_now := goodIn_r _ [379, 25, 1084, 1085, 1086, 1087, 1088, 1089, 1090, 1091, 1092, 1093] (by decide +kernel) (by decide +kernel)
set_option maxRecDepth 20000 in
theorem gL_law_X3_now : GoodIn wzL_law (wsV RL 165 RX3 yX3_now wsX3_now) := goodIn_app (goodIn_of _ (by decide +kernel)) ggL_law_X3_now
set_option maxRecDepth 20000 in
theorem ggL_law_X6_now : GoodIn wzL_law wsX6_now := goodIn_r _ [383, 118, 110, 1094, 1095, 1096, 1097, 1098, 1099, 1100, 1101, 1102, 1103, 1104] (by decide +kernel) (by decide +kernel)
set_option maxRecDepth 20000 in
theorem gL_law_X6_now : GoodIn wzL_law (wsV RL 168 RX6 yX6_now wsX6_now) := goodIn_app (goodIn_of _ (by decide +kernel)) ggL_law_X6_now
set_option maxRecDepth 20000 in
theorem ggL_law_L_ice : GoodIn wzL_law wsL_ice := goodIn_ca (goodIn_ca (goodIn_r _ [386, 84, 387, 388, 389, 2, 390, 90, 91, 21, 391, 98, 99, 100, 1084, 1085, 1086, 1087, 1088, 1089, 1090, 1091, 1092, 1093, 1109, 1110, 1111] (by decide +kernel) (by decide +kernel)) (goodIn_sub (fun _ h => (List.mem_append_left _ (List.mem_append_left _ (List.mem_append_left _ (List.mem_append_left _ (List.mem_append_left _ (List.mem_append_left _ (List.mem_append_right _ h)))))))) (by decide +kernel))) (goodIn_sub (fun _ h => (List.mem_append_left _ (List.mem_append_left _ (List.mem_append_left _ (List.mem_append_left _ (List.mem_append_left _ (List.mem_append_right _ h))))))) (by decide +kernel))
set_option maxRecDepth 20000 in
theorem gL_law_L_ice : GoodIn wzL_law (va_wsS RL 169 yL_ice wsL_ice) := goodIn_app (goodIn_of _ (by decide +kernel)) ggL_law_L_ice
set_option maxRecDepth 20000 in
theorem ggL_law_X6_ice : GoodIn wzL_law wsX6_ice := goodIn_ca (goodIn_r _ [395, 53, 396, 397, 398, 5, 399, 400, 111, 112, 113, 114, 115, 116, 117, 118, 1094, 1095, 1096, 1097, 1098, 1099, 1100, 1101, 1102, 1103, 1104] (by decide +kernel) (by decide +kernel)) (goodIn_sub (fun _ h => (List.mem_append_left _ (List.mem_append_left _ (List.mem_append_left _ (List.mem_append_left _ (List.mem_append_left _ (List.mem_append_left _ (List.mem_append_right _ h)))))))) (by decide +kernel))
set_option maxRecDepth 20000 in
theorem gL_law_X6_ice : GoodIn wzL_law (wsV RL 171 RX6 yX6_ice wsX6_ice) := goodIn_app (goodIn_of _ (by decide +kernel)) ggL_law_X6_ice
set_option maxRecDepth 20000 in
theorem ggL_law_L_clear : GoodIn wzL_law wsL_clear := goodIn_ca (goodIn_ca (goodIn_r _ [403, 84, 404, 405, 406, 2, 407, 90, 91, 21, 408, 98, 99, 100, 1084, 1085, 1086, 1087, 1088, 1089, 1090, 1091, 1092, 1093, 1109, 1110, 1111] (by decide +kernel) (by decide +kernel)) (goodIn_sub (fun _ h => (List.mem_append_left _ (List.mem_append_left _ (List.mem_append_left _ (List.mem_append_left _ (List.mem_append_left _ (List.mem_append_left _ (List.mem_append_right _ h)))))))) (by decide +kernel))) (goodIn_sub (fun _ h => (List.mem_append_left _ (List.mem_append_left _ (List.mem_append_left _ (List.mem_append_left _ (List.mem_append_left _ (List.mem_append_right _ h))))))) (by decide +kernel))
set_option maxRecDepth 20000 in
theorem gL_law_L_clear : GoodIn wzL_law (va_wsS RL 172 yL_clear wsL_clear) := goodIn_app (goodIn_of _ (by decide +kernel)) ggL_law_L_clear
set_option maxRecDepth 20000 in
theorem ggL_law_X6_clear : GoodIn wzL_law wsX6_clear := goodIn_ca (goodIn_r _ [412, 54, 396, 397, 398, 5, 399, 400, 111, 112, 113, 114, 115, 116, 117, 118, 1094, 1095, 1096, 1097, 1098, 1099, 1100, 1101, 1102, 1103, 1104] (by decide +kernel) (by decide +kernel)) (goodIn_sub (fun _ h => (List.mem_append_left _ (List.mem_append_left _ (List.mem_append_left _ (List.mem_append_left _ (List.mem_append_left _ (List.mem_append_left _ (List.mem_append_right _ h)))))))) (by decide +kernel))
set_option maxRecDepth 20000 in
theorem gL_law_X6_clear : GoodIn wzL_law (wsV RL 174 RX6 yX6_clear wsX6_clear) := goodIn_app (goodIn_of _ (by decide +kernel)) ggL_law_X6_clear
set_option maxRecDepth 20000 in
theorem ggL_law_L_bears : GoodIn wzL_law wsL_bears := goodIn_ca (goodIn_ca (goodIn_r _ [415, 84, 416, 417, 418, 2, 419, 90, 91, 21, 98, 99, 100, 420, 421, 422, 20, 423, 44, 46, 1084, 1085, 1086, 1087, 1088, 1089, 1090, 1091, 1092, 1093, 1109, 1110, 1111] (by decide +kernel) (by decide +kernel)) (goodIn_sub (fun _ h => (List.mem_append_left _ (List.mem_append_left _ (List.mem_append_left _ (List.mem_append_left _ (List.mem_append_left _ (List.mem_append_left _ (List.mem_append_right _ h)))))))) (by decide +kernel))) (goodIn_sub (fun _ h => (List.mem_append_left _ (List.mem_append_left _ (List.mem_append_left _ (List.mem_append_left _ (List.mem_append_left _ (List.mem_append_right _ h))))))) (by decide +kernel))
set_option maxRecDepth 20000 in
theorem gL_law_L_bears : GoodIn wzL_law (va_wsS RL 175 yL_bears wsL_bears) := goodIn_app (goodIn_of _ (by decide +kernel)) ggL_law_L_bears
set_option maxRecDepth 20000 in
theorem ggL_law_X6_bears : GoodIn wzL_law wsX6_bears := goodIn_ca (goodIn_r _ [427, 396, 397, 398, 5, 399, 400, 111, 112, 113, 114, 115, 116, 117, 118, 428, 429, 430, 431, 53, 55, 1094, 1095, 1096, 1097, 1098, 1099, 1100, 1101, 1102, 1103, 1104] (by decide +kernel) (by decide +kernel)) (goodIn_sub (fun _ h => (List.mem_append_left _ (List.mem_append_left _ (List.mem_append_left _ (List.mem_append_left _ (List.mem_append_left _ (List.mem_append_left _ (List.mem_append_right _ h)))))))) (by decide +kernel))
set_option maxRecDepth 20000 in
theorem gL_law_X6_bears : GoodIn wzL_law (wsV RL 177 RX6 yX6_bears wsX6_bears) := goodIn_app (goodIn_of _ (by decide +kernel)) ggL_law_X6_bears
set_option maxRecDepth 20000 in
theorem ggL_law_L_cut : GoodIn wzL_law wsL_cut := goodIn_ca (goodIn_ca (goodIn_ca (goodIn_ca (goodIn_r _ [434, 84, 85, 163, 435, 436, 437, 2, 438, 90, 91, 92, 93, 168, 169, 21, 391, 439, 26, 27, 30, 98, 99, 100, 420, 421, 422, 20, 423, 44, 46, 440, 441, 442, 443, 45, 1084, 1085, 1086, 1087, 1088, 1089, 1090, 1091, 1092, 1093, 1109, 1110, 1111] (by decide +kernel) (by decide +kernel)) (goodIn_sub (fun _ h => (List.mem_append_left _ (List.mem_append_left _ (List.mem_append_left _ (List.mem_append_left _ (List.mem_append_left _ (List.mem_append_left _ (List.mem_append_right _ h)))))))) (by decide +kernel))) (goodIn_sub (fun _ h => (List.mem_append_left _ (List.mem_append_left _ (List.mem_append_left _ (List.mem_append_left _ (List.mem_append_left _ (List.mem_append_right _ h))))))) (by decide +kernel))) (goodIn_sub (fun _ h => (List.mem_append_left _ (List.mem_append_left _ (List.mem_append_left _ (List.mem_append_left _ (List.mem_append_right _ h)))))) (by decide +kernel))) (goodIn_sub (fun _ h => (List.mem_append_left _ (List.mem_append_left _ (List.mem_append_left _ (List.mem_append_right _ h))))) (by decide +kernel))
set_option maxRecDepth 20000 in
theorem gL_law_L_cut : GoodIn wzL_law (va_wsS RL 178 yL_cut wsL_cut) := goodIn_app (goodIn_of _ (by decide +kernel)) ggL_law_L_cut
set_option maxRecDepth 20000 in
theorem ggL_law_X6_cut : GoodIn wzL_law wsX6_cut := goodIn_ca (goodIn_r _ [447, 105, 53, 55, 56, 54, 448, 396, 397, 398, 5, 399, 400, 111, 112, 113, 114, 115, 116, 117, 118, 428, 429, 430, 431, 1094, 1095, 1096, 1097, 1098, 1099, 1100, 1101, 1102, 1103, 1104] (by decide +kernel) (by decide +kernel)) (goodIn_sub (fun _ h => (List.mem_append_left _ (List.mem_append_left _ (List.mem_append_left _ (List.mem_append_left _ (List.mem_append_left _ (List.mem_append_left _ (List.mem_append_right _ h)))))))) (by decide +kernel))
set_option maxRecDepth 20000 in
theorem gL_law_X6_cut : GoodIn wzL_law (wsV RL 181 RX6 yX6_cut wsX6_cut) := goodIn_app (goodIn_of _ (by decide +kernel)) ggL_law_X6_cut
set_option maxRecDepth 20000 in
theorem ggL_law_X3_yard : GoodIn wzL_law wsX3_yard := goodIn_r _ [452, 26, 27, 1084, 1085, 1086, 1087, 1088, 1089, 1090, 1091, 1092, 1093] (by decide +kernel) (by decide +kernel)
set_option maxRecDepth 20000 in
theorem gL_law_X3_yard : GoodIn wzL_law (wsV RL 182 RX3 yX3_yard wsX3_yard) := goodIn_app (goodIn_of _ (by decide +kernel)) ggL_law_X3_yard
set_option maxRecDepth 20000 in
theorem ggL_law_X6_yard : GoodIn wzL_law wsX6_yard := goodIn_ca (goodIn_r _ [456, 118, 56, 1094, 1095, 1096, 1097, 1098, 1099, 1100, 1101, 1102, 1103, 1104] (by decide +kernel) (by decide +kernel)) (goodIn_sub (fun _ h => (List.mem_append_left _ (List.mem_append_left _ (List.mem_append_left _ (List.mem_append_left _ (List.mem_append_left _ (List.mem_append_left _ (List.mem_append_right _ h)))))))) (by decide +kernel))
set_option maxRecDepth 20000 in
theorem gL_law_X6_yard : GoodIn wzL_law (wsV RL 186 RX6 yX6_yard wsX6_yard) := goodIn_app (goodIn_of _ (by decide +kernel)) ggL_law_X6_yard
set_option maxRecDepth 20000 in
theorem ggL_law_L_lorries : GoodIn wzL_law wsL_lorries := goodIn_ca (goodIn_ca (goodIn_r _ [459, 84, 460, 461, 462, 2, 463, 90, 91, 30, 28, 98, 99, 100, 186, 187, 188, 189, 190, 184, 181, 185, 1084, 1085, 1086, 1087, 1088, 1089, 1090, 1091, 1092, 1093] (by decide +kernel) (by decide +kernel)) (goodIn_sub (fun _ h => (List.mem_append_left _ (List.mem_append_left _ (List.mem_append_left _ (List.mem_append_left _ (List.mem_append_left _ (List.mem_append_left _ (List.mem_append_right _ h)))))))) (by decide +kernel))) (goodIn_sub (fun _ h => (List.mem_append_left _ (List.mem_append_left _ (List.mem_append_left _ (List.mem_append_left _ (List.mem_append_left _ (List.mem_append_right _ h))))))) (by decide +kernel))
set_option maxRecDepth 20000 in
theorem gL_law_L_lorries : GoodIn wzL_law (va_wsS RL 187 yL_lorries wsL_lorries) := goodIn_app (goodIn_of _ (by decide +kernel)) ggL_law_L_lorries
set_option maxRecDepth 20000 in
theorem ggL_law_X6_lorries : GoodIn wzL_law wsX6_lorries := goodIn_r _ [467, 105, 285, 282, 184, 181, 185, 448, 111, 112, 5, 113, 114, 115, 116, 117, 118, 1094, 1095, 1096, 1097, 1098, 1099, 1100, 1101, 1102, 1103, 1104] (by decide +kernel) (by decide +kernel)
set_option maxRecDepth 20000 in
theorem gL_law_X6_lorries : GoodIn wzL_law (wsV RL 189 RX6 yX6_lorries wsX6_lorries) := goodIn_app (goodIn_of _ (by decide +kernel)) ggL_law_X6_lorries
set_option maxRecDepth 20000 in
theorem ggL_law_X3_machine : GoodIn wzL_law wsX3_machine := goodIn_r _ [471, 29, 1084, 1085, 1086, 1087, 1088, 1089, 1090, 1091, 1092, 1093] (by decide +kernel) (by decide +kernel)
set_option maxRecDepth 20000 in
theorem gL_law_X3_machine : GoodIn wzL_law (wsV RL 190 RX3 yX3_machine wsX3_machine) := goodIn_app (goodIn_of _ (by decide +kernel)) ggL_law_X3_machine
set_option maxRecDepth 20000 in
theorem ggL_law_X6_machine : GoodIn wzL_law wsX6_machine := goodIn_r _ [475, 118, 284, 1094, 1095, 1096, 1097, 1098, 1099, 1100, 1101, 1102, 1103, 1104] (by decide +kernel) (by decide +kernel)
set_option maxRecDepth 20000 in
theorem gL_law_X6_machine : GoodIn wzL_law (wsV RL 194 RX6 yX6_machine wsX6_machine) := goodIn_app (goodIn_of _ (by decide +kernel)) ggL_law_X6_machine
set_option maxRecDepth 20000 in
theorem ggL_law_X3_snow : GoodIn wzL_law wsX3_snow := goodIn_r _ [479, 28, 1084, 1085, 1086, 1087, 1088, 1089, 1090, 1091, 1092, 1093] (by decide +kernel) (by decide +kernel)
set_option maxRecDepth 20000 in
theorem gL_law_X3_snow : GoodIn wzL_law (wsV RL 195 RX3 yX3_snow wsX3_snow) := goodIn_app (goodIn_of _ (by decide +kernel)) ggL_law_X3_snow
set_option maxRecDepth 20000 in
theorem ggL_law_X6_snow : GoodIn wzL_law wsX6_snow := goodIn_r _ [483, 118, 285, 1094, 1095, 1096, 1097, 1098, 1099, 1100, 1101, 1102, 1103, 1104] (by decide +kernel) (by decide +kernel)
set_option maxRecDepth 20000 in
theorem gL_law_X6_snow : GoodIn wzL_law (wsV RL 198 RX6 yX6_snow wsX6_snow) := goodIn_app (goodIn_of _ (by decide +kernel)) ggL_law_X6_snow
set_option maxRecDepth 20000 in
theorem ggL_law_L_site : GoodIn wzL_law wsL_site := goodIn_ca (goodIn_ca (goodIn_r _ [486, 163, 487, 488, 489, 2, 490, 168, 169, 24, 23, 22, 491, 202, 492, 493, 494, 495, 12, 13, 496, 210, 35, 205, 225, 226, 322, 227, 497, 239, 204, 498, 216, 215, 499, 500, 501, 502, 1084, 1085, 1086, 1087, 1088, 1089, 1090, 1091, 1092, 1093, 1115, 1116, 1117, 1118, 1119, 1120, 1121, 1122, 1123, 1124, 1125, 1126, 1127, 1128, 1129] (by decide +kernel) (by decide +kernel)) (goodIn_sub (fun _ h => (List.mem_append_left _ (List.mem_append_left _ (List.mem_append_left _ (List.mem_append_left _ (List.mem_append_left _ (List.mem_append_left _ (List.mem_append_right _ h)))))))) (by decide +kernel))) (goodIn_sub (fun _ h => (List.mem_append_left _ (List.mem_append_left _ (List.mem_append_left _ (List.mem_append_right _ h))))) (by decide +kernel))
set_option maxRecDepth 20000 in
theorem gL_law_L_site : GoodIn wzL_law (va_wsS RL 199 yL_site wsL_site) := goodIn_app (goodIn_of _ (by decide +kernel)) ggL_law_L_site
set_option maxRecDepth 20000 in
theorem ggL_law_X6_site_p0 : GoodIn wzL_law [.code yX6_site cX6_site 1 (some .int)] := goodIn_r _ [506] (by decide +kernel) (by decide +kernel)
set_option maxRecDepth 20000 in
theorem ggL_law_X6_site_p1 : GoodIn wzL_law wsX6_site_r1 := goodIn_r _ [60, 507, 508, 319, 509, 510, 511, 59, 512, 513, 114, 115, 116, 5, 117, 118, 514, 515, 323, 516, 12, 13, 327, 321] (by decide +kernel) (by decide +kernel)
set_option maxRecDepth 20000 in
theorem ggL_law_X6_site_p2 : GoodIn wzL_law wsX6_site_r2 := goodIn_r _ [322, 517, 340, 518, 519, 520, 521, 522, 300, 65, 523, 524, 525, 526, 527, 528, 529, 530, 531, 532, 533, 534, 64, 535] (by decide +kernel) (by decide +kernel)
set_option maxRecDepth 20000 in
theorem ggL_law_X6_site_p3 : GoodIn wzL_law wsX6_site_r3 := goodIn_r _ [180, 181, 182, 536, 537, 538, 539, 540, 541, 542, 543, 544, 545, 546, 547, 78, 548, 549, 550, 551, 552, 553, 554, 555] (by decide +kernel) (by decide +kernel)
set_option maxRecDepth 20000 in
theorem ggL_law_X6_site_p4 : GoodIn wzL_law wsX6_site_r4 := goodIn_r _ [556, 557, 558, 184, 185, 559, 560, 561, 562] (by decide +kernel) (by decide +kernel)
set_option maxRecDepth 20000 in
theorem ggL_law_X6_site_p5 : GoodIn wzL_law wsX60 := goodIn_r _ [1094, 1095, 1096, 1097, 1098, 1099, 1100, 1101, 1102, 1103, 1104] (by decide +kernel) (by decide +kernel)
set_option maxRecDepth 20000 in
theorem ggL_law_X6_site_p6 : GoodIn wzL_law wsX50 := goodIn_r _ [1134, 1135, 1136, 1137, 1138, 1139, 1140, 1141, 1142, 1143] (by decide +kernel) (by decide +kernel)
set_option maxRecDepth 20000 in
theorem ggL_law_X6_site_p7 : GoodIn wzL_law wsJx4a65c0 := goodIn_r _ [1112, 1113, 1114] (by decide +kernel) (by decide +kernel)
set_option maxRecDepth 20000 in
theorem ggL_law_X6_site : GoodIn wzL_law wsX6_site := goodIn_app (a := [.code yX6_site cX6_site 1 (some .int)]) ggL_law_X6_site_p0 (goodIn_app (goodIn_app (goodIn_app (goodIn_app ggL_law_X6_site_p1 (goodIn_app ggL_law_X6_site_p2 (goodIn_app ggL_law_X6_site_p3 ggL_law_X6_site_p4))) ggL_law_X6_site_p5) ggL_law_X6_site_p6) ggL_law_X6_site_p7)
set_option maxRecDepth 20000 in
theorem gL_law_X6_site : GoodIn wzL_law (wsV RL 202 RX6 yX6_site wsX6_site) := goodIn_app (goodIn_of _ (by decide +kernel)) ggL_law_X6_site
set_option maxRecDepth 20000 in
theorem ggL_law_L_put_p0 : GoodIn wzL_law [.codeWith yL_put cL_put 7 (some .int) [(0, 14, 17, 54), (0, 14, 21, 13), (0, 14, 25, 15), (0, 14, 29, 27)]] := goodIn_r _ [565] (by decide +kernel) (by decide +kernel)
set_option maxRecDepth 20000 in
theorem ggL_law_L_put_p1 : GoodIn wzL_law wsL_put_r1 := goodIn_r _ [566, 84, 85, 163, 567, 568, 569, 2, 570, 571, 572, 90, 91, 92, 93, 168, 169, 30, 573, 574, 575, 576, 98, 99] (by decide +kernel) (by decide +kernel)
set_option maxRecDepth 20000 in
theorem ggL_law_L_put_p2 : GoodIn wzL_law wsL_put_r2 := goodIn_r _ [100, 191, 192, 193, 194, 24, 23, 577, 244, 245, 578, 207, 208, 202, 209, 210, 579, 255, 256, 257, 250, 251, 252, 253] (by decide +kernel) (by decide +kernel)
set_option maxRecDepth 20000 in
theorem ggL_law_L_put_p3 : GoodIn wzL_law wsL_put_r3 := goodIn_r _ [246, 247, 248, 249, 206, 580, 581, 582, 583, 28, 26, 27, 584, 585, 586, 587, 588, 222, 223, 224, 205, 225, 226, 227] (by decide +kernel) (by decide +kernel)
set_option maxRecDepth 20000 in
theorem ggL_law_L_put_p4 : GoodIn wzL_law wsL_put_r4 := goodIn_r _ [228, 229, 230, 589, 590, 591, 592, 17, 25, 126, 127, 128, 16, 129, 36, 37, 231, 232, 233, 234, 235, 236, 237, 238] (by decide +kernel) (by decide +kernel)
set_option maxRecDepth 20000 in
theorem ggL_law_L_put_p5 : GoodIn wzL_law wsL_put_r5 := goodIn_r _ [204, 239, 240, 241, 242, 243, 254, 258, 259, 260, 261, 262, 184, 181, 185, 263, 180, 182, 264, 265, 266, 211, 212, 213] (by decide +kernel) (by decide +kernel)
set_option maxRecDepth 20000 in
theorem ggL_law_L_put_p6 : GoodIn wzL_law wsL_put_r6 := goodIn_r _ [214, 215, 216, 217, 218, 219, 220, 221, 593, 594, 595, 596] (by decide +kernel) (by decide +kernel)
set_option maxRecDepth 20000 in
theorem ggL_law_L_put_p7 : GoodIn wzL_law wsX30 := goodIn_r _ [1084, 1085, 1086, 1087, 1088, 1089, 1090, 1091, 1092, 1093] (by decide +kernel) (by decide +kernel)
set_option maxRecDepth 20000 in
theorem ggL_law_L_put_p8 : GoodIn wzL_law wsX10 := goodIn_r _ [1115, 1116, 1117, 1118, 1119, 1120, 1121, 1122, 1123, 1124, 1125, 1126, 1127, 1128, 1129] (by decide +kernel) (by decide +kernel)
set_option maxRecDepth 20000 in
theorem ggL_law_L_put_p9 : GoodIn wzL_law wsX20 := goodIn_r _ [1105, 1106, 1107, 1108] (by decide +kernel) (by decide +kernel)
set_option maxRecDepth 20000 in
theorem ggL_law_L_put : GoodIn wzL_law wsL_put := goodIn_app (a := [.codeWith yL_put cL_put 7 (some .int) [(0, 14, 17, 54), (0, 14, 21, 13), (0, 14, 25, 15), (0, 14, 29, 27)]]) ggL_law_L_put_p0 (goodIn_app (goodIn_app (goodIn_app (goodIn_app (goodIn_app (goodIn_app (goodIn_app (goodIn_app (goodIn_app ggL_law_L_put_p1 (goodIn_app ggL_law_L_put_p2 (goodIn_app ggL_law_L_put_p3 (goodIn_app ggL_law_L_put_p4 (goodIn_app ggL_law_L_put_p5 ggL_law_L_put_p6))))) ggL_law_L_put_p7) ggL_law_L_put_p8) ggL_law_L_put_p9) (goodIn_sub (fun _ h => (List.mem_append_left _ (List.mem_append_left _ (List.mem_append_left _ (List.mem_append_left _ (List.mem_append_left _ (List.mem_append_left _ (List.mem_append_right _ h)))))))) (by decide +kernel))) (goodIn_sub (fun _ h => (List.mem_append_left _ (List.mem_append_right _ h))) (by decide +kernel))) (goodIn_sub (fun _ h => (List.mem_append_left _ (List.mem_append_left _ (List.mem_append_left _ (List.mem_append_left _ (List.mem_append_left _ (List.mem_append_right _ h))))))) (by decide +kernel))) (goodIn_sub (fun _ h => (List.mem_append_left _ (List.mem_append_left _ (List.mem_append_left _ (List.mem_append_left _ (List.mem_append_right _ h)))))) (by decide +kernel))) (goodIn_sub (fun _ h => (List.mem_append_left _ (List.mem_append_left _ (List.mem_append_left _ (List.mem_append_right _ h))))) (by decide +kernel)))
set_option maxRecDepth 20000 in
theorem gL_law_L_put : GoodIn wzL_law (va_wsS RL 203 yL_put wsL_put) := goodIn_app (goodIn_of _ (by decide +kernel)) ggL_law_L_put
set_option maxRecDepth 20000 in
theorem ggL_law_X6_put_p0 : GoodIn wzL_law [.code yX6_put cX6_put 7 (some .int)] := goodIn_r _ [600] (by decide +kernel) (by decide +kernel)
set_option maxRecDepth 20000 in
theorem ggL_law_X6_put_p1 : GoodIn wzL_law wsX6_put_r1 := goodIn_r _ [60, 277, 285, 56, 448, 601, 602, 603, 110, 604, 605, 606, 5, 607, 608, 609, 509, 510, 511, 59, 512, 513, 111, 112] (by decide +kernel) (by decide +kernel)
set_option maxRecDepth 20000 in
theorem ggL_law_X6_put_p2 : GoodIn wzL_law wsX6_put_r2 := goodIn_r _ [113, 114, 115, 116, 117, 118, 610, 611, 612, 613, 614, 615, 616, 617, 618, 619, 620, 621, 622, 623, 624, 625, 65, 626] (by decide +kernel) (by decide +kernel)
set_option maxRecDepth 20000 in
theorem ggL_law_X6_put_p3 : GoodIn wzL_law wsX6_put_r3 := goodIn_r _ [331, 332, 319, 333, 334, 335, 327, 627, 368, 369, 370, 330, 359, 360, 361, 362, 363, 364, 365, 366, 628, 629, 630, 631] (by decide +kernel) (by decide +kernel)
set_option maxRecDepth 20000 in
theorem ggL_law_X6_put_p4 : GoodIn wzL_law wsX6_put_r4 := goodIn_r _ [12, 13, 632, 633, 135, 136, 137, 138, 52, 634, 343, 344, 345, 346, 347, 348, 349, 321, 322, 350, 351, 352, 353, 354] (by decide +kernel) (by decide +kernel)
set_option maxRecDepth 20000 in
theorem ggL_law_X6_put_p5 : GoodIn wzL_law wsX6_put_r5 := goodIn_r _ [35, 355, 356, 357, 358, 367, 371, 372, 373, 374, 375, 184, 181, 185, 328, 180, 182, 336, 337, 338, 339, 340, 341, 323] (by decide +kernel) (by decide +kernel)
set_option maxRecDepth 20000 in
theorem ggL_law_X6_put_p6 : GoodIn wzL_law wsX6_put_r6 := goodIn_r _ [635, 636, 637, 638] (by decide +kernel) (by decide +kernel)
set_option maxRecDepth 20000 in
theorem ggL_law_X6_put_p7 : GoodIn wzL_law wsX60 := goodIn_r _ [1094, 1095, 1096, 1097, 1098, 1099, 1100, 1101, 1102, 1103, 1104] (by decide +kernel) (by decide +kernel)
set_option maxRecDepth 20000 in
theorem ggL_law_X6_put_p8 : GoodIn wzL_law wsX50 := goodIn_r _ [1134, 1135, 1136, 1137, 1138, 1139, 1140, 1141, 1142, 1143] (by decide +kernel) (by decide +kernel)
set_option maxRecDepth 20000 in
theorem ggL_law_X6_put_p9 : GoodIn wzL_law wsX40 := goodIn_r _ [1144, 1145, 1146, 1147, 1148] (by decide +kernel) (by decide +kernel)
set_option maxRecDepth 20000 in
theorem ggL_law_X6_put_p10 : GoodIn wzL_law wsJx4a65c0 := goodIn_r _ [1112, 1113, 1114] (by decide +kernel) (by decide +kernel)
set_option maxRecDepth 20000 in
theorem ggL_law_X6_put : GoodIn wzL_law wsX6_put := goodIn_app (a := [.code yX6_put cX6_put 7 (some .int)]) ggL_law_X6_put_p0 (goodIn_app (goodIn_app (goodIn_app (goodIn_app (goodIn_app (goodIn_app ggL_law_X6_put_p1 (goodIn_app ggL_law_X6_put_p2 (goodIn_app ggL_law_X6_put_p3 (goodIn_app ggL_law_X6_put_p4 (goodIn_app ggL_law_X6_put_p5 ggL_law_X6_put_p6))))) ggL_law_X6_put_p7) ggL_law_X6_put_p8) ggL_law_X6_put_p9) ggL_law_X6_put_p10) (goodIn_sub (fun _ h => (List.mem_append_left _ (List.mem_append_left _ (List.mem_append_left _ (List.mem_append_left _ (List.mem_append_left _ (List.mem_append_left _ (List.mem_append_right _ h)))))))) (by decide +kernel)))
set_option maxRecDepth 20000 in
theorem gL_law_X6_put : GoodIn wzL_law (wsV RL 206 RX6 yX6_put wsX6_put) := goodIn_app (goodIn_of _ (by decide +kernel)) ggL_law_X6_put
set_option maxRecDepth 20000 in
theorem ggL_law_L_at : GoodIn wzL_law wsL_at := goodIn_ca (goodIn_ca (goodIn_r _ [641, 566, 642, 643, 644, 2, 645, 571, 572, 646, 573, 574, 575, 576, 98, 99, 100, 191, 192, 193, 194, 24, 23, 577, 244, 245, 1115, 1116, 1117, 1118, 1119, 1120, 1121, 1122, 1123, 1124, 1125, 1126, 1127, 1128, 1129, 1084, 1085, 1086, 1087, 1088, 1089, 1090, 1091, 1092, 1093] (by decide +kernel) (by decide +kernel)) (goodIn_sub (fun _ h => (List.mem_append_left _ (List.mem_append_left _ (List.mem_append_left _ (List.mem_append_left _ (List.mem_append_left _ (List.mem_append_left _ (List.mem_append_right _ h)))))))) (by decide +kernel))) (goodIn_sub (fun _ h => (List.mem_append_left _ (List.mem_append_right _ h))) (by decide +kernel))
set_option maxRecDepth 20000 in
theorem gL_law_L_at : GoodIn wzL_law (va_wsS RL 207 yL_at wsL_at) := goodIn_app (goodIn_of _ (by decide +kernel)) ggL_law_L_at
set_option maxRecDepth 20000 in
theorem ggL_law_X6_at : GoodIn wzL_law wsX6_at := goodIn_r _ [650, 60, 277, 604, 605, 606, 5, 607, 608, 609, 509, 510, 511, 59, 512, 513, 111, 112, 113, 114, 115, 116, 117, 118, 610, 611, 612, 613, 614, 615, 616, 617, 618, 619, 620, 621, 622, 623, 624, 625, 65, 626, 331, 332, 319, 333, 334, 335, 327, 1094, 1095, 1096, 1097, 1098, 1099, 1100, 1101, 1102, 1103, 1104, 1134, 1135, 1136, 1137, 1138, 1139, 1140, 1141, 1142, 1143, 1144, 1145, 1146, 1147, 1148, 1112, 1113, 1114] (by decide +kernel) (by decide +kernel)
set_option maxRecDepth 20000 in
theorem gL_law_X6_at : GoodIn wzL_law (wsV RL 210 RX6 yX6_at wsX6_at) := goodIn_app (goodIn_of _ (by decide +kernel)) ggL_law_X6_at

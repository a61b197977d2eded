set_option maxRecDepth 20000 in
theorem ggL_law_X3_init : GoodIn wzL_law wsX3_init := goodIn_ca (goodIn_r _ [10, 11, 12, 13, 14, 15, 16, 17, 18, 19, 20, 21, 22, 23, 24, 25, 26, 27, 28, 29, 30, 31, 32, 33, 34, 35, 36, 37, 38, 39, 40, 41, 42, 43, 44, 45, 46, 1109, 1110, 1111, 1112, 1088, 1089, 1090, 1091, 1092, 1093, 1094, 1095, 1096, 1097, 1113, 1114, 1115] (by decide +kernel) (by decide +kernel)) (goodIn_sub (fun _ h => (List.mem_append_left _ (List.mem_append_left _ (List.mem_append_left _ (List.mem_append_left _ (List.mem_append_left _ (List.mem_append_left _ (List.mem_append_right _ h)))))))) (by decide +kernel))
set_option maxRecDepth 20000 in
theorem gL_law_X3_init : GoodIn wzL_law (wsX3_init) := ggL_law_X3_init
set_option maxRecDepth 20000 in
theorem ggL_law_X6_init : GoodIn wzL_law wsX6_init := goodIn_ca (goodIn_r _ [49, 50, 12, 13, 51, 52, 35, 53, 54, 55, 56, 57, 58, 59, 60, 61, 62, 63, 64, 65, 66, 67, 68, 69, 70, 71, 72, 73, 74, 75, 76, 77, 78, 79, 1098, 1099, 1100, 1101, 1102, 1103, 1104, 1105, 1106, 1107, 1108, 1116, 1117, 1118] (by decide +kernel) (by decide +kernel)) (goodIn_sub (fun _ h => (List.mem_append_left _ (List.mem_append_left _ (List.mem_append_left _ (List.mem_append_left _ (List.mem_append_left _ (List.mem_append_left _ (List.mem_append_right _ h)))))))) (by decide +kernel))
set_option maxRecDepth 20000 in
theorem gL_law_X6_init : GoodIn wzL_law (wsX6_init) := ggL_law_X6_init
set_option maxRecDepth 20000 in
theorem ggL_law_L_weather : GoodIn wzL_law wsL_weather := goodIn_ca (goodIn_ca (goodIn_ca (goodIn_r _ [83, 84, 85, 86, 87, 88, 2, 89, 90, 91, 92, 93, 25, 17, 94, 95, 96, 97, 98, 99, 100, 1088, 1089, 1090, 1091, 1092, 1093, 1094, 1095, 1096, 1097, 1109, 1110, 1111, 1112] (by decide +kernel) (by decide +kernel)) (goodIn_sub (fun _ h => (List.mem_append_left _ (List.mem_append_left _ (List.mem_append_left _ (List.mem_append_left _ (List.mem_append_left _ (List.mem_append_left _ (List.mem_append_right _ h)))))))) (by decide +kernel))) (goodIn_sub (fun _ h => (List.mem_append_left _ (List.mem_append_left _ (List.mem_append_left _ (List.mem_append_left _ (List.mem_append_left _ (List.mem_append_right _ h))))))) (by decide +kernel))) (goodIn_sub (fun _ h => (List.mem_append_left _ (List.mem_append_left _ (List.mem_append_left _ (List.mem_append_left _ (List.mem_append_right _ h)))))) (by decide +kernel))
set_option maxRecDepth 20000 in
theorem gL_law_L_weather : GoodIn wzL_law (va_wsS RL 149 yL_weather wsL_weather) := goodIn_app (goodIn_of _ (by decide +kernel)) ggL_law_L_weather
set_option maxRecDepth 20000 in
theorem ggL_law_X6_weather : GoodIn wzL_law wsX6_weather := goodIn_ca (goodIn_r _ [104, 105, 106, 107, 108, 109, 110, 52, 35, 111, 112, 5, 113, 114, 115, 116, 117, 118, 1098, 1099, 1100, 1101, 1102, 1103, 1104, 1105, 1106, 1107, 1108] (by decide +kernel) (by decide +kernel)) (goodIn_sub (fun _ h => (List.mem_append_left _ (List.mem_append_left _ (List.mem_append_left _ (List.mem_append_left _ (List.mem_append_left _ (List.mem_append_left _ (List.mem_append_right _ h)))))))) (by decide +kernel))
set_option maxRecDepth 20000 in
theorem gL_law_X6_weather : GoodIn wzL_law (wsV RL 154 RX6 yX6_weather wsX6_weather) := goodIn_app (goodIn_of _ (by decide +kernel)) ggL_law_X6_weather
set_option maxRecDepth 20000 in
theorem ggL_law_L_warmth : GoodIn wzL_law wsL_warmth := goodIn_ca (goodIn_ca (goodIn_r _ [121, 84, 122, 123, 124, 2, 125, 90, 91, 17, 98, 99, 100, 126, 127, 128, 16, 129, 36, 37, 1088, 1089, 1090, 1091, 1092, 1093, 1094, 1095, 1096, 1097, 1109, 1110, 1111, 1112] (by decide +kernel) (by decide +kernel)) (goodIn_sub (fun _ h => (List.mem_append_left _ (List.mem_append_left _ (List.mem_append_left _ (List.mem_append_left _ (List.mem_append_left _ (List.mem_append_left _ (List.mem_append_right _ h)))))))) (by decide +kernel))) (goodIn_sub (fun _ h => (List.mem_append_left _ (List.mem_append_left _ (List.mem_append_left _ (List.mem_append_left _ (List.mem_append_left _ (List.mem_append_right _ h))))))) (by decide +kernel))
set_option maxRecDepth 20000 in
theorem gL_law_L_warmth : GoodIn wzL_law (va_wsS RL 155 yL_warmth wsL_warmth) := goodIn_app (goodIn_of _ (by decide +kernel)) ggL_law_L_warmth
set_option maxRecDepth 20000 in
theorem ggL_law_X6_warmth : GoodIn wzL_law wsX6_warmth := goodIn_ca (goodIn_r _ [133, 134, 111, 112, 5, 113, 114, 115, 116, 117, 118, 135, 136, 137, 138, 52, 1098, 1099, 1100, 1101, 1102, 1103, 1104, 1105, 1106, 1107, 1108] (by decide +kernel) (by decide +kernel)) (goodIn_sub (fun _ h => (List.mem_append_left _ (List.mem_append_left _ (List.mem_append_left _ (List.mem_append_left _ (List.mem_append_left _ (List.mem_append_left _ (List.mem_append_right _ h)))))))) (by decide +kernel))
set_option maxRecDepth 20000 in
theorem gL_law_X6_warmth : GoodIn wzL_law (wsV RL 158 RX6 yX6_warmth wsX6_warmth) := goodIn_app (goodIn_of _ (by decide +kernel)) ggL_law_X6_warmth
set_option maxRecDepth 20000 in
theorem ggL_law_L_wet : GoodIn wzL_law wsL_wet := goodIn_ca (goodIn_ca (goodIn_r _ [141, 84, 142, 143, 144, 2, 145, 90, 91, 17, 98, 99, 100, 146, 147, 148, 16, 149, 39, 150, 127, 128, 129, 36, 37, 1088, 1089, 1090, 1091, 1092, 1093, 1094, 1095, 1096, 1097, 1109, 1110, 1111, 1112] (by decide +kernel) (by decide +kernel)) (goodIn_sub (fun _ h => (List.mem_append_left _ (List.mem_append_left _ (List.mem_append_left _ (List.mem_append_left _ (List.mem_append_left _ (List.mem_append_left _ (List.mem_append_right _ h)))))))) (by decide +kernel))) (goodIn_sub (fun _ h => (List.mem_append_left _ (List.mem_append_left _ (List.mem_append_left _ (List.mem_append_left _ (List.mem_append_left _ (List.mem_append_right _ h))))))) (by decide +kernel))
set_option maxRecDepth 20000 in
theorem gL_law_L_wet : GoodIn wzL_law (va_wsS RL 159 yL_wet wsL_wet) := goodIn_app (goodIn_of _ (by decide +kernel)) ggL_law_L_wet
set_option maxRecDepth 20000 in
theorem ggL_law_X6_wet : GoodIn wzL_law wsX6_wet := goodIn_ca (goodIn_r _ [154, 155, 111, 112, 5, 113, 114, 115, 116, 117, 118, 156, 157, 158, 159, 52, 135, 136, 137, 138, 1098, 1099, 1100, 1101, 1102, 1103, 1104, 1105, 1106, 1107, 1108] (by decide +kernel) (by decide +kernel)) (goodIn_sub (fun _ h => (List.mem_append_left _ (List.mem_append_left _ (List.mem_append_left _ (List.mem_append_left _ (List.mem_append_left _ (List.mem_append_left _ (List.mem_append_right _ h)))))))) (by decide +kernel))
set_option maxRecDepth 20000 in
theorem gL_law_X6_wet : GoodIn wzL_law (wsV RL 161 RX6 yX6_wet wsX6_wet) := goodIn_app (goodIn_of _ (by decide +kernel)) ggL_law_X6_wet
set_option maxRecDepth 20000 in
theorem ggL_law_L_go_p0 : GoodIn wzL_law [.codeWith yL_go cL_go 4 (some .int) [(0, 9, 12, 13), (0, 9, 15, 27)]] := goodIn_r _ [162] (by decide +kernel) (by decide +kernel)
set_option maxRecDepth 20000 in
theorem ggL_law_L_go_p1 : GoodIn wzL_law wsL_go_r1 := goodIn_r _ [84, 163, 164, 165, 166, 2, 167, 90, 91, 168, 169, 25, 98, 99, 100, 170, 171, 172, 173, 17, 21, 29, 24, 174] (by decide +kernel) (by decide +kernel)
set_option maxRecDepth 20000 in
theorem ggL_law_L_go_p2 : GoodIn wzL_law wsL_go_r2 := goodIn_r _ [30, 126, 127, 128, 16, 129, 36, 37, 175, 176, 177, 20, 178, 44, 179, 180, 181, 182, 45, 183, 184, 185, 146, 147] (by decide +kernel) (by decide +kernel)
set_option maxRecDepth 20000 in
theorem ggL_law_L_go_p3 : GoodIn wzL_law wsL_go_r3 := goodIn_r _ [148, 149, 39, 150, 186, 187, 188, 189, 28, 190, 191, 192, 193, 194, 23, 195, 196, 197, 198, 38, 199, 200, 201, 202] (by decide +kernel) (by decide +kernel)
set_option maxRecDepth 20000 in
theorem ggL_law_L_go_p4 : GoodIn wzL_law wsL_go_r4 := goodIn_r _ [203, 204, 205, 206, 207, 208, 209, 210, 211, 212, 213, 214, 215, 216, 217, 218, 219, 220, 221, 222, 223, 224, 225, 226] (by decide +kernel) (by decide +kernel)
set_option maxRecDepth 20000 in
theorem ggL_law_L_go_p5 : GoodIn wzL_law wsL_go_r5 := goodIn_r _ [227, 228, 229, 230, 231, 232, 233, 234, 235, 236, 237, 238, 239, 240, 241, 242, 243, 244, 245, 246, 247, 248, 249, 250] (by decide +kernel) (by decide +kernel)
set_option maxRecDepth 20000 in
theorem ggL_law_L_go_p6 : GoodIn wzL_law wsL_go_r6 := goodIn_r _ [251, 252, 253, 254, 255, 256, 257, 258, 259, 260, 261, 262, 263, 264, 265, 266, 267, 268, 269, 270, 271] (by decide +kernel) (by decide +kernel)
set_option maxRecDepth 20000 in
theorem ggL_law_L_go_p7 : GoodIn wzL_law wsX30 := goodIn_r _ [1088, 1089, 1090, 1091, 1092, 1093, 1094, 1095, 1096, 1097] (by decide +kernel) (by decide +kernel)
set_option maxRecDepth 20000 in
theorem ggL_law_L_go_p8 : GoodIn wzL_law wsX10 := goodIn_r _ [1119, 1120, 1121, 1122, 1123, 1124, 1125, 1126, 1127, 1128, 1129, 1130, 1131, 1132, 1133] (by decide +kernel) (by decide +kernel)
set_option maxRecDepth 20000 in
theorem ggL_law_L_go_p9 : GoodIn wzL_law wsX20 := goodIn_r _ [1109, 1110, 1111, 1112] (by decide +kernel) (by decide +kernel)
set_option maxRecDepth 20000 in
theorem ggL_law_L_go_p10 : GoodIn wzL_law wsX00 := goodIn_r _ [1113, 1114, 1115] (by decide +kernel) (by decide +kernel)
set_option maxRecDepth 20000 in
theorem ggL_law_L_go : GoodIn wzL_law wsL_go := goodIn_app (a := [.codeWith yL_go cL_go 4 (some .int) [(0, 9, 12, 13), (0, 9, 15, 27)]]) ggL_law_L_go_p0 (goodIn_app (goodIn_app (goodIn_app (goodIn_app (goodIn_app (goodIn_app (goodIn_app (goodIn_app (goodIn_app ggL_law_L_go_p1 (goodIn_app ggL_law_L_go_p2 (goodIn_app ggL_law_L_go_p3 (goodIn_app ggL_law_L_go_p4 (goodIn_app ggL_law_L_go_p5 ggL_law_L_go_p6))))) ggL_law_L_go_p7) ggL_law_L_go_p8) ggL_law_L_go_p9) ggL_law_L_go_p10) (goodIn_sub (fun _ h => (List.mem_append_left _ (List.mem_append_left _ (List.mem_append_left _ (List.mem_append_left _ (List.mem_append_left _ (List.mem_append_left _ (List.mem_append_right _ h)))))))) (by decide +kernel))) (goodIn_sub (fun _ h => (List.mem_append_left _ (List.mem_append_left _ (List.mem_append_left _ (List.mem_append_left _ (List.mem_append_left _ (List.mem_append_right _ h))))))) (by decide +kernel))) (goodIn_sub (fun _ h => (List.mem_append_left _ (List.mem_append_left _ (List.mem_append_left _ (List.mem_append_right _ h))))) (by decide +kernel))) (goodIn_sub (fun _ h => (List.mem_append_left _ (List.mem_append_left _ (List.mem_append_right _ h)))) (by decide +kernel)))
set_option maxRecDepth 20000 in
theorem gL_law_L_go : GoodIn wzL_law (va_wsS RL 162 yL_go wsL_go) := goodIn_app (goodIn_of _ (by decide +kernel)) ggL_law_L_go
set_option maxRecDepth 20000 in
theorem ggL_law_X6_go_p0 : GoodIn wzL_law [.code yX6_go cX6_go 6 (some .int)] := goodIn_r _ [275] (by decide +kernel) (by decide +kernel)
set_option maxRecDepth 20000 in
theorem ggL_law_X6_go_p1 : GoodIn wzL_law wsX6_go_r1 := goodIn_r _ [276, 110, 60, 277, 111, 112, 5, 113, 114, 115, 116, 117, 118, 135, 136, 137, 138, 52, 278, 279, 280, 281, 53, 282] (by decide +kernel) (by decide +kernel)
set_option maxRecDepth 20000 in
theorem ggL_law_X6_go_p2 : GoodIn wzL_law wsX6_go_r2 := goodIn_r _ [184, 181, 185, 54, 283, 180, 182, 284, 285, 156, 157, 158, 159, 286, 287, 288, 59, 289, 290, 291, 292, 293, 294, 295] (by decide +kernel) (by decide +kernel)
set_option maxRecDepth 20000 in
theorem ggL_law_X6_go_p3 : GoodIn wzL_law wsX6_go_r3 := goodIn_r _ [296, 297, 12, 13, 298, 299, 300, 301, 302, 303, 304, 305, 306, 307, 308, 309, 310, 311, 312, 313, 314, 315, 316, 317] (by decide +kernel) (by decide +kernel)
set_option maxRecDepth 20000 in
theorem ggL_law_X6_go_p4 : GoodIn wzL_law wsX6_go_r4 := goodIn_r _ [318, 319, 320, 321, 322, 323, 324, 325, 326, 327, 328, 329, 330, 331, 332, 333, 334, 335, 336, 337, 338, 339, 340, 341] (by decide +kernel) (by decide +kernel)
set_option maxRecDepth 20000 in
theorem ggL_law_X6_go_p5 : GoodIn wzL_law wsX6_go_r5 := goodIn_r _ [342, 343, 344, 345, 346, 347, 348, 349, 350, 351, 352, 353, 354, 35, 355, 356, 357, 358, 359, 360, 361, 362, 363, 364] (by decide +kernel) (by decide +kernel)
set_option maxRecDepth 20000 in
theorem ggL_law_X6_go_p6 : GoodIn wzL_law wsX6_go_r6 := goodIn_r _ [365, 366, 367, 368, 369, 370, 371, 372, 373, 374, 375] (by decide +kernel) (by decide +kernel)
set_option maxRecDepth 20000 in
theorem ggL_law_X6_go_p7 : GoodIn wzL_law wsX60 := goodIn_r _ [1098, 1099, 1100, 1101, 1102, 1103, 1104, 1105, 1106, 1107, 1108] (by decide +kernel) (by decide +kernel)
set_option maxRecDepth 20000 in
theorem ggL_law_X6_go_p8 : GoodIn wzL_law wsJx354110 := goodIn_r _ [1134, 1135, 1136, 1137] (by decide +kernel) (by decide +kernel)
set_option maxRecDepth 20000 in
theorem ggL_law_X6_go_p9 : GoodIn wzL_law wsJx4a65c0 := goodIn_r _ [1116, 1117, 1118] (by decide +kernel) (by decide +kernel)
set_option maxRecDepth 20000 in
theorem ggL_law_X6_go_p10 : GoodIn wzL_law wsX50 := goodIn_r _ [1138, 1139, 1140, 1141, 1142, 1143, 1144, 1145, 1146, 1147] (by decide +kernel) (by decide +kernel)
set_option maxRecDepth 20000 in
theorem ggL_law_X6_go_p11 : GoodIn wzL_law wsX40 := goodIn_r _ [1148, 1149, 1150, 1151, 1152] (by decide +kernel) (by decide +kernel)
set_option maxRecDepth 20000 in
theorem ggL_law_X6_go : GoodIn wzL_law wsX6_go := goodIn_app (a := [.code yX6_go cX6_go 6 (some .int)]) ggL_law_X6_go_p0 (goodIn_app (goodIn_app (goodIn_app (goodIn_app (goodIn_app (goodIn_app (goodIn_app (goodIn_app ggL_law_X6_go_p1 (goodIn_app ggL_law_X6_go_p2 (goodIn_app ggL_law_X6_go_p3 (goodIn_app ggL_law_X6_go_p4 (goodIn_app ggL_law_X6_go_p5 ggL_law_X6_go_p6))))) ggL_law_X6_go_p7) ggL_law_X6_go_p8) ggL_law_X6_go_p9) ggL_law_X6_go_p10) ggL_law_X6_go_p11) (goodIn_sub (fun _ h => (List.mem_append_left _ (List.mem_append_left _ (List.mem_append_left _ (List.mem_append_left _ (List.mem_append_left _ (List.mem_append_left _ (List.mem_append_right _ h)))))))) (by decide +kernel))) (goodIn_sub (fun _ h => (List.mem_append_left _ (List.mem_append_left _ (List.mem_append_right _ h)))) (by decide +kernel)))
set_option maxRecDepth 20000 in
theorem gL_law_X6_go : GoodIn wzL_law (wsV RL 164 RX6 yX6_go wsX6_go) := goodIn_app (goodIn_of _ (by decide +kernel)) ggL_law_X6_go
set_option maxRecDepth 20000 in
theorem ggL_law_X6_thrown : GoodIn wzL_law wsX6_thrown := goodIn_r _ [379, 118, 1098, 1099, 1100, 1101, 1102, 1103, 1104, 1105, 1106, 1107, 1108] (by decide +kernel) (by decide +kernel)
set_option maxRecDepth 20000 in
theorem gL_law_X6_thrown : GoodIn wzL_law (wsV RL 165 RX6 yX6_thrown wsX6_thrown) := goodIn_app (goodIn_of _ (by decide +kernel)) ggL_law_X6_thrown
set_option maxRecDepth 20000 in
theorem ggL_law_X3_now : GoodIn wzL_law wsX3_now := goodIn_r _ [383, 25, 1088, 1089, 1090, 1091, 1092, 1093, 1094, 1095, 1096, 1097] (by decide +kernel) (by decide +kernel)
set_option maxRecDepth 20000 in
theorem gL_law_X3_now : GoodIn wzL_law (wsV RL 168 RX3 yX3_now wsX3_now) := goodIn_app (goodIn_of _ (by decide +kernel)) ggL_law_X3_now
set_option maxRecDepth 20000 in
theorem ggL_law_X6_now : GoodIn wzL_law wsX6_now := goodIn_r _ [387, 118, 110, 1098, 1099, 1100, 1101, 1102, 1103, 1104, 1105, 1106, 1107, 1108] (by decide +kernel) (by decide +kernel)
set_option maxRecDepth 20000 in
theorem gL_law_X6_now : GoodIn wzL_law (wsV RL 171 RX6 yX6_now wsX6_now) := goodIn_app (goodIn_of _ (by decide +kernel)) ggL_law_X6_now
set_option maxRecDepth 20000 in
theorem ggL_law_L_ice : GoodIn wzL_law wsL_ice := goodIn_ca (goodIn_ca (goodIn_r _ [390, 84, 391, 392, 393, 2, 394, 90, 91, 21, 395, 98, 99, 100, 1088, 1089, 1090, 1091, 1092, 1093, 1094, 1095, 1096, 1097, 1113, 1114, 1115] (by decide +kernel) (by decide +kernel)) (goodIn_sub (fun _ h => (List.mem_append_left _ (List.mem_append_left _ (List.mem_append_left _ (List.mem_append_left _ (List.mem_append_left _ (List.mem_append_left _ (List.mem_append_right _ h)))))))) (by decide +kernel))) (goodIn_sub (fun _ h => (List.mem_append_left _ (List.mem_append_left _ (List.mem_append_left _ (List.mem_append_left _ (List.mem_append_left _ (List.mem_append_right _ h))))))) (by decide +kernel))
set_option maxRecDepth 20000 in
theorem gL_law_L_ice : GoodIn wzL_law (va_wsS RL 172 yL_ice wsL_ice) := goodIn_app (goodIn_of _ (by decide +kernel)) ggL_law_L_ice
set_option maxRecDepth 20000 in
theorem ggL_law_X6_ice : GoodIn wzL_law wsX6_ice := goodIn_ca (goodIn_r _ [399, 53, 400, 401, 402, 5, 403, 404, 111, 112, 113, 114, 115, 116, 117, 118, 1098, 1099, 1100, 1101, 1102, 1103, 1104, 1105, 1106, 1107, 1108] (by decide +kernel) (by decide +kernel)) (goodIn_sub (fun _ h => (List.mem_append_left _ (List.mem_append_left _ (List.mem_append_left _ (List.mem_append_left _ (List.mem_append_left _ (List.mem_append_left _ (List.mem_append_right _ h)))))))) (by decide +kernel))
set_option maxRecDepth 20000 in
theorem gL_law_X6_ice : GoodIn wzL_law (wsV RL 174 RX6 yX6_ice wsX6_ice) := goodIn_app (goodIn_of _ (by decide +kernel)) ggL_law_X6_ice
set_option maxRecDepth 20000 in
theorem ggL_law_L_clear : GoodIn wzL_law wsL_clear := goodIn_ca (goodIn_ca (goodIn_r _ [407, 84, 408, 409, 410, 2, 411, 90, 91, 21, 412, 98, 99, 100, 1088, 1089, 1090, 1091, 1092, 1093, 1094, 1095, 1096, 1097, 1113, 1114, 1115] (by decide +kernel) (by decide +kernel)) (goodIn_sub (fun _ h => (List.mem_append_left _ (List.mem_append_left _ (List.mem_append_left _ (List.mem_append_left _ (List.mem_append_left _ (List.mem_append_left _ (List.mem_append_right _ h)))))))) (by decide +kernel))) (goodIn_sub (fun _ h => (List.mem_append_left _ (List.mem_append_left _ (List.mem_append_left _ (List.mem_append_left _ (List.mem_append_left _ (List.mem_append_right _ h))))))) (by decide +kernel))
set_option maxRecDepth 20000 in
theorem gL_law_L_clear : GoodIn wzL_law (va_wsS RL 175 yL_clear wsL_clear) := goodIn_app (goodIn_of _ (by decide +kernel)) ggL_law_L_clear
set_option maxRecDepth 20000 in
theorem ggL_law_X6_clear : GoodIn wzL_law wsX6_clear := goodIn_ca (goodIn_r _ [416, 54, 400, 401, 402, 5, 403, 404, 111, 112, 113, 114, 115, 116, 117, 118, 1098, 1099, 1100, 1101, 1102, 1103, 1104, 1105, 1106, 1107, 1108] (by decide +kernel) (by decide +kernel)) (goodIn_sub (fun _ h => (List.mem_append_left _ (List.mem_append_left _ (List.mem_append_left _ (List.mem_append_left _ (List.mem_append_left _ (List.mem_append_left _ (List.mem_append_right _ h)))))))) (by decide +kernel))
set_option maxRecDepth 20000 in
theorem gL_law_X6_clear : GoodIn wzL_law (wsV RL 177 RX6 yX6_clear wsX6_clear) := goodIn_app (goodIn_of _ (by decide +kernel)) ggL_law_X6_clear
set_option maxRecDepth 20000 in
theorem ggL_law_L_bears : GoodIn wzL_law wsL_bears := goodIn_ca (goodIn_ca (goodIn_r _ [419, 84, 420, 421, 422, 2, 423, 90, 91, 21, 98, 99, 100, 424, 425, 426, 20, 427, 44, 46, 1088, 1089, 1090, 1091, 1092, 1093, 1094, 1095, 1096, 1097, 1113, 1114, 1115] (by decide +kernel) (by decide +kernel)) (goodIn_sub (fun _ h => (List.mem_append_left _ (List.mem_append_left _ (List.mem_append_left _ (List.mem_append_left _ (List.mem_append_left _ (List.mem_append_left _ (List.mem_append_right _ h)))))))) (by decide +kernel))) (goodIn_sub (fun _ h => (List.mem_append_left _ (List.mem_append_left _ (List.mem_append_left _ (List.mem_append_left _ (List.mem_append_left _ (List.mem_append_right _ h))))))) (by decide +kernel))
set_option maxRecDepth 20000 in
theorem gL_law_L_bears : GoodIn wzL_law (va_wsS RL 178 yL_bears wsL_bears) := goodIn_app (goodIn_of _ (by decide +kernel)) ggL_law_L_bears
set_option maxRecDepth 20000 in
theorem ggL_law_X6_bears : GoodIn wzL_law wsX6_bears := goodIn_ca (goodIn_r _ [431, 400, 401, 402, 5, 403, 404, 111, 112, 113, 114, 115, 116, 117, 118, 432, 433, 434, 435, 53, 55, 1098, 1099, 1100, 1101, 1102, 1103, 1104, 1105, 1106, 1107, 1108] (by decide +kernel) (by decide +kernel)) (goodIn_sub (fun _ h => (List.mem_append_left _ (List.mem_append_left _ (List.mem_append_left _ (List.mem_append_left _ (List.mem_append_left _ (List.mem_append_left _ (List.mem_append_right _ h)))))))) (by decide +kernel))
set_option maxRecDepth 20000 in
theorem gL_law_X6_bears : GoodIn wzL_law (wsV RL 180 RX6 yX6_bears wsX6_bears) := goodIn_app (goodIn_of _ (by decide +kernel)) ggL_law_X6_bears
set_option maxRecDepth 20000 in
theorem ggL_law_L_cut : GoodIn wzL_law wsL_cut := goodIn_ca (goodIn_ca (goodIn_ca (goodIn_ca (goodIn_r _ [438, 84, 85, 163, 439, 440, 441, 2, 442, 90, 91, 92, 93, 168, 169, 21, 395, 443, 26, 27, 30, 98, 99, 100, 424, 425, 426, 20, 427, 44, 46, 444, 445, 446, 447, 45, 1088, 1089, 1090, 1091, 1092, 1093, 1094, 1095, 1096, 1097, 1113, 1114, 1115] (by decide +kernel) (by decide +kernel)) (goodIn_sub (fun _ h => (List.mem_append_left _ (List.mem_append_left _ (List.mem_append_left _ (List.mem_append_left _ (List.mem_append_left _ (List.mem_append_left _ (List.mem_append_right _ h)))))))) (by decide +kernel))) (goodIn_sub (fun _ h => (List.mem_append_left _ (List.mem_append_left _ (List.mem_append_left _ (List.mem_append_left _ (List.mem_append_left _ (List.mem_append_right _ h))))))) (by decide +kernel))) (goodIn_sub (fun _ h => (List.mem_append_left _ (List.mem_append_left _ (List.mem_append_left _ (List.mem_append_left _ (List.mem_append_right _ h)))))) (by decide +kernel))) (goodIn_sub (fun _ h => (List.mem_append_left _ (List.mem_append_left _ (List.mem_append_left _ (List.mem_append_right _ h))))) (by decide +kernel))
set_option maxRecDepth 20000 in
theorem gL_law_L_cut : GoodIn wzL_law (va_wsS RL 181 yL_cut wsL_cut) := goodIn_app (goodIn_of _ (by decide +kernel)) ggL_law_L_cut
set_option maxRecDepth 20000 in
theorem ggL_law_X6_cut : GoodIn wzL_law wsX6_cut := goodIn_ca (goodIn_r _ [451, 105, 53, 55, 56, 54, 452, 400, 401, 402, 5, 403, 404, 111, 112, 113, 114, 115, 116, 117, 118, 432, 433, 434, 435, 1098, 1099, 1100, 1101, 1102, 1103, 1104, 1105, 1106, 1107, 1108] (by decide +kernel) (by decide +kernel)) (goodIn_sub (fun _ h => (List.mem_append_left _ (List.mem_append_left _ (List.mem_append_left _ (List.mem_append_left _ (List.mem_append_left _ (List.mem_append_left _ (List.mem_append_right _ h)))))))) (by decide +kernel))
set_option maxRecDepth 20000 in
theorem gL_law_X6_cut : GoodIn wzL_law (wsV RL 184 RX6 yX6_cut wsX6_cut) := goodIn_app (goodIn_of _ (by decide +kernel)) ggL_law_X6_cut
set_option maxRecDepth 20000 in
theorem ggL_law_X3_yard : GoodIn wzL_law wsX3_yard := goodIn_r _ [456, 26, 27, 1088, 1089, 1090, 1091, 1092, 1093, 1094, 1095, 1096, 1097] (by decide +kernel) (by decide +kernel)
set_option maxRecDepth 20000 in
theorem gL_law_X3_yard : GoodIn wzL_law (wsV RL 185 RX3 yX3_yard wsX3_yard) := goodIn_app (goodIn_of _ (by decide +kernel)) ggL_law_X3_yard
set_option maxRecDepth 20000 in
theorem ggL_law_X6_yard : GoodIn wzL_law wsX6_yard := goodIn_ca (goodIn_r _ [460, 118, 56, 1098, 1099, 1100, 1101, 1102, 1103, 1104, 1105, 1106, 1107, 1108] (by decide +kernel) (by decide +kernel)) (goodIn_sub (fun _ h => (List.mem_append_left _ (List.mem_append_left _ (List.mem_append_left _ (List.mem_append_left _ (List.mem_append_left _ (List.mem_append_left _ (List.mem_append_right _ h)))))))) (by decide +kernel))
set_option maxRecDepth 20000 in
theorem gL_law_X6_yard : GoodIn wzL_law (wsV RL 189 RX6 yX6_yard wsX6_yard) := goodIn_app (goodIn_of _ (by decide +kernel)) ggL_law_X6_yard
set_option maxRecDepth 20000 in
theorem ggL_law_L_lorries : GoodIn wzL_law wsL_lorries := goodIn_ca (goodIn_ca (goodIn_r _ [463, 84, 464, 465, 466, 2, 467, 90, 91, 30, 28, 98, 99, 100, 186, 187, 188, 189, 190, 184, 181, 185, 1088, 1089, 1090, 1091, 1092, 1093, 1094, 1095, 1096, 1097] (by decide +kernel) (by decide +kernel)) (goodIn_sub (fun _ h => (List.mem_append_left _ (List.mem_append_left _ (List.mem_append_left _ (List.mem_append_left _ (List.mem_append_left _ (List.mem_append_left _ (List.mem_append_right _ h)))))))) (by decide +kernel))) (goodIn_sub (fun _ h => (List.mem_append_left _ (List.mem_append_left _ (List.mem_append_left _ (List.mem_append_left _ (List.mem_append_left _ (List.mem_append_right _ h))))))) (by decide +kernel))
set_option maxRecDepth 20000 in
theorem gL_law_L_lorries : GoodIn wzL_law (va_wsS RL 190 yL_lorries wsL_lorries) := goodIn_app (goodIn_of _ (by decide +kernel)) ggL_law_L_lorries
set_option maxRecDepth 20000 in
theorem ggL_law_X6_lorries : GoodIn wzL_law wsX6_lorries := goodIn_r _ [471, 105, 285, 282, 184, 181, 185, 452, 111, 112, 5, 113, 114, 115, 116, 117, 118, 1098, 1099, 1100, 1101, 1102, 1103, 1104, 1105, 1106, 1107, 1108] (by decide +kernel) (by decide +kernel)
set_option maxRecDepth 20000 in
theorem gL_law_X6_lorries : GoodIn wzL_law (wsV RL 192 RX6 yX6_lorries wsX6_lorries) := goodIn_app (goodIn_of _ (by decide +kernel)) ggL_law_X6_lorries
set_option maxRecDepth 20000 in
theorem ggL_law_X3_machine : GoodIn wzL_law wsX3_machine := goodIn_r _ [475, 29, 1088, 1089, 1090, 1091, 1092, 1093, 1094, 1095, 1096, 1097] (by decide +kernel) (by decide +kernel)
set_option maxRecDepth 20000 in
theorem gL_law_X3_machine : GoodIn wzL_law (wsV RL 193 RX3 yX3_machine wsX3_machine) := goodIn_app (goodIn_of _ (by decide +kernel)) ggL_law_X3_machine
set_option maxRecDepth 20000 in
theorem ggL_law_X6_machine : GoodIn wzL_law wsX6_machine := goodIn_r _ [479, 118, 284, 1098, 1099, 1100, 1101, 1102, 1103, 1104, 1105, 1106, 1107, 1108] (by decide +kernel) (by decide +kernel)
set_option maxRecDepth 20000 in
theorem gL_law_X6_machine : GoodIn wzL_law (wsV RL 197 RX6 yX6_machine wsX6_machine) := goodIn_app (goodIn_of _ (by decide +kernel)) ggL_law_X6_machine
set_option maxRecDepth 20000 in
theorem ggL_law_X3_snow : GoodIn wzL_law wsX3_snow := goodIn_r _ [483, 28, 1088, 1089, 1090, 1091, 1092, 1093, 1094, 1095, 1096, 1097] (by decide +kernel) (by decide +kernel)
set_option maxRecDepth 20000 in
theorem gL_law_X3_snow : GoodIn wzL_law (wsV RL 198 RX3 yX3_snow wsX3_snow) := goodIn_app (goodIn_of _ (by decide +kernel)) ggL_law_X3_snow
set_option maxRecDepth 20000 in
theorem ggL_law_X6_snow : GoodIn wzL_law wsX6_snow := goodIn_r _ [487, 118, 285, 1098, 1099, 1100, 1101, 1102, 1103, 1104, 1105, 1106, 1107, 1108] (by decide +kernel) (by decide +kernel)
set_option maxRecDepth 20000 in
theorem gL_law_X6_snow : GoodIn wzL_law (wsV RL 201 RX6 yX6_snow wsX6_snow) := goodIn_app (goodIn_of _ (by decide +kernel)) ggL_law_X6_snow
set_option maxRecDepth 20000 in
theorem ggL_law_L_site : GoodIn wzL_law wsL_site := goodIn_ca (goodIn_ca (goodIn_r _ [490, 163, 491, 492, 493, 2, 494, 168, 169, 24, 23, 22, 495, 202, 496, 497, 498, 499, 12, 13, 500, 210, 35, 205, 225, 226, 322, 227, 501, 239, 204, 502, 216, 215, 503, 504, 505, 506, 1088, 1089, 1090, 1091, 1092, 1093, 1094, 1095, 1096, 1097, 1119, 1120, 1121, 1122, 1123, 1124, 1125, 1126, 1127, 1128, 1129, 1130, 1131, 1132, 1133] (by decide +kernel) (by decide +kernel)) (goodIn_sub (fun _ h => (List.mem_append_left _ (List.mem_append_left _ (List.mem_append_left _ (List.mem_append_left _ (List.mem_append_left _ (List.mem_append_left _ (List.mem_append_right _ h)))))))) (by decide +kernel))) (goodIn_sub (fun _ h => (List.mem_append_left _ (List.mem_append_left _ (List.mem_append_left _ (List.mem_append_right _ h))))) (by decide +kernel))
set_option maxRecDepth 20000 in
theorem gL_law_L_site : GoodIn wzL_law (va_wsS RL 202 yL_site wsL_site) := goodIn_app (goodIn_of _ (by decide +kernel)) ggL_law_L_site
set_option maxRecDepth 20000 in
theorem ggL_law_X6_site_p0 : GoodIn wzL_law [.code yX6_site cX6_site 1 (some .int)] := goodIn_r _ [510] (by decide +kernel) (by decide +kernel)
set_option maxRecDepth 20000 in
theorem ggL_law_X6_site_p1 : GoodIn wzL_law wsX6_site_r1 := goodIn_r _ [60, 511, 512, 319, 513, 514, 515, 59, 516, 517, 114, 115, 116, 5, 117, 118, 518, 519, 323, 520, 12, 13, 327, 321] (by decide +kernel) (by decide +kernel)
set_option maxRecDepth 20000 in
theorem ggL_law_X6_site_p2 : GoodIn wzL_law wsX6_site_r2 := goodIn_r _ [322, 521, 340, 522, 523, 524, 525, 526, 300, 65, 527, 528, 529, 530, 531, 532, 533, 534, 535, 536, 537, 538, 64, 539] (by decide +kernel) (by decide +kernel)
set_option maxRecDepth 20000 in
theorem ggL_law_X6_site_p3 : GoodIn wzL_law wsX6_site_r3 := goodIn_r _ [180, 181, 182, 540, 541, 542, 543, 544, 545, 546, 547, 548, 549, 550, 551, 78, 552, 553, 554, 555, 556, 557, 558, 559] (by decide +kernel) (by decide +kernel)
set_option maxRecDepth 20000 in
theorem ggL_law_X6_site_p4 : GoodIn wzL_law wsX6_site_r4 := goodIn_r _ [560, 561, 562, 184, 185, 563, 564, 565, 566] (by decide +kernel) (by decide +kernel)
set_option maxRecDepth 20000 in
theorem ggL_law_X6_site_p5 : GoodIn wzL_law wsX60 := goodIn_r _ [1098, 1099, 1100, 1101, 1102, 1103, 1104, 1105, 1106, 1107, 1108] (by decide +kernel) (by decide +kernel)
set_option maxRecDepth 20000 in
theorem ggL_law_X6_site_p6 : GoodIn wzL_law wsX50 := goodIn_r _ [1138, 1139, 1140, 1141, 1142, 1143, 1144, 1145, 1146, 1147] (by decide +kernel) (by decide +kernel)
set_option maxRecDepth 20000 in
theorem ggL_law_X6_site_p7 : GoodIn wzL_law wsJx4a65c0 := goodIn_r _ [1116, 1117, 1118] (by decide +kernel) (by decide +kernel)
set_option maxRecDepth 20000 in
theorem ggL_law_X6_site : GoodIn wzL_law wsX6_site := goodIn_app (a := [.code yX6_site cX6_site 1 (some .int)]) ggL_law_X6_site_p0 (goodIn_app (goodIn_app (goodIn_app (goodIn_app ggL_law_X6_site_p1 (goodIn_app ggL_law_X6_site_p2 (goodIn_app ggL_law_X6_site_p3 ggL_law_X6_site_p4))) ggL_law_X6_site_p5) ggL_law_X6_site_p6) ggL_law_X6_site_p7)
set_option maxRecDepth 20000 in
theorem gL_law_X6_site : GoodIn wzL_law (wsV RL 205 RX6 yX6_site wsX6_site) := goodIn_app (goodIn_of _ (by decide +kernel)) ggL_law_X6_site
set_option maxRecDepth 20000 in
theorem ggL_law_L_put_p0 : GoodIn wzL_law [.codeWith yL_put cL_put 7 (some .int) [(0, 14, 17, 54), (0, 14, 21, 13), (0, 14, 25, 15), (0, 14, 29, 27)]] := goodIn_r _ [569] (by decide +kernel) (by decide +kernel)
set_option maxRecDepth 20000 in
theorem ggL_law_L_put_p1 : GoodIn wzL_law wsL_put_r1 := goodIn_r _ [570, 84, 85, 163, 571, 572, 573, 2, 574, 575, 576, 90, 91, 92, 93, 168, 169, 30, 577, 578, 579, 580, 98, 99] (by decide +kernel) (by decide +kernel)
set_option maxRecDepth 20000 in
theorem ggL_law_L_put_p2 : GoodIn wzL_law wsL_put_r2 := goodIn_r _ [100, 191, 192, 193, 194, 24, 23, 581, 244, 245, 582, 207, 208, 202, 209, 210, 583, 255, 256, 257, 250, 251, 252, 253] (by decide +kernel) (by decide +kernel)
set_option maxRecDepth 20000 in
theorem ggL_law_L_put_p3 : GoodIn wzL_law wsL_put_r3 := goodIn_r _ [246, 247, 248, 249, 206, 584, 585, 586, 587, 28, 26, 27, 588, 589, 590, 591, 592, 222, 223, 224, 205, 225, 226, 227] (by decide +kernel) (by decide +kernel)
set_option maxRecDepth 20000 in
theorem ggL_law_L_put_p4 : GoodIn wzL_law wsL_put_r4 := goodIn_r _ [228, 229, 230, 593, 594, 595, 596, 17, 25, 126, 127, 128, 16, 129, 36, 37, 231, 232, 233, 234, 235, 236, 237, 238] (by decide +kernel) (by decide +kernel)
set_option maxRecDepth 20000 in
theorem ggL_law_L_put_p5 : GoodIn wzL_law wsL_put_r5 := goodIn_r _ [204, 239, 240, 241, 242, 243, 254, 258, 259, 260, 261, 262, 184, 181, 185, 263, 180, 182, 264, 265, 266, 211, 212, 213] (by decide +kernel) (by decide +kernel)
set_option maxRecDepth 20000 in
theorem ggL_law_L_put_p6 : GoodIn wzL_law wsL_put_r6 := goodIn_r _ [214, 215, 216, 217, 218, 219, 220, 221, 597, 598, 599, 600] (by decide +kernel) (by decide +kernel)
set_option maxRecDepth 20000 in
theorem ggL_law_L_put_p7 : GoodIn wzL_law wsX30 := goodIn_r _ [1088, 1089, 1090, 1091, 1092, 1093, 1094, 1095, 1096, 1097] (by decide +kernel) (by decide +kernel)
set_option maxRecDepth 20000 in
theorem ggL_law_L_put_p8 : GoodIn wzL_law wsX10 := goodIn_r _ [1119, 1120, 1121, 1122, 1123, 1124, 1125, 1126, 1127, 1128, 1129, 1130, 1131, 1132, 1133] (by decide +kernel) (by decide +kernel)
set_option maxRecDepth 20000 in
theorem ggL_law_L_put_p9 : GoodIn wzL_law wsX20 := goodIn_r _ [1109, 1110, 1111, 1112] (by decide +kernel) (by decide +kernel)
set_option maxRecDepth 20000 in
theorem ggL_law_L_put : GoodIn wzL_law wsL_put := goodIn_app (a := [.codeWith yL_put cL_put 7 (some .int) [(0, 14, 17, 54), (0, 14, 21, 13), (0, 14, 25, 15), (0, 14, 29, 27)]]) ggL_law_L_put_p0 (goodIn_app (goodIn_app (goodIn_app (goodIn_app (goodIn_app (goodIn_app (goodIn_app (goodIn_app (goodIn_app ggL_law_L_put_p1 (goodIn_app ggL_law_L_put_p2 (goodIn_app ggL_law_L_put_p3 (goodIn_app ggL_law_L_put_p4 (goodIn_app ggL_law_L_put_p5 ggL_law_L_put_p6))))) ggL_law_L_put_p7) ggL_law_L_put_p8) ggL_law_L_put_p9) (goodIn_sub (fun _ h => (List.mem_append_left _ (List.mem_append_left _ (List.mem_append_left _ (List.mem_append_left _ (List.mem_append_left _ (List.mem_append_left _ (List.mem_append_right _ h)))))))) (by decide +kernel))) (goodIn_sub (fun _ h => (List.mem_append_left _ (List.mem_append_right _ h))) (by decide +kernel))) (goodIn_sub (fun _ h => (List.mem_append_left _ (List.mem_append_left _ (List.mem_append_left _ (List.mem_append_left _ (List.mem_append_left _ (List.mem_append_right _ h))))))) (by decide +kernel))) (goodIn_sub (fun _ h => (List.mem_append_left _ (List.mem_append_left _ (List.mem_append_left _ (List.mem_append_left _ (List.mem_append_right _ h)))))) (by decide +kernel))) (goodIn_sub (fun _ h => (List.mem_append_left _ (List.mem_append_left _ (List.mem_append_left _ (List.mem_append_right _ h))))) (by decide +kernel)))
set_option maxRecDepth 20000 in
theorem gL_law_L_put : GoodIn wzL_law (va_wsS RL 206 yL_put wsL_put) := goodIn_app (goodIn_of _ (by decide +kernel)) ggL_law_L_put
set_option maxRecDepth 20000 in
theorem ggL_law_X6_put_p0 : GoodIn wzL_law [.code yX6_put cX6_put 7 (some .int)] := goodIn_r _ [604] (by decide +kernel) (by decide +kernel)
set_option maxRecDepth 20000 in
theorem ggL_law_X6_put_p1 : GoodIn wzL_law wsX6_put_r1 := goodIn_r _ [60, 277, 285, 56, 452, 605, 606, 607, 110, 608, 609, 610, 5, 611, 612, 613, 513, 514, 515, 59, 516, 517, 111, 112] (by decide +kernel) (by decide +kernel)
set_option maxRecDepth 20000 in
theorem ggL_law_X6_put_p2 : GoodIn wzL_law wsX6_put_r2 := goodIn_r _ [113, 114, 115, 116, 117, 118, 614, 615, 616, 617, 618, 619, 620, 621, 622, 623, 624, 625, 626, 627, 628, 629, 65, 630] (by decide +kernel) (by decide +kernel)
set_option maxRecDepth 20000 in
theorem ggL_law_X6_put_p3 : GoodIn wzL_law wsX6_put_r3 := goodIn_r _ [331, 332, 319, 333, 334, 335, 327, 631, 368, 369, 370, 330, 359, 360, 361, 362, 363, 364, 365, 366, 632, 633, 634, 635] (by decide +kernel) (by decide +kernel)
set_option maxRecDepth 20000 in
theorem ggL_law_X6_put_p4 : GoodIn wzL_law wsX6_put_r4 := goodIn_r _ [12, 13, 636, 637, 135, 136, 137, 138, 52, 638, 343, 344, 345, 346, 347, 348, 349, 321, 322, 350, 351, 352, 353, 354] (by decide +kernel) (by decide +kernel)
set_option maxRecDepth 20000 in
theorem ggL_law_X6_put_p5 : GoodIn wzL_law wsX6_put_r5 := goodIn_r _ [35, 355, 356, 357, 358, 367, 371, 372, 373, 374, 375, 184, 181, 185, 328, 180, 182, 336, 337, 338, 339, 340, 341, 323] (by decide +kernel) (by decide +kernel)
set_option maxRecDepth 20000 in
theorem ggL_law_X6_put_p6 : GoodIn wzL_law wsX6_put_r6 := goodIn_r _ [639, 640, 641, 642] (by decide +kernel) (by decide +kernel)
set_option maxRecDepth 20000 in
theorem ggL_law_X6_put_p7 : GoodIn wzL_law wsX60 := goodIn_r _ [1098, 1099, 1100, 1101, 1102, 1103, 1104, 1105, 1106, 1107, 1108] (by decide +kernel) (by decide +kernel)
set_option maxRecDepth 20000 in
theorem ggL_law_X6_put_p8 : GoodIn wzL_law wsX50 := goodIn_r _ [1138, 1139, 1140, 1141, 1142, 1143, 1144, 1145, 1146, 1147] (by decide +kernel) (by decide +kernel)
set_option maxRecDepth 20000 in
theorem ggL_law_X6_put_p9 : GoodIn wzL_law wsX40 := goodIn_r _ [1148, 1149, 1150, 1151, 1152] (by decide +kernel) (by decide +kernel)
set_option maxRecDepth 20000 in
theorem ggL_law_X6_put_p10 : GoodIn wzL_law wsJx4a65c0 := goodIn_r _ [1116, 1117, 1118] (by decide +kernel) (by decide +kernel)
set_option maxRecDepth 20000 in
theorem ggL_law_X6_put : GoodIn wzL_law wsX6_put := goodIn_app (a := [.code yX6_put cX6_put 7 (some .int)]) ggL_law_X6_put_p0 (goodIn_app (goodIn_app (goodIn_app (goodIn_app (goodIn_app (goodIn_app ggL_law_X6_put_p1 (goodIn_app ggL_law_X6_put_p2 (goodIn_app ggL_law_X6_put_p3 (goodIn_app ggL_law_X6_put_p4 (goodIn_app ggL_law_X6_put_p5 ggL_law_X6_put_p6))))) ggL_law_X6_put_p7) ggL_law_X6_put_p8) ggL_law_X6_put_p9) ggL_law_X6_put_p10) (goodIn_sub (fun _ h => (List.mem_append_left _ (List.mem_append_left _ (List.mem_append_left _ (List.mem_append_left _ (List.mem_append_left _ (List.mem_append_left _ (List.mem_append_right _ h)))))))) (by decide +kernel)))
set_option maxRecDepth 20000 in
theorem gL_law_X6_put : GoodIn wzL_law (wsV RL 209 RX6 yX6_put wsX6_put) := goodIn_app (goodIn_of _ (by decide +kernel)) ggL_law_X6_put
set_option maxRecDepth 20000 in
theorem ggL_law_L_at : GoodIn wzL_law wsL_at := goodIn_ca (goodIn_ca (goodIn_r _ [645, 570, 646, 647, 648, 2, 649, 575, 576, 650, 577, 578, 579, 580, 98, 99, 100, 191, 192, 193, 194, 24, 23, 581, 244, 245, 1119, 1120, 1121, 1122, 1123, 1124, 1125, 1126, 1127, 1128, 1129, 1130, 1131, 1132, 1133, 1088, 1089, 1090, 1091, 1092, 1093, 1094, 1095, 1096, 1097] (by decide +kernel) (by decide +kernel)) (goodIn_sub (fun _ h => (List.mem_append_left _ (List.mem_append_left _ (List.mem_append_left _ (List.mem_append_left _ (List.mem_append_left _ (List.mem_append_left _ (List.mem_append_right _ h)))))))) (by decide +kernel))) (goodIn_sub (fun _ h => (List.mem_append_left _ (List.mem_append_right _ h))) (by decide +kernel))
set_option maxRecDepth 20000 in
theorem gL_law_L_at : GoodIn wzL_law (va_wsS RL 210 yL_at wsL_at) := goodIn_app (goodIn_of _ (by decide +kernel)) ggL_law_L_at

set_option maxRecDepth 20000 in
theorem ggL_law_X6_at : GoodIn wzL_law wsX6_at := goodIn_r _ [654, 60, 277, 608, 609, 610, 5, 611, 612, 613, 513, 514, 515, 59, 516, 517, 111, 112, 113, 114, 115, 116, 117, 118, 614, 615, 616, 617, 618, 619, 620, 621, 622, 623, 624, 625, 626, 627, 628, 629, 65, 630, 331, 332, 319, 333, 334, 335, 327, 1098, 1099, 1100, 1101, 1102, 1103, 1104, 1105, 1106, 1107, 1108, 1138, 1139, 1140, 1141, 1142, 1143, 1144, 1145, 1146, 1147, 1148, 1149, 1150, 1151, 1152, 1116, 1117, 1118] (by decide +kernel) (by decide +kernel)
set_option maxRecDepth 20000 in
theorem gL_law_X6_at : GoodIn wzL_law (wsV RL 213 RX6 yX6_at wsX6_at) := goodIn_app (goodIn_of _ (by decide +kernel)) ggL_law_X6_at
set_option maxRecDepth 20000 in
theorem ggL_law_L_mass : GoodIn wzL_law wzL_mass := goodIn_ca (goodIn_ca (goodIn_r _ [657, 570, 658, 659, 660, 661, 2, 662, 575, 576, 663, 664, 665, 577, 578, 579, 580, 98, 99, 100, 191, 192, 193, 194, 24, 23, 581, 244, 245, 582, 207, 208, 202, 209, 210, 1119, 1120, 1121, 1122, 1123, 1124, 1125, 1126, 1127, 1128, 1129, 1130, 1131, 1132, 1133, 1088, 1089, 1090, 1091, 1092, 1093, 1094, 1095, 1096, 1097] (by decide +kernel) (by decide +kernel)) (goodIn_sub (fun _ h => (List.mem_append_left _ (List.mem_append_left _ (List.mem_append_left _ (List.mem_append_left _ (List.mem_append_left _ (List.mem_append_left _ (List.mem_append_right _ h)))))))) (by decide +kernel))) (goodIn_sub (fun _ h => (List.mem_append_left _ (List.mem_append_right _ h))) (by decide +kernel))
set_option maxRecDepth 20000 in
theorem gL_law_L_mass : GoodIn wzL_law (va_wsS RL 214 yL_mass wzL_mass) := goodIn_app (goodIn_of _ (by decide +kernel)) ggL_law_L_mass
set_option maxRecDepth 20000 in
theorem ggL_law_X6_mass_p0 : GoodIn wzL_law [.code yX6_mass cX6_mass 4 (some .int)] := goodIn_r _ [669] (by decide +kernel) (by decide +kernel)
set_option maxRecDepth 20000 in
theorem ggL_law_X6_mass_p1 : GoodIn wzL_law wsX6_mass_r1 := goodIn_r _ [60, 277, 670, 671, 672, 5, 673, 608, 609, 610, 611, 612, 613, 513, 514, 515, 59, 516, 517, 111, 112, 113, 114, 115] (by decide +kernel) (by decide +kernel)
set_option maxRecDepth 20000 in
theorem ggL_law_X6_mass_p2 : GoodIn wzL_law wsX6_mass_r2 := goodIn_r _ [116, 117, 118, 614, 615, 616, 617, 618, 619, 620, 621, 622, 623, 624, 625, 626, 627, 628, 629, 65, 630, 331, 332, 319] (by decide +kernel) (by decide +kernel)
set_option maxRecDepth 20000 in
theorem ggL_law_X6_mass_p3 : GoodIn wzL_law wsX6_mass_r3 := goodIn_r _ [333, 334, 335, 327] (by decide +kernel) (by decide +kernel)
set_option maxRecDepth 20000 in
theorem ggL_law_X6_mass_p4 : GoodIn wzL_law wsX60 := goodIn_r _ [1098, 1099, 1100, 1101, 1102, 1103, 1104, 1105, 1106, 1107, 1108] (by decide +kernel) (by decide +kernel)
set_option maxRecDepth 20000 in
theorem ggL_law_X6_mass_p5 : GoodIn wzL_law wsX50 := goodIn_r _ [1138, 1139, 1140, 1141, 1142, 1143, 1144, 1145, 1146, 1147] (by decide +kernel) (by decide +kernel)
set_option maxRecDepth 20000 in
theorem ggL_law_X6_mass_p6 : GoodIn wzL_law wsX40 := goodIn_r _ [1148, 1149, 1150, 1151, 1152] (by decide +kernel) (by decide +kernel)
set_option maxRecDepth 20000 in
theorem ggL_law_X6_mass_p7 : GoodIn wzL_law wsJx4a65c0 := goodIn_r _ [1116, 1117, 1118] (by decide +kernel) (by decide +kernel)
set_option maxRecDepth 20000 in
theorem ggL_law_X6_mass : GoodIn wzL_law wsX6_mass := goodIn_app (a := [.code yX6_mass cX6_mass 4 (some .int)]) ggL_law_X6_mass_p0 (goodIn_app (goodIn_app (goodIn_app (goodIn_app (goodIn_app ggL_law_X6_mass_p1 (goodIn_app ggL_law_X6_mass_p2 ggL_law_X6_mass_p3)) ggL_law_X6_mass_p4) ggL_law_X6_mass_p5) ggL_law_X6_mass_p6) ggL_law_X6_mass_p7)
set_option maxRecDepth 20000 in
theorem gL_law_X6_mass : GoodIn wzL_law (wsV RL 216 RX6 yX6_mass wsX6_mass) := goodIn_app (goodIn_of _ (by decide +kernel)) ggL_law_X6_mass
set_option maxRecDepth 20000 in
theorem ggL_law_L_load : GoodIn wzL_law wzL_load := goodIn_ca (goodIn_ca (goodIn_r _ [676, 570, 658, 677, 678, 679, 2, 680, 575, 576, 663, 664, 681, 577, 578, 579, 580, 98, 99, 100, 191, 192, 193, 194, 24, 23, 581, 244, 245, 582, 207, 208, 202, 209, 210, 682, 241, 242, 243, 239, 205, 206, 246, 247, 248, 249, 250, 251, 252, 253, 1119, 1120, 1121, 1122, 1123, 1124, 1125, 1126, 1127, 1128, 1129, 1130, 1131, 1132, 1133, 1088, 1089, 1090, 1091, 1092, 1093, 1094, 1095, 1096, 1097] (by decide +kernel) (by decide +kernel)) (goodIn_sub (fun _ h => (List.mem_append_left _ (List.mem_append_left _ (List.mem_append_left _ (List.mem_append_left _ (List.mem_append_left _ (List.mem_append_left _ (List.mem_append_right _ h)))))))) (by decide +kernel))) (goodIn_sub (fun _ h => (List.mem_append_left _ (List.mem_append_right _ h))) (by decide +kernel))
set_option maxRecDepth 20000 in
theorem gL_law_L_load : GoodIn wzL_law (va_wsS RL 217 yL_load wzL_load) := goodIn_app (goodIn_of _ (by decide +kernel)) ggL_law_L_load
set_option maxRecDepth 20000 in
theorem ggL_law_X6_load_p0 : GoodIn wzL_law [.code yX6_load cX6_load 4 (some .int)] := goodIn_r _ [686] (by decide +kernel) (by decide +kernel)
set_option maxRecDepth 20000 in
theorem ggL_law_X6_load_p1 : GoodIn wzL_law wsX6_load_r1 := goodIn_r _ [60, 277, 670, 671, 672, 5, 673, 608, 609, 610, 611, 612, 613, 513, 514, 515, 59, 516, 517, 111, 112, 113, 114, 115] (by decide +kernel) (by decide +kernel)
set_option maxRecDepth 20000 in
theorem ggL_law_X6_load_p2 : GoodIn wzL_law wsX6_load_r2 := goodIn_r _ [116, 117, 118, 614, 615, 616, 617, 618, 619, 620, 621, 622, 623, 624, 625, 626, 627, 628, 629, 65, 630, 331, 332, 319] (by decide +kernel) (by decide +kernel)
set_option maxRecDepth 20000 in
theorem ggL_law_X6_load_p3 : GoodIn wzL_law wsX6_load_r3 := goodIn_r _ [333, 334, 335, 327, 687, 351, 352, 353, 354, 35, 330, 355, 356, 357, 358, 359, 360, 361, 362, 363, 364, 365, 366] (by decide +kernel) (by decide +kernel)
set_option maxRecDepth 20000 in
theorem ggL_law_X6_load_p4 : GoodIn wzL_law wsX60 := goodIn_r _ [1098, 1099, 1100, 1101, 1102, 1103, 1104, 1105, 1106, 1107, 1108] (by decide +kernel) (by decide +kernel)
set_option maxRecDepth 20000 in
theorem ggL_law_X6_load_p5 : GoodIn wzL_law wsJx4a65c0 := goodIn_r _ [1116, 1117, 1118] (by decide +kernel) (by decide +kernel)
set_option maxRecDepth 20000 in
theorem ggL_law_X6_load_p6 : GoodIn wzL_law wsX50 := goodIn_r _ [1138, 1139, 1140, 1141, 1142, 1143, 1144, 1145, 1146, 1147] (by decide +kernel) (by decide +kernel)
set_option maxRecDepth 20000 in
theorem ggL_law_X6_load_p7 : GoodIn wzL_law wsX40 := goodIn_r _ [1148, 1149, 1150, 1151, 1152] (by decide +kernel) (by decide +kernel)
set_option maxRecDepth 20000 in
theorem ggL_law_X6_load : GoodIn wzL_law wsX6_load := goodIn_app (a := [.code yX6_load cX6_load 4 (some .int)]) ggL_law_X6_load_p0 (goodIn_app (goodIn_app (goodIn_app (goodIn_app (goodIn_app (goodIn_app ggL_law_X6_load_p1 (goodIn_app ggL_law_X6_load_p2 ggL_law_X6_load_p3)) ggL_law_X6_load_p4) ggL_law_X6_load_p5) ggL_law_X6_load_p6) ggL_law_X6_load_p7) (goodIn_sub (fun _ h => (List.mem_append_left _ (List.mem_append_left _ (List.mem_append_left _ (List.mem_append_left _ (List.mem_append_left _ (List.mem_append_left _ (List.mem_append_right _ h)))))))) (by decide +kernel)))
set_option maxRecDepth 20000 in
theorem gL_law_X6_load : GoodIn wzL_law (wsV RL 219 RX6 yX6_load wsX6_load) := goodIn_app (goodIn_of _ (by decide +kernel)) ggL_law_X6_load
set_option maxRecDepth 20000 in
theorem ggL_law_L_strength_p0 : GoodIn wzL_law [.codeWith yL_strength cL_strength 6 (some .int) [(0, 12, 15, 54), (0, 12, 19, 64)]] := goodIn_r _ [690] (by decide +kernel) (by decide +kernel)
set_option maxRecDepth 20000 in
theorem ggL_law_L_strength_p1 : GoodIn wzL_law wsL_strength_r1 := goodIn_r _ [570, 658, 691, 692, 693, 2, 694, 575, 576, 663, 664, 17, 25, 577, 578, 579, 580, 98, 99, 100, 191, 192, 193, 194] (by decide +kernel) (by decide +kernel)
set_option maxRecDepth 20000 in
theorem ggL_law_L_strength_p2 : GoodIn wzL_law wsL_strength_r2 := goodIn_r _ [24, 23, 581, 244, 245, 582, 207, 208, 202, 209, 210, 126, 127, 128, 16, 129, 36, 37, 695, 259, 260, 261, 226, 262] (by decide +kernel) (by decide +kernel)
set_option maxRecDepth 20000 in
theorem ggL_law_L_strength_p3 : GoodIn wzL_law wsL_strength_r3 := goodIn_r _ [184, 181, 185, 227, 263, 180, 182, 206, 264, 265, 266] (by decide +kernel) (by decide +kernel)
set_option maxRecDepth 20000 in
theorem ggL_law_L_strength_p4 : GoodIn wzL_law wsX30 := goodIn_r _ [1088, 1089, 1090, 1091, 1092, 1093, 1094, 1095, 1096, 1097] (by decide +kernel) (by decide +kernel)
set_option maxRecDepth 20000 in
theorem ggL_law_L_strength_p5 : GoodIn wzL_law wsX10 := goodIn_r _ [1119, 1120, 1121, 1122, 1123, 1124, 1125, 1126, 1127, 1128, 1129, 1130, 1131, 1132, 1133] (by decide +kernel) (by decide +kernel)
set_option maxRecDepth 20000 in
theorem ggL_law_L_strength_p6 : GoodIn wzL_law wsX20 := goodIn_r _ [1109, 1110, 1111, 1112] (by decide +kernel) (by decide +kernel)
set_option maxRecDepth 20000 in
theorem ggL_law_L_strength : GoodIn wzL_law wzL_strength := goodIn_app (a := [.codeWith yL_strength cL_strength 6 (some .int) [(0, 12, 15, 54), (0, 12, 19, 64)]]) ggL_law_L_strength_p0 (goodIn_app (goodIn_app (goodIn_app (goodIn_app (goodIn_app (goodIn_app ggL_law_L_strength_p1 (goodIn_app ggL_law_L_strength_p2 ggL_law_L_strength_p3)) ggL_law_L_strength_p4) ggL_law_L_strength_p5) ggL_law_L_strength_p6) (goodIn_sub (fun _ h => (List.mem_append_left _ (List.mem_append_left _ (List.mem_append_left _ (List.mem_append_left _ (List.mem_append_left _ (List.mem_append_left _ (List.mem_append_right _ h)))))))) (by decide +kernel))) (goodIn_sub (fun _ h => (List.mem_append_left _ (List.mem_append_right _ h))) (by decide +kernel)))
set_option maxRecDepth 20000 in
theorem gL_law_L_strength : GoodIn wzL_law (va_wsS RL 220 yL_strength wzL_strength) := goodIn_app (goodIn_of _ (by decide +kernel)) ggL_law_L_strength
set_option maxRecDepth 20000 in
theorem ggL_law_X6_strength_p0 : GoodIn wzL_law [.code yX6_strength cX6_strength 4 (some .int)] := goodIn_r _ [699] (by decide +kernel) (by decide +kernel)
set_option maxRecDepth 20000 in
theorem ggL_law_X6_strength_p1 : GoodIn wzL_law wsX6_strength_r1 := goodIn_r _ [60, 277, 110, 670, 671, 672, 5, 673, 608, 609, 610, 611, 612, 613, 513, 514, 515, 59, 516, 517, 111, 112, 113, 114] (by decide +kernel) (by decide +kernel)
set_option maxRecDepth 20000 in
theorem ggL_law_X6_strength_p2 : GoodIn wzL_law wsX6_strength_r2 := goodIn_r _ [115, 116, 117, 118, 614, 615, 616, 617, 618, 619, 620, 621, 622, 623, 624, 625, 626, 627, 628, 629, 65, 630, 331, 332] (by decide +kernel) (by decide +kernel)
set_option maxRecDepth 20000 in
theorem ggL_law_X6_strength_p3 : GoodIn wzL_law wsX6_strength_r3 := goodIn_r _ [319, 333, 334, 335, 327, 135, 136, 137, 138, 52, 700, 372, 373, 374, 375, 184, 181, 185, 328, 180, 182] (by decide +kernel) (by decide +kernel)
set_option maxRecDepth 20000 in
theorem ggL_law_X6_strength_p4 : GoodIn wzL_law wsX60 := goodIn_r _ [1098, 1099, 1100, 1101, 1102, 1103, 1104, 1105, 1106, 1107, 1108] (by decide +kernel) (by decide +kernel)
set_option maxRecDepth 20000 in
theorem ggL_law_X6_strength_p5 : GoodIn wzL_law wsJx4a65c0 := goodIn_r _ [1116, 1117, 1118] (by decide +kernel) (by decide +kernel)
set_option maxRecDepth 20000 in
theorem ggL_law_X6_strength_p6 : GoodIn wzL_law wsX50 := goodIn_r _ [1138, 1139, 1140, 1141, 1142, 1143, 1144, 1145, 1146, 1147] (by decide +kernel) (by decide +kernel)
set_option maxRecDepth 20000 in
theorem ggL_law_X6_strength_p7 : GoodIn wzL_law wsX40 := goodIn_r _ [1148, 1149, 1150, 1151, 1152] (by decide +kernel) (by decide +kernel)
set_option maxRecDepth 20000 in
theorem ggL_law_X6_strength : GoodIn wzL_law wsX6_strength := goodIn_app (a := [.code yX6_strength cX6_strength 4 (some .int)]) ggL_law_X6_strength_p0 (goodIn_app (goodIn_app (goodIn_app (goodIn_app (goodIn_app (goodIn_app ggL_law_X6_strength_p1 (goodIn_app ggL_law_X6_strength_p2 ggL_law_X6_strength_p3)) ggL_law_X6_strength_p4) ggL_law_X6_strength_p5) ggL_law_X6_strength_p6) ggL_law_X6_strength_p7) (goodIn_sub (fun _ h => (List.mem_append_left _ (List.mem_append_left _ (List.mem_append_left _ (List.mem_append_left _ (List.mem_append_left _ (List.mem_append_left _ (List.mem_append_right _ h)))))))) (by decide +kernel)))
set_option maxRecDepth 20000 in
theorem gL_law_X6_strength : GoodIn wzL_law (wsV RL 222 RX6 yX6_strength wsX6_strength) := goodIn_app (goodIn_of _ (by decide +kernel)) ggL_law_X6_strength
set_option maxRecDepth 20000 in
theorem ggL_law_L_creep : GoodIn wzL_law wzL_creep := goodIn_ca (goodIn_ca (goodIn_r _ [703, 570, 658, 704, 705, 706, 2, 707, 575, 576, 663, 664, 708, 577, 578, 579, 580, 98, 99, 100, 191, 192, 193, 194, 24, 23, 581, 244, 245, 582, 207, 208, 202, 209, 210, 1119, 1120, 1121, 1122, 1123, 1124, 1125, 1126, 1127, 1128, 1129, 1130, 1131, 1132, 1133, 1088, 1089, 1090, 1091, 1092, 1093, 1094, 1095, 1096, 1097] (by decide +kernel) (by decide +kernel)) (goodIn_sub (fun _ h => (List.mem_append_left _ (List.mem_append_left _ (List.mem_append_left _ (List.mem_append_left _ (List.mem_append_left _ (List.mem_append_left _ (List.mem_append_right _ h)))))))) (by decide +kernel))) (goodIn_sub (fun _ h => (List.mem_append_left _ (List.mem_append_right _ h))) (by decide +kernel))
set_option maxRecDepth 20000 in
theorem gL_law_L_creep : GoodIn wzL_law (va_wsS RL 223 yL_creep wzL_creep) := goodIn_app (goodIn_of _ (by decide +kernel)) ggL_law_L_creep
set_option maxRecDepth 20000 in
theorem ggL_law_X6_creep_p0 : GoodIn wzL_law [.code yX6_creep cX6_creep 4 (some .int)] := goodIn_r _ [712] (by decide +kernel) (by decide +kernel)
set_option maxRecDepth 20000 in
theorem ggL_law_X6_creep_p1 : GoodIn wzL_law wsX6_creep_r1 := goodIn_r _ [60, 277, 670, 671, 672, 5, 673, 608, 609, 610, 611, 612, 613, 513, 514, 515, 59, 516, 517, 111, 112, 113, 114, 115] (by decide +kernel) (by decide +kernel)
set_option maxRecDepth 20000 in
theorem ggL_law_X6_creep_p2 : GoodIn wzL_law wsX6_creep_r2 := goodIn_r _ [116, 117, 118, 614, 615, 616, 617, 618, 619, 620, 621, 622, 623, 624, 625, 626, 627, 628, 629, 65, 630, 331, 332, 319] (by decide +kernel) (by decide +kernel)
set_option maxRecDepth 20000 in
theorem ggL_law_X6_creep_p3 : GoodIn wzL_law wsX6_creep_r3 := goodIn_r _ [333, 334, 335, 327] (by decide +kernel) (by decide +kernel)
set_option maxRecDepth 20000 in
theorem ggL_law_X6_creep_p4 : GoodIn wzL_law wsX60 := goodIn_r _ [1098, 1099, 1100, 1101, 1102, 1103, 1104, 1105, 1106, 1107, 1108] (by decide +kernel) (by decide +kernel)
set_option maxRecDepth 20000 in
theorem ggL_law_X6_creep_p5 : GoodIn wzL_law wsX50 := goodIn_r _ [1138, 1139, 1140, 1141, 1142, 1143, 1144, 1145, 1146, 1147] (by decide +kernel) (by decide +kernel)
set_option maxRecDepth 20000 in
theorem ggL_law_X6_creep_p6 : GoodIn wzL_law wsX40 := goodIn_r _ [1148, 1149, 1150, 1151, 1152] (by decide +kernel) (by decide +kernel)
set_option maxRecDepth 20000 in
theorem ggL_law_X6_creep_p7 : GoodIn wzL_law wsJx4a65c0 := goodIn_r _ [1116, 1117, 1118] (by decide +kernel) (by decide +kernel)
set_option maxRecDepth 20000 in
theorem ggL_law_X6_creep : GoodIn wzL_law wsX6_creep := goodIn_app (a := [.code yX6_creep cX6_creep 4 (some .int)]) ggL_law_X6_creep_p0 (goodIn_app (goodIn_app (goodIn_app (goodIn_app (goodIn_app ggL_law_X6_creep_p1 (goodIn_app ggL_law_X6_creep_p2 ggL_law_X6_creep_p3)) ggL_law_X6_creep_p4) ggL_law_X6_creep_p5) ggL_law_X6_creep_p6) ggL_law_X6_creep_p7)
set_option maxRecDepth 20000 in
theorem gL_law_X6_creep : GoodIn wzL_law (wsV RL 225 RX6 yX6_creep wsX6_creep) := goodIn_app (goodIn_of _ (by decide +kernel)) ggL_law_X6_creep
set_option maxRecDepth 20000 in
theorem ggL_law_L_age : GoodIn wzL_law wzL_age := goodIn_ca (goodIn_ca (goodIn_r _ [715, 570, 658, 716, 717, 718, 2, 719, 575, 576, 663, 664, 720, 577, 578, 579, 580, 98, 99, 100, 191, 192, 193, 194, 24, 23, 581, 244, 245, 582, 207, 208, 202, 209, 210, 1119, 1120, 1121, 1122, 1123, 1124, 1125, 1126, 1127, 1128, 1129, 1130, 1131, 1132, 1133, 1088, 1089, 1090, 1091, 1092, 1093, 1094, 1095, 1096, 1097] (by decide +kernel) (by decide +kernel)) (goodIn_sub (fun _ h => (List.mem_append_left _ (List.mem_append_left _ (List.mem_append_left _ (List.mem_append_left _ (List.mem_append_left _ (List.mem_append_left _ (List.mem_append_right _ h)))))))) (by decide +kernel))) (goodIn_sub (fun _ h => (List.mem_append_left _ (List.mem_append_right _ h))) (by decide +kernel))
set_option maxRecDepth 20000 in
theorem gL_law_L_age : GoodIn wzL_law (va_wsS RL 226 yL_age wzL_age) := goodIn_app (goodIn_of _ (by decide +kernel)) ggL_law_L_age
set_option maxRecDepth 20000 in
theorem ggL_law_X6_age_p0 : GoodIn wzL_law [.code yX6_age cX6_age 4 (some .int)] := goodIn_r _ [724] (by decide +kernel) (by decide +kernel)
set_option maxRecDepth 20000 in
theorem ggL_law_X6_age_p1 : GoodIn wzL_law wsX6_age_r1 := goodIn_r _ [60, 277, 670, 671, 672, 5, 673, 608, 609, 610, 611, 612, 613, 513, 514, 515, 59, 516, 517, 111, 112, 113, 114, 115] (by decide +kernel) (by decide +kernel)
set_option maxRecDepth 20000 in
theorem ggL_law_X6_age_p2 : GoodIn wzL_law wsX6_age_r2 := goodIn_r _ [116, 117, 118, 614, 615, 616, 617, 618, 619, 620, 621, 622, 623, 624, 625, 626, 627, 628, 629, 65, 630, 331, 332, 319] (by decide +kernel) (by decide +kernel)
set_option maxRecDepth 20000 in
theorem ggL_law_X6_age_p3 : GoodIn wzL_law wsX6_age_r3 := goodIn_r _ [333, 334, 335, 327] (by decide +kernel) (by decide +kernel)
set_option maxRecDepth 20000 in
theorem ggL_law_X6_age_p4 : GoodIn wzL_law wsX60 := goodIn_r _ [1098, 1099, 1100, 1101, 1102, 1103, 1104, 1105, 1106, 1107, 1108] (by decide +kernel) (by decide +kernel)
set_option maxRecDepth 20000 in
theorem ggL_law_X6_age_p5 : GoodIn wzL_law wsX50 := goodIn_r _ [1138, 1139, 1140, 1141, 1142, 1143, 1144, 1145, 1146, 1147] (by decide +kernel) (by decide +kernel)
set_option maxRecDepth 20000 in
theorem ggL_law_X6_age_p6 : GoodIn wzL_law wsX40 := goodIn_r _ [1148, 1149, 1150, 1151, 1152] (by decide +kernel) (by decide +kernel)
set_option maxRecDepth 20000 in
theorem ggL_law_X6_age_p7 : GoodIn wzL_law wsJx4a65c0 := goodIn_r _ [1116, 1117, 1118] (by decide +kernel) (by decide +kernel)
set_option maxRecDepth 20000 in
theorem ggL_law_X6_age : GoodIn wzL_law wsX6_age := goodIn_app (a := [.code yX6_age cX6_age 4 (some .int)]) ggL_law_X6_age_p0 (goodIn_app (goodIn_app (goodIn_app (goodIn_app (goodIn_app ggL_law_X6_age_p1 (goodIn_app ggL_law_X6_age_p2 ggL_law_X6_age_p3)) ggL_law_X6_age_p4) ggL_law_X6_age_p5) ggL_law_X6_age_p6) ggL_law_X6_age_p7)
set_option maxRecDepth 20000 in
theorem gL_law_X6_age : GoodIn wzL_law (wsV RL 228 RX6 yX6_age wsX6_age) := goodIn_app (goodIn_of _ (by decide +kernel)) ggL_law_X6_age
set_option maxRecDepth 20000 in
theorem ggL_law_L_isArch : GoodIn wzL_law wzL_isArch := goodIn_ca (goodIn_ca (goodIn_r _ [727, 570, 658, 728, 729, 730, 2, 731, 575, 576, 663, 664, 577, 578, 579, 580, 98, 99, 100, 191, 192, 193, 194, 24, 23, 581, 244, 245, 582, 207, 208, 202, 209, 210, 732, 247, 248, 249, 250, 251, 252, 253, 206, 1088, 1089, 1090, 1091, 1092, 1093, 1094, 1095, 1096, 1097, 1119, 1120, 1121, 1122, 1123, 1124, 1125, 1126, 1127, 1128, 1129, 1130, 1131, 1132, 1133] (by decide +kernel) (by decide +kernel)) (goodIn_sub (fun _ h => (List.mem_append_left _ (List.mem_append_left _ (List.mem_append_left _ (List.mem_append_left _ (List.mem_append_left _ (List.mem_append_left _ (List.mem_append_right _ h)))))))) (by decide +kernel))) (goodIn_sub (fun _ h => (List.mem_append_left _ (List.mem_append_right _ h))) (by decide +kernel))
set_option maxRecDepth 20000 in
theorem gL_law_L_isArch : GoodIn wzL_law (va_wsS RL 229 yL_isArch wzL_isArch) := goodIn_app (goodIn_of _ (by decide +kernel)) ggL_law_L_isArch
set_option maxRecDepth 20000 in
theorem ggL_law_X6_isArch_p0 : GoodIn wzL_law [.code yX6_isArch cX6_isArch 4 (some .boolean)] := goodIn_r _ [736] (by decide +kernel) (by decide +kernel)
set_option maxRecDepth 20000 in
theorem ggL_law_X6_isArch_p1 : GoodIn wzL_law wsX6_isArch_r1 := goodIn_r _ [60, 277, 670, 671, 672, 5, 673, 608, 609, 610, 611, 612, 613, 513, 514, 515, 59, 516, 517, 111, 112, 113, 114, 115] (by decide +kernel) (by decide +kernel)
set_option maxRecDepth 20000 in
theorem ggL_law_X6_isArch_p2 : GoodIn wzL_law wsX6_isArch_r2 := goodIn_r _ [116, 117, 118, 614, 615, 616, 617, 618, 619, 620, 621, 622, 623, 624, 625, 626, 627, 628, 629, 65, 630, 331, 332, 319] (by decide +kernel) (by decide +kernel)
set_option maxRecDepth 20000 in
theorem ggL_law_X6_isArch_p3 : GoodIn wzL_law wsX6_isArch_r3 := goodIn_r _ [333, 334, 335, 327, 737, 360, 361, 362, 330, 363, 364, 365, 366] (by decide +kernel) (by decide +kernel)
set_option maxRecDepth 20000 in
theorem ggL_law_X6_isArch_p4 : GoodIn wzL_law wsX60 := goodIn_r _ [1098, 1099, 1100, 1101, 1102, 1103, 1104, 1105, 1106, 1107, 1108] (by decide +kernel) (by decide +kernel)
set_option maxRecDepth 20000 in
theorem ggL_law_X6_isArch_p5 : GoodIn wzL_law wsJx4a65c0 := goodIn_r _ [1116, 1117, 1118] (by decide +kernel) (by decide +kernel)
set_option maxRecDepth 20000 in
theorem ggL_law_X6_isArch_p6 : GoodIn wzL_law wsX50 := goodIn_r _ [1138, 1139, 1140, 1141, 1142, 1143, 1144, 1145, 1146, 1147] (by decide +kernel) (by decide +kernel)
set_option maxRecDepth 20000 in
theorem ggL_law_X6_isArch : GoodIn wzL_law wsX6_isArch := goodIn_app (a := [.code yX6_isArch cX6_isArch 4 (some .boolean)]) ggL_law_X6_isArch_p0 (goodIn_app (goodIn_app (goodIn_app (goodIn_app ggL_law_X6_isArch_p1 (goodIn_app ggL_law_X6_isArch_p2 ggL_law_X6_isArch_p3)) ggL_law_X6_isArch_p4) ggL_law_X6_isArch_p5) ggL_law_X6_isArch_p6)
set_option maxRecDepth 20000 in
theorem gL_law_X6_isArch : GoodIn wzL_law (wsV RL 231 RX6 yX6_isArch wsX6_isArch) := goodIn_app (goodIn_of _ (by decide +kernel)) ggL_law_X6_isArch
set_option maxRecDepth 20000 in
theorem ggL_law_L_fell : GoodIn wzL_law wsL_fell := goodIn_ca (goodIn_ca (goodIn_r _ [740, 570, 741, 742, 743, 2, 744, 575, 576, 745, 191, 192, 193, 194, 24, 23, 98, 99, 100, 1119, 1120, 1121, 1122, 1123, 1124, 1125, 1126, 1127, 1128, 1129, 1130, 1131, 1132, 1133, 1088, 1089, 1090, 1091, 1092, 1093, 1094, 1095, 1096, 1097] (by decide +kernel) (by decide +kernel)) (goodIn_sub (fun _ h => (List.mem_append_left _ (List.mem_append_left _ (List.mem_append_left _ (List.mem_append_left _ (List.mem_append_left _ (List.mem_append_left _ (List.mem_append_right _ h)))))))) (by decide +kernel))) (goodIn_sub (fun _ h => (List.mem_append_left _ (List.mem_append_right _ h))) (by decide +kernel))
set_option maxRecDepth 20000 in
theorem gL_law_L_fell : GoodIn wzL_law (va_wsS RL 232 yL_fell wsL_fell) := goodIn_app (goodIn_of _ (by decide +kernel)) ggL_law_L_fell
set_option maxRecDepth 20000 in
theorem ggL_law_X6_fell : GoodIn wzL_law wsX6_fell := goodIn_r _ [749, 60, 277, 750, 751, 752, 5, 753, 513, 514, 515, 59, 516, 517, 111, 112, 113, 114, 115, 116, 117, 118, 614, 615, 616, 617, 618, 619, 620, 621, 622, 623, 624, 625, 626, 627, 628, 629, 65, 1098, 1099, 1100, 1101, 1102, 1103, 1104, 1105, 1106, 1107, 1108, 1138, 1139, 1140, 1141, 1142, 1143, 1144, 1145, 1146, 1147, 1116, 1117, 1118] (by decide +kernel) (by decide +kernel)
set_option maxRecDepth 20000 in
theorem gL_law_X6_fell : GoodIn wzL_law (wsV RL 234 RX6 yX6_fell wsX6_fell) := goodIn_app (goodIn_of _ (by decide +kernel)) ggL_law_X6_fell
set_option maxRecDepth 20000 in
theorem ggL_law_L_lastFell : GoodIn wzL_law wzL_lastFell := goodIn_ca (goodIn_ca (goodIn_r _ [756, 570, 658, 757, 758, 759, 2, 760, 575, 576, 663, 664, 761, 191, 192, 193, 194, 24, 23, 98, 99, 100, 1119, 1120, 1121, 1122, 1123, 1124, 1125, 1126, 1127, 1128, 1129, 1130, 1131, 1132, 1133, 1088, 1089, 1090, 1091, 1092, 1093, 1094, 1095, 1096, 1097] (by decide +kernel) (by decide +kernel)) (goodIn_sub (fun _ h => (List.mem_append_left _ (List.mem_append_left _ (List.mem_append_left _ (List.mem_append_left _ (List.mem_append_left _ (List.mem_append_left _ (List.mem_append_right _ h)))))))) (by decide +kernel))) (goodIn_sub (fun _ h => (List.mem_append_left _ (List.mem_append_right _ h))) (by decide +kernel))
set_option maxRecDepth 20000 in
theorem gL_law_L_lastFell : GoodIn wzL_law (va_wsS RL 235 yL_lastFell wzL_lastFell) := goodIn_app (goodIn_of _ (by decide +kernel)) ggL_law_L_lastFell
set_option maxRecDepth 20000 in
theorem ggL_law_X6_lastFell : GoodIn wzL_law wsX6_lastFell := goodIn_r _ [765, 60, 277, 750, 751, 752, 5, 753, 513, 514, 515, 59, 516, 517, 111, 112, 113, 114, 115, 116, 117, 118, 614, 615, 616, 617, 618, 619, 620, 621, 622, 623, 624, 625, 626, 627, 628, 629, 65, 1098, 1099, 1100, 1101, 1102, 1103, 1104, 1105, 1106, 1107, 1108, 1138, 1139, 1140, 1141, 1142, 1143, 1144, 1145, 1146, 1147, 1116, 1117, 1118] (by decide +kernel) (by decide +kernel)
set_option maxRecDepth 20000 in
theorem gL_law_X6_lastFell : GoodIn wzL_law (wsV RL 237 RX6 yX6_lastFell wsX6_lastFell) := goodIn_app (goodIn_of _ (by decide +kernel)) ggL_law_X6_lastFell
set_option maxRecDepth 20000 in
theorem ggL_law_L_cover : GoodIn wzL_law wsL_cover := goodIn_ca (goodIn_ca (goodIn_r _ [768, 570, 769, 770, 771, 2, 772, 575, 576, 174, 30, 191, 192, 193, 194, 24, 23, 98, 99, 100, 1119, 1120, 1121, 1122, 1123, 1124, 1125, 1126, 1127, 1128, 1129, 1130, 1131, 1132, 1133, 1088, 1089, 1090, 1091, 1092, 1093, 1094, 1095, 1096, 1097] (by decide +kernel) (by decide +kernel)) (goodIn_sub (fun _ h => (List.mem_append_left _ (List.mem_append_left _ (List.mem_append_left _ (List.mem_append_left _ (List.mem_append_left _ (List.mem_append_left _ (List.mem_append_right _ h)))))))) (by decide +kernel))) (goodIn_sub (fun _ h => (List.mem_append_left _ (List.mem_append_right _ h))) (by decide +kernel))
set_option maxRecDepth 20000 in
theorem gL_law_L_cover : GoodIn wzL_law (va_wsS RL 238 yL_cover wsL_cover) := goodIn_app (goodIn_of _ (by decide +kernel)) ggL_law_L_cover
set_option maxRecDepth 20000 in
theorem ggL_law_X6_cover : GoodIn wzL_law wsX6_cover := goodIn_r _ [776, 60, 277, 452, 750, 751, 752, 5, 753, 513, 514, 515, 59, 516, 517, 111, 112, 113, 114, 115, 116, 117, 118, 614, 615, 616, 617, 618, 619, 620, 621, 622, 623, 624, 625, 626, 627, 628, 629, 65, 1098, 1099, 1100, 1101, 1102, 1103, 1104, 1105, 1106, 1107, 1108, 1138, 1139, 1140, 1141, 1142, 1143, 1144, 1145, 1146, 1147, 1116, 1117, 1118] (by decide +kernel) (by decide +kernel)
set_option maxRecDepth 20000 in
theorem gL_law_X6_cover : GoodIn wzL_law (wsV RL 241 RX6 yX6_cover wsX6_cover) := goodIn_app (goodIn_of _ (by decide +kernel)) ggL_law_X6_cover
set_option maxRecDepth 20000 in
theorem ggL_law_L_lamp : GoodIn wzL_law wzL_lamp := goodIn_ca (goodIn_ca (goodIn_ca (goodIn_r _ [779, 570, 658, 85, 780, 781, 782, 2, 783, 575, 576, 663, 664, 92, 93, 650, 784, 30, 577, 578, 579, 580, 98, 99, 100, 191, 192, 193, 194, 24, 23, 581, 244, 245, 582, 207, 208, 202, 209, 210, 1119, 1120, 1121, 1122, 1123, 1124, 1125, 1126, 1127, 1128, 1129, 1130, 1131, 1132, 1133, 1088, 1089, 1090, 1091, 1092, 1093, 1094, 1095, 1096, 1097] (by decide +kernel) (by decide +kernel)) (goodIn_sub (fun _ h => (List.mem_append_left _ (List.mem_append_left _ (List.mem_append_left _ (List.mem_append_left _ (List.mem_append_left _ (List.mem_append_left _ (List.mem_append_right _ h)))))))) (by decide +kernel))) (goodIn_sub (fun _ h => (List.mem_append_left _ (List.mem_append_right _ h))) (by decide +kernel))) (goodIn_sub (fun _ h => (List.mem_append_left _ (List.mem_append_left _ (List.mem_append_left _ (List.mem_append_left _ (List.mem_append_right _ h)))))) (by decide +kernel))
set_option maxRecDepth 20000 in
theorem gL_law_L_lamp : GoodIn wzL_law (va_wsS RL 242 yL_lamp wzL_lamp) := goodIn_app (goodIn_of _ (by decide +kernel)) ggL_law_L_lamp
set_option maxRecDepth 20000 in
theorem ggL_law_X6_lamp_p0 : GoodIn wzL_law [.code yX6_lamp cX6_lamp 7 (some .boolean)] := goodIn_r _ [788] (by decide +kernel) (by decide +kernel)
set_option maxRecDepth 20000 in
theorem ggL_law_X6_lamp_p1 : GoodIn wzL_law wsX6_lamp_r1 := goodIn_r _ [60, 277, 452, 670, 671, 672, 5, 673, 608, 609, 610, 611, 612, 613, 513, 514, 515, 59, 516, 517, 111, 112, 113, 114] (by decide +kernel) (by decide +kernel)
set_option maxRecDepth 20000 in
theorem ggL_law_X6_lamp_p2 : GoodIn wzL_law wsX6_lamp_r2 := goodIn_r _ [115, 116, 117, 118, 614, 615, 616, 617, 618, 619, 620, 621, 622, 623, 624, 625, 626, 627, 628, 629, 65, 630, 331, 332] (by decide +kernel) (by decide +kernel)
set_option maxRecDepth 20000 in
theorem ggL_law_X6_lamp_p3 : GoodIn wzL_law wsX6_lamp_r3 := goodIn_r _ [319, 333, 334, 335, 327] (by decide +kernel) (by decide +kernel)
set_option maxRecDepth 20000 in
theorem ggL_law_X6_lamp_p4 : GoodIn wzL_law wsX60 := goodIn_r _ [1098, 1099, 1100, 1101, 1102, 1103, 1104, 1105, 1106, 1107, 1108] (by decide +kernel) (by decide +kernel)
set_option maxRecDepth 20000 in
theorem ggL_law_X6_lamp_p5 : GoodIn wzL_law wsX50 := goodIn_r _ [1138, 1139, 1140, 1141, 1142, 1143, 1144, 1145, 1146, 1147] (by decide +kernel) (by decide +kernel)
set_option maxRecDepth 20000 in
theorem ggL_law_X6_lamp_p6 : GoodIn wzL_law wsX40 := goodIn_r _ [1148, 1149, 1150, 1151, 1152] (by decide +kernel) (by decide +kernel)
set_option maxRecDepth 20000 in
theorem ggL_law_X6_lamp_p7 : GoodIn wzL_law wsJx4a65c0 := goodIn_r _ [1116, 1117, 1118] (by decide +kernel) (by decide +kernel)
set_option maxRecDepth 20000 in
theorem ggL_law_X6_lamp : GoodIn wzL_law wsX6_lamp := goodIn_app (a := [.code yX6_lamp cX6_lamp 7 (some .boolean)]) ggL_law_X6_lamp_p0 (goodIn_app (goodIn_app (goodIn_app (goodIn_app (goodIn_app ggL_law_X6_lamp_p1 (goodIn_app ggL_law_X6_lamp_p2 ggL_law_X6_lamp_p3)) ggL_law_X6_lamp_p4) ggL_law_X6_lamp_p5) ggL_law_X6_lamp_p6) ggL_law_X6_lamp_p7)
set_option maxRecDepth 20000 in
theorem gL_law_X6_lamp : GoodIn wzL_law (wsV RL 245 RX6 yX6_lamp wsX6_lamp) := goodIn_app (goodIn_of _ (by decide +kernel)) ggL_law_X6_lamp
set_option maxRecDepth 20000 in
theorem ggL_law_L_lightBits : GoodIn wzL_law wsL_lightBits := goodIn_ca (goodIn_ca (goodIn_r _ [791, 570, 792, 793, 794, 2, 795, 575, 576, 577, 578, 579, 580, 98, 99, 100, 191, 192, 193, 194, 24, 23, 796, 797, 798, 202, 799, 227, 244, 245, 206, 207, 208, 209, 210, 800, 801, 802, 803, 804, 805, 806, 807, 808, 809, 810, 811, 812, 813, 1088, 1089, 1090, 1091, 1092, 1093, 1094, 1095, 1096, 1097, 1119, 1120, 1121, 1122, 1123, 1124, 1125, 1126, 1127, 1128, 1129, 1130, 1131, 1132, 1133] (by decide +kernel) (by decide +kernel)) (goodIn_sub (fun _ h => (List.mem_append_left _ (List.mem_append_left _ (List.mem_append_left _ (List.mem_append_left _ (List.mem_append_left _ (List.mem_append_left _ (List.mem_append_right _ h)))))))) (by decide +kernel))) (goodIn_sub (fun _ h => (List.mem_append_left _ (List.mem_append_right _ h))) (by decide +kernel))
set_option maxRecDepth 20000 in
theorem gL_law_L_lightBits : GoodIn wzL_law (va_wsS RL 246 yL_lightBits wsL_lightBits) := goodIn_app (goodIn_of _ (by decide +kernel)) ggL_law_L_lightBits
set_option maxRecDepth 20000 in
theorem ggL_law_X6_lightBits_p0 : GoodIn wzL_law [.code yX6_lightBits cX6_lightBits 10 (some .int)] := goodIn_r _ [817] (by decide +kernel) (by decide +kernel)
set_option maxRecDepth 20000 in
theorem ggL_law_X6_lightBits_p1 : GoodIn wzL_law wsX6_lightBits_r1 := goodIn_r _ [60, 277, 608, 609, 610, 5, 611, 612, 613, 513, 514, 515, 59, 516, 517, 111, 112, 113, 114, 115, 116, 117, 118, 614] (by decide +kernel) (by decide +kernel)
set_option maxRecDepth 20000 in
theorem ggL_law_X6_lightBits_p2 : GoodIn wzL_law wsX6_lightBits_r2 := goodIn_r _ [615, 616, 617, 618, 619, 620, 621, 622, 623, 624, 625, 626, 627, 628, 629, 65, 630, 331, 332, 319, 333, 334, 335, 327] (by decide +kernel) (by decide +kernel)
set_option maxRecDepth 20000 in
theorem ggL_law_X6_lightBits_p3 : GoodIn wzL_law wsX6_lightBits_r3 := goodIn_r _ [818, 819, 820, 607, 821, 636, 822, 823, 824, 825, 826, 827, 828, 829, 830, 831, 832, 833, 834, 835, 836] (by decide +kernel) (by decide +kernel)
set_option maxRecDepth 20000 in
theorem ggL_law_X6_lightBits_p4 : GoodIn wzL_law wsX60 := goodIn_r _ [1098, 1099, 1100, 1101, 1102, 1103, 1104, 1105, 1106, 1107, 1108] (by decide +kernel) (by decide +kernel)
set_option maxRecDepth 20000 in
theorem ggL_law_X6_lightBits_p5 : GoodIn wzL_law wsX50 := goodIn_r _ [1138, 1139, 1140, 1141, 1142, 1143, 1144, 1145, 1146, 1147] (by decide +kernel) (by decide +kernel)
set_option maxRecDepth 20000 in
theorem ggL_law_X6_lightBits_p6 : GoodIn wzL_law wsX40 := goodIn_r _ [1148, 1149, 1150, 1151, 1152] (by decide +kernel) (by decide +kernel)
set_option maxRecDepth 20000 in
theorem ggL_law_X6_lightBits_p7 : GoodIn wzL_law wsJx4a65c0 := goodIn_r _ [1116, 1117, 1118] (by decide +kernel) (by decide +kernel)
set_option maxRecDepth 20000 in
theorem ggL_law_X6_lightBits : GoodIn wzL_law wsX6_lightBits := goodIn_app (a := [.code yX6_lightBits cX6_lightBits 10 (some .int)]) ggL_law_X6_lightBits_p0 (goodIn_app (goodIn_app (goodIn_app (goodIn_app (goodIn_app ggL_law_X6_lightBits_p1 (goodIn_app ggL_law_X6_lightBits_p2 ggL_law_X6_lightBits_p3)) ggL_law_X6_lightBits_p4) ggL_law_X6_lightBits_p5) ggL_law_X6_lightBits_p6) ggL_law_X6_lightBits_p7)
set_option maxRecDepth 20000 in
theorem gL_law_X6_lightBits : GoodIn wzL_law (wsV RL 248 RX6 yX6_lightBits wsX6_lightBits) := goodIn_app (goodIn_of _ (by decide +kernel)) ggL_law_X6_lightBits
set_option maxRecDepth 20000 in
theorem ggL_law_L_isOpen_p0 : GoodIn wzL_law [.codeWith yL_isOpen cL_isOpen 4 (some .int) [(0, 16, 19, 54)]] := goodIn_r _ [839] (by decide +kernel) (by decide +kernel)
set_option maxRecDepth 20000 in
theorem ggL_law_L_isOpen_p1 : GoodIn wzL_law wsL_isOpen_r1 := goodIn_r _ [570, 840, 841, 842, 2, 843, 575, 576, 17, 25, 191, 192, 193, 194, 24, 23, 98, 99, 100, 126, 127, 128, 16, 129] (by decide +kernel) (by decide +kernel)
set_option maxRecDepth 20000 in
theorem ggL_law_L_isOpen_p2 : GoodIn wzL_law wsL_isOpen_r2 := goodIn_r _ [36, 37, 844, 845, 846, 202, 847, 225, 239, 240, 241, 242, 243, 205, 244, 245, 206, 207, 208, 209, 210, 246, 247, 248] (by decide +kernel) (by decide +kernel)
set_option maxRecDepth 20000 in
theorem ggL_law_L_isOpen_p3 : GoodIn wzL_law wsL_isOpen_r3 := goodIn_r _ [249, 250, 251, 252, 253, 258, 259, 260, 261, 226, 262, 184, 181, 185, 227, 263, 180, 182, 264, 265, 266] (by decide +kernel) (by decide +kernel)

set_option maxRecDepth 20000 in
theorem ggL_law_L_mass : GoodIn wzL_law wzL_mass := goodIn_ca (goodIn_ca (goodIn_r _ [653, 566, 654, 655, 656, 657, 2, 658, 571, 572, 659, 660, 661, 573, 574, 575, 576, 98, 99, 100, 191, 192, 193, 194, 24, 23, 577, 244, 245, 578, 207, 208, 202, 209, 210, 1115, 1116, 1117, 1118, 1119, 1120, 1121, 1122, 1123, 1124, 1125, 1126, 1127, 1128, 1129, 1084, 1085, 1086, 1087, 1088, 1089, 1090, 1091, 1092, 1093] (by decide +kernel) (by decide +kernel)) (goodIn_sub (fun _ h => (List.mem_append_left _ (List.mem_append_left _ (List.mem_append_left _ (List.mem_append_left _ (List.mem_append_left _ (List.mem_append_left _ (List.mem_append_right _ h)))))))) (by decide +kernel))) (goodIn_sub (fun _ h => (List.mem_append_left _ (List.mem_append_right _ h))) (by decide +kernel))
set_option maxRecDepth 20000 in
theorem gL_law_L_mass : GoodIn wzL_law (va_wsS RL 211 yL_mass wzL_mass) := goodIn_app (goodIn_of _ (by decide +kernel)) ggL_law_L_mass
set_option maxRecDepth 20000 in
theorem ggL_law_X6_mass_p0 : GoodIn wzL_law [.code yX6_mass cX6_mass 4 (some .int)] := goodIn_r _ [665] (by decide +kernel) (by decide +kernel)
set_option maxRecDepth 20000 in
theorem ggL_law_X6_mass_p1 : GoodIn wzL_law wsX6_mass_r1 := goodIn_r _ [60, 277, 666, 667, 668, 5, 669, 604, 605, 606, 607, 608, 609, 509, 510, 511, 59, 512, 513, 111, 112, 113, 114, 115] (by decide +kernel) (by decide +kernel)
set_option maxRecDepth 20000 in
theorem ggL_law_X6_mass_p2 : GoodIn wzL_law wsX6_mass_r2 := goodIn_r _ [116, 117, 118, 610, 611, 612, 613, 614, 615, 616, 617, 618, 619, 620, 621, 622, 623, 624, 625, 65, 626, 331, 332, 319] (by decide +kernel) (by decide +kernel)
set_option maxRecDepth 20000 in
theorem ggL_law_X6_mass_p3 : GoodIn wzL_law wsX6_mass_r3 := goodIn_r _ [333, 334, 335, 327] (by decide +kernel) (by decide +kernel)
set_option maxRecDepth 20000 in
theorem ggL_law_X6_mass_p4 : GoodIn wzL_law wsX60 := goodIn_r _ [1094, 1095, 1096, 1097, 1098, 1099, 1100, 1101, 1102, 1103, 1104] (by decide +kernel) (by decide +kernel)
set_option maxRecDepth 20000 in
theorem ggL_law_X6_mass_p5 : GoodIn wzL_law wsX50 := goodIn_r _ [1134, 1135, 1136, 1137, 1138, 1139, 1140, 1141, 1142, 1143] (by decide +kernel) (by decide +kernel)
set_option maxRecDepth 20000 in
theorem ggL_law_X6_mass_p6 : GoodIn wzL_law wsX40 := goodIn_r _ [1144, 1145, 1146, 1147, 1148] (by decide +kernel) (by decide +kernel)
set_option maxRecDepth 20000 in
theorem ggL_law_X6_mass_p7 : GoodIn wzL_law wsJx4a65c0 := goodIn_r _ [1112, 1113, 1114] (by decide +kernel) (by decide +kernel)
set_option maxRecDepth 20000 in
theorem ggL_law_X6_mass : GoodIn wzL_law wsX6_mass := goodIn_app (a := [.code yX6_mass cX6_mass 4 (some .int)]) ggL_law_X6_mass_p0 (goodIn_app (goodIn_app (goodIn_app (goodIn_app (goodIn_app ggL_law_X6_mass_p1 (goodIn_app ggL_law_X6_mass_p2 ggL_law_X6_mass_p3)) ggL_law_X6_mass_p4) ggL_law_X6_mass_p5) ggL_law_X6_mass_p6) ggL_law_X6_mass_p7)
set_option maxRecDepth 20000 in
theorem gL_law_X6_mass : GoodIn wzL_law (wsV RL 213 RX6 yX6_mass wsX6_mass) := goodIn_app (goodIn_of _ (by decide +kernel)) ggL_law_X6_mass
set_option maxRecDepth 20000 in
theorem ggL_law_L_load : GoodIn wzL_law wzL_load := goodIn_ca (goodIn_ca (goodIn_r _ [672, 566, 654, 673, 674, 675, 2, 676, 571, 572, 659, 660, 677, 573, 574, 575, 576, 98, 99, 100, 191, 192, 193, 194, 24, 23, 577, 244, 245, 578, 207, 208, 202, 209, 210, 678, 241, 242, 243, 239, 205, 206, 246, 247, 248, 249, 250, 251, 252, 253, 1115, 1116, 1117, 1118, 1119, 1120, 1121, 1122, 1123, 1124, 1125, 1126, 1127, 1128, 1129, 1084, 1085, 1086, 1087, 1088, 1089, 1090, 1091, 1092, 1093] (by decide +kernel) (by decide +kernel)) (goodIn_sub (fun _ h => (List.mem_append_left _ (List.mem_append_left _ (List.mem_append_left _ (List.mem_append_left _ (List.mem_append_left _ (List.mem_append_left _ (List.mem_append_right _ h)))))))) (by decide +kernel))) (goodIn_sub (fun _ h => (List.mem_append_left _ (List.mem_append_right _ h))) (by decide +kernel))
set_option maxRecDepth 20000 in
theorem gL_law_L_load : GoodIn wzL_law (va_wsS RL 214 yL_load wzL_load) := goodIn_app (goodIn_of _ (by decide +kernel)) ggL_law_L_load
set_option maxRecDepth 20000 in
theorem ggL_law_X6_load_p0 : GoodIn wzL_law [.code yX6_load cX6_load 4 (some .int)] := goodIn_r _ [682] (by decide +kernel) (by decide +kernel)
set_option maxRecDepth 20000 in
theorem ggL_law_X6_load_p1 : GoodIn wzL_law wsX6_load_r1 := goodIn_r _ [60, 277, 666, 667, 668, 5, 669, 604, 605, 606, 607, 608, 609, 509, 510, 511, 59, 512, 513, 111, 112, 113, 114, 115] (by decide +kernel) (by decide +kernel)
set_option maxRecDepth 20000 in
theorem ggL_law_X6_load_p2 : GoodIn wzL_law wsX6_load_r2 := goodIn_r _ [116, 117, 118, 610, 611, 612, 613, 614, 615, 616, 617, 618, 619, 620, 621, 622, 623, 624, 625, 65, 626, 331, 332, 319] (by decide +kernel) (by decide +kernel)
set_option maxRecDepth 20000 in
theorem ggL_law_X6_load_p3 : GoodIn wzL_law wsX6_load_r3 := goodIn_r _ [333, 334, 335, 327, 683, 351, 352, 353, 354, 35, 330, 355, 356, 357, 358, 359, 360, 361, 362, 363, 364, 365, 366] (by decide +kernel) (by decide +kernel)
set_option maxRecDepth 20000 in
theorem ggL_law_X6_load_p4 : GoodIn wzL_law wsX60 := goodIn_r _ [1094, 1095, 1096, 1097, 1098, 1099, 1100, 1101, 1102, 1103, 1104] (by decide +kernel) (by decide +kernel)
set_option maxRecDepth 20000 in
theorem ggL_law_X6_load_p5 : GoodIn wzL_law wsJx4a65c0 := goodIn_r _ [1112, 1113, 1114] (by decide +kernel) (by decide +kernel)
set_option maxRecDepth 20000 in
theorem ggL_law_X6_load_p6 : GoodIn wzL_law wsX50 := goodIn_r _ [1134, 1135, 1136, 1137, 1138, 1139, 1140, 1141, 1142, 1143] (by decide +kernel) (by decide +kernel)
set_option maxRecDepth 20000 in
theorem ggL_law_X6_load_p7 : GoodIn wzL_law wsX40 := goodIn_r _ [1144, 1145, 1146, 1147, 1148] (by decide +kernel) (by decide +kernel)
set_option maxRecDepth 20000 in
theorem ggL_law_X6_load : GoodIn wzL_law wsX6_load := goodIn_app (a := [.code yX6_load cX6_load 4 (some .int)]) ggL_law_X6_load_p0 (goodIn_app (goodIn_app (goodIn_app (goodIn_app (goodIn_app (goodIn_app ggL_law_X6_load_p1 (goodIn_app ggL_law_X6_load_p2 ggL_law_X6_load_p3)) ggL_law_X6_load_p4) ggL_law_X6_load_p5) ggL_law_X6_load_p6) ggL_law_X6_load_p7) (goodIn_sub (fun _ h => (List.mem_append_left _ (List.mem_append_left _ (List.mem_append_left _ (List.mem_append_left _ (List.mem_append_left _ (List.mem_append_left _ (List.mem_append_right _ h)))))))) (by decide +kernel)))
set_option maxRecDepth 20000 in
theorem gL_law_X6_load : GoodIn wzL_law (wsV RL 216 RX6 yX6_load wsX6_load) := goodIn_app (goodIn_of _ (by decide +kernel)) ggL_law_X6_load
set_option maxRecDepth 20000 in
theorem ggL_law_L_strength_p0 : GoodIn wzL_law [.codeWith yL_strength cL_strength 6 (some .int) [(0, 12, 15, 54), (0, 12, 19, 64)]] := goodIn_r _ [686] (by decide +kernel) (by decide +kernel)
set_option maxRecDepth 20000 in
theorem ggL_law_L_strength_p1 : GoodIn wzL_law wsL_strength_r1 := goodIn_r _ [566, 654, 687, 688, 689, 2, 690, 571, 572, 659, 660, 17, 25, 573, 574, 575, 576, 98, 99, 100, 191, 192, 193, 194] (by decide +kernel) (by decide +kernel)
set_option maxRecDepth 20000 in
theorem ggL_law_L_strength_p2 : GoodIn wzL_law wsL_strength_r2 := goodIn_r _ [24, 23, 577, 244, 245, 578, 207, 208, 202, 209, 210, 126, 127, 128, 16, 129, 36, 37, 691, 259, 260, 261, 226, 262] (by decide +kernel) (by decide +kernel)
set_option maxRecDepth 20000 in
theorem ggL_law_L_strength_p3 : GoodIn wzL_law wsL_strength_r3 := goodIn_r _ [184, 181, 185, 227, 263, 180, 182, 206, 264, 265, 266] (by decide +kernel) (by decide +kernel)
set_option maxRecDepth 20000 in
theorem ggL_law_L_strength_p4 : GoodIn wzL_law wsX30 := goodIn_r _ [1084, 1085, 1086, 1087, 1088, 1089, 1090, 1091, 1092, 1093] (by decide +kernel) (by decide +kernel)
set_option maxRecDepth 20000 in
theorem ggL_law_L_strength_p5 : GoodIn wzL_law wsX10 := goodIn_r _ [1115, 1116, 1117, 1118, 1119, 1120, 1121, 1122, 1123, 1124, 1125, 1126, 1127, 1128, 1129] (by decide +kernel) (by decide +kernel)
set_option maxRecDepth 20000 in
theorem ggL_law_L_strength_p6 : GoodIn wzL_law wsX20 := goodIn_r _ [1105, 1106, 1107, 1108] (by decide +kernel) (by decide +kernel)
set_option maxRecDepth 20000 in
theorem ggL_law_L_strength : GoodIn wzL_law wzL_strength := goodIn_app (a := [.codeWith yL_strength cL_strength 6 (some .int) [(0, 12, 15, 54), (0, 12, 19, 64)]]) ggL_law_L_strength_p0 (goodIn_app (goodIn_app (goodIn_app (goodIn_app (goodIn_app (goodIn_app ggL_law_L_strength_p1 (goodIn_app ggL_law_L_strength_p2 ggL_law_L_strength_p3)) ggL_law_L_strength_p4) ggL_law_L_strength_p5) ggL_law_L_strength_p6) (goodIn_sub (fun _ h => (List.mem_append_left _ (List.mem_append_left _ (List.mem_append_left _ (List.mem_append_left _ (List.mem_append_left _ (List.mem_append_left _ (List.mem_append_right _ h)))))))) (by decide +kernel))) (goodIn_sub (fun _ h => (List.mem_append_left _ (List.mem_append_right _ h))) (by decide +kernel)))
set_option maxRecDepth 20000 in
theorem gL_law_L_strength : GoodIn wzL_law (va_wsS RL 217 yL_strength wzL_strength) := goodIn_app (goodIn_of _ (by decide +kernel)) ggL_law_L_strength
set_option maxRecDepth 20000 in
theorem ggL_law_X6_strength_p0 : GoodIn wzL_law [.code yX6_strength cX6_strength 4 (some .int)] := goodIn_r _ [695] (by decide +kernel) (by decide +kernel)
set_option maxRecDepth 20000 in
theorem ggL_law_X6_strength_p1 : GoodIn wzL_law wsX6_strength_r1 := goodIn_r _ [60, 277, 110, 666, 667, 668, 5, 669, 604, 605, 606, 607, 608, 609, 509, 510, 511, 59, 512, 513, 111, 112, 113, 114] (by decide +kernel) (by decide +kernel)
set_option maxRecDepth 20000 in
theorem ggL_law_X6_strength_p2 : GoodIn wzL_law wsX6_strength_r2 := goodIn_r _ [115, 116, 117, 118, 610, 611, 612, 613, 614, 615, 616, 617, 618, 619, 620, 621, 622, 623, 624, 625, 65, 626, 331, 332] (by decide +kernel) (by decide +kernel)
set_option maxRecDepth 20000 in
theorem ggL_law_X6_strength_p3 : GoodIn wzL_law wsX6_strength_r3 := goodIn_r _ [319, 333, 334, 335, 327, 135, 136, 137, 138, 52, 696, 372, 373, 374, 375, 184, 181, 185, 328, 180, 182] (by decide +kernel) (by decide +kernel)
set_option maxRecDepth 20000 in
theorem ggL_law_X6_strength_p4 : GoodIn wzL_law wsX60 := goodIn_r _ [1094, 1095, 1096, 1097, 1098, 1099, 1100, 1101, 1102, 1103, 1104] (by decide +kernel) (by decide +kernel)
set_option maxRecDepth 20000 in
theorem ggL_law_X6_strength_p5 : GoodIn wzL_law wsJx4a65c0 := goodIn_r _ [1112, 1113, 1114] (by decide +kernel) (by decide +kernel)
set_option maxRecDepth 20000 in
theorem ggL_law_X6_strength_p6 : GoodIn wzL_law wsX50 := goodIn_r _ [1134, 1135, 1136, 1137, 1138, 1139, 1140, 1141, 1142, 1143] (by decide +kernel) (by decide +kernel)
set_option maxRecDepth 20000 in
theorem ggL_law_X6_strength_p7 : GoodIn wzL_law wsX40 := goodIn_r _ [1144, 1145, 1146, 1147, 1148] (by decide +kernel) (by decide +kernel)
set_option maxRecDepth 20000 in
theorem ggL_law_X6_strength : GoodIn wzL_law wsX6_strength := goodIn_app (a := [.code yX6_strength cX6_strength 4 (some .int)]) ggL_law_X6_strength_p0 (goodIn_app (goodIn_app (goodIn_app (goodIn_app (goodIn_app (goodIn_app ggL_law_X6_strength_p1 (goodIn_app ggL_law_X6_strength_p2 ggL_law_X6_strength_p3)) ggL_law_X6_strength_p4) ggL_law_X6_strength_p5) ggL_law_X6_strength_p6) ggL_law_X6_strength_p7) (goodIn_sub (fun _ h => (List.mem_append_left _ (List.mem_append_left _ (List.mem_append_left _ (List.mem_append_left _ (List.mem_append_left _ (List.mem_append_left _ (List.mem_append_right _ h)))))))) (by decide +kernel)))
set_option maxRecDepth 20000 in
theorem gL_law_X6_strength : GoodIn wzL_law (wsV RL 219 RX6 yX6_strength wsX6_strength) := goodIn_app (goodIn_of _ (by decide +kernel)) ggL_law_X6_strength
set_option maxRecDepth 20000 in
theorem ggL_law_L_creep : GoodIn wzL_law wzL_creep := goodIn_ca (goodIn_ca (goodIn_r _ [699, 566, 654, 700, 701, 702, 2, 703, 571, 572, 659, 660, 704, 573, 574, 575, 576, 98, 99, 100, 191, 192, 193, 194, 24, 23, 577, 244, 245, 578, 207, 208, 202, 209, 210, 1115, 1116, 1117, 1118, 1119, 1120, 1121, 1122, 1123, 1124, 1125, 1126, 1127, 1128, 1129, 1084, 1085, 1086, 1087, 1088, 1089, 1090, 1091, 1092, 1093] (by decide +kernel) (by decide +kernel)) (goodIn_sub (fun _ h => (List.mem_append_left _ (List.mem_append_left _ (List.mem_append_left _ (List.mem_append_left _ (List.mem_append_left _ (List.mem_append_left _ (List.mem_append_right _ h)))))))) (by decide +kernel))) (goodIn_sub (fun _ h => (List.mem_append_left _ (List.mem_append_right _ h))) (by decide +kernel))
set_option maxRecDepth 20000 in
theorem gL_law_L_creep : GoodIn wzL_law (va_wsS RL 220 yL_creep wzL_creep) := goodIn_app (goodIn_of _ (by decide +kernel)) ggL_law_L_creep
set_option maxRecDepth 20000 in
theorem ggL_law_X6_creep_p0 : GoodIn wzL_law [.code yX6_creep cX6_creep 4 (some .int)] := goodIn_r _ [708] (by decide +kernel) (by decide +kernel)
set_option maxRecDepth 20000 in
theorem ggL_law_X6_creep_p1 : GoodIn wzL_law wsX6_creep_r1 := goodIn_r _ [60, 277, 666, 667, 668, 5, 669, 604, 605, 606, 607, 608, 609, 509, 510, 511, 59, 512, 513, 111, 112, 113, 114, 115] (by decide +kernel) (by decide +kernel)
set_option maxRecDepth 20000 in
theorem ggL_law_X6_creep_p2 : GoodIn wzL_law wsX6_creep_r2 := goodIn_r _ [116, 117, 118, 610, 611, 612, 613, 614, 615, 616, 617, 618, 619, 620, 621, 622, 623, 624, 625, 65, 626, 331, 332, 319] (by decide +kernel) (by decide +kernel)
set_option maxRecDepth 20000 in
theorem ggL_law_X6_creep_p3 : GoodIn wzL_law wsX6_creep_r3 := goodIn_r _ [333, 334, 335, 327] (by decide +kernel) (by decide +kernel)
set_option maxRecDepth 20000 in
theorem ggL_law_X6_creep_p4 : GoodIn wzL_law wsX60 := goodIn_r _ [1094, 1095, 1096, 1097, 1098, 1099, 1100, 1101, 1102, 1103, 1104] (by decide +kernel) (by decide +kernel)
set_option maxRecDepth 20000 in
theorem ggL_law_X6_creep_p5 : GoodIn wzL_law wsX50 := goodIn_r _ [1134, 1135, 1136, 1137, 1138, 1139, 1140, 1141, 1142, 1143] (by decide +kernel) (by decide +kernel)
set_option maxRecDepth 20000 in
theorem ggL_law_X6_creep_p6 : GoodIn wzL_law wsX40 := goodIn_r _ [1144, 1145, 1146, 1147, 1148] (by decide +kernel) (by decide +kernel)
set_option maxRecDepth 20000 in
theorem ggL_law_X6_creep_p7 : GoodIn wzL_law wsJx4a65c0 := goodIn_r _ [1112, 1113, 1114] (by decide +kernel) (by decide +kernel)
set_option maxRecDepth 20000 in
theorem ggL_law_X6_creep : GoodIn wzL_law wsX6_creep := goodIn_app (a := [.code yX6_creep cX6_creep 4 (some .int)]) ggL_law_X6_creep_p0 (goodIn_app (goodIn_app (goodIn_app (goodIn_app (goodIn_app ggL_law_X6_creep_p1 (goodIn_app ggL_law_X6_creep_p2 ggL_law_X6_creep_p3)) ggL_law_X6_creep_p4) ggL_law_X6_creep_p5) ggL_law_X6_creep_p6) ggL_law_X6_creep_p7)
set_option maxRecDepth 20000 in
theorem gL_law_X6_creep : GoodIn wzL_law (wsV RL 222 RX6 yX6_creep wsX6_creep) := goodIn_app (goodIn_of _ (by decide +kernel)) ggL_law_X6_creep
set_option maxRecDepth 20000 in
theorem ggL_law_L_age : GoodIn wzL_law wzL_age := goodIn_ca (goodIn_ca (goodIn_r _ [711, 566, 654, 712, 713, 714, 2, 715, 571, 572, 659, 660, 716, 573, 574, 575, 576, 98, 99, 100, 191, 192, 193, 194, 24, 23, 577, 244, 245, 578, 207, 208, 202, 209, 210, 1115, 1116, 1117, 1118, 1119, 1120, 1121, 1122, 1123, 1124, 1125, 1126, 1127, 1128, 1129, 1084, 1085, 1086, 1087, 1088, 1089, 1090, 1091, 1092, 1093] (by decide +kernel) (by decide +kernel)) (goodIn_sub (fun _ h => (List.mem_append_left _ (List.mem_append_left _ (List.mem_append_left _ (List.mem_append_left _ (List.mem_append_left _ (List.mem_append_left _ (List.mem_append_right _ h)))))))) (by decide +kernel))) (goodIn_sub (fun _ h => (List.mem_append_left _ (List.mem_append_right _ h))) (by decide +kernel))
set_option maxRecDepth 20000 in
theorem gL_law_L_age : GoodIn wzL_law (va_wsS RL 223 yL_age wzL_age) := goodIn_app (goodIn_of _ (by decide +kernel)) ggL_law_L_age
set_option maxRecDepth 20000 in
theorem ggL_law_X6_age_p0 : GoodIn wzL_law [.code yX6_age cX6_age 4 (some .int)] := goodIn_r _ [720] (by decide +kernel) (by decide +kernel)
set_option maxRecDepth 20000 in
theorem ggL_law_X6_age_p1 : GoodIn wzL_law wsX6_age_r1 := goodIn_r _ [60, 277, 666, 667, 668, 5, 669, 604, 605, 606, 607, 608, 609, 509, 510, 511, 59, 512, 513, 111, 112, 113, 114, 115] (by decide +kernel) (by decide +kernel)
set_option maxRecDepth 20000 in
theorem ggL_law_X6_age_p2 : GoodIn wzL_law wsX6_age_r2 := goodIn_r _ [116, 117, 118, 610, 611, 612, 613, 614, 615, 616, 617, 618, 619, 620, 621, 622, 623, 624, 625, 65, 626, 331, 332, 319] (by decide +kernel) (by decide +kernel)
set_option maxRecDepth 20000 in
theorem ggL_law_X6_age_p3 : GoodIn wzL_law wsX6_age_r3 := goodIn_r _ [333, 334, 335, 327] (by decide +kernel) (by decide +kernel)
set_option maxRecDepth 20000 in
theorem ggL_law_X6_age_p4 : GoodIn wzL_law wsX60 := goodIn_r _ [1094, 1095, 1096, 1097, 1098, 1099, 1100, 1101, 1102, 1103, 1104] (by decide +kernel) (by decide +kernel)
set_option maxRecDepth 20000 in
theorem ggL_law_X6_age_p5 : GoodIn wzL_law wsX50 := goodIn_r _ [1134, 1135, 1136, 1137, 1138, 1139, 1140, 1141, 1142, 1143] (by decide +kernel) (by decide +kernel)
set_option maxRecDepth 20000 in
theorem ggL_law_X6_age_p6 : GoodIn wzL_law wsX40 := goodIn_r _ [1144, 1145, 1146, 1147, 1148] (by decide +kernel) (by decide +kernel)
set_option maxRecDepth 20000 in
theorem ggL_law_X6_age_p7 : GoodIn wzL_law wsJx4a65c0 := goodIn_r _ [1112, 1113, 1114] (by decide +kernel) (by decide +kernel)
set_option maxRecDepth 20000 in
theorem ggL_law_X6_age : GoodIn wzL_law wsX6_age := goodIn_app (a := [.code yX6_age cX6_age 4 (some .int)]) ggL_law_X6_age_p0 (goodIn_app (goodIn_app (goodIn_app (goodIn_app (goodIn_app ggL_law_X6_age_p1 (goodIn_app ggL_law_X6_age_p2 ggL_law_X6_age_p3)) ggL_law_X6_age_p4) ggL_law_X6_age_p5) ggL_law_X6_age_p6) ggL_law_X6_age_p7)
set_option maxRecDepth 20000 in
theorem gL_law_X6_age : GoodIn wzL_law (wsV RL 225 RX6 yX6_age wsX6_age) := goodIn_app (goodIn_of _ (by decide +kernel)) ggL_law_X6_age
set_option maxRecDepth 20000 in
theorem ggL_law_L_isArch : GoodIn wzL_law wzL_isArch := goodIn_ca (goodIn_ca (goodIn_r _ [723, 566, 654, 724, 725, 726, 2, 727, 571, 572, 659, 660, 573, 574, 575, 576, 98, 99, 100, 191, 192, 193, 194, 24, 23, 577, 244, 245, 578, 207, 208, 202, 209, 210, 728, 247, 248, 249, 250, 251, 252, 253, 206, 1084, 1085, 1086, 1087, 1088, 1089, 1090, 1091, 1092, 1093, 1115, 1116, 1117, 1118, 1119, 1120, 1121, 1122, 1123, 1124, 1125, 1126, 1127, 1128, 1129] (by decide +kernel) (by decide +kernel)) (goodIn_sub (fun _ h => (List.mem_append_left _ (List.mem_append_left _ (List.mem_append_left _ (List.mem_append_left _ (List.mem_append_left _ (List.mem_append_left _ (List.mem_append_right _ h)))))))) (by decide +kernel))) (goodIn_sub (fun _ h => (List.mem_append_left _ (List.mem_append_right _ h))) (by decide +kernel))
set_option maxRecDepth 20000 in
theorem gL_law_L_isArch : GoodIn wzL_law (va_wsS RL 226 yL_isArch wzL_isArch) := goodIn_app (goodIn_of _ (by decide +kernel)) ggL_law_L_isArch
set_option maxRecDepth 20000 in
theorem ggL_law_X6_isArch_p0 : GoodIn wzL_law [.code yX6_isArch cX6_isArch 4 (some .boolean)] := goodIn_r _ [732] (by decide +kernel) (by decide +kernel)
set_option maxRecDepth 20000 in
theorem ggL_law_X6_isArch_p1 : GoodIn wzL_law wsX6_isArch_r1 := goodIn_r _ [60, 277, 666, 667, 668, 5, 669, 604, 605, 606, 607, 608, 609, 509, 510, 511, 59, 512, 513, 111, 112, 113, 114, 115] (by decide +kernel) (by decide +kernel)
set_option maxRecDepth 20000 in
theorem ggL_law_X6_isArch_p2 : GoodIn wzL_law wsX6_isArch_r2 := goodIn_r _ [116, 117, 118, 610, 611, 612, 613, 614, 615, 616, 617, 618, 619, 620, 621, 622, 623, 624, 625, 65, 626, 331, 332, 319] (by decide +kernel) (by decide +kernel)
set_option maxRecDepth 20000 in
theorem ggL_law_X6_isArch_p3 : GoodIn wzL_law wsX6_isArch_r3 := goodIn_r _ [333, 334, 335, 327, 733, 360, 361, 362, 330, 363, 364, 365, 366] (by decide +kernel) (by decide +kernel)
set_option maxRecDepth 20000 in
theorem ggL_law_X6_isArch_p4 : GoodIn wzL_law wsX60 := goodIn_r _ [1094, 1095, 1096, 1097, 1098, 1099, 1100, 1101, 1102, 1103, 1104] (by decide +kernel) (by decide +kernel)
set_option maxRecDepth 20000 in
theorem ggL_law_X6_isArch_p5 : GoodIn wzL_law wsJx4a65c0 := goodIn_r _ [1112, 1113, 1114] (by decide +kernel) (by decide +kernel)
set_option maxRecDepth 20000 in
theorem ggL_law_X6_isArch_p6 : GoodIn wzL_law wsX50 := goodIn_r _ [1134, 1135, 1136, 1137, 1138, 1139, 1140, 1141, 1142, 1143] (by decide +kernel) (by decide +kernel)
set_option maxRecDepth 20000 in
theorem ggL_law_X6_isArch : GoodIn wzL_law wsX6_isArch := goodIn_app (a := [.code yX6_isArch cX6_isArch 4 (some .boolean)]) ggL_law_X6_isArch_p0 (goodIn_app (goodIn_app (goodIn_app (goodIn_app ggL_law_X6_isArch_p1 (goodIn_app ggL_law_X6_isArch_p2 ggL_law_X6_isArch_p3)) ggL_law_X6_isArch_p4) ggL_law_X6_isArch_p5) ggL_law_X6_isArch_p6)
set_option maxRecDepth 20000 in
theorem gL_law_X6_isArch : GoodIn wzL_law (wsV RL 228 RX6 yX6_isArch wsX6_isArch) := goodIn_app (goodIn_of _ (by decide +kernel)) ggL_law_X6_isArch
set_option maxRecDepth 20000 in
theorem ggL_law_L_fell : GoodIn wzL_law wsL_fell := goodIn_ca (goodIn_ca (goodIn_r _ [736, 566, 737, 738, 739, 2, 740, 571, 572, 741, 191, 192, 193, 194, 24, 23, 98, 99, 100, 1115, 1116, 1117, 1118, 1119, 1120, 1121, 1122, 1123, 1124, 1125, 1126, 1127, 1128, 1129, 1084, 1085, 1086, 1087, 1088, 1089, 1090, 1091, 1092, 1093] (by decide +kernel) (by decide +kernel)) (goodIn_sub (fun _ h => (List.mem_append_left _ (List.mem_append_left _ (List.mem_append_left _ (List.mem_append_left _ (List.mem_append_left _ (List.mem_append_left _ (List.mem_append_right _ h)))))))) (by decide +kernel))) (goodIn_sub (fun _ h => (List.mem_append_left _ (List.mem_append_right _ h))) (by decide +kernel))
set_option maxRecDepth 20000 in
theorem gL_law_L_fell : GoodIn wzL_law (va_wsS RL 229 yL_fell wsL_fell) := goodIn_app (goodIn_of _ (by decide +kernel)) ggL_law_L_fell
set_option maxRecDepth 20000 in
theorem ggL_law_X6_fell : GoodIn wzL_law wsX6_fell := goodIn_r _ [745, 60, 277, 746, 747, 748, 5, 749, 509, 510, 511, 59, 512, 513, 111, 112, 113, 114, 115, 116, 117, 118, 610, 611, 612, 613, 614, 615, 616, 617, 618, 619, 620, 621, 622, 623, 624, 625, 65, 1094, 1095, 1096, 1097, 1098, 1099, 1100, 1101, 1102, 1103, 1104, 1134, 1135, 1136, 1137, 1138, 1139, 1140, 1141, 1142, 1143, 1112, 1113, 1114] (by decide +kernel) (by decide +kernel)
set_option maxRecDepth 20000 in
theorem gL_law_X6_fell : GoodIn wzL_law (wsV RL 231 RX6 yX6_fell wsX6_fell) := goodIn_app (goodIn_of _ (by decide +kernel)) ggL_law_X6_fell
set_option maxRecDepth 20000 in
theorem ggL_law_L_lastFell : GoodIn wzL_law wzL_lastFell := goodIn_ca (goodIn_ca (goodIn_r _ [752, 566, 654, 753, 754, 755, 2, 756, 571, 572, 659, 660, 757, 191, 192, 193, 194, 24, 23, 98, 99, 100, 1115, 1116, 1117, 1118, 1119, 1120, 1121, 1122, 1123, 1124, 1125, 1126, 1127, 1128, 1129, 1084, 1085, 1086, 1087, 1088, 1089, 1090, 1091, 1092, 1093] (by decide +kernel) (by decide +kernel)) (goodIn_sub (fun _ h => (List.mem_append_left _ (List.mem_append_left _ (List.mem_append_left _ (List.mem_append_left _ (List.mem_append_left _ (List.mem_append_left _ (List.mem_append_right _ h)))))))) (by decide +kernel))) (goodIn_sub (fun _ h => (List.mem_append_left _ (List.mem_append_right _ h))) (by decide +kernel))
set_option maxRecDepth 20000 in
theorem gL_law_L_lastFell : GoodIn wzL_law (va_wsS RL 232 yL_lastFell wzL_lastFell) := goodIn_app (goodIn_of _ (by decide +kernel)) ggL_law_L_lastFell
set_option maxRecDepth 20000 in
theorem ggL_law_X6_lastFell : GoodIn wzL_law wsX6_lastFell := goodIn_r _ [761, 60, 277, 746, 747, 748, 5, 749, 509, 510, 511, 59, 512, 513, 111, 112, 113, 114, 115, 116, 117, 118, 610, 611, 612, 613, 614, 615, 616, 617, 618, 619, 620, 621, 622, 623, 624, 625, 65, 1094, 1095, 1096, 1097, 1098, 1099, 1100, 1101, 1102, 1103, 1104, 1134, 1135, 1136, 1137, 1138, 1139, 1140, 1141, 1142, 1143, 1112, 1113, 1114] (by decide +kernel) (by decide +kernel)
set_option maxRecDepth 20000 in
theorem gL_law_X6_lastFell : GoodIn wzL_law (wsV RL 234 RX6 yX6_lastFell wsX6_lastFell) := goodIn_app (goodIn_of _ (by decide +kernel)) ggL_law_X6_lastFell
set_option maxRecDepth 20000 in
theorem ggL_law_L_cover : GoodIn wzL_law wsL_cover := goodIn_ca (goodIn_ca (goodIn_r _ [764, 566, 765, 766, 767, 2, 768, 571, 572, 174, 30, 191, 192, 193, 194, 24, 23, 98, 99, 100, 1115, 1116, 1117, 1118, 1119, 1120, 1121, 1122, 1123, 1124, 1125, 1126, 1127, 1128, 1129, 1084, 1085, 1086, 1087, 1088, 1089, 1090, 1091, 1092, 1093] (by decide +kernel) (by decide +kernel)) (goodIn_sub (fun _ h => (List.mem_append_left _ (List.mem_append_left _ (List.mem_append_left _ (List.mem_append_left _ (List.mem_append_left _ (List.mem_append_left _ (List.mem_append_right _ h)))))))) (by decide +kernel))) (goodIn_sub (fun _ h => (List.mem_append_left _ (List.mem_append_right _ h))) (by decide +kernel))
set_option maxRecDepth 20000 in
theorem gL_law_L_cover : GoodIn wzL_law (va_wsS RL 235 yL_cover wsL_cover) := goodIn_app (goodIn_of _ (by decide +kernel)) ggL_law_L_cover
set_option maxRecDepth 20000 in
theorem ggL_law_X6_cover : GoodIn wzL_law wsX6_cover := goodIn_r _ [772, 60, 277, 448, 746, 747, 748, 5, 749, 509, 510, 511, 59, 512, 513, 111, 112, 113, 114, 115, 116, 117, 118, 610, 611, 612, 613, 614, 615, 616, 617, 618, 619, 620, 621, 622, 623, 624, 625, 65, 1094, 1095, 1096, 1097, 1098, 1099, 1100, 1101, 1102, 1103, 1104, 1134, 1135, 1136, 1137, 1138, 1139, 1140, 1141, 1142, 1143, 1112, 1113, 1114] (by decide +kernel) (by decide +kernel)
set_option maxRecDepth 20000 in
theorem gL_law_X6_cover : GoodIn wzL_law (wsV RL 238 RX6 yX6_cover wsX6_cover) := goodIn_app (goodIn_of _ (by decide +kernel)) ggL_law_X6_cover
set_option maxRecDepth 20000 in
theorem ggL_law_L_lamp : GoodIn wzL_law wzL_lamp := goodIn_ca (goodIn_ca (goodIn_ca (goodIn_r _ [775, 566, 654, 85, 776, 777, 778, 2, 779, 571, 572, 659, 660, 92, 93, 646, 780, 30, 573, 574, 575, 576, 98, 99, 100, 191, 192, 193, 194, 24, 23, 577, 244, 245, 578, 207, 208, 202, 209, 210, 1115, 1116, 1117, 1118, 1119, 1120, 1121, 1122, 1123, 1124, 1125, 1126, 1127, 1128, 1129, 1084, 1085, 1086, 1087, 1088, 1089, 1090, 1091, 1092, 1093] (by decide +kernel) (by decide +kernel)) (goodIn_sub (fun _ h => (List.mem_append_left _ (List.mem_append_left _ (List.mem_append_left _ (List.mem_append_left _ (List.mem_append_left _ (List.mem_append_left _ (List.mem_append_right _ h)))))))) (by decide +kernel))) (goodIn_sub (fun _ h => (List.mem_append_left _ (List.mem_append_right _ h))) (by decide +kernel))) (goodIn_sub (fun _ h => (List.mem_append_left _ (List.mem_append_left _ (List.mem_append_left _ (List.mem_append_left _ (List.mem_append_right _ h)))))) (by decide +kernel))
set_option maxRecDepth 20000 in
theorem gL_law_L_lamp : GoodIn wzL_law (va_wsS RL 239 yL_lamp wzL_lamp) := goodIn_app (goodIn_of _ (by decide +kernel)) ggL_law_L_lamp
set_option maxRecDepth 20000 in
theorem ggL_law_X6_lamp_p0 : GoodIn wzL_law [.code yX6_lamp cX6_lamp 7 (some .boolean)] := goodIn_r _ [784] (by decide +kernel) (by decide +kernel)
set_option maxRecDepth 20000 in
theorem ggL_law_X6_lamp_p1 : GoodIn wzL_law wsX6_lamp_r1 := goodIn_r _ [60, 277, 448, 666, 667, 668, 5, 669, 604, 605, 606, 607, 608, 609, 509, 510, 511, 59, 512, 513, 111, 112, 113, 114] (by decide +kernel) (by decide +kernel)
set_option maxRecDepth 20000 in
theorem ggL_law_X6_lamp_p2 : GoodIn wzL_law wsX6_lamp_r2 := goodIn_r _ [115, 116, 117, 118, 610, 611, 612, 613, 614, 615, 616, 617, 618, 619, 620, 621, 622, 623, 624, 625, 65, 626, 331, 332] (by decide +kernel) (by decide +kernel)
set_option maxRecDepth 20000 in
theorem ggL_law_X6_lamp_p3 : GoodIn wzL_law wsX6_lamp_r3 := goodIn_r _ [319, 333, 334, 335, 327] (by decide +kernel) (by decide +kernel)
set_option maxRecDepth 20000 in
theorem ggL_law_X6_lamp_p4 : GoodIn wzL_law wsX60 := goodIn_r _ [1094, 1095, 1096, 1097, 1098, 1099, 1100, 1101, 1102, 1103, 1104] (by decide +kernel) (by decide +kernel)
set_option maxRecDepth 20000 in
theorem ggL_law_X6_lamp_p5 : GoodIn wzL_law wsX50 := goodIn_r _ [1134, 1135, 1136, 1137, 1138, 1139, 1140, 1141, 1142, 1143] (by decide +kernel) (by decide +kernel)
set_option maxRecDepth 20000 in
theorem ggL_law_X6_lamp_p6 : GoodIn wzL_law wsX40 := goodIn_r _ [1144, 1145, 1146, 1147, 1148] (by decide +kernel) (by decide +kernel)
set_option maxRecDepth 20000 in
theorem ggL_law_X6_lamp_p7 : GoodIn wzL_law wsJx4a65c0 := goodIn_r _ [1112, 1113, 1114] (by decide +kernel) (by decide +kernel)
set_option maxRecDepth 20000 in
theorem ggL_law_X6_lamp : GoodIn wzL_law wsX6_lamp := goodIn_app (a := [.code yX6_lamp cX6_lamp 7 (some .boolean)]) ggL_law_X6_lamp_p0 (goodIn_app (goodIn_app (goodIn_app (goodIn_app (goodIn_app ggL_law_X6_lamp_p1 (goodIn_app ggL_law_X6_lamp_p2 ggL_law_X6_lamp_p3)) ggL_law_X6_lamp_p4) ggL_law_X6_lamp_p5) ggL_law_X6_lamp_p6) ggL_law_X6_lamp_p7)
set_option maxRecDepth 20000 in
theorem gL_law_X6_lamp : GoodIn wzL_law (wsV RL 242 RX6 yX6_lamp wsX6_lamp) := goodIn_app (goodIn_of _ (by decide +kernel)) ggL_law_X6_lamp
set_option maxRecDepth 20000 in
theorem ggL_law_L_lightBits : GoodIn wzL_law wsL_lightBits := goodIn_ca (goodIn_ca (goodIn_r _ [787, 566, 788, 789, 790, 2, 791, 571, 572, 573, 574, 575, 576, 98, 99, 100, 191, 192, 193, 194, 24, 23, 792, 793, 794, 202, 795, 227, 244, 245, 206, 207, 208, 209, 210, 796, 797, 798, 799, 800, 801, 802, 803, 804, 805, 806, 807, 808, 809, 1084, 1085, 1086, 1087, 1088, 1089, 1090, 1091, 1092, 1093, 1115, 1116, 1117, 1118, 1119, 1120, 1121, 1122, 1123, 1124, 1125, 1126, 1127, 1128, 1129] (by decide +kernel) (by decide +kernel)) (goodIn_sub (fun _ h => (List.mem_append_left _ (List.mem_append_left _ (List.mem_append_left _ (List.mem_append_left _ (List.mem_append_left _ (List.mem_append_left _ (List.mem_append_right _ h)))))))) (by decide +kernel))) (goodIn_sub (fun _ h => (List.mem_append_left _ (List.mem_append_right _ h))) (by decide +kernel))
set_option maxRecDepth 20000 in
theorem gL_law_L_lightBits : GoodIn wzL_law (va_wsS RL 243 yL_lightBits wsL_lightBits) := goodIn_app (goodIn_of _ (by decide +kernel)) ggL_law_L_lightBits
set_option maxRecDepth 20000 in
theorem ggL_law_X6_lightBits_p0 : GoodIn wzL_law [.code yX6_lightBits cX6_lightBits 10 (some .int)] := goodIn_r _ [813] (by decide +kernel) (by decide +kernel)
set_option maxRecDepth 20000 in
theorem ggL_law_X6_lightBits_p1 : GoodIn wzL_law wsX6_lightBits_r1 := goodIn_r _ [60, 277, 604, 605, 606, 5, 607, 608, 609, 509, 510, 511, 59, 512, 513, 111, 112, 113, 114, 115, 116, 117, 118, 610] (by decide +kernel) (by decide +kernel)
set_option maxRecDepth 20000 in
theorem ggL_law_X6_lightBits_p2 : GoodIn wzL_law wsX6_lightBits_r2 := goodIn_r _ [611, 612, 613, 614, 615, 616, 617, 618, 619, 620, 621, 622, 623, 624, 625, 65, 626, 331, 332, 319, 333, 334, 335, 327] (by decide +kernel) (by decide +kernel)
set_option maxRecDepth 20000 in
theorem ggL_law_X6_lightBits_p3 : GoodIn wzL_law wsX6_lightBits_r3 := goodIn_r _ [814, 815, 816, 603, 817, 632, 818, 819, 820, 821, 822, 823, 824, 825, 826, 827, 828, 829, 830, 831, 832] (by decide +kernel) (by decide +kernel)
set_option maxRecDepth 20000 in
theorem ggL_law_X6_lightBits_p4 : GoodIn wzL_law wsX60 := goodIn_r _ [1094, 1095, 1096, 1097, 1098, 1099, 1100, 1101, 1102, 1103, 1104] (by decide +kernel) (by decide +kernel)
set_option maxRecDepth 20000 in
theorem ggL_law_X6_lightBits_p5 : GoodIn wzL_law wsX50 := goodIn_r _ [1134, 1135, 1136, 1137, 1138, 1139, 1140, 1141, 1142, 1143] (by decide +kernel) (by decide +kernel)
set_option maxRecDepth 20000 in
theorem ggL_law_X6_lightBits_p6 : GoodIn wzL_law wsX40 := goodIn_r _ [1144, 1145, 1146, 1147, 1148] (by decide +kernel) (by decide +kernel)
set_option maxRecDepth 20000 in
theorem ggL_law_X6_lightBits_p7 : GoodIn wzL_law wsJx4a65c0 := goodIn_r _ [1112, 1113, 1114] (by decide +kernel) (by decide +kernel)
set_option maxRecDepth 20000 in
theorem ggL_law_X6_lightBits : GoodIn wzL_law wsX6_lightBits := goodIn_app (a := [.code yX6_lightBits cX6_lightBits 10 (some .int)]) ggL_law_X6_lightBits_p0 (goodIn_app (goodIn_app (goodIn_app (goodIn_app (goodIn_app ggL_law_X6_lightBits_p1 (goodIn_app ggL_law_X6_lightBits_p2 ggL_law_X6_lightBits_p3)) ggL_law_X6_lightBits_p4) ggL_law_X6_lightBits_p5) ggL_law_X6_lightBits_p6) ggL_law_X6_lightBits_p7)
set_option maxRecDepth 20000 in
theorem gL_law_X6_lightBits : GoodIn wzL_law (wsV RL 245 RX6 yX6_lightBits wsX6_lightBits) := goodIn_app (goodIn_of _ (by decide +kernel)) ggL_law_X6_lightBits
set_option maxRecDepth 20000 in
theorem ggL_law_L_isOpen_p0 : GoodIn wzL_law [.codeWith yL_isOpen cL_isOpen 4 (some .int) [(0, 16, 19, 54)]] := goodIn_r _ [835] (by decide +kernel) (by decide +kernel)
set_option maxRecDepth 20000 in
theorem ggL_law_L_isOpen_p1 : GoodIn wzL_law wsL_isOpen_r1 := goodIn_r _ [566, 836, 837, 838, 2, 839, 571, 572, 17, 25, 191, 192, 193, 194, 24, 23, 98, 99, 100, 126, 127, 128, 16, 129] (by decide +kernel) (by decide +kernel)
set_option maxRecDepth 20000 in
theorem ggL_law_L_isOpen_p2 : GoodIn wzL_law wsL_isOpen_r2 := goodIn_r _ [36, 37, 840, 841, 842, 202, 843, 225, 239, 240, 241, 242, 243, 205, 244, 245, 206, 207, 208, 209, 210, 246, 247, 248] (by decide +kernel) (by decide +kernel)
set_option maxRecDepth 20000 in
theorem ggL_law_L_isOpen_p3 : GoodIn wzL_law wsL_isOpen_r3 := goodIn_r _ [249, 250, 251, 252, 253, 258, 259, 260, 261, 226, 262, 184, 181, 185, 227, 263, 180, 182, 264, 265, 266] (by decide +kernel) (by decide +kernel)
set_option maxRecDepth 20000 in
theorem ggL_law_L_isOpen_p4 : GoodIn wzL_law wsX30 := goodIn_r _ [1084, 1085, 1086, 1087, 1088, 1089, 1090, 1091, 1092, 1093] (by decide +kernel) (by decide +kernel)
set_option maxRecDepth 20000 in
theorem ggL_law_L_isOpen_p5 : GoodIn wzL_law wsX20 := goodIn_r _ [1105, 1106, 1107, 1108] (by decide +kernel) (by decide +kernel)

set_option maxRecDepth 20000 in
theorem gL_law_L_lastFell : GoodIn wzL_law (va_wsS RL 235 yL_lastFell wzL_lastFell) := goodIn_app (goodIn_of _ (by decide +kernel)) ggL_law_L_lastFell
set_option maxRecDepth 20000 in
theorem ggL_law_X6_lastFell : GoodIn wzL_law wsX6_lastFell := goodIn_r _ [765, 60, 281, 750, 751, 752, 5, 753, 513, 514, 515, 59, 516, 517, 111, 112, 113, 114, 115, 116, 117, 118, 614, 615, 616, 617, 618, 619, 620, 621, 622, 623, 624, 625, 626, 627, 628, 629, 65, 1098, 1099, 1100, 1101, 1102, 1103, 1104, 1105, 1106, 1107, 1108, 1138, 1139, 1140, 1141, 1142, 1143, 1144, 1145, 1146, 1147, 1116, 1117, 1118] (by decide +kernel) (by decide +kernel)
set_option maxRecDepth 20000 in
theorem gL_law_X6_lastFell : GoodIn wzL_law (wsV RL 237 RX6 yX6_lastFell wsX6_lastFell) := goodIn_app (goodIn_of _ (by decide +kernel)) ggL_law_X6_lastFell
set_option maxRecDepth 20000 in
theorem ggL_law_L_cover : GoodIn wzL_law wsL_cover := goodIn_ca (goodIn_ca (goodIn_r _ [768, 570, 769, 770, 771, 2, 772, 575, 576, 178, 30, 195, 196, 197, 198, 24, 23, 98, 99, 100, 1119, 1120, 1121, 1122, 1123, 1124, 1125, 1126, 1127, 1128, 1129, 1130, 1131, 1132, 1133, 1088, 1089, 1090, 1091, 1092, 1093, 1094, 1095, 1096, 1097] (by decide +kernel) (by decide +kernel)) (goodIn_sub (fun _ h => (List.mem_append_left _ (List.mem_append_left _ (List.mem_append_left _ (List.mem_append_left _ (List.mem_append_left _ (List.mem_append_left _ (List.mem_append_right _ h)))))))) (by decide +kernel))) (goodIn_sub (fun _ h => (List.mem_append_left _ (List.mem_append_right _ h))) (by decide +kernel))
set_option maxRecDepth 20000 in
theorem gL_law_L_cover : GoodIn wzL_law (va_wsS RL 238 yL_cover wsL_cover) := goodIn_app (goodIn_of _ (by decide +kernel)) ggL_law_L_cover
set_option maxRecDepth 20000 in
theorem ggL_law_X6_cover : GoodIn wzL_law wsX6_cover := goodIn_r _ [776, 60, 281, 452, 750, 751, 752, 5, 753, 513, 514, 515, 59, 516, 517, 111, 112, 113, 114, 115, 116, 117, 118, 614, 615, 616, 617, 618, 619, 620, 621, 622, 623, 624, 625, 626, 627, 628, 629, 65, 1098, 1099, 1100, 1101, 1102, 1103, 1104, 1105, 1106, 1107, 1108, 1138, 1139, 1140, 1141, 1142, 1143, 1144, 1145, 1146, 1147, 1116, 1117, 1118] (by decide +kernel) (by decide +kernel)
set_option maxRecDepth 20000 in
theorem gL_law_X6_cover : GoodIn wzL_law (wsV RL 241 RX6 yX6_cover wsX6_cover) := goodIn_app (goodIn_of _ (by decide +kernel)) ggL_law_X6_cover
set_option maxRecDepth 20000 in
theorem ggL_law_L_lamp : GoodIn wzL_law wzL_lamp := goodIn_ca (goodIn_ca (goodIn_ca (goodIn_r _ [779, 570, 658, 85, 780, 781, 782, 2, 783, 575, 576, 663, 664, 92, 93, 650, 784, 30, 577, 578, 579, 580, 98, 99, 100, 195, 196, 197, 198, 24, 23, 581, 248, 249, 582, 211, 212, 206, 213, 214, 1119, 1120, 1121, 1122, 1123, 1124, 1125, 1126, 1127, 1128, 1129, 1130, 1131, 1132, 1133, 1088, 1089, 1090, 1091, 1092, 1093, 1094, 1095, 1096, 1097] (by decide +kernel) (by decide +kernel)) (goodIn_sub (fun _ h => (List.mem_append_left _ (List.mem_append_left _ (List.mem_append_left _ (List.mem_append_left _ (List.mem_append_left _ (List.mem_append_left _ (List.mem_append_right _ h)))))))) (by decide +kernel))) (goodIn_sub (fun _ h => (List.mem_append_left _ (List.mem_append_right _ h))) (by decide +kernel))) (goodIn_sub (fun _ h => (List.mem_append_left _ (List.mem_append_left _ (List.mem_append_left _ (List.mem_append_left _ (List.mem_append_right _ h)))))) (by decide +kernel))
set_option maxRecDepth 20000 in
theorem gL_law_L_lamp : GoodIn wzL_law (va_wsS RL 242 yL_lamp wzL_lamp) := goodIn_app (goodIn_of _ (by decide +kernel)) ggL_law_L_lamp
set_option maxRecDepth 20000 in
theorem ggL_law_X6_lamp_p0 : GoodIn wzL_law [.code yX6_lamp cX6_lamp 7 (some .boolean)] := goodIn_r _ [788] (by decide +kernel) (by decide +kernel)
set_option maxRecDepth 20000 in
theorem ggL_law_X6_lamp_p1 : GoodIn wzL_law wsX6_lamp_r1 := goodIn_r _ [60, 281, 452, 670, 671, 672, 5, 673, 608, 609, 610, 611, 612, 613, 513, 514, 515, 59, 516, 517, 111, 112, 113, 114] (by decide +kernel) (by decide +kernel)
set_option maxRecDepth 20000 in
theorem ggL_law_X6_lamp_p2 : GoodIn wzL_law wsX6_lamp_r2 := goodIn_r _ [115, 116, 117, 118, 614, 615, 616, 617, 618, 619, 620, 621, 622, 623, 624, 625, 626, 627, 628, 629, 65, 630, 335, 336] (by decide +kernel) (by decide +kernel)
set_option maxRecDepth 20000 in
theorem ggL_law_X6_lamp_p3 : GoodIn wzL_law wsX6_lamp_r3 := goodIn_r _ [323, 337, 338, 339, 331] (by decide +kernel) (by decide +kernel)
set_option maxRecDepth 20000 in
theorem ggL_law_X6_lamp_p4 : GoodIn wzL_law wsX60 := goodIn_r _ [1098, 1099, 1100, 1101, 1102, 1103, 1104, 1105, 1106, 1107, 1108] (by decide +kernel) (by decide +kernel)
set_option maxRecDepth 20000 in
theorem ggL_law_X6_lamp_p5 : GoodIn wzL_law wsX50 := goodIn_r _ [1138, 1139, 1140, 1141, 1142, 1143, 1144, 1145, 1146, 1147] (by decide +kernel) (by decide +kernel)
set_option maxRecDepth 20000 in
theorem ggL_law_X6_lamp_p6 : GoodIn wzL_law wsX40 := goodIn_r _ [1148, 1149, 1150, 1151, 1152] (by decide +kernel) (by decide +kernel)
set_option maxRecDepth 20000 in
theorem ggL_law_X6_lamp_p7 : GoodIn wzL_law wsJx4a65c0 := goodIn_r _ [1116, 1117, 1118] (by decide +kernel) (by decide +kernel)
set_option maxRecDepth 20000 in
theorem ggL_law_X6_lamp : GoodIn wzL_law wsX6_lamp := goodIn_app (a := [.code yX6_lamp cX6_lamp 7 (some .boolean)]) ggL_law_X6_lamp_p0 (goodIn_app (goodIn_app (goodIn_app (goodIn_app (goodIn_app ggL_law_X6_lamp_p1 (goodIn_app ggL_law_X6_lamp_p2 ggL_law_X6_lamp_p3)) ggL_law_X6_lamp_p4) ggL_law_X6_lamp_p5) ggL_law_X6_lamp_p6) ggL_law_X6_lamp_p7)
set_option maxRecDepth 20000 in
theorem gL_law_X6_lamp : GoodIn wzL_law (wsV RL 245 RX6 yX6_lamp wsX6_lamp) := goodIn_app (goodIn_of _ (by decide +kernel)) ggL_law_X6_lamp
set_option maxRecDepth 20000 in
theorem ggL_law_L_lightBits : GoodIn wzL_law wsL_lightBits := goodIn_ca (goodIn_ca (goodIn_r _ [791, 570, 792, 793, 794, 2, 795, 575, 576, 577, 578, 579, 580, 98, 99, 100, 195, 196, 197, 198, 24, 23, 796, 797, 798, 206, 799, 231, 248, 249, 210, 211, 212, 213, 214, 800, 801, 802, 803, 804, 805, 806, 807, 808, 809, 810, 811, 812, 813, 1088, 1089, 1090, 1091, 1092, 1093, 1094, 1095, 1096, 1097, 1119, 1120, 1121, 1122, 1123, 1124, 1125, 1126, 1127, 1128, 1129, 1130, 1131, 1132, 1133] (by decide +kernel) (by decide +kernel)) (goodIn_sub (fun _ h => (List.mem_append_left _ (List.mem_append_left _ (List.mem_append_left _ (List.mem_append_left _ (List.mem_append_left _ (List.mem_append_left _ (List.mem_append_right _ h)))))))) (by decide +kernel))) (goodIn_sub (fun _ h => (List.mem_append_left _ (List.mem_append_right _ h))) (by decide +kernel))
set_option maxRecDepth 20000 in
theorem gL_law_L_lightBits : GoodIn wzL_law (va_wsS RL 246 yL_lightBits wsL_lightBits) := goodIn_app (goodIn_of _ (by decide +kernel)) ggL_law_L_lightBits
set_option maxRecDepth 20000 in
theorem ggL_law_X6_lightBits_p0 : GoodIn wzL_law [.code yX6_lightBits cX6_lightBits 10 (some .int)] := goodIn_r _ [817] (by decide +kernel) (by decide +kernel)
set_option maxRecDepth 20000 in
theorem ggL_law_X6_lightBits_p1 : GoodIn wzL_law wsX6_lightBits_r1 := goodIn_r _ [60, 281, 608, 609, 610, 5, 611, 612, 613, 513, 514, 515, 59, 516, 517, 111, 112, 113, 114, 115, 116, 117, 118, 614] (by decide +kernel) (by decide +kernel)
set_option maxRecDepth 20000 in
theorem ggL_law_X6_lightBits_p2 : GoodIn wzL_law wsX6_lightBits_r2 := goodIn_r _ [615, 616, 617, 618, 619, 620, 621, 622, 623, 624, 625, 626, 627, 628, 629, 65, 630, 335, 336, 323, 337, 338, 339, 331] (by decide +kernel) (by decide +kernel)
set_option maxRecDepth 20000 in
theorem ggL_law_X6_lightBits_p3 : GoodIn wzL_law wsX6_lightBits_r3 := goodIn_r _ [818, 819, 820, 607, 821, 636, 822, 823, 824, 825, 826, 827, 828, 829, 830, 831, 832, 833, 834, 835, 836] (by decide +kernel) (by decide +kernel)
set_option maxRecDepth 20000 in
theorem ggL_law_X6_lightBits_p4 : GoodIn wzL_law wsX60 := goodIn_r _ [1098, 1099, 1100, 1101, 1102, 1103, 1104, 1105, 1106, 1107, 1108] (by decide +kernel) (by decide +kernel)
set_option maxRecDepth 20000 in
theorem ggL_law_X6_lightBits_p5 : GoodIn wzL_law wsX50 := goodIn_r _ [1138, 1139, 1140, 1141, 1142, 1143, 1144, 1145, 1146, 1147] (by decide +kernel) (by decide +kernel)
set_option maxRecDepth 20000 in
theorem ggL_law_X6_lightBits_p6 : GoodIn wzL_law wsX40 := goodIn_r _ [1148, 1149, 1150, 1151, 1152] (by decide +kernel) (by decide +kernel)
set_option maxRecDepth 20000 in
theorem ggL_law_X6_lightBits_p7 : GoodIn wzL_law wsJx4a65c0 := goodIn_r _ [1116, 1117, 1118] (by decide +kernel) (by decide +kernel)
set_option maxRecDepth 20000 in
theorem ggL_law_X6_lightBits : GoodIn wzL_law wsX6_lightBits := goodIn_app (a := [.code yX6_lightBits cX6_lightBits 10 (some .int)]) ggL_law_X6_lightBits_p0 (goodIn_app (goodIn_app (goodIn_app (goodIn_app (goodIn_app ggL_law_X6_lightBits_p1 (goodIn_app ggL_law_X6_lightBits_p2 ggL_law_X6_lightBits_p3)) ggL_law_X6_lightBits_p4) ggL_law_X6_lightBits_p5) ggL_law_X6_lightBits_p6) ggL_law_X6_lightBits_p7)
set_option maxRecDepth 20000 in
theorem gL_law_X6_lightBits : GoodIn wzL_law (wsV RL 248 RX6 yX6_lightBits wsX6_lightBits) := goodIn_app (goodIn_of _ (by decide +kernel)) ggL_law_X6_lightBits
set_option maxRecDepth 20000 in
theorem ggL_law_L_isOpen_p0 : GoodIn wzL_law [.codeWith yL_isOpen cL_isOpen 4 (some .int) [(0, 16, 19, 54)]] := goodIn_r _ [839] (by decide +kernel) (by decide +kernel)
set_option maxRecDepth 20000 in
theorem ggL_law_L_isOpen_p1 : GoodIn wzL_law wsL_isOpen_r1 := goodIn_r _ [570, 840, 841, 842, 2, 843, 575, 576, 17, 25, 195, 196, 197, 198, 24, 23, 98, 99, 100, 130, 131, 132, 16, 133] (by decide +kernel) (by decide +kernel)
set_option maxRecDepth 20000 in
theorem ggL_law_L_isOpen_p2 : GoodIn wzL_law wsL_isOpen_r2 := goodIn_r _ [36, 37, 844, 845, 846, 206, 847, 229, 243, 244, 245, 246, 247, 209, 248, 249, 210, 211, 212, 213, 214, 250, 251, 252] (by decide +kernel) (by decide +kernel)
set_option maxRecDepth 20000 in
theorem ggL_law_L_isOpen_p3 : GoodIn wzL_law wsL_isOpen_r3 := goodIn_r _ [253, 254, 255, 256, 257, 262, 263, 264, 265, 230, 266, 188, 185, 189, 231, 267, 184, 186, 268, 269, 270] (by decide +kernel) (by decide +kernel)
set_option maxRecDepth 20000 in
theorem ggL_law_L_isOpen_p4 : GoodIn wzL_law wsX30 := goodIn_r _ [1088, 1089, 1090, 1091, 1092, 1093, 1094, 1095, 1096, 1097] (by decide +kernel) (by decide +kernel)
set_option maxRecDepth 20000 in
theorem ggL_law_L_isOpen_p5 : GoodIn wzL_law wsX20 := goodIn_r _ [1109, 1110, 1111, 1112] (by decide +kernel) (by decide +kernel)
set_option maxRecDepth 20000 in
theorem ggL_law_L_isOpen_p6 : GoodIn wzL_law wsX10 := goodIn_r _ [1119, 1120, 1121, 1122, 1123, 1124, 1125, 1126, 1127, 1128, 1129, 1130, 1131, 1132, 1133] (by decide +kernel) (by decide +kernel)
set_option maxRecDepth 20000 in
theorem ggL_law_L_isOpen : GoodIn wzL_law wsL_isOpen := goodIn_app (a := [.codeWith yL_isOpen cL_isOpen 4 (some .int) [(0, 16, 19, 54)]]) ggL_law_L_isOpen_p0 (goodIn_app (goodIn_app (goodIn_app (goodIn_app (goodIn_app (goodIn_app ggL_law_L_isOpen_p1 (goodIn_app ggL_law_L_isOpen_p2 ggL_law_L_isOpen_p3)) ggL_law_L_isOpen_p4) ggL_law_L_isOpen_p5) ggL_law_L_isOpen_p6) (goodIn_sub (fun _ h => (List.mem_append_left _ (List.mem_append_left _ (List.mem_append_left _ (List.mem_append_left _ (List.mem_append_left _ (List.mem_append_left _ (List.mem_append_right _ h)))))))) (by decide +kernel))) (goodIn_sub (fun _ h => (List.mem_append_left _ (List.mem_append_right _ h))) (by decide +kernel)))
set_option maxRecDepth 20000 in
theorem gL_law_L_isOpen : GoodIn wzL_law (va_wsS RL 249 yL_isOpen wsL_isOpen) := goodIn_app (goodIn_of _ (by decide +kernel)) ggL_law_L_isOpen
set_option maxRecDepth 20000 in
theorem ggL_law_X6_isOpen_p0 : GoodIn wzL_law [.code yX6_isOpen cX6_isOpen 2 (some .boolean)] := goodIn_r _ [851] (by decide +kernel) (by decide +kernel)
set_option maxRecDepth 20000 in
theorem ggL_law_X6_isOpen_p1 : GoodIn wzL_law wsX6_isOpen_r1 := goodIn_r _ [60, 281, 750, 751, 752, 5, 753, 513, 514, 515, 59, 516, 517, 111, 112, 113, 114, 115, 116, 117, 118, 614, 615, 616] (by decide +kernel) (by decide +kernel)
set_option maxRecDepth 20000 in
theorem ggL_law_X6_isOpen_p2 : GoodIn wzL_law wsX6_isOpen_r2 := goodIn_r _ [617, 618, 619, 620, 621, 622, 623, 624, 625, 626, 627, 628, 629, 65, 852, 853, 854, 323, 855, 327, 331, 354, 355, 356] (by decide +kernel) (by decide +kernel)
set_option maxRecDepth 20000 in
theorem ggL_law_X6_isOpen_p3 : GoodIn wzL_law wsX6_isOpen_r3 := goodIn_r _ [357, 358, 35, 334, 335, 336, 337, 338, 339, 359, 360, 361, 362, 363, 364, 365, 366, 367, 368, 369, 370, 140, 141, 142] (by decide +kernel) (by decide +kernel)
set_option maxRecDepth 20000 in
theorem ggL_law_X6_isOpen_p4 : GoodIn wzL_law wsX6_isOpen_r4 := goodIn_r _ [52, 856, 640, 641, 642, 375, 376, 377, 378, 379, 188, 185, 189, 332, 184, 186] (by decide +kernel) (by decide +kernel)
set_option maxRecDepth 20000 in
theorem ggL_law_X6_isOpen_p5 : GoodIn wzL_law wsX60 := goodIn_r _ [1098, 1099, 1100, 1101, 1102, 1103, 1104, 1105, 1106, 1107, 1108] (by decide +kernel) (by decide +kernel)
set_option maxRecDepth 20000 in
theorem ggL_law_X6_isOpen_p6 : GoodIn wzL_law wsJx4a65c0 := goodIn_r _ [1116, 1117, 1118] (by decide +kernel) (by decide +kernel)
set_option maxRecDepth 20000 in
theorem ggL_law_X6_isOpen_p7 : GoodIn wzL_law wsX50 := goodIn_r _ [1138, 1139, 1140, 1141, 1142, 1143, 1144, 1145, 1146, 1147] (by decide +kernel) (by decide +kernel)
set_option maxRecDepth 20000 in
theorem ggL_law_X6_isOpen_p8 : GoodIn wzL_law wsX40 := goodIn_r _ [1148, 1149, 1150, 1151, 1152] (by decide +kernel) (by decide +kernel)
set_option maxRecDepth 20000 in
theorem ggL_law_X6_isOpen : GoodIn wzL_law wsX6_isOpen := goodIn_app (a := [.code yX6_isOpen cX6_isOpen 2 (some .boolean)]) ggL_law_X6_isOpen_p0 (goodIn_app (goodIn_app (goodIn_app (goodIn_app (goodIn_app (goodIn_app ggL_law_X6_isOpen_p1 (goodIn_app ggL_law_X6_isOpen_p2 (goodIn_app ggL_law_X6_isOpen_p3 ggL_law_X6_isOpen_p4))) ggL_law_X6_isOpen_p5) ggL_law_X6_isOpen_p6) ggL_law_X6_isOpen_p7) ggL_law_X6_isOpen_p8) (goodIn_sub (fun _ h => (List.mem_append_left _ (List.mem_append_left _ (List.mem_append_left _ (List.mem_append_left _ (List.mem_append_left _ (List.mem_append_left _ (List.mem_append_right _ h)))))))) (by decide +kernel)))
set_option maxRecDepth 20000 in
theorem gL_law_X6_isOpen : GoodIn wzL_law (wsV RL 251 RX6 yX6_isOpen wsX6_isOpen) := goodIn_app (goodIn_of _ (by decide +kernel)) ggL_law_X6_isOpen
set_option maxRecDepth 20000 in
theorem ggL_law_L_carries_p0 : GoodIn wzL_law [.codeWith yL_carries cL_carries 5 (some .int) [(0, 10, 13, 54), (0, 10, 17, 64)]] := goodIn_r _ [859] (by decide +kernel) (by decide +kernel)
set_option maxRecDepth 20000 in
theorem ggL_law_L_carries_p1 : GoodIn wzL_law wsL_carries_r1 := goodIn_r _ [570, 658, 860, 861, 862, 2, 863, 575, 576, 663, 664, 17, 25, 577, 578, 579, 580, 98, 99, 100, 195, 196, 197, 198] (by decide +kernel) (by decide +kernel)
set_option maxRecDepth 20000 in
theorem ggL_law_L_carries_p2 : GoodIn wzL_law wsL_carries_r2 := goodIn_r _ [24, 23, 864, 865, 866, 206, 867, 248, 249, 210, 211, 212, 213, 214, 130, 131, 132, 16, 133, 36, 37, 868, 869, 870] (by decide +kernel) (by decide +kernel)
set_option maxRecDepth 20000 in
theorem ggL_law_L_carries_p3 : GoodIn wzL_law wsL_carries_r3 := goodIn_r _ [871, 872, 845, 846, 847, 229, 243, 244, 245, 246, 247, 209, 250, 251, 252, 253, 254, 255, 256, 257, 262, 263, 264, 265] (by decide +kernel) (by decide +kernel)
set_option maxRecDepth 20000 in
theorem ggL_law_L_carries_p4 : GoodIn wzL_law wsL_carries_r4 := goodIn_r _ [230, 266, 188, 185, 189, 231, 267, 184, 186, 268, 269, 270] (by decide +kernel) (by decide +kernel)
set_option maxRecDepth 20000 in
theorem ggL_law_L_carries_p5 : GoodIn wzL_law wsX30 := goodIn_r _ [1088, 1089, 1090, 1091, 1092, 1093, 1094, 1095, 1096, 1097] (by decide +kernel) (by decide +kernel)
set_option maxRecDepth 20000 in
theorem ggL_law_L_carries_p6 : GoodIn wzL_law wsX10 := goodIn_r _ [1119, 1120, 1121, 1122, 1123, 1124, 1125, 1126, 1127, 1128, 1129, 1130, 1131, 1132, 1133] (by decide +kernel) (by decide +kernel)
set_option maxRecDepth 20000 in
theorem ggL_law_L_carries_p7 : GoodIn wzL_law wsX20 := goodIn_r _ [1109, 1110, 1111, 1112] (by decide +kernel) (by decide +kernel)
set_option maxRecDepth 20000 in
theorem ggL_law_L_carries : GoodIn wzL_law wzL_carries := goodIn_app (a := [.codeWith yL_carries cL_carries 5 (some .int) [(0, 10, 13, 54), (0, 10, 17, 64)]]) ggL_law_L_carries_p0 (goodIn_app (goodIn_app (goodIn_app (goodIn_app (goodIn_app (goodIn_app ggL_law_L_carries_p1 (goodIn_app ggL_law_L_carries_p2 (goodIn_app ggL_law_L_carries_p3 ggL_law_L_carries_p4))) ggL_law_L_carries_p5) ggL_law_L_carries_p6) ggL_law_L_carries_p7) (goodIn_sub (fun _ h => (List.mem_append_left _ (List.mem_append_left _ (List.mem_append_left _ (List.mem_append_left _ (List.mem_append_left _ (List.mem_append_left _ (List.mem_append_right _ h)))))))) (by decide +kernel))) (goodIn_sub (fun _ h => (List.mem_append_left _ (List.mem_append_right _ h))) (by decide +kernel)))
set_option maxRecDepth 20000 in
theorem gL_law_L_carries : GoodIn wzL_law (va_wsS RL 252 yL_carries wzL_carries) := goodIn_app (goodIn_of _ (by decide +kernel)) ggL_law_L_carries
set_option maxRecDepth 20000 in
theorem ggL_law_X6_carries_p0 : GoodIn wzL_law [.code yX6_carries cX6_carries 5 (some .int)] := goodIn_r _ [876] (by decide +kernel) (by decide +kernel)
set_option maxRecDepth 20000 in
theorem ggL_law_X6_carries_p1 : GoodIn wzL_law wsX6_carries_r1 := goodIn_r _ [60, 281, 608, 609, 610, 5, 611, 612, 613, 513, 514, 515, 59, 516, 517, 111, 112, 113, 114, 115, 116, 117, 118, 614] (by decide +kernel) (by decide +kernel)
set_option maxRecDepth 20000 in
theorem ggL_law_X6_carries_p2 : GoodIn wzL_law wsX6_carries_r2 := goodIn_r _ [615, 616, 617, 618, 619, 620, 621, 622, 623, 624, 625, 626, 627, 628, 629, 65, 877, 360, 361, 323, 362, 334, 335, 336] (by decide +kernel) (by decide +kernel)
set_option maxRecDepth 20000 in
theorem ggL_law_X6_carries_p3 : GoodIn wzL_law wsX6_carries_r3 := goodIn_r _ [337, 338, 339, 331, 852, 853, 854, 855, 327, 354, 355, 356, 357, 358, 35, 359, 363, 364, 365, 366, 367, 368, 369, 370] (by decide +kernel) (by decide +kernel)
set_option maxRecDepth 20000 in
theorem ggL_law_X6_carries_p4 : GoodIn wzL_law wsX6_carries_r4 := goodIn_r _ [140, 141, 142, 52, 856, 640, 641, 642, 375, 376, 377, 378, 379, 188, 185, 189, 332, 184, 186] (by decide +kernel) (by decide +kernel)
set_option maxRecDepth 20000 in
theorem ggL_law_X6_carries_p5 : GoodIn wzL_law wsX60 := goodIn_r _ [1098, 1099, 1100, 1101, 1102, 1103, 1104, 1105, 1106, 1107, 1108] (by decide +kernel) (by decide +kernel)
set_option maxRecDepth 20000 in
theorem ggL_law_X6_carries_p6 : GoodIn wzL_law wsJx4a65c0 := goodIn_r _ [1116, 1117, 1118] (by decide +kernel) (by decide +kernel)
set_option maxRecDepth 20000 in
theorem ggL_law_X6_carries_p7 : GoodIn wzL_law wsX50 := goodIn_r _ [1138, 1139, 1140, 1141, 1142, 1143, 1144, 1145, 1146, 1147] (by decide +kernel) (by decide +kernel)
set_option maxRecDepth 20000 in
theorem ggL_law_X6_carries_p8 : GoodIn wzL_law wsX40 := goodIn_r _ [1148, 1149, 1150, 1151, 1152] (by decide +kernel) (by decide +kernel)
set_option maxRecDepth 20000 in
theorem ggL_law_X6_carries : GoodIn wzL_law wsX6_carries := goodIn_app (a := [.code yX6_carries cX6_carries 5 (some .int)]) ggL_law_X6_carries_p0 (goodIn_app (goodIn_app (goodIn_app (goodIn_app (goodIn_app (goodIn_app ggL_law_X6_carries_p1 (goodIn_app ggL_law_X6_carries_p2 (goodIn_app ggL_law_X6_carries_p3 ggL_law_X6_carries_p4))) ggL_law_X6_carries_p5) ggL_law_X6_carries_p6) ggL_law_X6_carries_p7) ggL_law_X6_carries_p8) (goodIn_sub (fun _ h => (List.mem_append_left _ (List.mem_append_left _ (List.mem_append_left _ (List.mem_append_left _ (List.mem_append_left _ (List.mem_append_left _ (List.mem_append_right _ h)))))))) (by decide +kernel)))
set_option maxRecDepth 20000 in
theorem gL_law_X6_carries : GoodIn wzL_law (wsV RL 254 RX6 yX6_carries wsX6_carries) := goodIn_app (goodIn_of _ (by decide +kernel)) ggL_law_X6_carries
set_option maxRecDepth 20000 in
theorem ggL_law_L_visit_p0 : GoodIn wzL_law [.codeWith yL_visit cL_visit 5 (some .int) [(0, 10, 13, 54), (0, 10, 17, 13), (0, 10, 21, 15)]] := goodIn_r _ [880] (by decide +kernel) (by decide +kernel)
set_option maxRecDepth 20000 in
theorem ggL_law_L_visit_p1 : GoodIn wzL_law wsL_visit_r1 := goodIn_r _ [570, 84, 85, 881, 882, 883, 2, 884, 575, 576, 90, 91, 92, 93, 17, 25, 885, 30, 195, 196, 197, 198, 24, 23] (by decide +kernel) (by decide +kernel)
set_option maxRecDepth 20000 in
theorem ggL_law_L_visit_p2 : GoodIn wzL_law wsL_visit_r2 := goodIn_r _ [98, 99, 100, 130, 131, 132, 16, 133, 36, 37, 844, 845, 846, 206, 847, 229, 243, 244, 245, 246, 247, 209, 248, 249] (by decide +kernel) (by decide +kernel)
set_option maxRecDepth 20000 in
theorem ggL_law_L_visit_p3 : GoodIn wzL_law wsL_visit_r3 := goodIn_r _ [210, 211, 212, 213, 214, 250, 251, 252, 253, 254, 255, 256, 257, 262, 263, 264, 265, 230, 266, 188, 185, 189, 231, 267] (by decide +kernel) (by decide +kernel)
set_option maxRecDepth 20000 in
theorem ggL_law_L_visit_p4 : GoodIn wzL_law wsL_visit_r4 := goodIn_r _ [184, 186, 268, 269, 270] (by decide +kernel) (by decide +kernel)
set_option maxRecDepth 20000 in
theorem ggL_law_L_visit_p5 : GoodIn wzL_law wsX30 := goodIn_r _ [1088, 1089, 1090, 1091, 1092, 1093, 1094, 1095, 1096, 1097] (by decide +kernel) (by decide +kernel)
set_option maxRecDepth 20000 in
theorem ggL_law_L_visit_p6 : GoodIn wzL_law wsX10 := goodIn_r _ [1119, 1120, 1121, 1122, 1123, 1124, 1125, 1126, 1127, 1128, 1129, 1130, 1131, 1132, 1133] (by decide +kernel) (by decide +kernel)
set_option maxRecDepth 20000 in
theorem ggL_law_L_visit_p7 : GoodIn wzL_law wsX20 := goodIn_r _ [1109, 1110, 1111, 1112] (by decide +kernel) (by decide +kernel)
set_option maxRecDepth 20000 in
theorem ggL_law_L_visit : GoodIn wzL_law wsL_visit := goodIn_app (a := [.codeWith yL_visit cL_visit 5 (some .int) [(0, 10, 13, 54), (0, 10, 17, 13), (0, 10, 21, 15)]]) ggL_law_L_visit_p0 (goodIn_app (goodIn_app (goodIn_app (goodIn_app (goodIn_app (goodIn_app (goodIn_app (goodIn_app ggL_law_L_visit_p1 (goodIn_app ggL_law_L_visit_p2 (goodIn_app ggL_law_L_visit_p3 ggL_law_L_visit_p4))) ggL_law_L_visit_p5) ggL_law_L_visit_p6) ggL_law_L_visit_p7) (goodIn_sub (fun _ h => (List.mem_append_left _ (List.mem_append_left _ (List.mem_append_left _ (List.mem_append_left _ (List.mem_append_left _ (List.mem_append_left _ (List.mem_append_right _ h)))))))) (by decide +kernel))) (goodIn_sub (fun _ h => (List.mem_append_left _ (List.mem_append_right _ h))) (by decide +kernel))) (goodIn_sub (fun _ h => (List.mem_append_left _ (List.mem_append_left _ (List.mem_append_left _ (List.mem_append_left _ (List.mem_append_left _ (List.mem_append_right _ h))))))) (by decide +kernel))) (goodIn_sub (fun _ h => (List.mem_append_left _ (List.mem_append_left _ (List.mem_append_left _ (List.mem_append_left _ (List.mem_append_right _ h)))))) (by decide +kernel)))
set_option maxRecDepth 20000 in
theorem gL_law_L_visit : GoodIn wzL_law (va_wsS RL 255 yL_visit wsL_visit) := goodIn_app (goodIn_of _ (by decide +kernel)) ggL_law_L_visit
set_option maxRecDepth 20000 in
theorem ggL_law_X6_visit_p0 : GoodIn wzL_law [.code yX6_visit cX6_visit 3 (some .int)] := goodIn_r _ [889] (by decide +kernel) (by decide +kernel)
set_option maxRecDepth 20000 in
theorem ggL_law_X6_visit_p1 : GoodIn wzL_law wsX6_visit_r1 := goodIn_r _ [890, 60, 281, 452, 750, 751, 752, 5, 753, 513, 514, 515, 59, 516, 517, 111, 112, 113, 114, 115, 116, 117, 118, 614] (by decide +kernel) (by decide +kernel)
set_option maxRecDepth 20000 in
theorem ggL_law_X6_visit_p2 : GoodIn wzL_law wsX6_visit_r2 := goodIn_r _ [615, 616, 617, 618, 619, 620, 621, 622, 623, 624, 625, 626, 627, 628, 629, 65, 852, 853, 854, 323, 855, 327, 331, 354] (by decide +kernel) (by decide +kernel)
set_option maxRecDepth 20000 in
theorem ggL_law_X6_visit_p3 : GoodIn wzL_law wsX6_visit_r3 := goodIn_r _ [355, 356, 357, 358, 35, 334, 335, 336, 337, 338, 339, 359, 360, 361, 362, 363, 364, 365, 366, 367, 368, 369, 370, 140] (by decide +kernel) (by decide +kernel)
set_option maxRecDepth 20000 in
theorem ggL_law_X6_visit_p4 : GoodIn wzL_law wsX6_visit_r4 := goodIn_r _ [141, 142, 52, 856, 640, 641, 642, 375, 376, 377, 378, 379, 188, 185, 189, 332, 184, 186] (by decide +kernel) (by decide +kernel)
set_option maxRecDepth 20000 in
theorem ggL_law_X6_visit_p5 : GoodIn wzL_law wsX60 := goodIn_r _ [1098, 1099, 1100, 1101, 1102, 1103, 1104, 1105, 1106, 1107, 1108] (by decide +kernel) (by decide +kernel)
set_option maxRecDepth 20000 in
theorem ggL_law_X6_visit_p6 : GoodIn wzL_law wsX50 := goodIn_r _ [1138, 1139, 1140, 1141, 1142, 1143, 1144, 1145, 1146, 1147] (by decide +kernel) (by decide +kernel)
set_option maxRecDepth 20000 in
theorem ggL_law_X6_visit_p7 : GoodIn wzL_law wsJx4a65c0 := goodIn_r _ [1116, 1117, 1118] (by decide +kernel) (by decide +kernel)
set_option maxRecDepth 20000 in
theorem ggL_law_X6_visit_p8 : GoodIn wzL_law wsX40 := goodIn_r _ [1148, 1149, 1150, 1151, 1152] (by decide +kernel) (by decide +kernel)
set_option maxRecDepth 20000 in
theorem ggL_law_X6_visit : GoodIn wzL_law wsX6_visit := goodIn_app (a := [.code yX6_visit cX6_visit 3 (some .int)]) ggL_law_X6_visit_p0 (goodIn_app (goodIn_app (goodIn_app (goodIn_app (goodIn_app (goodIn_app ggL_law_X6_visit_p1 (goodIn_app ggL_law_X6_visit_p2 (goodIn_app ggL_law_X6_visit_p3 ggL_law_X6_visit_p4))) ggL_law_X6_visit_p5) ggL_law_X6_visit_p6) ggL_law_X6_visit_p7) ggL_law_X6_visit_p8) (goodIn_sub (fun _ h => (List.mem_append_left _ (List.mem_append_left _ (List.mem_append_left _ (List.mem_append_left _ (List.mem_append_left _ (List.mem_append_left _ (List.mem_append_right _ h)))))))) (by decide +kernel)))
set_option maxRecDepth 20000 in
theorem gL_law_X6_visit : GoodIn wzL_law (wsV RL 257 RX6 yX6_visit wsX6_visit) := goodIn_app (goodIn_of _ (by decide +kernel)) ggL_law_X6_visit
set_option maxRecDepth 20000 in
theorem ggL_law_L_squareBits : GoodIn wzL_law wsL_squareBits := goodIn_ca (goodIn_ca (goodIn_r _ [893, 84, 894, 895, 896, 2, 897, 90, 91, 898, 899, 17, 25, 900, 98, 99, 100, 130, 131, 132, 16, 133, 36, 37, 901, 902, 903, 904, 905, 906, 1088, 1089, 1090, 1091, 1092, 1093, 1094, 1095, 1096, 1097, 1109, 1110, 1111, 1112] (by decide +kernel) (by decide +kernel)) (goodIn_sub (fun _ h => (List.mem_append_left _ (List.mem_append_left _ (List.mem_append_left _ (List.mem_append_left _ (List.mem_append_left _ (List.mem_append_left _ (List.mem_append_right _ h)))))))) (by decide +kernel))) (goodIn_sub (fun _ h => (List.mem_append_left _ (List.mem_append_left _ (List.mem_append_left _ (List.mem_append_left _ (List.mem_append_left _ (List.mem_append_right _ h))))))) (by decide +kernel))
set_option maxRecDepth 20000 in
theorem gL_law_L_squareBits : GoodIn wzL_law (va_wsS RL 258 yL_squareBits wsL_squareBits) := goodIn_app (goodIn_of _ (by decide +kernel)) ggL_law_L_squareBits
set_option maxRecDepth 20000 in
theorem ggL_law_X6_squareBits : GoodIn wzL_law wsX6_squareBits := goodIn_ca (goodIn_r _ [910, 105, 613, 911, 912, 913, 110, 914, 111, 112, 5, 113, 114, 115, 116, 117, 118, 139, 140, 141, 142, 52, 915, 916, 917, 918, 919, 920, 921, 922, 923, 924, 925, 926, 1098, 1099, 1100, 1101, 1102, 1103, 1104, 1105, 1106, 1107, 1108] (by decide +kernel) (by decide +kernel)) (goodIn_sub (fun _ h => (List.mem_append_left _ (List.mem_append_left _ (List.mem_append_left _ (List.mem_append_left _ (List.mem_append_left _ (List.mem_append_left _ (List.mem_append_right _ h)))))))) (by decide +kernel))
set_option maxRecDepth 20000 in
theorem gL_law_X6_squareBits : GoodIn wzL_law (wsV RL 261 RX6 yX6_squareBits wsX6_squareBits) := goodIn_app (goodIn_of _ (by decide +kernel)) ggL_law_X6_squareBits
set_option maxRecDepth 20000 in
theorem ggL_law_L_plan : GoodIn wzL_law wsL_plan := goodIn_ca (goodIn_ca (goodIn_r _ [929, 570, 930, 931, 932, 2, 933, 575, 576, 934, 577, 578, 579, 580, 98, 99, 100, 195, 196, 197, 198, 24, 23, 581, 248, 249, 935, 936, 937, 206, 938, 501, 1119, 1120, 1121, 1122, 1123, 1124, 1125, 1126, 1127, 1128, 1129, 1130, 1131, 1132, 1133, 1088, 1089, 1090, 1091, 1092, 1093, 1094, 1095, 1096, 1097] (by decide +kernel) (by decide +kernel)) (goodIn_sub (fun _ h => (List.mem_append_left _ (List.mem_append_left _ (List.mem_append_left _ (List.mem_append_left _ (List.mem_append_left _ (List.mem_append_left _ (List.mem_append_right _ h)))))))) (by decide +kernel))) (goodIn_sub (fun _ h => (List.mem_append_left _ (List.mem_append_right _ h))) (by decide +kernel))
set_option maxRecDepth 20000 in
theorem gL_law_L_plan : GoodIn wzL_law (va_wsS RL 262 yL_plan wsL_plan) := goodIn_app (goodIn_of _ (by decide +kernel)) ggL_law_L_plan
set_option maxRecDepth 20000 in
theorem ggL_law_X6_plan : GoodIn wzL_law wsX6_plan := goodIn_ca (goodIn_r _ [942, 60, 281, 608, 609, 610, 5, 611, 612, 613, 513, 514, 515, 59, 516, 517, 111, 112, 113, 114, 115, 116, 117, 118, 614, 615, 616, 617, 618, 619, 620, 621, 622, 623, 624, 625, 626, 627, 628, 629, 65, 1098, 1099, 1100, 1101, 1102, 1103, 1104, 1105, 1106, 1107, 1108, 1138, 1139, 1140, 1141, 1142, 1143, 1144, 1145, 1146, 1147, 1116, 1117, 1118] (by decide +kernel) (by decide +kernel)) (goodIn_sub (fun _ h => (List.mem_append_left _ (List.mem_append_left _ (List.mem_append_left _ (List.mem_append_left _ (List.mem_append_left _ (List.mem_append_left _ (List.mem_append_right _ h)))))))) (by decide +kernel))
set_option maxRecDepth 20000 in
theorem gL_law_X6_plan : GoodIn wzL_law (wsV RL 264 RX6 yX6_plan wsX6_plan) := goodIn_app (goodIn_of _ (by decide +kernel)) ggL_law_X6_plan
set_option maxRecDepth 20000 in
theorem ggL_law_L_carve_p0 : GoodIn wzL_law [.codeWith yL_carve cL_carve 7 (some .int) [(0, 14, 17, 54), (0, 14, 21, 13), (0, 14, 25, 64), (0, 14, 29, 27), (0, 14, 33, 15)]] := goodIn_r _ [945] (by decide +kernel) (by decide +kernel)
set_option maxRecDepth 20000 in
theorem ggL_law_L_carve_p1 : GoodIn wzL_law wsL_carve_r1 := goodIn_r _ [570, 84, 658, 167, 85, 946, 947, 948, 2, 949, 575, 576, 90, 91, 663, 664, 172, 173, 92, 93, 950, 665, 577, 578] (by decide +kernel) (by decide +kernel)
set_option maxRecDepth 20000 in
theorem ggL_law_L_carve_p2 : GoodIn wzL_law wsL_carve_r2 := goodIn_r _ [579, 580, 98, 99, 100, 195, 196, 197, 198, 24, 23, 581, 248, 249, 582, 211, 212, 206, 213, 214, 951, 222, 223, 224] (by decide +kernel) (by decide +kernel)
set_option maxRecDepth 20000 in
theorem ggL_law_L_carve_p3 : GoodIn wzL_law wsL_carve_r3 := goodIn_r _ [225, 226, 227, 228, 209, 229, 230, 231, 232, 233, 234, 593, 594, 595, 596, 17, 25, 30, 130, 131, 132, 16, 133, 36] (by decide +kernel) (by decide +kernel)
set_option maxRecDepth 20000 in
theorem ggL_law_L_carve_p4 : GoodIn wzL_law wsL_carve_r4 := goodIn_r _ [37, 235, 236, 237, 238, 239, 240, 241, 242, 208, 243, 244, 245, 246, 247, 210, 250, 251, 252, 253, 254, 255, 256, 257] (by decide +kernel) (by decide +kernel)
set_option maxRecDepth 20000 in
theorem ggL_law_L_carve_p5 : GoodIn wzL_law wsL_carve_r5 := goodIn_r _ [258, 259, 260, 261, 262, 263, 264, 265, 266, 188, 185, 189, 267, 184, 186, 268, 269, 270, 215, 216, 217, 218, 219, 220] (by decide +kernel) (by decide +kernel)
set_option maxRecDepth 20000 in
theorem ggL_law_L_carve_p6 : GoodIn wzL_law wsL_carve_r6 := goodIn_r _ [221] (by decide +kernel) (by decide +kernel)
set_option maxRecDepth 20000 in
theorem ggL_law_L_carve_p7 : GoodIn wzL_law wsX10 := goodIn_r _ [1119, 1120, 1121, 1122, 1123, 1124, 1125, 1126, 1127, 1128, 1129, 1130, 1131, 1132, 1133] (by decide +kernel) (by decide +kernel)
set_option maxRecDepth 20000 in
theorem ggL_law_L_carve_p8 : GoodIn wzL_law wsX30 := goodIn_r _ [1088, 1089, 1090, 1091, 1092, 1093, 1094, 1095, 1096, 1097] (by decide +kernel) (by decide +kernel)
set_option maxRecDepth 20000 in
theorem ggL_law_L_carve_p9 : GoodIn wzL_law wsX20 := goodIn_r _ [1109, 1110, 1111, 1112] (by decide +kernel) (by decide +kernel)
set_option maxRecDepth 20000 in
theorem ggL_law_L_carve : GoodIn wzL_law wzL_carve := goodIn_app (a := [.codeWith yL_carve cL_carve 7 (some .int) [(0, 14, 17, 54), (0, 14, 21, 13), (0, 14, 25, 64), (0, 14, 29, 27), (0, 14, 33, 15)]]) ggL_law_L_carve_p0 (goodIn_app (goodIn_app (goodIn_app (goodIn_app (goodIn_app (goodIn_app (goodIn_app (goodIn_app (goodIn_app ggL_law_L_carve_p1 (goodIn_app ggL_law_L_carve_p2 (goodIn_app ggL_law_L_carve_p3 (goodIn_app ggL_law_L_carve_p4 (goodIn_app ggL_law_L_carve_p5 ggL_law_L_carve_p6))))) ggL_law_L_carve_p7) ggL_law_L_carve_p8) ggL_law_L_carve_p9) (goodIn_sub (fun _ h => (List.mem_append_left _ (List.mem_append_left _ (List.mem_append_left _ (List.mem_append_left _ (List.mem_append_left _ (List.mem_append_left _ (List.mem_append_right _ h)))))))) (by decide +kernel))) (goodIn_sub (fun _ h => (List.mem_append_left _ (List.mem_append_right _ h))) (by decide +kernel))) (goodIn_sub (fun _ h => (List.mem_append_left _ (List.mem_append_left _ (List.mem_append_left _ (List.mem_append_left _ (List.mem_append_left _ (List.mem_append_right _ h))))))) (by decide +kernel))) (goodIn_sub (fun _ h => (List.mem_append_left _ (List.mem_append_left _ (List.mem_append_left _ (List.mem_append_right _ h))))) (by decide +kernel))) (goodIn_sub (fun _ h => (List.mem_append_left _ (List.mem_append_left _ (List.mem_append_left _ (List.mem_append_left _ (List.mem_append_right _ h)))))) (by decide +kernel)))
set_option maxRecDepth 20000 in
theorem gL_law_L_carve : GoodIn wzL_law (va_wsS RL 265 yL_carve wzL_carve) := goodIn_app (goodIn_of _ (by decide +kernel)) ggL_law_L_carve
set_option maxRecDepth 20000 in
theorem ggL_law_X6_carve_p0 : GoodIn wzL_law [.code yX6_carve cX6_carve 7 (some .int)] := goodIn_r _ [955] (by decide +kernel) (by decide +kernel)
set_option maxRecDepth 20000 in
theorem ggL_law_X6_carve_p1 : GoodIn wzL_law wsX6_carve_r1 := goodIn_r _ [60, 281, 107, 110, 608, 609, 610, 5, 611, 612, 613, 513, 514, 515, 59, 516, 517, 111, 112, 113, 114, 115, 116, 117] (by decide +kernel) (by decide +kernel)
set_option maxRecDepth 20000 in
theorem ggL_law_X6_carve_p2 : GoodIn wzL_law wsX6_carve_r2 := goodIn_r _ [118, 614, 615, 616, 617, 618, 619, 620, 621, 622, 623, 624, 625, 626, 627, 628, 629, 65, 139, 140, 141, 142, 52, 638] (by decide +kernel) (by decide +kernel)
set_option maxRecDepth 20000 in
theorem ggL_law_X6_carve_p3 : GoodIn wzL_law wsX6_carve_r3 := goodIn_r _ [347, 348, 323, 349, 350, 351, 352, 353, 325, 326, 354, 355, 356, 357, 358, 35, 331, 334, 335, 336, 337, 338, 339, 359] (by decide +kernel) (by decide +kernel)
set_option maxRecDepth 20000 in
theorem ggL_law_X6_carve_p4 : GoodIn wzL_law wsX6_carve_r4 := goodIn_r _ [360, 361, 362, 363, 364, 365, 366, 367, 368, 369, 370, 371, 372, 373, 374, 375, 376, 377, 378, 379, 188, 185, 189, 332] (by decide +kernel) (by decide +kernel)
set_option maxRecDepth 20000 in
theorem ggL_law_X6_carve_p5 : GoodIn wzL_law wsX6_carve_r5 := goodIn_r _ [184, 186, 340, 341, 342, 343, 344, 345, 327] (by decide +kernel) (by decide +kernel)
set_option maxRecDepth 20000 in
theorem ggL_law_X6_carve_p6 : GoodIn wzL_law wsX60 := goodIn_r _ [1098, 1099, 1100, 1101, 1102, 1103, 1104, 1105, 1106, 1107, 1108] (by decide +kernel) (by decide +kernel)
set_option maxRecDepth 20000 in
theorem ggL_law_X6_carve_p7 : GoodIn wzL_law wsX50 := goodIn_r _ [1138, 1139, 1140, 1141, 1142, 1143, 1144, 1145, 1146, 1147] (by decide +kernel) (by decide +kernel)
set_option maxRecDepth 20000 in
theorem ggL_law_X6_carve_p8 : GoodIn wzL_law wsX40 := goodIn_r _ [1148, 1149, 1150, 1151, 1152] (by decide +kernel) (by decide +kernel)
set_option maxRecDepth 20000 in
theorem ggL_law_X6_carve_p9 : GoodIn wzL_law wsJx4a65c0 := goodIn_r _ [1116, 1117, 1118] (by decide +kernel) (by decide +kernel)
set_option maxRecDepth 20000 in
theorem ggL_law_X6_carve : GoodIn wzL_law wsX6_carve := goodIn_app (a := [.code yX6_carve cX6_carve 7 (some .int)]) ggL_law_X6_carve_p0 (goodIn_app (goodIn_app (goodIn_app (goodIn_app (goodIn_app (goodIn_app ggL_law_X6_carve_p1 (goodIn_app ggL_law_X6_carve_p2 (goodIn_app ggL_law_X6_carve_p3 (goodIn_app ggL_law_X6_carve_p4 ggL_law_X6_carve_p5)))) ggL_law_X6_carve_p6) ggL_law_X6_carve_p7) ggL_law_X6_carve_p8) ggL_law_X6_carve_p9) (goodIn_sub (fun _ h => (List.mem_append_left _ (List.mem_append_left _ (List.mem_append_left _ (List.mem_append_left _ (List.mem_append_left _ (List.mem_append_left _ (List.mem_append_right _ h)))))))) (by decide +kernel)))
set_option maxRecDepth 20000 in
theorem gL_law_X6_carve : GoodIn wzL_law (wsV RL 268 RX6 yX6_carve wsX6_carve) := goodIn_app (goodIn_of _ (by decide +kernel)) ggL_law_X6_carve
set_option maxRecDepth 20000 in
theorem ggL_law_L_hours : GoodIn wzL_law wsL_hours := goodIn_ca (goodIn_ca (goodIn_r _ [958, 570, 959, 960, 961, 2, 962, 575, 576, 950, 195, 196, 197, 198, 24, 23, 98, 99, 100, 1119, 1120, 1121, 1122, 1123, 1124, 1125, 1126, 1127, 1128, 1129, 1130, 1131, 1132, 1133, 1088, 1089, 1090, 1091, 1092, 1093, 1094, 1095, 1096, 1097] (by decide +kernel) (by decide +kernel)) (goodIn_sub (fun _ h => (List.mem_append_left _ (List.mem_append_left _ (List.mem_append_left _ (List.mem_append_left _ (List.mem_append_left _ (List.mem_append_left _ (List.mem_append_right _ h)))))))) (by decide +kernel))) (goodIn_sub (fun _ h => (List.mem_append_left _ (List.mem_append_right _ h))) (by decide +kernel))
set_option maxRecDepth 20000 in
theorem gL_law_L_hours : GoodIn wzL_law (va_wsS RL 269 yL_hours wsL_hours) := goodIn_app (goodIn_of _ (by decide +kernel)) ggL_law_L_hours
set_option maxRecDepth 20000 in
theorem ggL_law_X6_hours : GoodIn wzL_law wsX6_hours := goodIn_r _ [966, 60, 281, 750, 751, 752, 5, 753, 513, 514, 515, 59, 516, 517, 111, 112, 113, 114, 115, 116, 117, 118, 614, 615, 616, 617, 618, 619, 620, 621, 622, 623, 624, 625, 626, 627, 628, 629, 65, 1098, 1099, 1100, 1101, 1102, 1103, 1104, 1105, 1106, 1107, 1108, 1138, 1139, 1140, 1141, 1142, 1143, 1144, 1145, 1146, 1147, 1116, 1117, 1118] (by decide +kernel) (by decide +kernel)
set_option maxRecDepth 20000 in
theorem gL_law_X6_hours : GoodIn wzL_law (wsV RL 271 RX6 yX6_hours wsX6_hours) := goodIn_app (goodIn_of _ (by decide +kernel)) ggL_law_X6_hours
set_option maxRecDepth 20000 in
theorem ggL_law_L_judge : GoodIn wzL_law wsL_judge := goodIn_ca (goodIn_ca (goodIn_r _ [969, 570, 970, 971, 972, 2, 973, 575, 576, 974, 899, 745, 975, 976, 195, 196, 197, 198, 24, 23, 98, 99, 100, 977, 978, 979, 206, 980, 501, 214, 1119, 1120, 1121, 1122, 1123, 1124, 1125, 1126, 1127, 1128, 1129, 1130, 1131, 1132, 1133, 1088, 1089, 1090, 1091, 1092, 1093, 1094, 1095, 1096, 1097] (by decide +kernel) (by decide +kernel)) (goodIn_sub (fun _ h => (List.mem_append_left _ (List.mem_append_left _ (List.mem_append_left _ (List.mem_append_left _ (List.mem_append_left _ (List.mem_append_left _ (List.mem_append_right _ h)))))))) (by decide +kernel))) (goodIn_sub (fun _ h => (List.mem_append_left _ (List.mem_append_right _ h))) (by decide +kernel))
set_option maxRecDepth 20000 in
theorem gL_law_L_judge : GoodIn wzL_law (va_wsS RL 272 yL_judge wsL_judge) := goodIn_app (goodIn_of _ (by decide +kernel)) ggL_law_L_judge
set_option maxRecDepth 20000 in
theorem ggL_law_X6_judge : GoodIn wzL_law wsX6_judge := goodIn_ca (goodIn_r _ [984, 60, 281, 985, 913, 750, 751, 752, 5, 753, 513, 514, 515, 59, 516, 517, 111, 112, 113, 114, 115, 116, 117, 118, 614, 615, 616, 617, 618, 619, 620, 621, 622, 623, 624, 625, 626, 627, 628, 629, 65, 630, 335, 336, 323, 337, 338, 339, 331, 1098, 1099, 1100, 1101, 1102, 1103, 1104, 1105, 1106, 1107, 1108, 1138, 1139, 1140, 1141, 1142, 1143, 1144, 1145, 1146, 1147, 1116, 1117, 1118] (by decide +kernel) (by decide +kernel)) (goodIn_sub (fun _ h => (List.mem_append_left _ (List.mem_append_left _ (List.mem_append_left _ (List.mem_append_left _ (List.mem_append_left _ (List.mem_append_left _ (List.mem_append_right _ h)))))))) (by decide +kernel))
set_option maxRecDepth 20000 in
theorem gL_law_X6_judge : GoodIn wzL_law (wsV RL 275 RX6 yX6_judge wsX6_judge) := goodIn_app (goodIn_of _ (by decide +kernel)) ggL_law_X6_judge
set_option maxRecDepth 20000 in
theorem ggL_law_L_mark : GoodIn wzL_law wzL_mark := goodIn_ca (goodIn_ca (goodIn_r _ [988, 570, 658, 989, 990, 991, 2, 992, 575, 576, 663, 664, 976, 975, 195, 196, 197, 198, 24, 23, 98, 99, 100, 1119, 1120, 1121, 1122, 1123, 1124, 1125, 1126, 1127, 1128, 1129, 1130, 1131, 1132, 1133, 1088, 1089, 1090, 1091, 1092, 1093, 1094, 1095, 1096, 1097] (by decide +kernel) (by decide +kernel)) (goodIn_sub (fun _ h => (List.mem_append_left _ (List.mem_append_left _ (List.mem_append_left _ (List.mem_append_left _ (List.mem_append_left _ (List.mem_append_left _ (List.mem_append_right _ h)))))))) (by decide +kernel))) (goodIn_sub (fun _ h => (List.mem_append_left _ (List.mem_append_right _ h))) (by decide +kernel))
set_option maxRecDepth 20000 in
theorem gL_law_L_mark : GoodIn wzL_law (va_wsS RL 276 yL_mark wzL_mark) := goodIn_app (goodIn_of _ (by decide +kernel)) ggL_law_L_mark
set_option maxRecDepth 20000 in
theorem ggL_law_X6_mark : GoodIn wzL_law wsX6_mark := goodIn_r _ [996, 60, 281, 750, 751, 752, 5, 753, 513, 514, 515, 59, 516, 517, 111, 112, 113, 114, 115, 116, 117, 118, 614, 615, 616, 617, 618, 619, 620, 621, 622, 623, 624, 625, 626, 627, 628, 629, 65, 1098, 1099, 1100, 1101, 1102, 1103, 1104, 1105, 1106, 1107, 1108, 1138, 1139, 1140, 1141, 1142, 1143, 1144, 1145, 1146, 1147, 1116, 1117, 1118] (by decide +kernel) (by decide +kernel)
set_option maxRecDepth 20000 in
theorem gL_law_X6_mark : GoodIn wzL_law (wsV RL 278 RX6 yX6_mark wsX6_mark) := goodIn_app (goodIn_of _ (by decide +kernel)) ggL_law_X6_mark
set_option maxRecDepth 20000 in
theorem ggL_law_L_take_p0 : GoodIn wzL_law [.codeWith yL_take cL_take 6 (some .int) [(0, 12, 15, 54), (0, 12, 19, 64), (0, 12, 23, 15)]] := goodIn_r _ [999] (by decide +kernel) (by decide +kernel)
set_option maxRecDepth 20000 in
theorem ggL_law_L_take_p1 : GoodIn wzL_law wsL_take_r1 := goodIn_r _ [570, 658, 85, 1000, 1001, 1002, 2, 1003, 575, 576, 663, 664, 92, 93, 17, 25, 665, 577, 578, 579, 580, 98, 99, 100] (by decide +kernel) (by decide +kernel)
set_option maxRecDepth 20000 in
theorem ggL_law_L_take_p2 : GoodIn wzL_law wsL_take_r2 := goodIn_r _ [195, 196, 197, 198, 24, 23, 581, 248, 249, 582, 211, 212, 206, 213, 214, 130, 131, 132, 16, 133, 36, 37, 1004, 1005] (by decide +kernel) (by decide +kernel)
set_option maxRecDepth 20000 in
theorem ggL_law_L_take_p3 : GoodIn wzL_law wsL_take_r3 := goodIn_r _ [1006, 1007, 210, 239, 240, 241, 242, 208, 243, 244, 245, 246, 247, 209, 250, 251, 252, 253, 254, 255, 256, 257, 258, 259] (by decide +kernel) (by decide +kernel)
set_option maxRecDepth 20000 in
theorem ggL_law_L_take_p4 : GoodIn wzL_law wsL_take_r4 := goodIn_r _ [260, 261, 262, 263, 264, 265, 230, 266, 188, 185, 189, 231, 267, 184, 186, 268, 269, 270, 951, 222, 223, 224, 225, 226] (by decide +kernel) (by decide +kernel)
set_option maxRecDepth 20000 in
theorem ggL_law_L_take_p5 : GoodIn wzL_law wsL_take_r5 := goodIn_r _ [227, 228, 229, 232, 233, 234] (by decide +kernel) (by decide +kernel)
set_option maxRecDepth 20000 in
theorem ggL_law_L_take_p6 : GoodIn wzL_law wsX30 := goodIn_r _ [1088, 1089, 1090, 1091, 1092, 1093, 1094, 1095, 1096, 1097] (by decide +kernel) (by decide +kernel)
set_option maxRecDepth 20000 in
theorem ggL_law_L_take_p7 : GoodIn wzL_law wsX10 := goodIn_r _ [1119, 1120, 1121, 1122, 1123, 1124, 1125, 1126, 1127, 1128, 1129, 1130, 1131, 1132, 1133] (by decide +kernel) (by decide +kernel)
set_option maxRecDepth 20000 in
theorem ggL_law_L_take_p8 : GoodIn wzL_law wsX20 := goodIn_r _ [1109, 1110, 1111, 1112] (by decide +kernel) (by decide +kernel)
set_option maxRecDepth 20000 in
theorem ggL_law_L_take : GoodIn wzL_law wzL_take := goodIn_app (a := [.codeWith yL_take cL_take 6 (some .int) [(0, 12, 15, 54), (0, 12, 19, 64), (0, 12, 23, 15)]]) ggL_law_L_take_p0 (goodIn_app (goodIn_app (goodIn_app (goodIn_app (goodIn_app (goodIn_app (goodIn_app ggL_law_L_take_p1 (goodIn_app ggL_law_L_take_p2 (goodIn_app ggL_law_L_take_p3 (goodIn_app ggL_law_L_take_p4 ggL_law_L_take_p5)))) ggL_law_L_take_p6) ggL_law_L_take_p7) ggL_law_L_take_p8) (goodIn_sub (fun _ h => (List.mem_append_left _ (List.mem_append_left _ (List.mem_append_left _ (List.mem_append_left _ (List.mem_append_left _ (List.mem_append_left _ (List.mem_append_right _ h)))))))) (by decide +kernel))) (goodIn_sub (fun _ h => (List.mem_append_left _ (List.mem_append_right _ h))) (by decide +kernel))) (goodIn_sub (fun _ h => (List.mem_append_left _ (List.mem_append_left _ (List.mem_append_left _ (List.mem_append_left _ (List.mem_append_right _ h)))))) (by decide +kernel)))
set_option maxRecDepth 20000 in
theorem gL_law_L_take : GoodIn wzL_law (va_wsS RL 279 yL_take wzL_take) := goodIn_app (goodIn_of _ (by decide +kernel)) ggL_law_L_take
set_option maxRecDepth 20000 in
theorem ggL_law_X6_take_p0 : GoodIn wzL_law [.code yX6_take cX6_take 15 (some .int)] := goodIn_r _ [1011] (by decide +kernel) (by decide +kernel)
set_option maxRecDepth 20000 in
theorem ggL_law_X6_take_p1 : GoodIn wzL_law wsX6_take_r1 := goodIn_r _ [60, 281, 110, 670, 671, 672, 5, 673, 608, 609, 610, 611, 612, 613, 513, 514, 515, 59, 516, 517, 111, 112, 113, 114] (by decide +kernel) (by decide +kernel)
set_option maxRecDepth 20000 in
theorem ggL_law_X6_take_p2 : GoodIn wzL_law wsX6_take_r2 := goodIn_r _ [115, 116, 117, 118, 614, 615, 616, 617, 618, 619, 620, 621, 622, 623, 624, 625, 626, 627, 628, 629, 65, 630, 335, 336] (by decide +kernel) (by decide +kernel)
set_option maxRecDepth 20000 in
theorem ggL_law_X6_take_p3 : GoodIn wzL_law wsX6_take_r3 := goodIn_r _ [323, 337, 338, 339, 331, 139, 140, 141, 142, 52, 1012, 351, 352, 353, 325, 326, 354, 355, 356, 357, 358, 35, 334, 359] (by decide +kernel) (by decide +kernel)
set_option maxRecDepth 20000 in
theorem ggL_law_X6_take_p4 : GoodIn wzL_law wsX6_take_r4 := goodIn_r _ [360, 361, 362, 363, 364, 365, 366, 367, 368, 369, 370, 371, 372, 373, 374, 375, 376, 377, 378, 379, 188, 185, 189, 332] (by decide +kernel) (by decide +kernel)
set_option maxRecDepth 20000 in
theorem ggL_law_X6_take_p5 : GoodIn wzL_law wsX6_take_r5 := goodIn_r _ [184, 186] (by decide +kernel) (by decide +kernel)
set_option maxRecDepth 20000 in
theorem ggL_law_X6_take_p6 : GoodIn wzL_law wsX60 := goodIn_r _ [1098, 1099, 1100, 1101, 1102, 1103, 1104, 1105, 1106, 1107, 1108] (by decide +kernel) (by decide +kernel)
set_option maxRecDepth 20000 in
theorem ggL_law_X6_take_p7 : GoodIn wzL_law wsX50 := goodIn_r _ [1138, 1139, 1140, 1141, 1142, 1143, 1144, 1145, 1146, 1147] (by decide +kernel) (by decide +kernel)
set_option maxRecDepth 20000 in
theorem ggL_law_X6_take_p8 : GoodIn wzL_law wsX40 := goodIn_r _ [1148, 1149, 1150, 1151, 1152] (by decide +kernel) (by decide +kernel)
set_option maxRecDepth 20000 in
theorem ggL_law_X6_take_p9 : GoodIn wzL_law wsJx4a65c0 := goodIn_r _ [1116, 1117, 1118] (by decide +kernel) (by decide +kernel)
set_option maxRecDepth 20000 in
theorem ggL_law_X6_take : GoodIn wzL_law wsX6_take := goodIn_app (a := [.code yX6_take cX6_take 15 (some .int)]) ggL_law_X6_take_p0 (goodIn_app (goodIn_app (goodIn_app (goodIn_app (goodIn_app (goodIn_app ggL_law_X6_take_p1 (goodIn_app ggL_law_X6_take_p2 (goodIn_app ggL_law_X6_take_p3 (goodIn_app ggL_law_X6_take_p4 ggL_law_X6_take_p5)))) ggL_law_X6_take_p6) ggL_law_X6_take_p7) ggL_law_X6_take_p8) ggL_law_X6_take_p9) (goodIn_sub (fun _ h => (List.mem_append_left _ (List.mem_append_left _ (List.mem_append_left _ (List.mem_append_left _ (List.mem_append_left _ (List.mem_append_left _ (List.mem_append_right _ h)))))))) (by decide +kernel)))
set_option maxRecDepth 20000 in
theorem gL_law_X6_take : GoodIn wzL_law (wsV RL 281 RX6 yX6_take wsX6_take) := goodIn_app (goodIn_of _ (by decide +kernel)) ggL_law_X6_take
set_option maxRecDepth 20000 in
theorem ggL_law_X3_money : GoodIn wzL_law wsX3_money := goodIn_r _ [1016, 30, 1088, 1089, 1090, 1091, 1092, 1093, 1094, 1095, 1096, 1097] (by decide +kernel) (by decide +kernel)
set_option maxRecDepth 20000 in
theorem gL_law_X3_money : GoodIn wzL_law (wsV RL 282 RX3 yX3_money wsX3_money) := goodIn_app (goodIn_of _ (by decide +kernel)) ggL_law_X3_money
set_option maxRecDepth 20000 in
theorem ggL_law_X6_money : GoodIn wzL_law wsX6_money := goodIn_r _ [1020, 118, 452, 1098, 1099, 1100, 1101, 1102, 1103, 1104, 1105, 1106, 1107, 1108] (by decide +kernel) (by decide +kernel)
set_option maxRecDepth 20000 in
theorem gL_law_X6_money : GoodIn wzL_law (wsV RL 285 RX6 yX6_money wsX6_money) := goodIn_app (goodIn_of _ (by decide +kernel)) ggL_law_X6_money
set_option maxRecDepth 20000 in
theorem ggL_law_L_count : GoodIn wzL_law wsL_count := goodIn_ca (goodIn_ca (goodIn_r _ [1023, 570, 1024, 1025, 1026, 2, 1027, 575, 576, 195, 196, 197, 198, 24, 23, 98, 99, 100, 597, 598, 599, 206, 600, 214, 1088, 1089, 1090, 1091, 1092, 1093, 1094, 1095, 1096, 1097, 1119, 1120, 1121, 1122, 1123, 1124, 1125, 1126, 1127, 1128, 1129, 1130, 1131, 1132, 1133] (by decide +kernel) (by decide +kernel)) (goodIn_sub (fun _ h => (List.mem_append_left _ (List.mem_append_left _ (List.mem_append_left _ (List.mem_append_left _ (List.mem_append_left _ (List.mem_append_left _ (List.mem_append_right _ h)))))))) (by decide +kernel))) (goodIn_sub (fun _ h => (List.mem_append_left _ (List.mem_append_right _ h))) (by decide +kernel))
set_option maxRecDepth 20000 in
theorem gL_law_L_count : GoodIn wzL_law (va_wsS RL 286 yL_count wsL_count) := goodIn_app (goodIn_of _ (by decide +kernel)) ggL_law_L_count
set_option maxRecDepth 20000 in
theorem ggL_law_X6_count : GoodIn wzL_law wsX6_count := goodIn_r _ [1031, 60, 281, 750, 751, 752, 5, 753, 513, 514, 515, 59, 516, 517, 111, 112, 113, 114, 115, 116, 117, 118, 614, 615, 616, 617, 618, 619, 620, 621, 622, 623, 624, 625, 626, 627, 628, 629, 65, 639, 640, 641, 323, 642, 331, 1098, 1099, 1100, 1101, 1102, 1103, 1104, 1105, 1106, 1107, 1108, 1116, 1117, 1118, 1138, 1139, 1140, 1141, 1142, 1143, 1144, 1145, 1146, 1147] (by decide +kernel) (by decide +kernel)
set_option maxRecDepth 20000 in
theorem gL_law_X6_count : GoodIn wzL_law (wsV RL 288 RX6 yX6_count wsX6_count) := goodIn_app (goodIn_of _ (by decide +kernel)) ggL_law_X6_count
set_option maxRecDepth 20000 in
theorem ggL_law_L_openShare_p0 : GoodIn wzL_law [.codeWith yL_openShare cL_openShare 3 (some .int) [(0, 8, 11, 140)]] := goodIn_r _ [1034] (by decide +kernel) (by decide +kernel)
set_option maxRecDepth 20000 in
theorem ggL_law_L_openShare_p1 : GoodIn wzL_law wsL_openShare_r1 := goodIn_r _ [1035, 1036, 1037, 1038, 2, 1039, 1040, 1041, 24, 17, 25, 195, 196, 197, 198, 23, 98, 99, 100, 130, 131, 132, 16, 133] (by decide +kernel) (by decide +kernel)
set_option maxRecDepth 20000 in
theorem ggL_law_L_openShare_p2 : GoodIn wzL_law wsL_openShare_r2 := goodIn_r _ [36, 37, 844, 845, 846, 206, 847, 229, 243, 244, 245, 246, 247, 209, 248, 249, 210, 211, 212, 213, 214, 250, 251, 252] (by decide +kernel) (by decide +kernel)
set_option maxRecDepth 20000 in
theorem ggL_law_L_openShare_p3 : GoodIn wzL_law wsL_openShare_r3 := goodIn_r _ [253, 254, 255, 256, 257, 262, 263, 264, 265, 230, 266, 188, 185, 189, 231, 267, 184, 186, 268, 269, 270] (by decide +kernel) (by decide +kernel)
set_option maxRecDepth 20000 in
theorem ggL_law_L_openShare_p4 : GoodIn wzL_law wsX30 := goodIn_r _ [1088, 1089, 1090, 1091, 1092, 1093, 1094, 1095, 1096, 1097] (by decide +kernel) (by decide +kernel)
set_option maxRecDepth 20000 in
theorem ggL_law_L_openShare_p5 : GoodIn wzL_law wsX20 := goodIn_r _ [1109, 1110, 1111, 1112] (by decide +kernel) (by decide +kernel)
set_option maxRecDepth 20000 in
theorem ggL_law_L_openShare_p6 : GoodIn wzL_law wsX10 := goodIn_r _ [1119, 1120, 1121, 1122, 1123, 1124, 1125, 1126, 1127, 1128, 1129, 1130, 1131, 1132, 1133] (by decide +kernel) (by decide +kernel)
set_option maxRecDepth 20000 in
theorem ggL_law_L_openShare : GoodIn wzL_law wsL_openShare := goodIn_app (a := [.codeWith yL_openShare cL_openShare 3 (some .int) [(0, 8, 11, 140)]]) ggL_law_L_openShare_p0 (goodIn_app (goodIn_app (goodIn_app (goodIn_app (goodIn_app (goodIn_app ggL_law_L_openShare_p1 (goodIn_app ggL_law_L_openShare_p2 ggL_law_L_openShare_p3)) ggL_law_L_openShare_p4) ggL_law_L_openShare_p5) ggL_law_L_openShare_p6) (goodIn_sub (fun _ h => (List.mem_append_left _ (List.mem_append_left _ (List.mem_append_left _ (List.mem_append_left _ (List.mem_append_left _ (List.mem_append_left _ (List.mem_append_right _ h)))))))) (by decide +kernel))) (goodIn_sub (fun _ h => (List.mem_append_right _ h)) (by decide +kernel)))
set_option maxRecDepth 20000 in
theorem gL_law_L_openShare : GoodIn wzL_law (va_wsS RL 289 yL_openShare wsL_openShare) := goodIn_app (goodIn_of _ (by decide +kernel)) ggL_law_L_openShare
set_option maxRecDepth 20000 in
theorem ggL_law_X6_openShare_p0 : GoodIn wzL_law [.code yX6_openShare cX6_openShare 4 (some .float)] := goodIn_r _ [1045] (by decide +kernel) (by decide +kernel)
set_option maxRecDepth 20000 in
theorem ggL_law_X6_openShare_p1 : GoodIn wzL_law wsX6_openShare_r1 := goodIn_r _ [60, 281, 290, 291, 292, 59, 293, 294, 295, 296, 297, 298, 299, 300, 301, 12, 13, 302, 303, 304, 305, 306, 307, 308] (by decide +kernel) (by decide +kernel)
set_option maxRecDepth 20000 in
theorem ggL_law_X6_openShare_p2 : GoodIn wzL_law wsX6_openShare_r2 := goodIn_r _ [309, 310, 311, 312, 313, 314, 315, 316, 317, 318, 319, 852, 853, 854, 323, 855, 327, 331, 354, 355, 356, 357, 358, 35] (by decide +kernel) (by decide +kernel)
set_option maxRecDepth 20000 in
theorem ggL_law_X6_openShare_p3 : GoodIn wzL_law wsX6_openShare_r3 := goodIn_r _ [334, 335, 336, 337, 338, 339, 112, 5, 113, 359, 360, 361, 362, 363, 364, 365, 366, 367, 368, 369, 370, 140, 141, 142] (by decide +kernel) (by decide +kernel)
set_option maxRecDepth 20000 in
theorem ggL_law_X6_openShare_p4 : GoodIn wzL_law wsX6_openShare_r4 := goodIn_r _ [52, 856, 640, 641, 642, 375, 376, 377, 378, 379, 188, 185, 189, 332, 184, 186, 1046, 1047, 1048, 1049, 517, 114, 115, 116] (by decide +kernel) (by decide +kernel)
set_option maxRecDepth 20000 in
theorem ggL_law_X6_openShare_p5 : GoodIn wzL_law wsX6_openShare_r5 := goodIn_r _ [117, 118, 513, 514, 515, 516] (by decide +kernel) (by decide +kernel)
set_option maxRecDepth 20000 in
theorem ggL_law_X6_openShare_p6 : GoodIn wzL_law wsX60 := goodIn_r _ [1098, 1099, 1100, 1101, 1102, 1103, 1104, 1105, 1106, 1107, 1108] (by decide +kernel) (by decide +kernel)
set_option maxRecDepth 20000 in
theorem ggL_law_X6_openShare_p7 : GoodIn wzL_law wsJx354110 := goodIn_r _ [1134, 1135, 1136, 1137] (by decide +kernel) (by decide +kernel)
set_option maxRecDepth 20000 in
theorem ggL_law_X6_openShare_p8 : GoodIn wzL_law wsJx4a65c0 := goodIn_r _ [1116, 1117, 1118] (by decide +kernel) (by decide +kernel)
set_option maxRecDepth 20000 in
theorem ggL_law_X6_openShare_p9 : GoodIn wzL_law wsX50 := goodIn_r _ [1138, 1139, 1140, 1141, 1142, 1143, 1144, 1145, 1146, 1147] (by decide +kernel) (by decide +kernel)
set_option maxRecDepth 20000 in
theorem ggL_law_X6_openShare_p10 : GoodIn wzL_law wsX40 := goodIn_r _ [1148, 1149, 1150, 1151, 1152] (by decide +kernel) (by decide +kernel)
set_option maxRecDepth 20000 in
theorem ggL_law_X6_openShare : GoodIn wzL_law wsX6_openShare := goodIn_app (a := [.code yX6_openShare cX6_openShare 4 (some .float)]) ggL_law_X6_openShare_p0 (goodIn_app (goodIn_app (goodIn_app (goodIn_app (goodIn_app (goodIn_app (goodIn_app ggL_law_X6_openShare_p1 (goodIn_app ggL_law_X6_openShare_p2 (goodIn_app ggL_law_X6_openShare_p3 (goodIn_app ggL_law_X6_openShare_p4 ggL_law_X6_openShare_p5)))) ggL_law_X6_openShare_p6) ggL_law_X6_openShare_p7) ggL_law_X6_openShare_p8) ggL_law_X6_openShare_p9) ggL_law_X6_openShare_p10) (goodIn_sub (fun _ h => (List.mem_append_left _ (List.mem_append_left _ (List.mem_append_left _ (List.mem_append_left _ (List.mem_append_left _ (List.mem_append_left _ (List.mem_append_right _ h)))))))) (by decide +kernel)))
set_option maxRecDepth 20000 in
theorem gL_law_X6_openShare : GoodIn wzL_law (wsV RL 292 RX6 yX6_openShare wsX6_openShare) := goodIn_app (goodIn_of _ (by decide +kernel)) ggL_law_X6_openShare
set_option maxRecDepth 20000 in
theorem ggL_law_L_meanCreep : GoodIn wzL_law wsL_meanCreep := goodIn_ca (goodIn_ca (goodIn_ca (goodIn_r _ [1052, 570, 1035, 1053, 1054, 1055, 2, 1056, 575, 576, 1040, 1041, 195, 196, 197, 198, 24, 23, 98, 99, 100, 597, 598, 599, 206, 600, 214, 1057, 1058, 1059, 1060, 229, 1088, 1089, 1090, 1091, 1092, 1093, 1094, 1095, 1096, 1097, 1119, 1120, 1121, 1122, 1123, 1124, 1125, 1126, 1127, 1128, 1129, 1130, 1131, 1132, 1133] (by decide +kernel) (by decide +kernel)) (goodIn_sub (fun _ h => (List.mem_append_left _ (List.mem_append_left _ (List.mem_append_left _ (List.mem_append_left _ (List.mem_append_left _ (List.mem_append_left _ (List.mem_append_right _ h)))))))) (by decide +kernel))) (goodIn_sub (fun _ h => (List.mem_append_left _ (List.mem_append_right _ h))) (by decide +kernel))) (goodIn_sub (fun _ h => (List.mem_append_right _ h)) (by decide +kernel))
set_option maxRecDepth 20000 in
theorem gL_law_L_meanCreep : GoodIn wzL_law (va_wsS RL 293 yL_meanCreep wsL_meanCreep) := goodIn_app (goodIn_of _ (by decide +kernel)) ggL_law_L_meanCreep
set_option maxRecDepth 20000 in
theorem ggL_law_X6_meanCreep : GoodIn wzL_law wsX6_meanCreep := goodIn_r _ [1064, 60, 281, 750, 751, 752, 5, 753, 513, 514, 515, 59, 516, 517, 111, 112, 113, 114, 115, 116, 117, 118, 614, 615, 616, 617, 618, 619, 620, 621, 622, 623, 624, 625, 626, 627, 628, 629, 65, 639, 640, 641, 323, 642, 331, 1098, 1099, 1100, 1101, 1102, 1103, 1104, 1105, 1106, 1107, 1108, 1138, 1139, 1140, 1141, 1142, 1143, 1144, 1145, 1146, 1147, 1148, 1149, 1150, 1151, 1152, 1116, 1117, 1118] (by decide +kernel) (by decide +kernel)
set_option maxRecDepth 20000 in
theorem gL_law_X6_meanCreep : GoodIn wzL_law (wsV RL 295 RX6 yX6_meanCreep wsX6_meanCreep) := goodIn_app (goodIn_of _ (by decide +kernel)) ggL_law_X6_meanCreep
set_option maxRecDepth 20000 in
theorem ggL_law_X3_checksum : GoodIn wzL_law wsX3_checksum := goodIn_ca (goodIn_r _ [1068, 1069, 24, 1070, 665, 708, 30, 28, 21, 395, 195, 196, 197, 2, 198, 23, 98, 99, 100, 582, 211, 212, 206, 213, 214, 1088, 1089, 1090, 1091, 1092, 1093, 1094, 1095, 1096, 1097, 1119, 1120, 1121, 1122, 1123, 1124, 1125, 1126, 1127, 1128, 1129, 1130, 1131, 1132, 1133, 1113, 1114, 1115] (by decide +kernel) (by decide +kernel)) (goodIn_sub (fun _ h => (List.mem_append_left _ (List.mem_append_left _ (List.mem_append_left _ (List.mem_append_left _ (List.mem_append_left _ (List.mem_append_left _ (List.mem_append_right _ h)))))))) (by decide +kernel))
set_option maxRecDepth 20000 in
theorem gL_law_X3_checksum : GoodIn wzL_law (wsV RL 296 RX3 yX3_checksum wsX3_checksum) := goodIn_app (goodIn_of _ (by decide +kernel)) ggL_law_X3_checksum
set_option maxRecDepth 20000 in
theorem ggL_law_X6_checksum : GoodIn wzL_law wsX6_checksum := goodIn_ca (goodIn_r _ [1074, 118, 612, 60, 281, 1075, 452, 289, 53, 290, 291, 292, 59, 293, 294, 295, 296, 297, 298, 299, 300, 301, 12, 13, 302, 303, 304, 305, 306, 307, 308, 309, 310, 311, 312, 313, 314, 315, 316, 317, 318, 319, 1098, 1099, 1100, 1101, 1102, 1103, 1104, 1105, 1106, 1107, 1108, 1138, 1139, 1140, 1141, 1142, 1143, 1144, 1145, 1146, 1147, 1148, 1149, 1150, 1151, 1152, 1134, 1135, 1136, 1137, 1116, 1117, 1118] (by decide +kernel) (by decide +kernel)) (goodIn_sub (fun _ h => (List.mem_append_left _ (List.mem_append_left _ (List.mem_append_left _ (List.mem_append_left _ (List.mem_append_left _ (List.mem_append_left _ (List.mem_append_right _ h)))))))) (by decide +kernel))
set_option maxRecDepth 20000 in
theorem gL_law_X6_checksum : GoodIn wzL_law (wsV RL 300 RX6 yX6_checksum wsX6_checksum) := goodIn_app (goodIn_of _ (by decide +kernel)) ggL_law_X6_checksum
set_option maxRecDepth 20000 in
theorem ggL_law_X3_isSound : GoodIn wzL_law wsX3_isSound := goodIn_ca (goodIn_r _ [1079, 24, 21, 412, 395, 195, 196, 197, 2, 198, 23, 98, 99, 100, 1080, 1081, 1082, 206, 1083, 209, 243, 244, 245, 246, 247, 248, 249, 210, 211, 212, 213, 214, 250, 251, 252, 253, 254, 255, 256, 257, 258, 259, 260, 261, 1088, 1089, 1090, 1091, 1092, 1093, 1094, 1095, 1096, 1097, 1113, 1114, 1115, 1119, 1120, 1121, 1122, 1123, 1124, 1125, 1126, 1127, 1128, 1129, 1130, 1131, 1132, 1133] (by decide +kernel) (by decide +kernel)) (goodIn_sub (fun _ h => (List.mem_append_left _ (List.mem_append_left _ (List.mem_append_left _ (List.mem_append_left _ (List.mem_append_left _ (List.mem_append_left _ (List.mem_append_right _ h)))))))) (by decide +kernel))
set_option maxRecDepth 20000 in
theorem gL_law_X3_isSound : GoodIn wzL_law (wsV RL 301 RX3 yX3_isSound wsX3_isSound) := goodIn_app (goodIn_of _ (by decide +kernel)) ggL_law_X3_isSound
set_option maxRecDepth 20000 in
theorem ggL_law_X6_isSound : GoodIn wzL_law wsX6_isSound := goodIn_r _ [1087, 118, 1098, 1099, 1100, 1101, 1102, 1103, 1104, 1105, 1106, 1107, 1108] (by decide +kernel) (by decide +kernel)
set_option maxRecDepth 20000 in
theorem gL_law_X6_isSound : GoodIn wzL_law (wsV RL 305 RX6 yX6_isSound wsX6_isSound) := goodIn_app (goodIn_of _ (by decide +kernel)) ggL_law_X6_isSound

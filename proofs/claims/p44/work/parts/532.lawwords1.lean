set_option maxRecDepth 100000 in
set_option maxHeartbeats 4000000 in
theorem wsq_wsL_law0_r13 : ∀ w ∈ wsL_law0_r13, w ∈ lw_tbl := in_r wsL_law0_r13 [1063, 1065, 1066, 1067, 38, 1068, 1069, 1070, 1075, 1071, 1073, 916, 917, 1074, 1086, 1090, 1092, 1094, 1072, 1096, 1099, 1101, 1103, 912] (by decide +kernel)
set_option maxRecDepth 100000 in
set_option maxHeartbeats 4000000 in
theorem wsq_wsL_law0_r14 : ∀ w ∈ wsL_law0_r14, w ∈ lw_tbl := in_r wsL_law0_r14 [1104, 1105, 1106, 1107, 1120, 1121, 1122, 40, 1123, 1124, 536, 1210, 1200, 1126, 1127, 1196, 1174, 1175, 1129, 1130, 1131, 1132, 1133, 1134] (by decide +kernel)
set_option maxRecDepth 100000 in
set_option maxHeartbeats 4000000 in
theorem wsq_wsL_law0_r15 : ∀ w ∈ wsL_law0_r15, w ∈ lw_tbl := in_r wsL_law0_r15 [1135, 1137, 14, 1139, 1205, 1203, 1140, 1141, 1142, 1143, 1144, 1145, 1146, 1147, 1148, 1149, 1150, 1151, 1152, 1153, 1154, 1155, 1156, 1157] (by decide +kernel)
set_option maxRecDepth 100000 in
set_option maxHeartbeats 4000000 in
theorem wsq_wsL_law0_r16 : ∀ w ∈ wsL_law0_r16, w ∈ lw_tbl := in_r wsL_law0_r16 [1158, 1159, 1160, 1161, 1162, 1163, 1164, 1165, 1166, 1167, 1168, 1169, 1170, 1171, 1172, 1173, 137, 138, 139, 140, 1000, 1001, 1002, 1003] (by decide +kernel)
set_option maxRecDepth 100000 in
set_option maxHeartbeats 4000000 in
theorem wsq_wsL_law0_r17 : ∀ w ∈ wsL_law0_r17, w ∈ lw_tbl := in_r wsL_law0_r17 [414, 415, 416, 417, 418, 419, 420, 92, 1004, 1005, 1006, 1007, 1008, 1010, 11, 1011, 1012, 422, 423, 424, 425, 426, 427, 428] (by decide +kernel)
set_option maxRecDepth 100000 in
set_option maxHeartbeats 4000000 in
theorem wsq_wsL_law0_r18 : ∀ w ∈ wsL_law0_r18, w ∈ lw_tbl := in_r wsL_law0_r18 [94, 1013, 1014, 1015, 1016, 429, 430, 431, 432, 433, 434, 435, 436, 437, 438, 439, 1017, 1018, 1019, 1020, 1021, 1023, 12, 1024] (by decide +kernel)
set_option maxRecDepth 100000 in
set_option maxHeartbeats 4000000 in
theorem wsq_wsL_law0_r19 : ∀ w ∈ wsL_law0_r19, w ∈ lw_tbl := in_r wsL_law0_r19 [441, 442, 443, 444, 445, 446, 447, 96, 450, 451, 452, 453, 1025, 1026, 1027, 1028, 935, 141, 142, 143, 144, 1029, 1030, 1031] (by decide +kernel)
set_option maxRecDepth 100000 in
set_option maxHeartbeats 4000000 in
theorem wsq_wsL_law0_r20 : ∀ w ∈ wsL_law0_r20, w ∈ lw_tbl := in_r wsL_law0_r20 [1032, 454, 455, 456, 457, 458, 459, 460, 1033, 1034, 1035, 1036, 145, 146, 147, 148, 1038, 1039, 1040, 1041, 149, 150, 151, 152] (by decide +kernel)
set_option maxRecDepth 100000 in
set_option maxHeartbeats 4000000 in
theorem wsq_wsL_law0_r21 : ∀ w ∈ wsL_law0_r21, w ∈ lw_tbl := in_r wsL_law0_r21 [1042, 1043, 1044, 1045, 462, 463, 464, 465, 466, 467, 468, 470, 471, 472, 473, 474, 535, 485, 490, 496, 498, 500, 502, 1176] (by decide +kernel)
set_option maxRecDepth 100000 in
set_option maxHeartbeats 4000000 in
theorem wsq_wsL_law0_r22 : ∀ w ∈ wsL_law0_r22, w ∈ lw_tbl := in_r wsL_law0_r22 [1177, 1178, 1179, 1119, 1138, 1181, 1184, 1186, 1188, 914, 1190, 1191, 1192, 1198, 1233, 1236, 1238, 1240, 918, 1241, 1243, 15, 1244, 1245] (by decide +kernel)
set_option maxRecDepth 100000 in
set_option maxHeartbeats 4000000 in
theorem wsq_wsL_law0_r23 : ∀ w ∈ wsL_law0_r23, w ∈ lw_tbl := in_r wsL_law0_r23 [1247, 16, 1248, 1249, 1251, 17, 1252, 1294, 1295, 1253, 1254, 41, 1255, 1256, 1257, 1258, 1259, 1260, 1261, 1262, 1263, 1264, 1558, 1265] (by decide +kernel)
set_option maxRecDepth 100000 in
set_option maxHeartbeats 4000000 in
theorem wsq_wsL_law0_r24 : ∀ w ∈ wsL_law0_r24, w ∈ lw_tbl := in_r wsL_law0_r24 [1283, 1284, 1285, 1286, 1287, 1289, 1290, 1291, 1293, 1292, 42, 537, 538, 539, 540, 564, 565, 566, 567, 572, 43, 568, 570, 4] (by decide +kernel)


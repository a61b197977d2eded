set_option maxRecDepth 100000 in
set_option maxHeartbeats 4000000 in
theorem wsq_wsL_law0_r13 : ∀ w ∈ wsL_law0_r13, w ∈ lw_tbl := in_r wsL_law0_r13 [1067, 1069, 1070, 1071, 38, 1072, 1073, 1074, 1079, 1075, 1077, 920, 921, 1078, 1090, 1094, 1096, 1098, 1076, 1100, 1103, 1105, 1107, 916] (by decide +kernel)
set_option maxRecDepth 100000 in
set_option maxHeartbeats 4000000 in
theorem wsq_wsL_law0_r14 : ∀ w ∈ wsL_law0_r14, w ∈ lw_tbl := in_r wsL_law0_r14 [1108, 1109, 1110, 1111, 1124, 1125, 1126, 40, 1127, 1128, 536, 1214, 1204, 1130, 1131, 1200, 1178, 1179, 1133, 1134, 1135, 1136, 1137, 1138] (by decide +kernel)
set_option maxRecDepth 100000 in
set_option maxHeartbeats 4000000 in
theorem wsq_wsL_law0_r15 : ∀ w ∈ wsL_law0_r15, w ∈ lw_tbl := in_r wsL_law0_r15 [1139, 1141, 14, 1143, 1209, 1207, 1144, 1145, 1146, 1147, 1148, 1149, 1150, 1151, 1152, 1153, 1154, 1155, 1156, 1157, 1158, 1159, 1160, 1161] (by decide +kernel)
set_option maxRecDepth 100000 in
set_option maxHeartbeats 4000000 in
theorem wsq_wsL_law0_r16 : ∀ w ∈ wsL_law0_r16, w ∈ lw_tbl := in_r wsL_law0_r16 [1162, 1163, 1164, 1165, 1166, 1167, 1168, 1169, 1170, 1171, 1172, 1173, 1174, 1175, 1176, 1177, 889, 890, 891, 892, 137, 138, 139, 140] (by decide +kernel)
set_option maxRecDepth 100000 in
set_option maxHeartbeats 4000000 in
theorem wsq_wsL_law0_r17 : ∀ w ∈ wsL_law0_r17, w ∈ lw_tbl := in_r wsL_law0_r17 [1004, 1005, 1006, 1007, 414, 415, 416, 417, 418, 419, 420, 92, 1008, 1009, 1010, 1011, 1012, 1014, 11, 1015, 1016, 422, 423, 424] (by decide +kernel)
set_option maxRecDepth 100000 in
set_option maxHeartbeats 4000000 in
theorem wsq_wsL_law0_r18 : ∀ w ∈ wsL_law0_r18, w ∈ lw_tbl := in_r wsL_law0_r18 [425, 426, 427, 428, 94, 1017, 1018, 1019, 1020, 429, 430, 431, 432, 433, 434, 435, 436, 437, 438, 439, 1021, 1022, 1023, 1024] (by decide +kernel)
set_option maxRecDepth 100000 in
set_option maxHeartbeats 4000000 in
theorem wsq_wsL_law0_r19 : ∀ w ∈ wsL_law0_r19, w ∈ lw_tbl := in_r wsL_law0_r19 [1025, 1027, 12, 1028, 441, 442, 443, 444, 445, 446, 447, 96, 450, 451, 452, 453, 1029, 1030, 1031, 1032, 939, 141, 142, 143] (by decide +kernel)
set_option maxRecDepth 100000 in
set_option maxHeartbeats 4000000 in
theorem wsq_wsL_law0_r20 : ∀ w ∈ wsL_law0_r20, w ∈ lw_tbl := in_r wsL_law0_r20 [144, 1033, 1034, 1035, 1036, 454, 455, 456, 457, 458, 459, 460, 1037, 1038, 1039, 1040, 145, 146, 147, 148, 1042, 1043, 1044, 1045] (by decide +kernel)
set_option maxRecDepth 100000 in
set_option maxHeartbeats 4000000 in
theorem wsq_wsL_law0_r21 : ∀ w ∈ wsL_law0_r21, w ∈ lw_tbl := in_r wsL_law0_r21 [149, 150, 151, 152, 1046, 1047, 1048, 1049, 462, 463, 464, 465, 466, 467, 468, 470, 471, 472, 473, 474, 535, 485, 490, 496] (by decide +kernel)
set_option maxRecDepth 100000 in
set_option maxHeartbeats 4000000 in
theorem wsq_wsL_law0_r22 : ∀ w ∈ wsL_law0_r22, w ∈ lw_tbl := in_r wsL_law0_r22 [498, 500, 502, 1180, 1181, 1182, 1183, 1123, 1142, 1185, 1188, 1190, 1192, 918, 1194, 1195, 1196, 1202, 1237, 1240, 1242, 1244, 922, 1245] (by decide +kernel)
set_option maxRecDepth 100000 in
set_option maxHeartbeats 4000000 in
theorem wsq_wsL_law0_r23 : ∀ w ∈ wsL_law0_r23, w ∈ lw_tbl := in_r wsL_law0_r23 [1247, 15, 1248, 1249, 1251, 16, 1252, 1253, 1255, 17, 1256, 1298, 1299, 1257, 1258, 41, 1259, 1260, 1261, 1262, 1263, 1264, 1265, 1266] (by decide +kernel)
set_option maxRecDepth 100000 in
set_option maxHeartbeats 4000000 in
theorem wsq_wsL_law0_r24 : ∀ w ∈ wsL_law0_r24, w ∈ lw_tbl := in_r wsL_law0_r24 [1267, 1268, 1562, 1269, 1287, 1288, 1289, 1290, 1291, 1293, 1294, 1295, 1297, 1296, 42, 537, 538, 539, 540, 564, 565, 566, 567, 572] (by decide +kernel)


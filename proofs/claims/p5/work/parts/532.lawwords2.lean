set_option maxRecDepth 100000 in
set_option maxHeartbeats 4000000 in
theorem wsq_wsL_law0_r25 : ∀ w ∈ wsL_law0_r25, w ∈ lw_tbl := in_r wsL_law0_r25 [43, 568, 570, 4, 571, 586, 170, 587, 589, 591, 5, 592, 594, 596, 6, 597, 598, 599, 601, 7, 602, 603, 604, 605] (by decide +kernel)
set_option maxRecDepth 100000 in
set_option maxHeartbeats 4000000 in
theorem wsq_wsL_law0_r26 : ∀ w ∈ wsL_law0_r26, w ∈ lw_tbl := in_r wsL_law0_r26 [606, 1300, 1301, 1302, 1303, 1331, 1332, 48, 1304, 1306, 18, 1307, 1308, 1309, 1311, 1314, 1316, 1318, 1319, 1320, 46, 1321, 1322, 1323] (by decide +kernel)
set_option maxRecDepth 100000 in
set_option maxHeartbeats 4000000 in
theorem wsq_wsL_law0_r27 : ∀ w ∈ wsL_law0_r27, w ∈ lw_tbl := in_r wsL_law0_r27 [47, 1324, 1325, 1326, 1327, 1328, 1329, 1330, 1333, 1334, 1335, 1336, 1337, 1340, 1360, 1361, 1362, 1363, 1364, 607, 608, 609, 610, 611] (by decide +kernel)
set_option maxRecDepth 100000 in
set_option maxHeartbeats 4000000 in
theorem wsq_wsL_law0_r28 : ∀ w ∈ wsL_law0_r28, w ∈ lw_tbl := in_r wsL_law0_r28 [612, 613, 476, 1365, 1366, 1367, 1368, 614, 615, 616, 617, 618, 619, 620, 621, 622, 39, 478, 1369, 1370, 1371, 1372, 1373, 1375] (by decide +kernel)
set_option maxRecDepth 100000 in
set_option maxHeartbeats 4000000 in
theorem wsq_wsL_law0_r29 : ∀ w ∈ wsL_law0_r29, w ∈ lw_tbl := in_r wsL_law0_r29 [19, 1376, 638, 639, 640, 641, 642, 643, 644, 488, 645, 1377, 1378, 1379, 1380, 1381, 646, 647, 648, 649, 650, 651, 652, 653] (by decide +kernel)
set_option maxRecDepth 100000 in
set_option maxHeartbeats 4000000 in
theorem wsq_wsL_law0_r30 : ∀ w ∈ wsL_law0_r30, w ∈ lw_tbl := in_r wsL_law0_r30 [1382, 1383, 1384, 1385, 1386, 654, 655, 656, 657, 658, 659, 660, 480, 1387, 1388, 1389, 1390, 661, 662, 663, 664, 665, 666, 667] (by decide +kernel)
set_option maxRecDepth 100000 in
set_option maxHeartbeats 4000000 in
theorem wsq_wsL_law0_r31 : ∀ w ∈ wsL_law0_r31, w ∈ lw_tbl := in_r wsL_law0_r31 [482, 1391, 1392, 1393, 1394, 668, 669, 670, 671, 672, 673, 674, 675, 1395, 1396, 1397, 1398, 1399, 676, 677, 678, 679, 680, 681] (by decide +kernel)
set_option maxRecDepth 100000 in
set_option maxHeartbeats 4000000 in
theorem wsq_wsL_law0_r32 : ∀ w ∈ wsL_law0_r32, w ∈ lw_tbl := in_r wsL_law0_r32 [682, 493, 1400, 1401, 1402, 1403, 1404, 1406, 20, 1407, 684, 685, 686, 687, 688, 689, 690, 495, 1408, 1409, 1410, 1411, 692, 693] (by decide +kernel)
set_option maxRecDepth 100000 in
set_option maxHeartbeats 4000000 in
theorem wsq_wsL_law0_r33 : ∀ w ∈ wsL_law0_r33, w ∈ lw_tbl := in_r wsL_law0_r33 [694, 695, 696, 697, 698, 1412, 1413, 1414, 1415, 699, 700, 701, 702, 703, 704, 705, 484, 1416, 1417, 1418, 1419, 707, 708, 709] (by decide +kernel)
set_option maxRecDepth 100000 in
set_option maxHeartbeats 4000000 in
theorem wsq_wsL_law0_r34 : ∀ w ∈ wsL_law0_r34, w ∈ lw_tbl := in_r wsL_law0_r34 [710, 711, 712, 713, 714, 715, 716, 717, 718, 719, 720, 721, 722, 723, 724, 725, 726, 727, 728, 729, 730, 731, 1420, 1421] (by decide +kernel)
set_option maxRecDepth 100000 in
set_option maxHeartbeats 4000000 in
theorem wsq_wsL_law0_r35 : ∀ w ∈ wsL_law0_r35, w ∈ lw_tbl := in_r wsL_law0_r35 [1422, 1423, 1424, 1425, 1426, 1427, 1428, 1429, 1430, 1431, 1432, 50, 1433, 1437, 1439, 1438, 50, 1440, 1434, 1435, 1436, 732, 733, 734] (by decide +kernel)
set_option maxRecDepth 100000 in
set_option maxHeartbeats 4000000 in
theorem wsq_wsL_law0_r36 : ∀ w ∈ wsL_law0_r36, w ∈ lw_tbl := in_r wsL_law0_r36 [735, 736, 737, 738, 739, 740, 741, 742, 1441, 1442, 1443, 1444, 1445, 1446, 1447, 1448, 1450, 743, 744, 745, 746, 747, 748, 749] (by decide +kernel)


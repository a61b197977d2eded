set_option maxRecDepth 100000 in
set_option maxHeartbeats 4000000 in
theorem wsq_wsL_law0_r25 : ∀ w ∈ wsL_law0_r25, w ∈ lw_tbl := in_r wsL_law0_r25 [571, 586, 170, 587, 589, 591, 5, 592, 594, 596, 6, 597, 598, 599, 601, 7, 602, 603, 604, 605, 606, 1296, 1297, 1298] (by decide +kernel)
set_option maxRecDepth 100000 in
set_option maxHeartbeats 4000000 in
theorem wsq_wsL_law0_r26 : ∀ w ∈ wsL_law0_r26, w ∈ lw_tbl := in_r wsL_law0_r26 [1299, 1327, 1328, 48, 1300, 1302, 18, 1303, 1304, 1305, 1307, 1310, 1312, 1314, 1315, 1316, 46, 1317, 1318, 1319, 47, 1320, 1321, 1322] (by decide +kernel)
set_option maxRecDepth 100000 in
set_option maxHeartbeats 4000000 in
theorem wsq_wsL_law0_r27 : ∀ w ∈ wsL_law0_r27, w ∈ lw_tbl := in_r wsL_law0_r27 [1323, 1324, 1325, 1326, 1329, 1330, 1331, 1332, 1333, 1336, 1356, 1357, 1358, 1359, 1360, 607, 608, 609, 610, 611, 612, 613, 476, 1361] (by decide +kernel)
set_option maxRecDepth 100000 in
set_option maxHeartbeats 4000000 in
theorem wsq_wsL_law0_r28 : ∀ w ∈ wsL_law0_r28, w ∈ lw_tbl := in_r wsL_law0_r28 [1362, 1363, 1364, 614, 615, 616, 617, 618, 619, 620, 621, 622, 39, 478, 1365, 1366, 1367, 1368, 1369, 1371, 19, 1372, 638, 639] (by decide +kernel)
set_option maxRecDepth 100000 in
set_option maxHeartbeats 4000000 in
theorem wsq_wsL_law0_r29 : ∀ w ∈ wsL_law0_r29, w ∈ lw_tbl := in_r wsL_law0_r29 [640, 641, 642, 643, 644, 488, 645, 1373, 1374, 1375, 1376, 1377, 646, 647, 648, 649, 650, 651, 652, 653, 1378, 1379, 1380, 1381] (by decide +kernel)
set_option maxRecDepth 100000 in
set_option maxHeartbeats 4000000 in
theorem wsq_wsL_law0_r30 : ∀ w ∈ wsL_law0_r30, w ∈ lw_tbl := in_r wsL_law0_r30 [1382, 654, 655, 656, 657, 658, 659, 660, 480, 1383, 1384, 1385, 1386, 661, 662, 663, 664, 665, 666, 667, 482, 1387, 1388, 1389] (by decide +kernel)
set_option maxRecDepth 100000 in
set_option maxHeartbeats 4000000 in
theorem wsq_wsL_law0_r31 : ∀ w ∈ wsL_law0_r31, w ∈ lw_tbl := in_r wsL_law0_r31 [1390, 668, 669, 670, 671, 672, 673, 674, 675, 1391, 1392, 1393, 1394, 1395, 676, 677, 678, 679, 680, 681, 682, 493, 1396, 1397] (by decide +kernel)
set_option maxRecDepth 100000 in
set_option maxHeartbeats 4000000 in
theorem wsq_wsL_law0_r32 : ∀ w ∈ wsL_law0_r32, w ∈ lw_tbl := in_r wsL_law0_r32 [1398, 1399, 1400, 1402, 20, 1403, 684, 685, 686, 687, 688, 689, 690, 495, 1404, 1405, 1406, 1407, 692, 693, 694, 695, 696, 697] (by decide +kernel)
set_option maxRecDepth 100000 in
set_option maxHeartbeats 4000000 in
theorem wsq_wsL_law0_r33 : ∀ w ∈ wsL_law0_r33, w ∈ lw_tbl := in_r wsL_law0_r33 [698, 1408, 1409, 1410, 1411, 699, 700, 701, 702, 703, 704, 705, 484, 1412, 1413, 1414, 1415, 707, 708, 709, 710, 711, 712, 713] (by decide +kernel)
set_option maxRecDepth 100000 in
set_option maxHeartbeats 4000000 in
theorem wsq_wsL_law0_r34 : ∀ w ∈ wsL_law0_r34, w ∈ lw_tbl := in_r wsL_law0_r34 [714, 715, 716, 717, 718, 719, 720, 721, 722, 723, 724, 725, 726, 727, 728, 729, 730, 731, 1416, 1417, 1418, 1419, 1420, 1421] (by decide +kernel)
set_option maxRecDepth 100000 in
set_option maxHeartbeats 4000000 in
theorem wsq_wsL_law0_r35 : ∀ w ∈ wsL_law0_r35, w ∈ lw_tbl := in_r wsL_law0_r35 [1422, 1423, 1424, 1425, 1426, 1427, 1428, 50, 1429, 1433, 1435, 1434, 50, 1436, 1430, 1431, 1432, 732, 733, 734, 735, 736, 737, 738] (by decide +kernel)
set_option maxRecDepth 100000 in
set_option maxHeartbeats 4000000 in
theorem wsq_wsL_law0_r36 : ∀ w ∈ wsL_law0_r36, w ∈ lw_tbl := in_r wsL_law0_r36 [739, 740, 741, 742, 1437, 1438, 1439, 1440, 1441, 1442, 1443, 1444, 1446, 743, 744, 745, 746, 747, 748, 749, 750, 751, 752, 753] (by decide +kernel)


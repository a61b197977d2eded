set_option maxRecDepth 100000 in
set_option maxHeartbeats 4000000 in
theorem wsq_wsL_law0_r37 : ∀ w ∈ wsL_law0_r37, w ∈ lw_tbl := in_r wsL_law0_r37 [755, 756, 757, 758, 759, 1447, 1448, 1449, 1450, 1451, 760, 761, 762, 763, 764, 765, 766, 497, 1452, 1453, 1454, 1455, 1456, 769] (by decide +kernel)
set_option maxRecDepth 100000 in
set_option maxHeartbeats 4000000 in
theorem wsq_wsL_law0_r38 : ∀ w ∈ wsL_law0_r38, w ∈ lw_tbl := in_r wsL_law0_r38 [770, 771, 772, 773, 774, 775, 776, 777, 778, 779, 780, 781, 782, 783, 784, 1457, 1458, 1459, 1460, 1461, 1462, 1463, 1464, 1465] (by decide +kernel)
set_option maxRecDepth 100000 in
set_option maxHeartbeats 4000000 in
theorem wsq_wsL_law0_r39 : ∀ w ∈ wsL_law0_r39, w ∈ lw_tbl := in_r wsL_law0_r39 [1466, 51, 1467, 1471, 1473, 1472, 51, 1474, 1468, 1469, 1470, 785, 786, 787, 788, 789, 790, 791, 486, 792, 793, 794, 795, 1475] (by decide +kernel)
set_option maxRecDepth 100000 in
set_option maxHeartbeats 4000000 in
theorem wsq_wsL_law0_r40 : ∀ w ∈ wsL_law0_r40, w ∈ lw_tbl := in_r wsL_law0_r40 [1476, 1477, 1478, 796, 797, 798, 799, 800, 801, 802, 499, 806, 1479, 1480, 1481, 1482, 807, 808, 809, 810, 811, 812, 813, 1483] (by decide +kernel)
set_option maxRecDepth 100000 in
set_option maxHeartbeats 4000000 in
theorem wsq_wsL_law0_r41 : ∀ w ∈ wsL_law0_r41, w ∈ lw_tbl := in_r wsL_law0_r41 [1484, 1485, 1486, 814, 815, 816, 817, 818, 819, 820, 825, 503, 501, 821, 822, 823, 824, 1487, 1488, 1489, 1490, 1491, 826, 827] (by decide +kernel)
set_option maxRecDepth 100000 in
set_option maxHeartbeats 4000000 in
theorem wsq_wsL_law0_r42 : ∀ w ∈ wsL_law0_r42, w ∈ lw_tbl := in_r wsL_law0_r42 [828, 829, 830, 831, 832, 1492, 1493, 1494, 1495, 834, 835, 836, 837, 838, 839, 840, 841, 842, 843, 844, 1496, 1497, 1498, 1499] (by decide +kernel)
set_option maxRecDepth 100000 in
set_option maxHeartbeats 4000000 in
theorem wsq_wsL_law0_r43 : ∀ w ∈ wsL_law0_r43, w ∈ lw_tbl := in_r wsL_law0_r43 [1500, 153, 154, 155, 156, 1501, 1502, 1503, 1504, 846, 847, 848, 849, 850, 851, 852, 1505, 1506, 1507, 1508, 853, 854, 855, 856] (by decide +kernel)
set_option maxRecDepth 100000 in
set_option maxHeartbeats 4000000 in
theorem wsq_wsL_law0_r44 : ∀ w ∈ wsL_law0_r44, w ∈ lw_tbl := in_r wsL_law0_r44 [870, 871, 872, 873, 874, 52, 1509, 1510, 1511, 1512, 1514, 1517, 1519, 1521, 877, 878, 879, 880, 881, 882, 883, 885, 886, 887] (by decide +kernel)
set_option maxRecDepth 100000 in
set_option maxHeartbeats 4000000 in
theorem wsq_wsL_law0_r45 : ∀ w ∈ wsL_law0_r45, w ∈ lw_tbl := in_r wsL_law0_r45 [888, 1522, 1523, 1524, 1525, 157, 158, 159, 160, 161, 169, 1526, 1527, 1528, 1529, 1530, 174, 175, 176, 177, 178, 179, 180, 181] (by decide +kernel)
set_option maxRecDepth 100000 in
set_option maxHeartbeats 4000000 in
theorem wsq_wsL_law0_r46 : ∀ w ∈ wsL_law0_r46, w ∈ lw_tbl := in_r wsL_law0_r46 [1531, 1532, 1533, 1534] (by decide +kernel)


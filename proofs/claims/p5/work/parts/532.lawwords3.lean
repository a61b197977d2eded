set_option maxRecDepth 100000 in
set_option maxHeartbeats 4000000 in
theorem wsq_wsL_law0_r37 : ∀ w ∈ wsL_law0_r37, w ∈ lw_tbl := in_r wsL_law0_r37 [750, 751, 752, 753, 755, 756, 757, 758, 759, 1451, 1452, 1453, 1454, 1455, 760, 761, 762, 763, 764, 765, 766, 497, 1456, 1457] (by decide +kernel)
set_option maxRecDepth 100000 in
set_option maxHeartbeats 4000000 in
theorem wsq_wsL_law0_r38 : ∀ w ∈ wsL_law0_r38, w ∈ lw_tbl := in_r wsL_law0_r38 [1458, 1459, 1460, 769, 770, 771, 772, 773, 774, 775, 776, 777, 778, 779, 780, 781, 782, 783, 784, 1461, 1462, 1463, 1464, 1465] (by decide +kernel)
set_option maxRecDepth 100000 in
set_option maxHeartbeats 4000000 in
theorem wsq_wsL_law0_r39 : ∀ w ∈ wsL_law0_r39, w ∈ lw_tbl := in_r wsL_law0_r39 [1466, 1467, 1468, 1469, 1470, 51, 1471, 1475, 1477, 1476, 51, 1478, 1472, 1473, 1474, 785, 786, 787, 788, 789, 790, 791, 486, 792] (by decide +kernel)
set_option maxRecDepth 100000 in
set_option maxHeartbeats 4000000 in
theorem wsq_wsL_law0_r40 : ∀ w ∈ wsL_law0_r40, w ∈ lw_tbl := in_r wsL_law0_r40 [793, 794, 795, 1479, 1480, 1481, 1482, 796, 797, 798, 799, 800, 801, 802, 499, 806, 1483, 1484, 1485, 1486, 807, 808, 809, 810] (by decide +kernel)
set_option maxRecDepth 100000 in
set_option maxHeartbeats 4000000 in
theorem wsq_wsL_law0_r41 : ∀ w ∈ wsL_law0_r41, w ∈ lw_tbl := in_r wsL_law0_r41 [811, 812, 813, 1487, 1488, 1489, 1490, 814, 815, 816, 817, 818, 819, 820, 825, 503, 501, 821, 822, 823, 824, 1491, 1492, 1493] (by decide +kernel)
set_option maxRecDepth 100000 in
set_option maxHeartbeats 4000000 in
theorem wsq_wsL_law0_r42 : ∀ w ∈ wsL_law0_r42, w ∈ lw_tbl := in_r wsL_law0_r42 [1494, 1495, 826, 827, 828, 829, 830, 831, 832, 1496, 1497, 1498, 1499, 834, 835, 836, 837, 838, 839, 840, 841, 842, 843, 844] (by decide +kernel)
set_option maxRecDepth 100000 in
set_option maxHeartbeats 4000000 in
theorem wsq_wsL_law0_r43 : ∀ w ∈ wsL_law0_r43, w ∈ lw_tbl := in_r wsL_law0_r43 [1500, 1501, 1502, 1503, 1504, 153, 154, 155, 156, 1505, 1506, 1507, 1508, 846, 847, 848, 849, 850, 851, 852, 1509, 1510, 1511, 1512] (by decide +kernel)
set_option maxRecDepth 100000 in
set_option maxHeartbeats 4000000 in
theorem wsq_wsL_law0_r44 : ∀ w ∈ wsL_law0_r44, w ∈ lw_tbl := in_r wsL_law0_r44 [853, 854, 855, 856, 870, 871, 872, 873, 874, 52, 1513, 1514, 1515, 1516, 1518, 1521, 1523, 1525, 877, 878, 879, 880, 881, 882] (by decide +kernel)
set_option maxRecDepth 100000 in
set_option maxHeartbeats 4000000 in
theorem wsq_wsL_law0_r45 : ∀ w ∈ wsL_law0_r45, w ∈ lw_tbl := in_r wsL_law0_r45 [883, 885, 886, 887, 888, 1526, 1527, 1528, 1529, 157, 158, 159, 160, 161, 169, 1530, 1531, 1532, 1533, 1534, 174, 175, 176, 177] (by decide +kernel)
set_option maxRecDepth 100000 in
set_option maxHeartbeats 4000000 in
theorem wsq_wsL_law0_r46 : ∀ w ∈ wsL_law0_r46, w ∈ lw_tbl := in_r wsL_law0_r46 [178, 179, 180, 181, 1535, 1536, 1537, 1538] (by decide +kernel)


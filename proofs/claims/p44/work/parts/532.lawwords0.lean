theorem in_r {big : List Cond} (ws : List Cond) (ps : List Nat) (hp : ws = ps.filterMap (fun i => big[i]?)) : ∀ w ∈ ws, w ∈ big := by
  intro w hw
  rw [hp] at hw
  obtain ⟨i, -, hi⟩ := List.mem_filterMap.mp hw
  exact List.mem_of_getElem? hi
set_option maxRecDepth 100000 in
set_option maxHeartbeats 4000000 in
theorem wsq_wsL_law0_r1 : ∀ w ∈ wsL_law0_r1, w ∈ lw_tbl := in_r wsL_law0_r1 [53, 54, 22, 889, 890, 25, 1535, 1536, 55, 56, 57, 58, 59, 60, 61, 62, 23, 106, 85, 86, 24, 107, 104, 108] (by decide +kernel)
set_option maxRecDepth 100000 in
set_option maxHeartbeats 4000000 in
theorem wsq_wsL_law0_r2 : ∀ w ∈ wsL_law0_r2, w ∈ lw_tbl := in_r wsL_law0_r2 [109, 110, 111, 112, 113, 114, 115, 63, 64, 65, 66, 84, 67, 69, 71, 73, 87, 88, 89, 90, 91, 93, 95, 891] (by decide +kernel)
set_option maxRecDepth 100000 in
set_option maxHeartbeats 4000000 in
theorem wsq_wsL_law0_r3 : ∀ w ∈ wsL_law0_r3, w ∈ lw_tbl := in_r wsL_law0_r3 [892, 893, 894, 895, 930, 936, 937, 938, 939, 897, 898, 28, 942, 899, 900, 901, 909, 911, 902, 903, 27, 904, 915, 905] (by decide +kernel)
set_option maxRecDepth 100000 in
set_option maxHeartbeats 4000000 in
theorem wsq_wsL_law0_r4 : ∀ w ∈ wsL_law0_r4, w ∈ lw_tbl := in_r wsL_law0_r4 [906, 26, 907, 908, 926, 927, 29, 928, 202, 203, 21, 204, 205, 206, 207, 208, 209, 210, 211, 33, 283, 34, 68, 70] (by decide +kernel)
set_option maxRecDepth 100000 in
set_option maxHeartbeats 4000000 in
theorem wsq_wsL_law0_r5 : ∀ w ∈ wsL_law0_r5, w ∈ lw_tbl := in_r wsL_law0_r5 [72, 74, 166, 167, 168, 966, 967, 968, 969, 970, 974, 975, 976, 977, 932, 971, 972, 973, 978, 980, 8, 981, 929, 299] (by decide +kernel)
set_option maxRecDepth 100000 in
set_option maxHeartbeats 4000000 in
theorem wsq_wsL_law0_r6 : ∀ w ∈ wsL_law0_r6, w ∈ lw_tbl := in_r wsL_law0_r6 [300, 301, 302, 303, 304, 305, 307, 308, 309, 310, 982, 983, 984, 985, 986, 987, 989, 9, 990, 312, 313, 314, 315, 316] (by decide +kernel)
set_option maxRecDepth 100000 in
set_option maxHeartbeats 4000000 in
theorem wsq_wsL_law0_r7 : ∀ w ∈ wsL_law0_r7, w ∈ lw_tbl := in_r wsL_law0_r7 [317, 318, 319, 320, 321, 322, 323, 991, 992, 993, 994, 995, 996, 998, 10, 999, 324, 325, 326, 327, 328, 329, 330, 331] (by decide +kernel)
set_option maxRecDepth 100000 in
set_option maxHeartbeats 4000000 in
theorem wsq_wsL_law0_r8 : ∀ w ∈ wsL_law0_r8, w ∈ lw_tbl := in_r wsL_law0_r8 [333, 35, 349, 351, 2, 352, 491, 353, 354, 355, 356, 357, 358, 36, 359, 360, 361, 362, 363, 365, 3, 366, 367, 162] (by decide +kernel)
set_option maxRecDepth 100000 in
set_option maxHeartbeats 4000000 in
theorem wsq_wsL_law0_r9 : ∀ w ∈ wsL_law0_r9, w ∈ lw_tbl := in_r wsL_law0_r9 [164, 0, 165, 368, 369, 370, 371, 372, 373, 374, 37, 375, 489, 477, 189, 171, 172, 173, 475, 377, 378, 379, 380, 494] (by decide +kernel)
set_option maxRecDepth 100000 in
set_option maxHeartbeats 4000000 in
theorem wsq_wsL_law0_r10 : ∀ w ∈ wsL_law0_r10, w ∈ lw_tbl := in_r wsL_law0_r10 [492, 381, 382, 383, 384, 385, 386, 387, 388, 479, 481, 483, 389, 390, 391, 392, 393, 394, 395, 396, 397, 398, 399, 487] (by decide +kernel)
set_option maxRecDepth 100000 in
set_option maxHeartbeats 4000000 in
theorem wsq_wsL_law0_r11 : ∀ w ∈ wsL_law0_r11, w ∈ lw_tbl := in_r wsL_law0_r11 [182, 183, 184, 185, 187, 188, 190, 191, 192, 193, 194, 195, 196, 197, 198, 199, 200, 201, 400, 401, 402, 403, 407, 408] (by decide +kernel)
set_option maxRecDepth 100000 in
set_option maxHeartbeats 4000000 in
theorem wsq_wsL_law0_r12 : ∀ w ∈ wsL_law0_r12, w ∈ lw_tbl := in_r wsL_law0_r12 [404, 405, 406, 409, 410, 411, 412, 413, 1046, 1047, 1048, 1049, 1050, 1119, 1051, 1053, 13, 1054, 1037, 1055, 941, 940, 1057, 1061] (by decide +kernel)


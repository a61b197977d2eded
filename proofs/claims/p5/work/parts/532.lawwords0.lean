theorem in_r {big : List Cond} (ws : List Cond) (ps : List Nat) (hp : ws = ps.filterMap (fun i => big[i]?)) : ∀ w ∈ ws, w ∈ big := by
  intro w hw
  rw [hp] at hw
  obtain ⟨i, -, hi⟩ := List.mem_filterMap.mp hw
  exact List.mem_of_getElem? hi
set_option maxRecDepth 100000 in
set_option maxHeartbeats 4000000 in
theorem wsq_wsL_law0_r1 : ∀ w ∈ wsL_law0_r1, w ∈ lw_tbl := in_r wsL_law0_r1 [53, 54, 22, 893, 894, 25, 1539, 1540, 55, 56, 57, 58, 59, 60, 61, 62, 23, 106, 85, 86, 24, 107, 104, 108] (by decide +kernel)
set_option maxRecDepth 100000 in
set_option maxHeartbeats 4000000 in
theorem wsq_wsL_law0_r2 : ∀ w ∈ wsL_law0_r2, w ∈ lw_tbl := in_r wsL_law0_r2 [109, 110, 111, 112, 113, 114, 115, 63, 64, 65, 66, 84, 67, 69, 71, 73, 87, 88, 89, 90, 91, 93, 95, 895] (by decide +kernel)
set_option maxRecDepth 100000 in
set_option maxHeartbeats 4000000 in
theorem wsq_wsL_law0_r3 : ∀ w ∈ wsL_law0_r3, w ∈ lw_tbl := in_r wsL_law0_r3 [896, 897, 898, 899, 934, 940, 941, 942, 943, 901, 902, 28, 946, 903, 904, 905, 913, 915, 906, 907, 27, 908, 919, 909] (by decide +kernel)
set_option maxRecDepth 100000 in
set_option maxHeartbeats 4000000 in
theorem wsq_wsL_law0_r4 : ∀ w ∈ wsL_law0_r4, w ∈ lw_tbl := in_r wsL_law0_r4 [910, 26, 911, 912, 930, 931, 29, 932, 202, 203, 21, 204, 205, 206, 207, 208, 209, 210, 211, 33, 283, 34, 68, 70] (by decide +kernel)
set_option maxRecDepth 100000 in
set_option maxHeartbeats 4000000 in
theorem wsq_wsL_law0_r5 : ∀ w ∈ wsL_law0_r5, w ∈ lw_tbl := in_r wsL_law0_r5 [72, 74, 166, 167, 168, 970, 971, 972, 973, 974, 978, 979, 980, 981, 936, 975, 976, 977, 982, 984, 8, 985, 933, 299] (by decide +kernel)
set_option maxRecDepth 100000 in
set_option maxHeartbeats 4000000 in
theorem wsq_wsL_law0_r6 : ∀ w ∈ wsL_law0_r6, w ∈ lw_tbl := in_r wsL_law0_r6 [300, 301, 302, 303, 304, 305, 307, 308, 309, 310, 986, 987, 988, 989, 990, 991, 993, 9, 994, 312, 313, 314, 315, 316] (by decide +kernel)
set_option maxRecDepth 100000 in
set_option maxHeartbeats 4000000 in
theorem wsq_wsL_law0_r7 : ∀ w ∈ wsL_law0_r7, w ∈ lw_tbl := in_r wsL_law0_r7 [317, 318, 319, 320, 321, 322, 323, 995, 996, 997, 998, 999, 1000, 1002, 10, 1003, 324, 325, 326, 327, 328, 329, 330, 331] (by decide +kernel)
set_option maxRecDepth 100000 in
set_option maxHeartbeats 4000000 in
theorem wsq_wsL_law0_r8 : ∀ w ∈ wsL_law0_r8, w ∈ lw_tbl := in_r wsL_law0_r8 [333, 35, 349, 351, 2, 352, 491, 353, 354, 355, 356, 357, 358, 36, 359, 360, 361, 362, 363, 365, 3, 366, 367, 162] (by decide +kernel)
set_option maxRecDepth 100000 in
set_option maxHeartbeats 4000000 in
theorem wsq_wsL_law0_r9 : ∀ w ∈ wsL_law0_r9, w ∈ lw_tbl := in_r wsL_law0_r9 [164, 0, 165, 368, 369, 370, 371, 372, 373, 374, 37, 375, 489, 477, 189, 171, 172, 173, 475, 377, 378, 379, 380, 494] (by decide +kernel)
set_option maxRecDepth 100000 in
set_option maxHeartbeats 4000000 in
theorem wsq_wsL_law0_r10 : ∀ w ∈ wsL_law0_r10, w ∈ lw_tbl := in_r wsL_law0_r10 [492, 381, 382, 383, 384, 385, 386, 387, 388, 479, 481, 483, 389, 390, 391, 392, 393, 394, 395, 396, 397, 398, 399, 487] (by decide +kernel)
set_option maxRecDepth 100000 in
set_option maxHeartbeats 4000000 in
theorem wsq_wsL_law0_r11 : ∀ w ∈ wsL_law0_r11, w ∈ lw_tbl := in_r wsL_law0_r11 [182, 183, 184, 185, 187, 188, 190, 191, 192, 193, 194, 195, 196, 197, 198, 199, 200, 201, 400, 401, 402, 403, 407, 408] (by decide +kernel)
set_option maxRecDepth 100000 in
set_option maxHeartbeats 4000000 in
theorem wsq_wsL_law0_r12 : ∀ w ∈ wsL_law0_r12, w ∈ lw_tbl := in_r wsL_law0_r12 [404, 405, 406, 409, 410, 411, 412, 413, 1050, 1051, 1052, 1053, 1054, 1123, 1055, 1057, 13, 1058, 1041, 1059, 945, 944, 1061, 1065] (by decide +kernel)


theorem dX3_visit_2 : decode cX3_visit 2 = .ok (.invokevirtual 207, 3) := by decide +kernel
theorem dX3_visit_5 : decode cX3_visit 5 = .ok (.astore_n 3, 1) := by decide +kernel
theorem dX3_visit_6 : decode cX3_visit 6 = .ok (.aload_n 3, 1) := by decide +kernel
theorem dX3_visit_7 : decode cX3_visit 7 = .ok (.ifnonnull 13, 3) := by decide +kernel
theorem dX3_visit_10 : decode cX3_visit 10 = .ok (.new 135, 3) := by decide +kernel
theorem dX3_visit_13 : decode cX3_visit 13 = .ok (.dup, 1) := by decide +kernel
theorem dX3_visit_14 : decode cX3_visit 14 = .ok (.ldc 211, 2) := by decide +kernel
theorem dX3_visit_16 : decode cX3_visit 16 = .ok (.invokespecial 139, 3) := by decide +kernel
theorem dX3_visit_19 : decode cX3_visit 19 = .ok (.athrow, 1) := by decide +kernel
theorem dX3_visit_20 : decode cX3_visit 20 = .ok (.iload_n 2, 1) := by decide +kernel
theorem dX3_visit_21 : decode cX3_visit 21 = .ok (.iconst 1, 1) := by decide +kernel
theorem dX3_visit_22 : decode cX3_visit 22 = .ok (.sipush 500, 3) := by decide +kernel
theorem dX3_visit_25 : decode cX3_visit 25 = .ok (.invokestatic 52, 3) := by decide +kernel
theorem dX3_visit_28 : decode cX3_visit 28 = .ok (.ifCond .ne 13, 3) := by decide +kernel
theorem dX3_visit_31 : decode cX3_visit 31 = .ok (.new 56, 3) := by decide +kernel
theorem dX3_visit_34 : decode cX3_visit 34 = .ok (.dup, 1) := by decide +kernel
theorem dX3_visit_35 : decode cX3_visit 35 = .ok (.ldc 249, 2) := by decide +kernel
theorem dX3_visit_37 : decode cX3_visit 37 = .ok (.invokespecial 60, 3) := by decide +kernel
theorem dX3_visit_40 : decode cX3_visit 40 = .ok (.athrow, 1) := by decide +kernel
theorem dX3_visit_41 : decode cX3_visit 41 = .ok (.aload_n 3, 1) := by decide +kernel
theorem dX3_visit_42 : decode cX3_visit 42 = .ok (.iconst (-1), 1) := by decide +kernel
theorem dX3_visit_43 : decode cX3_visit 43 = .ok (.iconst 0, 1) := by decide +kernel
theorem dX3_visit_44 : decode cX3_visit 44 = .ok (.aload_n 0, 1) := by decide +kernel
theorem dX3_visit_45 : decode cX3_visit 45 = .ok (.getfield 10, 3) := by decide +kernel
theorem dX3_visit_48 : decode cX3_visit 48 = .ok (.aload_n 0, 1) := by decide +kernel
theorem dX3_visit_49 : decode cX3_visit 49 = .ok (.getfield 33, 3) := by decide +kernel
theorem dX3_visit_52 : decode cX3_visit 52 = .ok (.invokevirtual 83, 3) := by decide +kernel
theorem dX3_visit_55 : decode cX3_visit 55 = .ok (.invokevirtual 238, 3) := by decide +kernel
theorem dX3_visit_58 : decode cX3_visit 58 = .ok (.ifCond .ne 13, 3) := by decide +kernel
theorem dX3_visit_61 : decode cX3_visit 61 = .ok (.new 63, 3) := by decide +kernel
theorem dX3_visit_64 : decode cX3_visit 64 = .ok (.dup, 1) := by decide +kernel
theorem dX3_visit_65 : decode cX3_visit 65 = .ok (.ldc 251, 2) := by decide +kernel
theorem dX3_visit_67 : decode cX3_visit 67 = .ok (.invokespecial 67, 3) := by decide +kernel
theorem dX3_visit_70 : decode cX3_visit 70 = .ok (.athrow, 1) := by decide +kernel
theorem dX3_visit_71 : decode cX3_visit 71 = .ok (.aload_n 3, 1) := by decide +kernel
theorem dX3_visit_72 : decode cX3_visit 72 = .ok (.dup, 1) := by decide +kernel
theorem dX3_visit_73 : decode cX3_visit 73 = .ok (.getfield 253, 3) := by decide +kernel
theorem dX3_visit_76 : decode cX3_visit 76 = .ok (.iload_n 2, 1) := by decide +kernel
theorem dX3_visit_77 : decode cX3_visit 77 = .ok (.iadd, 1) := by decide +kernel
theorem dX3_visit_78 : decode cX3_visit 78 = .ok (.putfield 253, 3) := by decide +kernel
theorem dX3_visit_81 : decode cX3_visit 81 = .ok (.aload_n 0, 1) := by decide +kernel
theorem dX3_visit_82 : decode cX3_visit 82 = .ok (.dup, 1) := by decide +kernel
theorem dX3_visit_83 : decode cX3_visit 83 = .ok (.getfield 49, 3) := by decide +kernel
theorem dX3_visit_86 : decode cX3_visit 86 = .ok (.iconst 5, 1) := by decide +kernel
theorem dX3_visit_87 : decode cX3_visit 87 = .ok (.iload_n 2, 1) := by decide +kernel
theorem dX3_visit_88 : decode cX3_visit 88 = .ok (.imul, 1) := by decide +kernel
theorem dX3_visit_89 : decode cX3_visit 89 = .ok (.iadd, 1) := by decide +kernel
theorem dX3_visit_90 : decode cX3_visit 90 = .ok (.putfield 49, 3) := by decide +kernel
theorem dX3_visit_93 : decode cX3_visit 93 = .ok (.aload_n 3, 1) := by decide +kernel
theorem dX3_visit_94 : decode cX3_visit 94 = .ok (.getfield 253, 3) := by decide +kernel
theorem dX3_visit_97 : decode cX3_visit 97 = .ok (.ireturn, 1) := by decide +kernel
theorem dX3_squareBits_0 : decode cX3_squareBits 0 = .ok (.iload_n 1, 1) := by decide +kernel
theorem dX3_squareBits_1 : decode cX3_squareBits 1 = .ok (.iconst 1, 1) := by decide +kernel
theorem dX3_squareBits_2 : decode cX3_squareBits 2 = .ok (.bipush 20, 2) := by decide +kernel
theorem dX3_squareBits_4 : decode cX3_squareBits 4 = .ok (.invokestatic 52, 3) := by decide +kernel
theorem dX3_squareBits_7 : decode cX3_squareBits 7 = .ok (.ifCond .eq 13, 3) := by decide +kernel
theorem dX3_squareBits_10 : decode cX3_squareBits 10 = .ok (.iload_n 2, 1) := by decide +kernel
theorem dX3_squareBits_11 : decode cX3_squareBits 11 = .ok (.iconst 5, 1) := by decide +kernel
theorem dX3_squareBits_12 : decode cX3_squareBits 12 = .ok (.bipush 60, 2) := by decide +kernel
theorem dX3_squareBits_14 : decode cX3_squareBits 14 = .ok (.invokestatic 52, 3) := by decide +kernel
theorem dX3_squareBits_17 : decode cX3_squareBits 17 = .ok (.ifCond .ne 13, 3) := by decide +kernel
theorem dX3_squareBits_20 : decode cX3_squareBits 20 = .ok (.new 56, 3) := by decide +kernel
theorem dX3_squareBits_23 : decode cX3_squareBits 23 = .ok (.dup, 1) := by decide +kernel
theorem dX3_squareBits_24 : decode cX3_squareBits 24 = .ok (.ldc 58, 2) := by decide +kernel
theorem dX3_squareBits_26 : decode cX3_squareBits 26 = .ok (.invokespecial 60, 3) := by decide +kernel
theorem dX3_squareBits_29 : decode cX3_squareBits 29 = .ok (.athrow, 1) := by decide +kernel
theorem dX3_squareBits_30 : decode cX3_squareBits 30 = .ok (.iload_n 3, 1) := by decide +kernel
theorem dX3_squareBits_31 : decode cX3_squareBits 31 = .ok (.ifCond .eq 9, 3) := by decide +kernel
theorem dX3_squareBits_34 : decode cX3_squareBits 34 = .ok (.ldc2_w 256, 3) := by decide +kernel
theorem dX3_squareBits_37 : decode cX3_squareBits 37 = .ok (.goto 6, 3) := by decide +kernel
theorem dX3_squareBits_40 : decode cX3_squareBits 40 = .ok (.ldc2_w 258, 3) := by decide +kernel
theorem dX3_squareBits_43 : decode cX3_squareBits 43 = .ok (.dstore 4, 2) := by decide +kernel
theorem dX3_squareBits_45 : decode cX3_squareBits 45 = .ok (.aload_n 0, 1) := by decide +kernel
theorem dX3_squareBits_46 : decode cX3_squareBits 46 = .ok (.getfield 10, 3) := by decide +kernel
theorem dX3_squareBits_49 : decode cX3_squareBits 49 = .ok (.aload_n 0, 1) := by decide +kernel
theorem dX3_squareBits_50 : decode cX3_squareBits 50 = .ok (.getfield 33, 3) := by decide +kernel
theorem dX3_squareBits_53 : decode cX3_squareBits 53 = .ok (.invokevirtual 83, 3) := by decide +kernel
theorem dX3_squareBits_56 : decode cX3_squareBits 56 = .ok (.ifCond .le 11, 3) := by decide +kernel
theorem dX3_squareBits_59 : decode cX3_squareBits 59 = .ok (.dload 4, 2) := by decide +kernel
theorem dX3_squareBits_61 : decode cX3_squareBits 61 = .ok (.ldc2_w 258, 3) := by decide +kernel
theorem dX3_squareBits_64 : decode cX3_squareBits 64 = .ok (.dadd, 1) := by decide +kernel
theorem dX3_squareBits_65 : decode cX3_squareBits 65 = .ok (.dstore 4, 2) := by decide +kernel
theorem dX3_squareBits_67 : decode cX3_squareBits 67 = .ok (.iload_n 1, 1) := by decide +kernel
theorem dX3_squareBits_68 : decode cX3_squareBits 68 = .ok (.i2d, 1) := by decide +kernel
theorem dX3_squareBits_69 : decode cX3_squareBits 69 = .ok (.dload 4, 2) := by decide +kernel
theorem dX3_squareBits_71 : decode cX3_squareBits 71 = .ok (.iload_n 2, 1) := by decide +kernel
theorem dX3_squareBits_72 : decode cX3_squareBits 72 = .ok (.i2d, 1) := by decide +kernel
theorem dX3_squareBits_73 : decode cX3_squareBits 73 = .ok (.dmul, 1) := by decide +kernel
theorem dX3_squareBits_74 : decode cX3_squareBits 74 = .ok (.dsub, 1) := by decide +kernel
theorem dX3_squareBits_75 : decode cX3_squareBits 75 = .ok (.dstore 6, 2) := by decide +kernel
theorem dX3_squareBits_77 : decode cX3_squareBits 77 = .ok (.dload 6, 2) := by decide +kernel
theorem dX3_squareBits_79 : decode cX3_squareBits 79 = .ok (.dconst 0, 1) := by decide +kernel
theorem dX3_squareBits_80 : decode cX3_squareBits 80 = .ok (.dcmp .l, 1) := by decide +kernel
theorem dX3_squareBits_81 : decode cX3_squareBits 81 = .ok (.ifCond .le 12, 3) := by decide +kernel
theorem dX3_squareBits_84 : decode cX3_squareBits 84 = .ok (.ldc2_w 260, 3) := by decide +kernel
theorem dX3_squareBits_87 : decode cX3_squareBits 87 = .ok (.dload 6, 2) := by decide +kernel
theorem dX3_squareBits_89 : decode cX3_squareBits 89 = .ok (.dmul, 1) := by decide +kernel
theorem dX3_squareBits_90 : decode cX3_squareBits 90 = .ok (.goto 4, 3) := by decide +kernel
theorem dX3_squareBits_93 : decode cX3_squareBits 93 = .ok (.dconst 0, 1) := by decide +kernel
theorem dX3_squareBits_94 : decode cX3_squareBits 94 = .ok (.invokestatic 262, 3) := by decide +kernel
theorem dX3_squareBits_97 : decode cX3_squareBits 97 = .ok (.lreturn, 1) := by decide +kernel
theorem dX3_plan_0 : decode cX3_plan 0 = .ok (.aload_n 0, 1) := by decide +kernel
theorem dX3_plan_1 : decode cX3_plan 1 = .ok (.iload_n 1, 1) := by decide +kernel
theorem dX3_plan_2 : decode cX3_plan 2 = .ok (.iload_n 2, 1) := by decide +kernel
theorem dX3_plan_3 : decode cX3_plan 3 = .ok (.iload_n 3, 1) := by decide +kernel
theorem dX3_plan_4 : decode cX3_plan 4 = .ok (.invokevirtual 131, 3) := by decide +kernel
theorem dX3_plan_7 : decode cX3_plan 7 = .ok (.astore 5, 2) := by decide +kernel
theorem dX3_plan_9 : decode cX3_plan 9 = .ok (.aload 5, 2) := by decide +kernel
theorem dX3_plan_11 : decode cX3_plan 11 = .ok (.ifnonnull 13, 3) := by decide +kernel
theorem dX3_plan_14 : decode cX3_plan 14 = .ok (.new 135, 3) := by decide +kernel
theorem dX3_plan_17 : decode cX3_plan 17 = .ok (.dup, 1) := by decide +kernel
theorem dX3_plan_18 : decode cX3_plan 18 = .ok (.ldc 137, 2) := by decide +kernel
theorem dX3_plan_20 : decode cX3_plan 20 = .ok (.invokespecial 139, 3) := by decide +kernel
theorem dX3_plan_23 : decode cX3_plan 23 = .ok (.athrow, 1) := by decide +kernel
theorem dX3_plan_24 : decode cX3_plan 24 = .ok (.aload 5, 2) := by decide +kernel
theorem dX3_plan_26 : decode cX3_plan 26 = .ok (.getfield 266, 3) := by decide +kernel
theorem dX3_plan_29 : decode cX3_plan 29 = .ok (.iload_n 2, 1) := by decide +kernel
theorem dX3_plan_30 : decode cX3_plan 30 = .ok (.iload_n 3, 1) := by decide +kernel
theorem dX3_plan_31 : decode cX3_plan 31 = .ok (.invokestatic 142, 3) := by decide +kernel
theorem dX3_plan_34 : decode cX3_plan 34 = .ok (.iload 4, 2) := by decide +kernel
theorem dX3_plan_36 : decode cX3_plan 36 = .ok (.bastore, 1) := by decide +kernel
theorem dX3_plan_37 : decode cX3_plan 37 = .ok (.aload 5, 2) := by decide +kernel
theorem dX3_plan_39 : decode cX3_plan 39 = .ok (.invokevirtual 269, 3) := by decide +kernel
theorem dX3_plan_42 : decode cX3_plan 42 = .ok (.ireturn, 1) := by decide +kernel
theorem dX3_carve_0 : decode cX3_carve 0 = .ok (.aload_n 0, 1) := by decide +kernel
theorem dX3_carve_1 : decode cX3_carve 1 = .ok (.iload_n 1, 1) := by decide +kernel
theorem dX3_carve_2 : decode cX3_carve 2 = .ok (.iload_n 2, 1) := by decide +kernel
theorem dX3_carve_3 : decode cX3_carve 3 = .ok (.iload_n 3, 1) := by decide +kernel
theorem dX3_carve_4 : decode cX3_carve 4 = .ok (.invokevirtual 131, 3) := by decide +kernel
theorem dX3_carve_7 : decode cX3_carve 7 = .ok (.astore 5, 2) := by decide +kernel
theorem dX3_carve_9 : decode cX3_carve 9 = .ok (.aload 5, 2) := by decide +kernel
theorem dX3_carve_11 : decode cX3_carve 11 = .ok (.ifnonnull 13, 3) := by decide +kernel
theorem dX3_carve_14 : decode cX3_carve 14 = .ok (.new 135, 3) := by decide +kernel
theorem dX3_carve_17 : decode cX3_carve 17 = .ok (.dup, 1) := by decide +kernel
theorem dX3_carve_18 : decode cX3_carve 18 = .ok (.ldc 137, 2) := by decide +kernel
theorem dX3_carve_20 : decode cX3_carve 20 = .ok (.invokespecial 139, 3) := by decide +kernel
theorem dX3_carve_23 : decode cX3_carve 23 = .ok (.athrow, 1) := by decide +kernel
theorem dX3_carve_24 : decode cX3_carve 24 = .ok (.iload 4, 2) := by decide +kernel
theorem dX3_carve_26 : decode cX3_carve 26 = .ok (.iconst 0, 1) := by decide +kernel
theorem dX3_carve_27 : decode cX3_carve 27 = .ok (.sipush 200, 3) := by decide +kernel
theorem dX3_carve_30 : decode cX3_carve 30 = .ok (.invokestatic 52, 3) := by decide +kernel
theorem dX3_carve_33 : decode cX3_carve 33 = .ok (.ifCond .ne 14, 3) := by decide +kernel
theorem dX3_carve_36 : decode cX3_carve 36 = .ok (.new 56, 3) := by decide +kernel
theorem dX3_carve_39 : decode cX3_carve 39 = .ok (.dup, 1) := by decide +kernel
theorem dX3_carve_40 : decode cX3_carve 40 = .ok (.ldc_w 272, 3) := by decide +kernel
theorem dX3_carve_43 : decode cX3_carve 43 = .ok (.invokespecial 60, 3) := by decide +kernel
theorem dX3_carve_46 : decode cX3_carve 46 = .ok (.athrow, 1) := by decide +kernel
theorem dX3_carve_47 : decode cX3_carve 47 = .ok (.iload_n 2, 1) := by decide +kernel
theorem dX3_carve_48 : decode cX3_carve 48 = .ok (.iload_n 3, 1) := by decide +kernel
theorem dX3_carve_49 : decode cX3_carve 49 = .ok (.invokestatic 142, 3) := by decide +kernel
theorem dX3_carve_52 : decode cX3_carve 52 = .ok (.istore 6, 2) := by decide +kernel
theorem dX3_carve_54 : decode cX3_carve 54 = .ok (.aload 5, 2) := by decide +kernel
theorem dX3_carve_56 : decode cX3_carve 56 = .ok (.iload 6, 2) := by decide +kernel
theorem dX3_carve_58 : decode cX3_carve 58 = .ok (.invokevirtual 146, 3) := by decide +kernel
theorem dX3_carve_61 : decode cX3_carve 61 = .ok (.ifCond .ne 13, 3) := by decide +kernel
theorem dX3_carve_64 : decode cX3_carve 64 = .ok (.new 180, 3) := by decide +kernel
theorem dX3_carve_67 : decode cX3_carve 67 = .ok (.dup, 1) := by decide +kernel
theorem dX3_carve_68 : decode cX3_carve 68 = .ok (.ldc 182, 2) := by decide +kernel
theorem dX3_carve_70 : decode cX3_carve 70 = .ok (.invokespecial 184, 3) := by decide +kernel
theorem dX3_carve_73 : decode cX3_carve 73 = .ok (.athrow, 1) := by decide +kernel
theorem dX3_carve_74 : decode cX3_carve 74 = .ok (.aload 5, 2) := by decide +kernel
theorem dX3_carve_76 : decode cX3_carve 76 = .ok (.getfield 274, 3) := by decide +kernel
theorem dX3_carve_79 : decode cX3_carve 79 = .ok (.bipush 60, 2) := by decide +kernel
theorem dX3_carve_81 : decode cX3_carve 81 = .ok (.if_icmp .lt 14, 3) := by decide +kernel
theorem dX3_carve_84 : decode cX3_carve 84 = .ok (.new 92, 3) := by decide +kernel
theorem dX3_carve_87 : decode cX3_carve 87 = .ok (.dup, 1) := by decide +kernel
theorem dX3_carve_88 : decode cX3_carve 88 = .ok (.ldc_w 277, 3) := by decide +kernel
theorem dX3_carve_91 : decode cX3_carve 91 = .ok (.invokespecial 96, 3) := by decide +kernel
theorem dX3_carve_94 : decode cX3_carve 94 = .ok (.athrow, 1) := by decide +kernel
theorem dX3_carve_95 : decode cX3_carve 95 = .ok (.iload 4, 2) := by decide +kernel
theorem dX3_carve_97 : decode cX3_carve 97 = .ok (.ifCond .le 30, 3) := by decide +kernel
theorem dX3_carve_100 : decode cX3_carve 100 = .ok (.aload 5, 2) := by decide +kernel
theorem dX3_carve_102 : decode cX3_carve 102 = .ok (.getfield 185, 3) := by decide +kernel
theorem dX3_carve_105 : decode cX3_carve 105 = .ok (.iload 6, 2) := by decide +kernel
theorem dX3_carve_107 : decode cX3_carve 107 = .ok (.iaload, 1) := by decide +kernel
theorem dX3_carve_108 : decode cX3_carve 108 = .ok (.iload 4, 2) := by decide +kernel
theorem dX3_carve_110 : decode cX3_carve 110 = .ok (.isub, 1) := by decide +kernel
theorem dX3_carve_111 : decode cX3_carve 111 = .ok (.bipush 100, 2) := by decide +kernel
theorem dX3_carve_113 : decode cX3_carve 113 = .ok (.if_icmp .gt 14, 3) := by decide +kernel
theorem dX3_carve_116 : decode cX3_carve 116 = .ok (.new 63, 3) := by decide +kernel
theorem dX3_carve_119 : decode cX3_carve 119 = .ok (.dup, 1) := by decide +kernel
theorem dX3_carve_120 : decode cX3_carve 120 = .ok (.ldc_w 279, 3) := by decide +kernel
theorem dX3_carve_123 : decode cX3_carve 123 = .ok (.invokespecial 67, 3) := by decide +kernel
theorem dX3_carve_126 : decode cX3_carve 126 = .ok (.athrow, 1) := by decide +kernel
theorem dX3_carve_127 : decode cX3_carve 127 = .ok (.aload 5, 2) := by decide +kernel
theorem dX3_carve_129 : decode cX3_carve 129 = .ok (.dup, 1) := by decide +kernel
theorem dX3_carve_130 : decode cX3_carve 130 = .ok (.getfield 274, 3) := by decide +kernel
theorem dX3_carve_133 : decode cX3_carve 133 = .ok (.iconst 1, 1) := by decide +kernel
theorem dX3_carve_134 : decode cX3_carve 134 = .ok (.iadd, 1) := by decide +kernel
theorem dX3_carve_135 : decode cX3_carve 135 = .ok (.putfield 274, 3) := by decide +kernel
theorem dX3_carve_138 : decode cX3_carve 138 = .ok (.iload 4, 2) := by decide +kernel
theorem dX3_carve_140 : decode cX3_carve 140 = .ok (.ifCond .le 19, 3) := by decide +kernel
theorem dX3_carve_143 : decode cX3_carve 143 = .ok (.aload 5, 2) := by decide +kernel
theorem dX3_carve_145 : decode cX3_carve 145 = .ok (.getfield 185, 3) := by decide +kernel
theorem dX3_carve_148 : decode cX3_carve 148 = .ok (.iload 6, 2) := by decide +kernel
theorem dX3_carve_150 : decode cX3_carve 150 = .ok (.dup2, 1) := by decide +kernel
theorem dX3_carve_151 : decode cX3_carve 151 = .ok (.iaload, 1) := by decide +kernel
theorem dX3_carve_152 : decode cX3_carve 152 = .ok (.iload 4, 2) := by decide +kernel
theorem dX3_carve_154 : decode cX3_carve 154 = .ok (.isub, 1) := by decide +kernel
theorem dX3_carve_155 : decode cX3_carve 155 = .ok (.iastore, 1) := by decide +kernel
theorem dX3_carve_156 : decode cX3_carve 156 = .ok (.goto 10, 3) := by decide +kernel
theorem dX3_carve_159 : decode cX3_carve 159 = .ok (.aload 5, 2) := by decide +kernel
theorem dX3_carve_161 : decode cX3_carve 161 = .ok (.iload 6, 2) := by decide +kernel
theorem dX3_carve_163 : decode cX3_carve 163 = .ok (.invokevirtual 281, 3) := by decide +kernel
theorem dX3_carve_166 : decode cX3_carve 166 = .ok (.aload_n 0, 1) := by decide +kernel
theorem dX3_carve_167 : decode cX3_carve 167 = .ok (.aload 5, 2) := by decide +kernel
theorem dX3_carve_169 : decode cX3_carve 169 = .ok (.invokevirtual 168, 3) := by decide +kernel
theorem dX3_carve_172 : decode cX3_carve 172 = .ok (.ireturn, 1) := by decide +kernel
theorem dX3_hours_0 : decode cX3_hours 0 = .ok (.aload_n 0, 1) := by decide +kernel
theorem dX3_hours_1 : decode cX3_hours 1 = .ok (.iload_n 1, 1) := by decide +kernel
theorem dX3_hours_2 : decode cX3_hours 2 = .ok (.invokevirtual 207, 3) := by decide +kernel
theorem dX3_hours_5 : decode cX3_hours 5 = .ok (.astore_n 2, 1) := by decide +kernel
theorem dX3_hours_6 : decode cX3_hours 6 = .ok (.aload_n 2, 1) := by decide +kernel
theorem dX3_hours_7 : decode cX3_hours 7 = .ok (.ifnonnull 13, 3) := by decide +kernel
theorem dX3_hours_10 : decode cX3_hours 10 = .ok (.new 135, 3) := by decide +kernel
theorem dX3_hours_13 : decode cX3_hours 13 = .ok (.dup, 1) := by decide +kernel
theorem dX3_hours_14 : decode cX3_hours 14 = .ok (.ldc 211, 2) := by decide +kernel
theorem dX3_hours_16 : decode cX3_hours 16 = .ok (.invokespecial 139, 3) := by decide +kernel
theorem dX3_hours_19 : decode cX3_hours 19 = .ok (.athrow, 1) := by decide +kernel
theorem dX3_hours_20 : decode cX3_hours 20 = .ok (.bipush 60, 2) := by decide +kernel
theorem dX3_hours_22 : decode cX3_hours 22 = .ok (.aload_n 2, 1) := by decide +kernel
theorem dX3_hours_23 : decode cX3_hours 23 = .ok (.getfield 274, 3) := by decide +kernel
theorem dX3_hours_26 : decode cX3_hours 26 = .ok (.isub, 1) := by decide +kernel
theorem dX3_hours_27 : decode cX3_hours 27 = .ok (.ireturn, 1) := by decide +kernel
theorem dX3_judge_0 : decode cX3_judge 0 = .ok (.aload_n 0, 1) := by decide +kernel
theorem dX3_judge_1 : decode cX3_judge 1 = .ok (.iload_n 1, 1) := by decide +kernel
theorem dX3_judge_2 : decode cX3_judge 2 = .ok (.invokevirtual 207, 3) := by decide +kernel
theorem dX3_judge_5 : decode cX3_judge 5 = .ok (.astore_n 2, 1) := by decide +kernel
theorem dX3_judge_6 : decode cX3_judge 6 = .ok (.aload_n 2, 1) := by decide +kernel
theorem dX3_judge_7 : decode cX3_judge 7 = .ok (.ifnonnull 13, 3) := by decide +kernel
theorem dX3_judge_10 : decode cX3_judge 10 = .ok (.new 135, 3) := by decide +kernel
theorem dX3_judge_13 : decode cX3_judge 13 = .ok (.dup, 1) := by decide +kernel
theorem dX3_judge_14 : decode cX3_judge 14 = .ok (.ldc 211, 2) := by decide +kernel
theorem dX3_judge_16 : decode cX3_judge 16 = .ok (.invokespecial 139, 3) := by decide +kernel
theorem dX3_judge_19 : decode cX3_judge 19 = .ok (.athrow, 1) := by decide +kernel
theorem dX3_judge_20 : decode cX3_judge 20 = .ok (.aload_n 2, 1) := by decide +kernel
theorem dX3_judge_21 : decode cX3_judge 21 = .ok (.aload_n 2, 1) := by decide +kernel
theorem dX3_judge_22 : decode cX3_judge 22 = .ok (.invokevirtual 284, 3) := by decide +kernel
theorem dX3_judge_25 : decode cX3_judge 25 = .ok (.i2d, 1) := by decide +kernel
theorem dX3_judge_26 : decode cX3_judge 26 = .ok (.ldc2_w 287, 3) := by decide +kernel
theorem dX3_judge_29 : decode cX3_judge 29 = .ok (.ddiv, 1) := by decide +kernel
theorem dX3_judge_30 : decode cX3_judge 30 = .ok (.ldc2_w 258, 3) := by decide +kernel
theorem dX3_judge_33 : decode cX3_judge 33 = .ok (.aload_n 2, 1) := by decide +kernel
theorem dX3_judge_34 : decode cX3_judge 34 = .ok (.getfield 213, 3) := by decide +kernel
theorem dX3_judge_37 : decode cX3_judge 37 = .ok (.i2d, 1) := by decide +kernel
theorem dX3_judge_38 : decode cX3_judge 38 = .ok (.dmul, 1) := by decide +kernel
theorem dX3_judge_39 : decode cX3_judge 39 = .ok (.dsub, 1) := by decide +kernel
theorem dX3_judge_40 : decode cX3_judge 40 = .ok (.putfield 289, 3) := by decide +kernel
theorem dX3_judge_43 : decode cX3_judge 43 = .ok (.aload_n 2, 1) := by decide +kernel
theorem dX3_judge_44 : decode cX3_judge 44 = .ok (.iconst 1, 1) := by decide +kernel
theorem dX3_judge_45 : decode cX3_judge 45 = .ok (.putfield 293, 3) := by decide +kernel
theorem dX3_judge_48 : decode cX3_judge 48 = .ok (.aload_n 2, 1) := by decide +kernel
theorem dX3_judge_49 : decode cX3_judge 49 = .ok (.getfield 289, 3) := by decide +kernel
theorem dX3_judge_52 : decode cX3_judge 52 = .ok (.dreturn, 1) := by decide +kernel
theorem dX3_mark_0 : decode cX3_mark 0 = .ok (.aload_n 0, 1) := by decide +kernel
theorem dX3_mark_1 : decode cX3_mark 1 = .ok (.iload_n 1, 1) := by decide +kernel
theorem dX3_mark_2 : decode cX3_mark 2 = .ok (.invokevirtual 207, 3) := by decide +kernel
theorem dX3_mark_5 : decode cX3_mark 5 = .ok (.astore_n 2, 1) := by decide +kernel
theorem dX3_mark_6 : decode cX3_mark 6 = .ok (.aload_n 2, 1) := by decide +kernel
theorem dX3_mark_7 : decode cX3_mark 7 = .ok (.ifnonnull 13, 3) := by decide +kernel
theorem dX3_mark_10 : decode cX3_mark 10 = .ok (.new 135, 3) := by decide +kernel
theorem dX3_mark_13 : decode cX3_mark 13 = .ok (.dup, 1) := by decide +kernel
theorem dX3_mark_14 : decode cX3_mark 14 = .ok (.ldc 211, 2) := by decide +kernel
theorem dX3_mark_16 : decode cX3_mark 16 = .ok (.invokespecial 139, 3) := by decide +kernel
theorem dX3_mark_19 : decode cX3_mark 19 = .ok (.athrow, 1) := by decide +kernel
theorem dX3_mark_20 : decode cX3_mark 20 = .ok (.aload_n 2, 1) := by decide +kernel
theorem dX3_mark_21 : decode cX3_mark 21 = .ok (.getfield 293, 3) := by decide +kernel
theorem dX3_mark_24 : decode cX3_mark 24 = .ok (.ifCond .ne 14, 3) := by decide +kernel
theorem dX3_mark_27 : decode cX3_mark 27 = .ok (.new 180, 3) := by decide +kernel
theorem dX3_mark_30 : decode cX3_mark 30 = .ok (.dup, 1) := by decide +kernel
theorem dX3_mark_31 : decode cX3_mark 31 = .ok (.ldc_w 296, 3) := by decide +kernel
theorem dX3_mark_34 : decode cX3_mark 34 = .ok (.invokespecial 184, 3) := by decide +kernel
theorem dX3_mark_37 : decode cX3_mark 37 = .ok (.athrow, 1) := by decide +kernel
theorem dX3_mark_38 : decode cX3_mark 38 = .ok (.aload_n 2, 1) := by decide +kernel
theorem dX3_mark_39 : decode cX3_mark 39 = .ok (.getfield 289, 3) := by decide +kernel
theorem dX3_mark_42 : decode cX3_mark 42 = .ok (.dreturn, 1) := by decide +kernel
theorem dX3_take_0 : decode cX3_take 0 = .ok (.aload_n 0, 1) := by decide +kernel
theorem dX3_take_1 : decode cX3_take 1 = .ok (.iload_n 1, 1) := by decide +kernel
theorem dX3_take_2 : decode cX3_take 2 = .ok (.iload_n 2, 1) := by decide +kernel
theorem dX3_take_3 : decode cX3_take 3 = .ok (.iload_n 3, 1) := by decide +kernel
theorem dX3_take_4 : decode cX3_take 4 = .ok (.invokevirtual 131, 3) := by decide +kernel
theorem dX3_take_7 : decode cX3_take 7 = .ok (.astore 4, 2) := by decide +kernel
theorem dX3_take_9 : decode cX3_take 9 = .ok (.aload 4, 2) := by decide +kernel
theorem dX3_take_11 : decode cX3_take 11 = .ok (.ifnonnull 13, 3) := by decide +kernel
theorem dX3_take_14 : decode cX3_take 14 = .ok (.new 135, 3) := by decide +kernel
theorem dX3_take_17 : decode cX3_take 17 = .ok (.dup, 1) := by decide +kernel
theorem dX3_take_18 : decode cX3_take 18 = .ok (.ldc 137, 2) := by decide +kernel
theorem dX3_take_20 : decode cX3_take 20 = .ok (.invokespecial 139, 3) := by decide +kernel
theorem dX3_take_23 : decode cX3_take 23 = .ok (.athrow, 1) := by decide +kernel
theorem dX3_take_24 : decode cX3_take 24 = .ok (.iload_n 2, 1) := by decide +kernel
theorem dX3_take_25 : decode cX3_take 25 = .ok (.iload_n 3, 1) := by decide +kernel
theorem dX3_take_26 : decode cX3_take 26 = .ok (.invokestatic 142, 3) := by decide +kernel
theorem dX3_take_29 : decode cX3_take 29 = .ok (.istore 5, 2) := by decide +kernel
theorem dX3_take_31 : decode cX3_take 31 = .ok (.aload 4, 2) := by decide +kernel
theorem dX3_take_33 : decode cX3_take 33 = .ok (.iload 5, 2) := by decide +kernel
theorem dX3_take_35 : decode cX3_take 35 = .ok (.invokevirtual 146, 3) := by decide +kernel
theorem dX3_take_38 : decode cX3_take 38 = .ok (.ifCond .ne 13, 3) := by decide +kernel
theorem dX3_take_41 : decode cX3_take 41 = .ok (.new 180, 3) := by decide +kernel
theorem dX3_take_44 : decode cX3_take 44 = .ok (.dup, 1) := by decide +kernel
theorem dX3_take_45 : decode cX3_take 45 = .ok (.ldc 182, 2) := by decide +kernel
theorem dX3_take_47 : decode cX3_take 47 = .ok (.invokespecial 184, 3) := by decide +kernel
theorem dX3_take_50 : decode cX3_take 50 = .ok (.athrow, 1) := by decide +kernel
theorem dX3_take_51 : decode cX3_take 51 = .ok (.aload 4, 2) := by decide +kernel
theorem dX3_take_53 : decode cX3_take 53 = .ok (.iload 5, 2) := by decide +kernel
theorem dX3_take_55 : decode cX3_take 55 = .ok (.aload_n 0, 1) := by decide +kernel
theorem dX3_take_56 : decode cX3_take 56 = .ok (.getfield 10, 3) := by decide +kernel
theorem dX3_take_59 : decode cX3_take 59 = .ok (.aload_n 0, 1) := by decide +kernel
theorem dX3_take_60 : decode cX3_take 60 = .ok (.getfield 33, 3) := by decide +kernel
theorem dX3_take_63 : decode cX3_take 63 = .ok (.invokevirtual 83, 3) := by decide +kernel
theorem dX3_take_66 : decode cX3_take 66 = .ok (.invokevirtual 298, 3) := by decide +kernel
theorem dX3_take_69 : decode cX3_take 69 = .ok (.ifCond .eq 14, 3) := by decide +kernel
theorem dX3_take_72 : decode cX3_take 72 = .ok (.new 63, 3) := by decide +kernel
theorem dX3_take_75 : decode cX3_take 75 = .ok (.dup, 1) := by decide +kernel
theorem dX3_take_76 : decode cX3_take 76 = .ok (.ldc_w 302, 3) := by decide +kernel
theorem dX3_take_79 : decode cX3_take 79 = .ok (.invokespecial 67, 3) := by decide +kernel
theorem dX3_take_82 : decode cX3_take 82 = .ok (.athrow, 1) := by decide +kernel
theorem dX3_take_83 : decode cX3_take 83 = .ok (.aload 4, 2) := by decide +kernel
theorem dX3_take_85 : decode cX3_take 85 = .ok (.getfield 185, 3) := by decide +kernel
theorem dX3_take_88 : decode cX3_take 88 = .ok (.iload 5, 2) := by decide +kernel
theorem dX3_take_90 : decode cX3_take 90 = .ok (.iaload, 1) := by decide +kernel
theorem dX3_take_91 : decode cX3_take 91 = .ok (.istore 6, 2) := by decide +kernel
theorem dX3_take_93 : decode cX3_take 93 = .ok (.aload 4, 2) := by decide +kernel
theorem dX3_take_95 : decode cX3_take 95 = .ok (.iload 5, 2) := by decide +kernel
theorem dX3_take_97 : decode cX3_take 97 = .ok (.invokevirtual 281, 3) := by decide +kernel
theorem dX3_take_100 : decode cX3_take 100 = .ok (.iload 6, 2) := by decide +kernel
theorem dX3_take_102 : decode cX3_take 102 = .ok (.ireturn, 1) := by decide +kernel
theorem dX3_money_0 : decode cX3_money 0 = .ok (.aload_n 0, 1) := by decide +kernel
theorem dX3_money_1 : decode cX3_money 1 = .ok (.getfield 49, 3) := by decide +kernel
theorem dX3_money_4 : decode cX3_money 4 = .ok (.ireturn, 1) := by decide +kernel
theorem dX3_count_0 : decode cX3_count 0 = .ok (.aload_n 0, 1) := by decide +kernel
theorem dX3_count_1 : decode cX3_count 1 = .ok (.iload_n 1, 1) := by decide +kernel
theorem dX3_count_2 : decode cX3_count 2 = .ok (.invokevirtual 207, 3) := by decide +kernel
theorem dX3_count_5 : decode cX3_count 5 = .ok (.astore_n 2, 1) := by decide +kernel
theorem dX3_count_6 : decode cX3_count 6 = .ok (.aload_n 2, 1) := by decide +kernel
theorem dX3_count_7 : decode cX3_count 7 = .ok (.ifnonnull 13, 3) := by decide +kernel
theorem dX3_count_10 : decode cX3_count 10 = .ok (.new 135, 3) := by decide +kernel
theorem dX3_count_13 : decode cX3_count 13 = .ok (.dup, 1) := by decide +kernel
theorem dX3_count_14 : decode cX3_count 14 = .ok (.ldc 211, 2) := by decide +kernel
theorem dX3_count_16 : decode cX3_count 16 = .ok (.invokespecial 139, 3) := by decide +kernel
theorem dX3_count_19 : decode cX3_count 19 = .ok (.athrow, 1) := by decide +kernel
theorem dX3_count_20 : decode cX3_count 20 = .ok (.aload_n 2, 1) := by decide +kernel
theorem dX3_count_21 : decode cX3_count 21 = .ok (.invokevirtual 172, 3) := by decide +kernel
theorem dX3_count_24 : decode cX3_count 24 = .ok (.ireturn, 1) := by decide +kernel
theorem dX3_openShare_0 : decode cX3_openShare 0 = .ok (.aload_n 0, 1) := by decide +kernel
theorem dX3_openShare_1 : decode cX3_openShare 1 = .ok (.getfield 29, 3) := by decide +kernel
theorem dX3_openShare_4 : decode cX3_openShare 4 = .ok (.ifCond .ne 14, 3) := by decide +kernel
theorem dX3_openShare_7 : decode cX3_openShare 7 = .ok (.new 304, 3) := by decide +kernel
theorem dX3_openShare_10 : decode cX3_openShare 10 = .ok (.dup, 1) := by decide +kernel
theorem dX3_openShare_11 : decode cX3_openShare 11 = .ok (.ldc_w 306, 3) := by decide +kernel
theorem dX3_openShare_14 : decode cX3_openShare 14 = .ok (.invokespecial 308, 3) := by decide +kernel
theorem dX3_openShare_17 : decode cX3_openShare 17 = .ok (.athrow, 1) := by decide +kernel
theorem dX3_openShare_18 : decode cX3_openShare 18 = .ok (.iconst 0, 1) := by decide +kernel
theorem dX3_openShare_19 : decode cX3_openShare 19 = .ok (.istore_n 1, 1) := by decide +kernel
theorem dX3_openShare_20 : decode cX3_openShare 20 = .ok (.iconst 0, 1) := by decide +kernel
theorem dX3_openShare_21 : decode cX3_openShare 21 = .ok (.istore_n 2, 1) := by decide +kernel
theorem dX3_openShare_22 : decode cX3_openShare 22 = .ok (.iload_n 2, 1) := by decide +kernel
theorem dX3_openShare_23 : decode cX3_openShare 23 = .ok (.aload_n 0, 1) := by decide +kernel
theorem dX3_openShare_24 : decode cX3_openShare 24 = .ok (.getfield 29, 3) := by decide +kernel
theorem dX3_openShare_27 : decode cX3_openShare 27 = .ok (.if_icmp .ge 42, 3) := by decide +kernel
theorem dX3_openShare_30 : decode cX3_openShare 30 = .ok (.aload_n 0, 1) := by decide +kernel
theorem dX3_openShare_31 : decode cX3_openShare 31 = .ok (.iload_n 2, 1) := by decide +kernel
theorem dX3_openShare_32 : decode cX3_openShare 32 = .ok (.invokevirtual 207, 3) := by decide +kernel
theorem dX3_openShare_35 : decode cX3_openShare 35 = .ok (.astore_n 3, 1) := by decide +kernel
theorem dX3_openShare_36 : decode cX3_openShare 36 = .ok (.aload_n 3, 1) := by decide +kernel
theorem dX3_openShare_37 : decode cX3_openShare 37 = .ok (.ifnull 26, 3) := by decide +kernel
theorem dX3_openShare_40 : decode cX3_openShare 40 = .ok (.aload_n 3, 1) := by decide +kernel
theorem dX3_openShare_41 : decode cX3_openShare 41 = .ok (.iconst (-1), 1) := by decide +kernel
theorem dX3_openShare_42 : decode cX3_openShare 42 = .ok (.iconst 0, 1) := by decide +kernel
theorem dX3_openShare_43 : decode cX3_openShare 43 = .ok (.aload_n 0, 1) := by decide +kernel
theorem dX3_openShare_44 : decode cX3_openShare 44 = .ok (.getfield 10, 3) := by decide +kernel
theorem dX3_openShare_47 : decode cX3_openShare 47 = .ok (.aload_n 0, 1) := by decide +kernel
theorem dX3_openShare_48 : decode cX3_openShare 48 = .ok (.getfield 33, 3) := by decide +kernel
theorem dX3_openShare_51 : decode cX3_openShare 51 = .ok (.invokevirtual 83, 3) := by decide +kernel
theorem dX3_openShare_54 : decode cX3_openShare 54 = .ok (.invokevirtual 238, 3) := by decide +kernel
theorem dX3_openShare_57 : decode cX3_openShare 57 = .ok (.ifCond .eq 6, 3) := by decide +kernel
theorem dX3_openShare_60 : decode cX3_openShare 60 = .ok (.iinc 1 1, 3) := by decide +kernel
theorem dX3_openShare_63 : decode cX3_openShare 63 = .ok (.iinc 2 1, 3) := by decide +kernel
theorem dX3_openShare_66 : decode cX3_openShare 66 = .ok (.goto (-44), 3) := by decide +kernel
theorem dX3_openShare_69 : decode cX3_openShare 69 = .ok (.iload_n 1, 1) := by decide +kernel
theorem dX3_openShare_70 : decode cX3_openShare 70 = .ok (.i2f, 1) := by decide +kernel
theorem dX3_openShare_71 : decode cX3_openShare 71 = .ok (.aload_n 0, 1) := by decide +kernel
theorem dX3_openShare_72 : decode cX3_openShare 72 = .ok (.getfield 29, 3) := by decide +kernel
theorem dX3_openShare_75 : decode cX3_openShare 75 = .ok (.i2f, 1) := by decide +kernel
theorem dX3_openShare_76 : decode cX3_openShare 76 = .ok (.fdiv, 1) := by decide +kernel
theorem dX3_openShare_77 : decode cX3_openShare 77 = .ok (.freturn, 1) := by decide +kernel
theorem dX3_meanCreep_0 : decode cX3_meanCreep 0 = .ok (.aload_n 0, 1) := by decide +kernel
theorem dX3_meanCreep_1 : decode cX3_meanCreep 1 = .ok (.iload_n 1, 1) := by decide +kernel
theorem dX3_meanCreep_2 : decode cX3_meanCreep 2 = .ok (.invokevirtual 207, 3) := by decide +kernel
theorem dX3_meanCreep_5 : decode cX3_meanCreep 5 = .ok (.astore_n 2, 1) := by decide +kernel
theorem dX3_meanCreep_6 : decode cX3_meanCreep 6 = .ok (.aload_n 2, 1) := by decide +kernel
theorem dX3_meanCreep_7 : decode cX3_meanCreep 7 = .ok (.ifnonnull 13, 3) := by decide +kernel
theorem dX3_meanCreep_10 : decode cX3_meanCreep 10 = .ok (.new 135, 3) := by decide +kernel
theorem dX3_meanCreep_13 : decode cX3_meanCreep 13 = .ok (.dup, 1) := by decide +kernel
theorem dX3_meanCreep_14 : decode cX3_meanCreep 14 = .ok (.ldc 211, 2) := by decide +kernel
theorem dX3_meanCreep_16 : decode cX3_meanCreep 16 = .ok (.invokespecial 139, 3) := by decide +kernel
theorem dX3_meanCreep_19 : decode cX3_meanCreep 19 = .ok (.athrow, 1) := by decide +kernel
theorem dX3_meanCreep_20 : decode cX3_meanCreep 20 = .ok (.aload_n 2, 1) := by decide +kernel
theorem dX3_meanCreep_21 : decode cX3_meanCreep 21 = .ok (.invokevirtual 172, 3) := by decide +kernel
theorem dX3_meanCreep_24 : decode cX3_meanCreep 24 = .ok (.istore_n 3, 1) := by decide +kernel
theorem dX3_meanCreep_25 : decode cX3_meanCreep 25 = .ok (.iload_n 3, 1) := by decide +kernel
theorem dX3_meanCreep_26 : decode cX3_meanCreep 26 = .ok (.ifCond .ne 14, 3) := by decide +kernel
theorem dX3_meanCreep_29 : decode cX3_meanCreep 29 = .ok (.new 304, 3) := by decide +kernel
theorem dX3_meanCreep_32 : decode cX3_meanCreep 32 = .ok (.dup, 1) := by decide +kernel
theorem dX3_meanCreep_33 : decode cX3_meanCreep 33 = .ok (.ldc_w 309, 3) := by decide +kernel
theorem dX3_meanCreep_36 : decode cX3_meanCreep 36 = .ok (.invokespecial 308, 3) := by decide +kernel
theorem dX3_meanCreep_39 : decode cX3_meanCreep 39 = .ok (.athrow, 1) := by decide +kernel
theorem dX3_meanCreep_40 : decode cX3_meanCreep 40 = .ok (.aload_n 2, 1) := by decide +kernel
theorem dX3_meanCreep_41 : decode cX3_meanCreep 41 = .ok (.invokevirtual 311, 3) := by decide +kernel
theorem dX3_meanCreep_44 : decode cX3_meanCreep 44 = .ok (.i2d, 1) := by decide +kernel
theorem dX3_meanCreep_45 : decode cX3_meanCreep 45 = .ok (.iload_n 3, 1) := by decide +kernel
theorem dX3_meanCreep_46 : decode cX3_meanCreep 46 = .ok (.i2d, 1) := by decide +kernel
theorem dX3_meanCreep_47 : decode cX3_meanCreep 47 = .ok (.ddiv, 1) := by decide +kernel
theorem dX3_meanCreep_48 : decode cX3_meanCreep 48 = .ok (.dreturn, 1) := by decide +kernel
theorem dX3_checksum_0 : decode cX3_checksum 0 = .ok (.ldc2_w 314, 3) := by decide +kernel
theorem dX3_checksum_3 : decode cX3_checksum 3 = .ok (.lstore_n 1, 1) := by decide +kernel
theorem dX3_checksum_4 : decode cX3_checksum 4 = .ok (.iconst 0, 1) := by decide +kernel
theorem dX3_checksum_5 : decode cX3_checksum 5 = .ok (.istore_n 3, 1) := by decide +kernel
theorem dX3_checksum_6 : decode cX3_checksum 6 = .ok (.iload_n 3, 1) := by decide +kernel
theorem dX3_checksum_7 : decode cX3_checksum 7 = .ok (.aload_n 0, 1) := by decide +kernel
theorem dX3_checksum_8 : decode cX3_checksum 8 = .ok (.getfield 29, 3) := by decide +kernel
theorem dX3_checksum_11 : decode cX3_checksum 11 = .ok (.if_icmp .ge 76, 3) := by decide +kernel
theorem dX3_checksum_14 : decode cX3_checksum 14 = .ok (.aload_n 0, 1) := by decide +kernel
theorem dX3_checksum_15 : decode cX3_checksum 15 = .ok (.iload_n 3, 1) := by decide +kernel
theorem dX3_checksum_16 : decode cX3_checksum 16 = .ok (.invokevirtual 207, 3) := by decide +kernel
theorem dX3_checksum_19 : decode cX3_checksum 19 = .ok (.astore 4, 2) := by decide +kernel
theorem dX3_checksum_21 : decode cX3_checksum 21 = .ok (.iconst 0, 1) := by decide +kernel
theorem dX3_checksum_22 : decode cX3_checksum 22 = .ok (.istore 5, 2) := by decide +kernel
theorem dX3_checksum_24 : decode cX3_checksum 24 = .ok (.aload 4, 2) := by decide +kernel
theorem dX3_checksum_26 : decode cX3_checksum 26 = .ok (.ifnull 55, 3) := by decide +kernel
theorem dX3_checksum_29 : decode cX3_checksum 29 = .ok (.iload 5, 2) := by decide +kernel
theorem dX3_checksum_31 : decode cX3_checksum 31 = .ok (.bipush 48, 2) := by decide +kernel
theorem dX3_checksum_33 : decode cX3_checksum 33 = .ok (.if_icmp .ge 48, 3) := by decide +kernel
theorem dX3_checksum_36 : decode cX3_checksum 36 = .ok (.ldc2_w 316, 3) := by decide +kernel
theorem dX3_checksum_39 : decode cX3_checksum 39 = .ok (.lload_n 1, 1) := by decide +kernel
theorem dX3_checksum_40 : decode cX3_checksum 40 = .ok (.lmul, 1) := by decide +kernel
theorem dX3_checksum_41 : decode cX3_checksum 41 = .ok (.aload 4, 2) := by decide +kernel
theorem dX3_checksum_43 : decode cX3_checksum 43 = .ok (.iload 5, 2) := by decide +kernel
theorem dX3_checksum_45 : decode cX3_checksum 45 = .ok (.invokevirtual 146, 3) := by decide +kernel
theorem dX3_checksum_48 : decode cX3_checksum 48 = .ok (.ifCond .eq 23, 3) := by decide +kernel
theorem dX3_checksum_51 : decode cX3_checksum 51 = .ok (.aload 4, 2) := by decide +kernel
theorem dX3_checksum_53 : decode cX3_checksum 53 = .ok (.getfield 185, 3) := by decide +kernel
theorem dX3_checksum_56 : decode cX3_checksum 56 = .ok (.iload 5, 2) := by decide +kernel
theorem dX3_checksum_58 : decode cX3_checksum 58 = .ok (.iaload, 1) := by decide +kernel
theorem dX3_checksum_59 : decode cX3_checksum 59 = .ok (.aload 4, 2) := by decide +kernel
theorem dX3_checksum_61 : decode cX3_checksum 61 = .ok (.getfield 198, 3) := by decide +kernel
theorem dX3_checksum_64 : decode cX3_checksum 64 = .ok (.iload 5, 2) := by decide +kernel
theorem dX3_checksum_66 : decode cX3_checksum 66 = .ok (.iaload, 1) := by decide +kernel
theorem dX3_checksum_67 : decode cX3_checksum 67 = .ok (.iadd, 1) := by decide +kernel
theorem dX3_checksum_68 : decode cX3_checksum 68 = .ok (.goto 4, 3) := by decide +kernel
theorem dX3_checksum_71 : decode cX3_checksum 71 = .ok (.iconst 0, 1) := by decide +kernel
theorem dX3_checksum_72 : decode cX3_checksum 72 = .ok (.i2l, 1) := by decide +kernel
theorem dX3_checksum_73 : decode cX3_checksum 73 = .ok (.ladd, 1) := by decide +kernel
theorem dX3_checksum_74 : decode cX3_checksum 74 = .ok (.lstore_n 1, 1) := by decide +kernel
theorem dX3_checksum_75 : decode cX3_checksum 75 = .ok (.iinc 5 1, 3) := by decide +kernel
theorem dX3_checksum_78 : decode cX3_checksum 78 = .ok (.goto (-54), 3) := by decide +kernel
theorem dX3_checksum_81 : decode cX3_checksum 81 = .ok (.iinc 3 1, 3) := by decide +kernel
theorem dX3_checksum_84 : decode cX3_checksum 84 = .ok (.goto (-78), 3) := by decide +kernel
theorem dX3_checksum_87 : decode cX3_checksum 87 = .ok (.ldc2_w 316, 3) := by decide +kernel
theorem dX3_checksum_90 : decode cX3_checksum 90 = .ok (.lload_n 1, 1) := by decide +kernel
theorem dX3_checksum_91 : decode cX3_checksum 91 = .ok (.lmul, 1) := by decide +kernel
theorem dX3_checksum_92 : decode cX3_checksum 92 = .ok (.aload_n 0, 1) := by decide +kernel
theorem dX3_checksum_93 : decode cX3_checksum 93 = .ok (.getfield 49, 3) := by decide +kernel
theorem dX3_checksum_96 : decode cX3_checksum 96 = .ok (.i2l, 1) := by decide +kernel
theorem dX3_checksum_97 : decode cX3_checksum 97 = .ok (.ladd, 1) := by decide +kernel
theorem dX3_checksum_98 : decode cX3_checksum 98 = .ok (.lstore_n 1, 1) := by decide +kernel
theorem dX3_checksum_99 : decode cX3_checksum 99 = .ok (.ldc2_w 316, 3) := by decide +kernel
theorem dX3_checksum_102 : decode cX3_checksum 102 = .ok (.lload_n 1, 1) := by decide +kernel
theorem dX3_checksum_103 : decode cX3_checksum 103 = .ok (.lmul, 1) := by decide +kernel
theorem dX3_checksum_104 : decode cX3_checksum 104 = .ok (.aload_n 0, 1) := by decide +kernel
theorem dX3_checksum_105 : decode cX3_checksum 105 = .ok (.getfield 42, 3) := by decide +kernel
theorem dX3_checksum_108 : decode cX3_checksum 108 = .ok (.i2l, 1) := by decide +kernel
theorem dX3_checksum_109 : decode cX3_checksum 109 = .ok (.ladd, 1) := by decide +kernel
theorem dX3_checksum_110 : decode cX3_checksum 110 = .ok (.lstore_n 1, 1) := by decide +kernel
theorem dX3_checksum_111 : decode cX3_checksum 111 = .ok (.iconst 0, 1) := by decide +kernel
theorem dX3_checksum_112 : decode cX3_checksum 112 = .ok (.istore_n 3, 1) := by decide +kernel
theorem dX3_checksum_113 : decode cX3_checksum 113 = .ok (.iload_n 3, 1) := by decide +kernel
theorem dX3_checksum_114 : decode cX3_checksum 114 = .ok (.iconst 4, 1) := by decide +kernel
theorem dX3_checksum_115 : decode cX3_checksum 115 = .ok (.if_icmp .ge 26, 3) := by decide +kernel
theorem dX3_checksum_118 : decode cX3_checksum 118 = .ok (.ldc2_w 316, 3) := by decide +kernel
theorem dX3_checksum_121 : decode cX3_checksum 121 = .ok (.lload_n 1, 1) := by decide +kernel
theorem dX3_checksum_122 : decode cX3_checksum 122 = .ok (.lmul, 1) := by decide +kernel
theorem dX3_checksum_123 : decode cX3_checksum 123 = .ok (.aload_n 0, 1) := by decide +kernel
theorem dX3_checksum_124 : decode cX3_checksum 124 = .ok (.getfield 19, 3) := by decide +kernel
theorem dX3_checksum_127 : decode cX3_checksum 127 = .ok (.getfield 102, 3) := by decide +kernel
theorem dX3_checksum_130 : decode cX3_checksum 130 = .ok (.iload_n 3, 1) := by decide +kernel
theorem dX3_checksum_131 : decode cX3_checksum 131 = .ok (.iaload, 1) := by decide +kernel
theorem dX3_checksum_132 : decode cX3_checksum 132 = .ok (.i2l, 1) := by decide +kernel
theorem dX3_checksum_133 : decode cX3_checksum 133 = .ok (.ladd, 1) := by decide +kernel
theorem dX3_checksum_134 : decode cX3_checksum 134 = .ok (.lstore_n 1, 1) := by decide +kernel
theorem dX3_checksum_135 : decode cX3_checksum 135 = .ok (.iinc 3 1, 3) := by decide +kernel
theorem dX3_checksum_138 : decode cX3_checksum 138 = .ok (.goto (-25), 3) := by decide +kernel
theorem dX3_checksum_141 : decode cX3_checksum 141 = .ok (.lload_n 1, 1) := by decide +kernel
theorem dX3_checksum_142 : decode cX3_checksum 142 = .ok (.lreturn, 1) := by decide +kernel
theorem dX3_isSound_0 : decode cX3_isSound 0 = .ok (.iconst 0, 1) := by decide +kernel
theorem dX3_isSound_1 : decode cX3_isSound 1 = .ok (.istore_n 1, 1) := by decide +kernel
theorem dX3_isSound_2 : decode cX3_isSound 2 = .ok (.iload_n 1, 1) := by decide +kernel
theorem dX3_isSound_3 : decode cX3_isSound 3 = .ok (.aload_n 0, 1) := by decide +kernel
theorem dX3_isSound_4 : decode cX3_isSound 4 = .ok (.getfield 29, 3) := by decide +kernel
theorem dX3_isSound_7 : decode cX3_isSound 7 = .ok (.if_icmp .ge 28, 3) := by decide +kernel
theorem dX3_isSound_10 : decode cX3_isSound 10 = .ok (.aload_n 0, 1) := by decide +kernel
theorem dX3_isSound_11 : decode cX3_isSound 11 = .ok (.iload_n 1, 1) := by decide +kernel
theorem dX3_isSound_12 : decode cX3_isSound 12 = .ok (.invokevirtual 207, 3) := by decide +kernel
theorem dX3_isSound_15 : decode cX3_isSound 15 = .ok (.astore_n 2, 1) := by decide +kernel
theorem dX3_isSound_16 : decode cX3_isSound 16 = .ok (.aload_n 2, 1) := by decide +kernel
theorem dX3_isSound_17 : decode cX3_isSound 17 = .ok (.ifnull 12, 3) := by decide +kernel
theorem dX3_isSound_20 : decode cX3_isSound 20 = .ok (.aload_n 2, 1) := by decide +kernel
theorem dX3_isSound_21 : decode cX3_isSound 21 = .ok (.invokevirtual 318, 3) := by decide +kernel
theorem dX3_isSound_24 : decode cX3_isSound 24 = .ok (.ifCond .ne 5, 3) := by decide +kernel
theorem dX3_isSound_27 : decode cX3_isSound 27 = .ok (.iconst 0, 1) := by decide +kernel
theorem dX3_isSound_28 : decode cX3_isSound 28 = .ok (.ireturn, 1) := by decide +kernel
theorem dX3_isSound_29 : decode cX3_isSound 29 = .ok (.iinc 1 1, 3) := by decide +kernel
theorem dX3_isSound_32 : decode cX3_isSound 32 = .ok (.goto (-30), 3) := by decide +kernel
theorem dX3_isSound_35 : decode cX3_isSound 35 = .ok (.iconst 0, 1) := by decide +kernel
theorem dX3_isSound_36 : decode cX3_isSound 36 = .ok (.istore_n 1, 1) := by decide +kernel
theorem dX3_isSound_37 : decode cX3_isSound 37 = .ok (.iload_n 1, 1) := by decide +kernel
theorem dX3_isSound_38 : decode cX3_isSound 38 = .ok (.iconst 4, 1) := by decide +kernel
theorem dX3_isSound_39 : decode cX3_isSound 39 = .ok (.if_icmp .ge 32, 3) := by decide +kernel
theorem dX3_isSound_42 : decode cX3_isSound 42 = .ok (.aload_n 0, 1) := by decide +kernel
theorem dX3_isSound_43 : decode cX3_isSound 43 = .ok (.getfield 19, 3) := by decide +kernel
theorem dX3_isSound_46 : decode cX3_isSound 46 = .ok (.getfield 105, 3) := by decide +kernel
theorem dX3_isSound_49 : decode cX3_isSound 49 = .ok (.iload_n 1, 1) := by decide +kernel
theorem dX3_isSound_50 : decode cX3_isSound 50 = .ok (.iaload, 1) := by decide +kernel
theorem dX3_isSound_51 : decode cX3_isSound 51 = .ok (.aload_n 0, 1) := by decide +kernel
theorem dX3_isSound_52 : decode cX3_isSound 52 = .ok (.getfield 19, 3) := by decide +kernel
theorem dX3_isSound_55 : decode cX3_isSound 55 = .ok (.getfield 102, 3) := by decide +kernel
theorem dX3_isSound_58 : decode cX3_isSound 58 = .ok (.iload_n 1, 1) := by decide +kernel
theorem dX3_isSound_59 : decode cX3_isSound 59 = .ok (.iaload, 1) := by decide +kernel
theorem dX3_isSound_60 : decode cX3_isSound 60 = .ok (.if_icmp .le 5, 3) := by decide +kernel
theorem dX3_isSound_63 : decode cX3_isSound 63 = .ok (.iconst 0, 1) := by decide +kernel
theorem dX3_isSound_64 : decode cX3_isSound 64 = .ok (.ireturn, 1) := by decide +kernel
theorem dX3_isSound_65 : decode cX3_isSound 65 = .ok (.iinc 1 1, 3) := by decide +kernel
theorem dX3_isSound_68 : decode cX3_isSound 68 = .ok (.goto (-31), 3) := by decide +kernel
theorem dX3_isSound_71 : decode cX3_isSound 71 = .ok (.iconst 1, 1) := by decide +kernel
theorem dX3_isSound_72 : decode cX3_isSound 72 = .ok (.ireturn, 1) := by decide +kernel
theorem dX3_isWithin_0 : decode cX3_isWithin 0 = .ok (.iload_n 0, 1) := by decide +kernel
theorem dX3_isWithin_1 : decode cX3_isWithin 1 = .ok (.iload_n 1, 1) := by decide +kernel
theorem dX3_isWithin_2 : decode cX3_isWithin 2 = .ok (.if_icmp .lt 12, 3) := by decide +kernel
theorem dX3_isWithin_5 : decode cX3_isWithin 5 = .ok (.iload_n 0, 1) := by decide +kernel
theorem dX3_isWithin_6 : decode cX3_isWithin 6 = .ok (.iload_n 2, 1) := by decide +kernel
theorem dX3_isWithin_7 : decode cX3_isWithin 7 = .ok (.if_icmp .gt 7, 3) := by decide +kernel
theorem dX3_isWithin_10 : decode cX3_isWithin 10 = .ok (.iconst 1, 1) := by decide +kernel
theorem dX3_isWithin_11 : decode cX3_isWithin 11 = .ok (.goto 4, 3) := by decide +kernel
theorem dX3_isWithin_14 : decode cX3_isWithin 14 = .ok (.iconst 0, 1) := by decide +kernel
theorem dX3_isWithin_15 : decode cX3_isWithin 15 = .ok (.ireturn, 1) := by decide +kernel
theorem dX3_placeOf_0 : decode cX3_placeOf 0 = .ok (.bipush 8, 2) := by decide +kernel
theorem dX3_placeOf_2 : decode cX3_placeOf 2 = .ok (.iload_n 1, 1) := by decide +kernel
theorem dX3_placeOf_3 : decode cX3_placeOf 3 = .ok (.imul, 1) := by decide +kernel
theorem dX3_placeOf_4 : decode cX3_placeOf 4 = .ok (.iload_n 0, 1) := by decide +kernel
theorem dX3_placeOf_5 : decode cX3_placeOf 5 = .ok (.iadd, 1) := by decide +kernel
theorem dX3_placeOf_6 : decode cX3_placeOf 6 = .ok (.ireturn, 1) := by decide +kernel
theorem dX3_numberedSite_0 : decode cX3_numberedSite 0 = .ok (.iload_n 1, 1) := by decide +kernel
theorem dX3_numberedSite_1 : decode cX3_numberedSite 1 = .ok (.iconst 0, 1) := by decide +kernel
theorem dX3_numberedSite_2 : decode cX3_numberedSite 2 = .ok (.aload_n 0, 1) := by decide +kernel
theorem dX3_numberedSite_3 : decode cX3_numberedSite 3 = .ok (.getfield 29, 3) := by decide +kernel
theorem dX3_numberedSite_6 : decode cX3_numberedSite 6 = .ok (.iconst 1, 1) := by decide +kernel
theorem dX3_numberedSite_7 : decode cX3_numberedSite 7 = .ok (.isub, 1) := by decide +kernel
theorem dX3_numberedSite_8 : decode cX3_numberedSite 8 = .ok (.invokestatic 52, 3) := by decide +kernel
theorem dX3_numberedSite_11 : decode cX3_numberedSite 11 = .ok (.ifCond .eq 12, 3) := by decide +kernel
theorem dX3_numberedSite_14 : decode cX3_numberedSite 14 = .ok (.aload_n 0, 1) := by decide +kernel
theorem dX3_numberedSite_15 : decode cX3_numberedSite 15 = .ok (.getfield 25, 3) := by decide +kernel
theorem dX3_numberedSite_18 : decode cX3_numberedSite 18 = .ok (.iload_n 1, 1) := by decide +kernel
theorem dX3_numberedSite_19 : decode cX3_numberedSite 19 = .ok (.aaload, 1) := by decide +kernel
theorem dX3_numberedSite_20 : decode cX3_numberedSite 20 = .ok (.goto 4, 3) := by decide +kernel
theorem dX3_numberedSite_23 : decode cX3_numberedSite 23 = .ok (.aconst_null, 1) := by decide +kernel
theorem dX3_numberedSite_24 : decode cX3_numberedSite 24 = .ok (.areturn, 1) := by decide +kernel
theorem dX3_placedSite_0 : decode cX3_placedSite 0 = .ok (.iload_n 2, 1) := by decide +kernel
theorem dX3_placedSite_1 : decode cX3_placedSite 1 = .ok (.iconst 0, 1) := by decide +kernel
theorem dX3_placedSite_2 : decode cX3_placedSite 2 = .ok (.bipush 7, 2) := by decide +kernel
theorem dX3_placedSite_4 : decode cX3_placedSite 4 = .ok (.invokestatic 52, 3) := by decide +kernel
theorem dX3_placedSite_7 : decode cX3_placedSite 7 = .ok (.ifCond .eq 20, 3) := by decide +kernel
theorem dX3_placedSite_10 : decode cX3_placedSite 10 = .ok (.iload_n 3, 1) := by decide +kernel
theorem dX3_placedSite_11 : decode cX3_placedSite 11 = .ok (.iconst 0, 1) := by decide +kernel
theorem dX3_placedSite_12 : decode cX3_placedSite 12 = .ok (.iconst 5, 1) := by decide +kernel
theorem dX3_placedSite_13 : decode cX3_placedSite 13 = .ok (.invokestatic 52, 3) := by decide +kernel
theorem dX3_placedSite_16 : decode cX3_placedSite 16 = .ok (.ifCond .eq 11, 3) := by decide +kernel
theorem dX3_placedSite_19 : decode cX3_placedSite 19 = .ok (.aload_n 0, 1) := by decide +kernel
theorem dX3_placedSite_20 : decode cX3_placedSite 20 = .ok (.iload_n 1, 1) := by decide +kernel
theorem dX3_placedSite_21 : decode cX3_placedSite 21 = .ok (.invokevirtual 207, 3) := by decide +kernel
theorem dX3_placedSite_24 : decode cX3_placedSite 24 = .ok (.goto 4, 3) := by decide +kernel
theorem dX3_placedSite_27 : decode cX3_placedSite 27 = .ok (.aconst_null, 1) := by decide +kernel
theorem dX3_placedSite_28 : decode cX3_placedSite 28 = .ok (.areturn, 1) := by decide +kernel
theorem dX3_storeSnow_0 : decode cX3_storeSnow 0 = .ok (.aload_n 0, 1) := by decide +kernel
theorem dX3_storeSnow_1 : decode cX3_storeSnow 1 = .ok (.sipush 500, 3) := by decide +kernel
theorem dX3_storeSnow_4 : decode cX3_storeSnow 4 = .ok (.aload_n 0, 1) := by decide +kernel
theorem dX3_storeSnow_5 : decode cX3_storeSnow 5 = .ok (.getfield 42, 3) := by decide +kernel
theorem dX3_storeSnow_8 : decode cX3_storeSnow 8 = .ok (.iload_n 1, 1) := by decide +kernel
theorem dX3_storeSnow_9 : decode cX3_storeSnow 9 = .ok (.iadd, 1) := by decide +kernel
theorem dX3_storeSnow_10 : decode cX3_storeSnow 10 = .ok (.invokestatic 322, 3) := by decide +kernel
theorem dX3_storeSnow_13 : decode cX3_storeSnow 13 = .ok (.putfield 42, 3) := by decide +kernel
theorem dX3_storeSnow_16 : decode cX3_storeSnow 16 = .ok (.return_, 1) := by decide +kernel
theorem dX3_passHour_0 : decode cX3_passHour 0 = .ok (.aload_n 0, 1) := by decide +kernel
theorem dX3_passHour_1 : decode cX3_passHour 1 = .ok (.getfield 10, 3) := by decide +kernel
theorem dX3_passHour_4 : decode cX3_passHour 4 = .ok (.aload_n 0, 1) := by decide +kernel
theorem dX3_passHour_5 : decode cX3_passHour 5 = .ok (.getfield 33, 3) := by decide +kernel
theorem dX3_passHour_8 : decode cX3_passHour 8 = .ok (.invokevirtual 83, 3) := by decide +kernel
theorem dX3_passHour_11 : decode cX3_passHour 11 = .ok (.istore_n 1, 1) := by decide +kernel
theorem dX3_passHour_12 : decode cX3_passHour 12 = .ok (.aload_n 0, 1) := by decide +kernel
theorem dX3_passHour_13 : decode cX3_passHour 13 = .ok (.getfield 19, 3) := by decide +kernel
theorem dX3_passHour_16 : decode cX3_passHour 16 = .ok (.iload_n 1, 1) := by decide +kernel
theorem dX3_passHour_17 : decode cX3_passHour 17 = .ok (.invokevirtual 330, 3) := by decide +kernel
theorem dX3_passHour_20 : decode cX3_passHour 20 = .ok (.aload_n 0, 1) := by decide +kernel
theorem dX3_passHour_21 : decode cX3_passHour 21 = .ok (.getfield 45, 3) := by decide +kernel
theorem dX3_passHour_24 : decode cX3_passHour 24 = .ok (.ifCond .eq 24, 3) := by decide +kernel
theorem dX3_passHour_27 : decode cX3_passHour 27 = .ok (.aload_n 0, 1) := by decide +kernel
theorem dX3_passHour_28 : decode cX3_passHour 28 = .ok (.getfield 10, 3) := by decide +kernel
theorem dX3_passHour_31 : decode cX3_passHour 31 = .ok (.aload_n 0, 1) := by decide +kernel
theorem dX3_passHour_32 : decode cX3_passHour 32 = .ok (.getfield 33, 3) := by decide +kernel
theorem dX3_passHour_35 : decode cX3_passHour 35 = .ok (.invokevirtual 87, 3) := by decide +kernel
theorem dX3_passHour_38 : decode cX3_passHour 38 = .ok (.bipush (-20), 2) := by decide +kernel
theorem dX3_passHour_40 : decode cX3_passHour 40 = .ok (.if_icmp .gt 8, 3) := by decide +kernel
theorem dX3_passHour_43 : decode cX3_passHour 43 = .ok (.aload_n 0, 1) := by decide +kernel
theorem dX3_passHour_44 : decode cX3_passHour 44 = .ok (.iconst 2, 1) := by decide +kernel
theorem dX3_passHour_45 : decode cX3_passHour 45 = .ok (.invokevirtual 124, 3) := by decide +kernel
theorem dX3_passHour_48 : decode cX3_passHour 48 = .ok (.iconst 0, 1) := by decide +kernel
theorem dX3_passHour_49 : decode cX3_passHour 49 = .ok (.istore_n 2, 1) := by decide +kernel
theorem dX3_passHour_50 : decode cX3_passHour 50 = .ok (.iload_n 2, 1) := by decide +kernel
theorem dX3_passHour_51 : decode cX3_passHour 51 = .ok (.aload_n 0, 1) := by decide +kernel
theorem dX3_passHour_52 : decode cX3_passHour 52 = .ok (.getfield 29, 3) := by decide +kernel
theorem dX3_passHour_55 : decode cX3_passHour 55 = .ok (.if_icmp .ge 85, 3) := by decide +kernel
theorem dX3_passHour_58 : decode cX3_passHour 58 = .ok (.aload_n 0, 1) := by decide +kernel
theorem dX3_passHour_59 : decode cX3_passHour 59 = .ok (.iload_n 2, 1) := by decide +kernel
theorem dX3_passHour_60 : decode cX3_passHour 60 = .ok (.invokevirtual 207, 3) := by decide +kernel
theorem dX3_passHour_63 : decode cX3_passHour 63 = .ok (.astore_n 3, 1) := by decide +kernel
theorem dX3_passHour_64 : decode cX3_passHour 64 = .ok (.aload_n 3, 1) := by decide +kernel
theorem dX3_passHour_65 : decode cX3_passHour 65 = .ok (.ifnull 69, 3) := by decide +kernel
theorem dX3_passHour_68 : decode cX3_passHour 68 = .ok (.aload_n 3, 1) := by decide +kernel
theorem dX3_passHour_69 : decode cX3_passHour 69 = .ok (.getfield 221, 3) := by decide +kernel
theorem dX3_passHour_72 : decode cX3_passHour 72 = .ok (.ifCond .ne 39, 3) := by decide +kernel
theorem dX3_passHour_75 : decode cX3_passHour 75 = .ok (.aload_n 0, 1) := by decide +kernel
theorem dX3_passHour_76 : decode cX3_passHour 76 = .ok (.dup, 1) := by decide +kernel
theorem dX3_passHour_77 : decode cX3_passHour 77 = .ok (.getfield 49, 3) := by decide +kernel
theorem dX3_passHour_80 : decode cX3_passHour 80 = .ok (.sipush 200, 3) := by decide +kernel
theorem dX3_passHour_83 : decode cX3_passHour 83 = .ok (.aload_n 3, 1) := by decide +kernel
theorem dX3_passHour_84 : decode cX3_passHour 84 = .ok (.aload_n 0, 1) := by decide +kernel
theorem dX3_passHour_85 : decode cX3_passHour 85 = .ok (.getfield 33, 3) := by decide +kernel
theorem dX3_passHour_88 : decode cX3_passHour 88 = .ok (.bipush 24, 2) := by decide +kernel
theorem dX3_passHour_90 : decode cX3_passHour 90 = .ok (.irem, 1) := by decide +kernel
theorem dX3_passHour_91 : decode cX3_passHour 91 = .ok (.iload_n 1, 1) := by decide +kernel
theorem dX3_passHour_92 : decode cX3_passHour 92 = .ok (.aload_n 0, 1) := by decide +kernel
theorem dX3_passHour_93 : decode cX3_passHour 93 = .ok (.getfield 10, 3) := by decide +kernel
theorem dX3_passHour_96 : decode cX3_passHour 96 = .ok (.aload_n 0, 1) := by decide +kernel
theorem dX3_passHour_97 : decode cX3_passHour 97 = .ok (.getfield 33, 3) := by decide +kernel
theorem dX3_passHour_100 : decode cX3_passHour 100 = .ok (.invokevirtual 332, 3) := by decide +kernel
theorem dX3_passHour_103 : decode cX3_passHour 103 = .ok (.invokevirtual 335, 3) := by decide +kernel
theorem dX3_passHour_106 : decode cX3_passHour 106 = .ok (.imul, 1) := by decide +kernel
theorem dX3_passHour_107 : decode cX3_passHour 107 = .ok (.isub, 1) := by decide +kernel
theorem dX3_passHour_108 : decode cX3_passHour 108 = .ok (.putfield 49, 3) := by decide +kernel
theorem dX3_passHour_111 : decode cX3_passHour 111 = .ok (.aload_n 0, 1) := by decide +kernel
theorem dX3_passHour_112 : decode cX3_passHour 112 = .ok (.dup, 1) := by decide +kernel
theorem dX3_passHour_113 : decode cX3_passHour 113 = .ok (.getfield 49, 3) := by decide +kernel
theorem dX3_passHour_116 : decode cX3_passHour 116 = .ok (.sipush 200, 3) := by decide +kernel
theorem dX3_passHour_119 : decode cX3_passHour 119 = .ok (.aload_n 3, 1) := by decide +kernel
theorem dX3_passHour_120 : decode cX3_passHour 120 = .ok (.iload_n 1, 1) := by decide +kernel
theorem dX3_passHour_121 : decode cX3_passHour 121 = .ok (.invokevirtual 327, 3) := by decide +kernel
theorem dX3_passHour_124 : decode cX3_passHour 124 = .ok (.imul, 1) := by decide +kernel
theorem dX3_passHour_125 : decode cX3_passHour 125 = .ok (.isub, 1) := by decide +kernel
theorem dX3_passHour_126 : decode cX3_passHour 126 = .ok (.putfield 49, 3) := by decide +kernel
theorem dX3_passHour_129 : decode cX3_passHour 129 = .ok (.aload_n 3, 1) := by decide +kernel
theorem dX3_passHour_130 : decode cX3_passHour 130 = .ok (.iload_n 1, 1) := by decide +kernel
theorem dX3_passHour_131 : decode cX3_passHour 131 = .ok (.invokevirtual 339, 3) := by decide +kernel
theorem dX3_passHour_134 : decode cX3_passHour 134 = .ok (.iinc 2 1, 3) := by decide +kernel
theorem dX3_passHour_137 : decode cX3_passHour 137 = .ok (.goto (-87), 3) := by decide +kernel
theorem dX3_passHour_140 : decode cX3_passHour 140 = .ok (.return_, 1) := by decide +kernel
theorem dX3_bitsOfDouble_0 : decode cX3_bitsOfDouble 0 = .ok (.dload_n 0, 1) := by decide +kernel
theorem dX3_bitsOfDouble_1 : decode cX3_bitsOfDouble 1 = .ok (.dconst 0, 1) := by decide +kernel
theorem dX3_bitsOfDouble_2 : decode cX3_bitsOfDouble 2 = .ok (.dcmp .l, 1) := by decide +kernel
theorem dX3_bitsOfDouble_3 : decode cX3_bitsOfDouble 3 = .ok (.ifCond .gt 5, 3) := by decide +kernel
theorem dX3_bitsOfDouble_6 : decode cX3_bitsOfDouble 6 = .ok (.lconst 0, 1) := by decide +kernel
theorem dX3_bitsOfDouble_7 : decode cX3_bitsOfDouble 7 = .ok (.lreturn, 1) := by decide +kernel
theorem dX3_bitsOfDouble_8 : decode cX3_bitsOfDouble 8 = .ok (.dload_n 0, 1) := by decide +kernel
theorem dX3_bitsOfDouble_9 : decode cX3_bitsOfDouble 9 = .ok (.dstore_n 2, 1) := by decide +kernel
theorem dX3_bitsOfDouble_10 : decode cX3_bitsOfDouble 10 = .ok (.ldc2_w 343, 3) := by decide +kernel
theorem dX3_bitsOfDouble_13 : decode cX3_bitsOfDouble 13 = .ok (.lstore 4, 2) := by decide +kernel
theorem dX3_bitsOfDouble_15 : decode cX3_bitsOfDouble 15 = .ok (.iconst 0, 1) := by decide +kernel
theorem dX3_bitsOfDouble_16 : decode cX3_bitsOfDouble 16 = .ok (.istore 6, 2) := by decide +kernel
theorem dX3_bitsOfDouble_18 : decode cX3_bitsOfDouble 18 = .ok (.iload 6, 2) := by decide +kernel
theorem dX3_bitsOfDouble_20 : decode cX3_bitsOfDouble 20 = .ok (.sipush 1023, 3) := by decide +kernel
theorem dX3_bitsOfDouble_23 : decode cX3_bitsOfDouble 23 = .ok (.if_icmp .ge 29, 3) := by decide +kernel
theorem dX3_bitsOfDouble_26 : decode cX3_bitsOfDouble 26 = .ok (.dload_n 2, 1) := by decide +kernel
theorem dX3_bitsOfDouble_27 : decode cX3_bitsOfDouble 27 = .ok (.ldc2_w 345, 3) := by decide +kernel
theorem dX3_bitsOfDouble_30 : decode cX3_bitsOfDouble 30 = .ok (.dcmp .l, 1) := by decide +kernel
theorem dX3_bitsOfDouble_31 : decode cX3_bitsOfDouble 31 = .ok (.ifCond .lt 21, 3) := by decide +kernel
theorem dX3_bitsOfDouble_34 : decode cX3_bitsOfDouble 34 = .ok (.dload_n 2, 1) := by decide +kernel
theorem dX3_bitsOfDouble_35 : decode cX3_bitsOfDouble 35 = .ok (.ldc2_w 345, 3) := by decide +kernel
theorem dX3_bitsOfDouble_38 : decode cX3_bitsOfDouble 38 = .ok (.ddiv, 1) := by decide +kernel
theorem dX3_bitsOfDouble_39 : decode cX3_bitsOfDouble 39 = .ok (.dstore_n 2, 1) := by decide +kernel
theorem dX3_bitsOfDouble_40 : decode cX3_bitsOfDouble 40 = .ok (.lload 4, 2) := by decide +kernel
theorem dX3_bitsOfDouble_42 : decode cX3_bitsOfDouble 42 = .ok (.lconst 1, 1) := by decide +kernel
theorem dX3_bitsOfDouble_43 : decode cX3_bitsOfDouble 43 = .ok (.ladd, 1) := by decide +kernel
theorem dX3_bitsOfDouble_44 : decode cX3_bitsOfDouble 44 = .ok (.lstore 4, 2) := by decide +kernel
theorem dX3_bitsOfDouble_46 : decode cX3_bitsOfDouble 46 = .ok (.iinc 6 1, 3) := by decide +kernel
theorem dX3_bitsOfDouble_49 : decode cX3_bitsOfDouble 49 = .ok (.goto (-31), 3) := by decide +kernel
theorem dX3_bitsOfDouble_52 : decode cX3_bitsOfDouble 52 = .ok (.iconst 0, 1) := by decide +kernel
theorem dX3_bitsOfDouble_53 : decode cX3_bitsOfDouble 53 = .ok (.istore 6, 2) := by decide +kernel
theorem dX3_bitsOfDouble_55 : decode cX3_bitsOfDouble 55 = .ok (.iload 6, 2) := by decide +kernel
theorem dX3_bitsOfDouble_57 : decode cX3_bitsOfDouble 57 = .ok (.sipush 1022, 3) := by decide +kernel
theorem dX3_bitsOfDouble_60 : decode cX3_bitsOfDouble 60 = .ok (.if_icmp .ge 27, 3) := by decide +kernel
theorem dX3_bitsOfDouble_63 : decode cX3_bitsOfDouble 63 = .ok (.dload_n 2, 1) := by decide +kernel
theorem dX3_bitsOfDouble_64 : decode cX3_bitsOfDouble 64 = .ok (.dconst 1, 1) := by decide +kernel
theorem dX3_bitsOfDouble_65 : decode cX3_bitsOfDouble 65 = .ok (.dcmp .g, 1) := by decide +kernel
theorem dX3_bitsOfDouble_66 : decode cX3_bitsOfDouble 66 = .ok (.ifCond .ge 21, 3) := by decide +kernel
theorem dX3_bitsOfDouble_69 : decode cX3_bitsOfDouble 69 = .ok (.dload_n 2, 1) := by decide +kernel
theorem dX3_bitsOfDouble_70 : decode cX3_bitsOfDouble 70 = .ok (.ldc2_w 345, 3) := by decide +kernel
theorem dX3_bitsOfDouble_73 : decode cX3_bitsOfDouble 73 = .ok (.dmul, 1) := by decide +kernel
theorem dX3_bitsOfDouble_74 : decode cX3_bitsOfDouble 74 = .ok (.dstore_n 2, 1) := by decide +kernel
theorem dX3_bitsOfDouble_75 : decode cX3_bitsOfDouble 75 = .ok (.lload 4, 2) := by decide +kernel
theorem dX3_bitsOfDouble_77 : decode cX3_bitsOfDouble 77 = .ok (.lconst 1, 1) := by decide +kernel
theorem dX3_bitsOfDouble_78 : decode cX3_bitsOfDouble 78 = .ok (.lsub, 1) := by decide +kernel
theorem dX3_bitsOfDouble_79 : decode cX3_bitsOfDouble 79 = .ok (.lstore 4, 2) := by decide +kernel
theorem dX3_bitsOfDouble_81 : decode cX3_bitsOfDouble 81 = .ok (.iinc 6 1, 3) := by decide +kernel
theorem dX3_bitsOfDouble_84 : decode cX3_bitsOfDouble 84 = .ok (.goto (-29), 3) := by decide +kernel
theorem dX3_bitsOfDouble_87 : decode cX3_bitsOfDouble 87 = .ok (.lload 4, 2) := by decide +kernel
theorem dX3_bitsOfDouble_89 : decode cX3_bitsOfDouble 89 = .ok (.bipush 52, 2) := by decide +kernel
theorem dX3_bitsOfDouble_91 : decode cX3_bitsOfDouble 91 = .ok (.lshl, 1) := by decide +kernel
theorem dX3_bitsOfDouble_92 : decode cX3_bitsOfDouble 92 = .ok (.dload_n 2, 1) := by decide +kernel
theorem dX3_bitsOfDouble_93 : decode cX3_bitsOfDouble 93 = .ok (.dconst 1, 1) := by decide +kernel
theorem dX3_bitsOfDouble_94 : decode cX3_bitsOfDouble 94 = .ok (.dsub, 1) := by decide +kernel
theorem dX3_bitsOfDouble_95 : decode cX3_bitsOfDouble 95 = .ok (.ldc2_w 347, 3) := by decide +kernel
theorem dX3_bitsOfDouble_98 : decode cX3_bitsOfDouble 98 = .ok (.dmul, 1) := by decide +kernel
theorem dX3_bitsOfDouble_99 : decode cX3_bitsOfDouble 99 = .ok (.d2l, 1) := by decide +kernel
theorem dX3_bitsOfDouble_100 : decode cX3_bitsOfDouble 100 = .ok (.ladd, 1) := by decide +kernel
theorem dX3_bitsOfDouble_101 : decode cX3_bitsOfDouble 101 = .ok (.lreturn, 1) := by decide +kernel
theorem dX5_init_0 : decode cX5_init 0 = .ok (.aload_n 0, 1) := by decide +kernel
theorem dX5_init_1 : decode cX5_init 1 = .ok (.aload_n 1, 1) := by decide +kernel
theorem dX5_init_2 : decode cX5_init 2 = .ok (.putfield 3, 3) := by decide +kernel
theorem dX5_init_5 : decode cX5_init 5 = .ok (.aload_n 0, 1) := by decide +kernel
theorem dX5_init_6 : decode cX5_init 6 = .ok (.invokespecial 9, 3) := by decide +kernel
theorem dX5_init_9 : decode cX5_init 9 = .ok (.aload_n 0, 1) := by decide +kernel
theorem dX5_init_10 : decode cX5_init 10 = .ok (.bipush 6, 2) := by decide +kernel
theorem dX5_init_12 : decode cX5_init 12 = .ok (.bipush 8, 2) := by decide +kernel
theorem dX5_init_14 : decode cX5_init 14 = .ok (.multianewarray 15 2, 4) := by decide +kernel
theorem dX5_init_18 : decode cX5_init 18 = .ok (.putfield 17, 3) := by decide +kernel
theorem dX5_init_21 : decode cX5_init 21 = .ok (.aload_n 0, 1) := by decide +kernel
theorem dX5_init_22 : decode cX5_init 22 = .ok (.bipush 6, 2) := by decide +kernel
theorem dX5_init_24 : decode cX5_init 24 = .ok (.bipush 8, 2) := by decide +kernel
theorem dX5_init_26 : decode cX5_init 26 = .ok (.multianewarray 20 2, 4) := by decide +kernel
theorem dX5_init_30 : decode cX5_init 30 = .ok (.putfield 22, 3) := by decide +kernel
theorem dX5_init_33 : decode cX5_init 33 = .ok (.aload_n 0, 1) := by decide +kernel
theorem dX5_init_34 : decode cX5_init 34 = .ok (.iconst (-1), 1) := by decide +kernel
theorem dX5_init_35 : decode cX5_init 35 = .ok (.putfield 25, 3) := by decide +kernel
theorem dX5_init_38 : decode cX5_init 38 = .ok (.return_, 1) := by decide +kernel
theorem dX6_isWrong_0 : decode cX6_isWrong 0 = .ok (.aload_n 0, 1) := by decide +kernel
theorem dX6_isWrong_1 : decode cX6_isWrong 1 = .ok (.iload_n 1, 1) := by decide +kernel
theorem dX6_isWrong_2 : decode cX6_isWrong 2 = .ok (.putfield 1, 3) := by decide +kernel
theorem dX6_isWrong_5 : decode cX6_isWrong 5 = .ok (.iload_n 1, 1) := by decide +kernel
theorem dX6_isWrong_6 : decode cX6_isWrong 6 = .ok (.ifCond .le 7, 3) := by decide +kernel
theorem dX6_isWrong_9 : decode cX6_isWrong 9 = .ok (.iconst 1, 1) := by decide +kernel
theorem dX6_isWrong_10 : decode cX6_isWrong 10 = .ok (.goto 4, 3) := by decide +kernel
theorem dX6_isWrong_13 : decode cX6_isWrong 13 = .ok (.iconst 0, 1) := by decide +kernel
theorem dX6_isWrong_14 : decode cX6_isWrong 14 = .ok (.ireturn, 1) := by decide +kernel
theorem dX6_isBetween_0 : decode cX6_isBetween 0 = .ok (.lload_n 2, 1) := by decide +kernel
theorem dX6_isBetween_1 : decode cX6_isBetween 1 = .ok (.lload_n 0, 1) := by decide +kernel
theorem dX6_isBetween_2 : decode cX6_isBetween 2 = .ok (.lcmp, 1) := by decide +kernel
theorem dX6_isBetween_3 : decode cX6_isBetween 3 = .ok (.ifCond .gt 14, 3) := by decide +kernel
theorem dX6_isBetween_6 : decode cX6_isBetween 6 = .ok (.lload_n 0, 1) := by decide +kernel
theorem dX6_isBetween_7 : decode cX6_isBetween 7 = .ok (.lload 4, 2) := by decide +kernel
theorem dX6_isBetween_9 : decode cX6_isBetween 9 = .ok (.lcmp, 1) := by decide +kernel
theorem dX6_isBetween_10 : decode cX6_isBetween 10 = .ok (.ifCond .gt 7, 3) := by decide +kernel
theorem dX6_isBetween_13 : decode cX6_isBetween 13 = .ok (.iconst 1, 1) := by decide +kernel
theorem dX6_isBetween_14 : decode cX6_isBetween 14 = .ok (.goto 4, 3) := by decide +kernel
theorem dX6_isBetween_17 : decode cX6_isBetween 17 = .ok (.iconst 0, 1) := by decide +kernel
theorem dX6_isBetween_18 : decode cX6_isBetween 18 = .ok (.ireturn, 1) := by decide +kernel
theorem dX6_init_0 : decode cX6_init 0 = .ok (.aload_n 0, 1) := by decide +kernel
theorem dX6_init_1 : decode cX6_init 1 = .ok (.invokespecial 7, 3) := by decide +kernel
theorem dX6_init_4 : decode cX6_init 4 = .ok (.aload_n 0, 1) := by decide +kernel
theorem dX6_init_5 : decode cX6_init 5 = .ok (.bipush 21, 2) := by decide +kernel
theorem dX6_init_7 : decode cX6_init 7 = .ok (.anewarray 13, 3) := by decide +kernel
theorem dX6_init_10 : decode cX6_init 10 = .ok (.putfield 15, 3) := by decide +kernel
theorem dX6_init_13 : decode cX6_init 13 = .ok (.aload_n 0, 1) := by decide +kernel
theorem dX6_init_14 : decode cX6_init 14 = .ok (.iconst 4, 1) := by decide +kernel
theorem dX6_init_15 : decode cX6_init 15 = .ok (.newarray .int, 2) := by decide +kernel
theorem dX6_init_17 : decode cX6_init 17 = .ok (.putfield 19, 3) := by decide +kernel
theorem dX6_init_20 : decode cX6_init 20 = .ok (.aload_n 0, 1) := by decide +kernel
theorem dX6_init_21 : decode cX6_init 21 = .ok (.iconst 4, 1) := by decide +kernel
theorem dX6_init_22 : decode cX6_init 22 = .ok (.newarray .int, 2) := by decide +kernel
theorem dX6_init_24 : decode cX6_init 24 = .ok (.putfield 22, 3) := by decide +kernel
theorem dX6_init_27 : decode cX6_init 27 = .ok (.aload_n 0, 1) := by decide +kernel
theorem dX6_init_28 : decode cX6_init 28 = .ok (.iconst 4, 1) := by decide +kernel
theorem dX6_init_29 : decode cX6_init 29 = .ok (.newarray .int, 2) := by decide +kernel
theorem dX6_init_31 : decode cX6_init 31 = .ok (.putfield 25, 3) := by decide +kernel
theorem dX6_init_34 : decode cX6_init 34 = .ok (.aload_n 0, 1) := by decide +kernel
theorem dX6_init_35 : decode cX6_init 35 = .ok (.iconst 2, 1) := by decide +kernel
theorem dX6_init_36 : decode cX6_init 36 = .ok (.newarray .int, 2) := by decide +kernel
theorem dX6_init_38 : decode cX6_init 38 = .ok (.putfield 28, 3) := by decide +kernel
theorem dX6_init_41 : decode cX6_init 41 = .ok (.aload_n 0, 1) := by decide +kernel
theorem dX6_init_42 : decode cX6_init 42 = .ok (.new 31, 3) := by decide +kernel
theorem dX6_init_45 : decode cX6_init 45 = .ok (.dup, 1) := by decide +kernel
theorem dX6_init_46 : decode cX6_init 46 = .ok (.invokespecial 33, 3) := by decide +kernel
theorem dX6_init_49 : decode cX6_init 49 = .ok (.putfield 34, 3) := by decide +kernel
theorem dX6_init_52 : decode cX6_init 52 = .ok (.iconst 0, 1) := by decide +kernel
theorem dX6_init_53 : decode cX6_init 53 = .ok (.istore_n 1, 1) := by decide +kernel
theorem dX6_init_54 : decode cX6_init 54 = .ok (.iload_n 1, 1) := by decide +kernel
theorem dX6_init_55 : decode cX6_init 55 = .ok (.bipush 21, 2) := by decide +kernel
theorem dX6_init_57 : decode cX6_init 57 = .ok (.if_icmp .ge 38, 3) := by decide +kernel
theorem dX6_init_60 : decode cX6_init 60 = .ok (.aload_n 0, 1) := by decide +kernel
theorem dX6_init_61 : decode cX6_init 61 = .ok (.getfield 15, 3) := by decide +kernel
theorem dX6_init_64 : decode cX6_init 64 = .ok (.iload_n 1, 1) := by decide +kernel
theorem dX6_init_65 : decode cX6_init 65 = .ok (.iconst 4, 1) := by decide +kernel
theorem dX6_init_66 : decode cX6_init 66 = .ok (.newarray .int, 2) := by decide +kernel
theorem dX6_init_68 : decode cX6_init 68 = .ok (.dup, 1) := by decide +kernel
theorem dX6_init_69 : decode cX6_init 69 = .ok (.iconst 0, 1) := by decide +kernel
theorem dX6_init_70 : decode cX6_init 70 = .ok (.sipush (-150), 3) := by decide +kernel
theorem dX6_init_73 : decode cX6_init 73 = .ok (.iastore, 1) := by decide +kernel
theorem dX6_init_74 : decode cX6_init 74 = .ok (.dup, 1) := by decide +kernel
theorem dX6_init_75 : decode cX6_init 75 = .ok (.iconst 1, 1) := by decide +kernel
theorem dX6_init_76 : decode cX6_init 76 = .ok (.bipush (-50), 2) := by decide +kernel
theorem dX6_init_78 : decode cX6_init 78 = .ok (.iastore, 1) := by decide +kernel
theorem dX6_init_79 : decode cX6_init 79 = .ok (.dup, 1) := by decide +kernel
theorem dX6_init_80 : decode cX6_init 80 = .ok (.iconst 2, 1) := by decide +kernel
theorem dX6_init_81 : decode cX6_init 81 = .ok (.iconst 5, 1) := by decide +kernel
theorem dX6_init_82 : decode cX6_init 82 = .ok (.iastore, 1) := by decide +kernel
theorem dX6_init_83 : decode cX6_init 83 = .ok (.dup, 1) := by decide +kernel
theorem dX6_init_84 : decode cX6_init 84 = .ok (.iconst 3, 1) := by decide +kernel
theorem dX6_init_85 : decode cX6_init 85 = .ok (.bipush 80, 2) := by decide +kernel
theorem dX6_init_87 : decode cX6_init 87 = .ok (.iastore, 1) := by decide +kernel
theorem dX6_init_88 : decode cX6_init 88 = .ok (.aastore, 1) := by decide +kernel
theorem dX6_init_89 : decode cX6_init 89 = .ok (.iinc 1 1, 3) := by decide +kernel
theorem dX6_init_92 : decode cX6_init 92 = .ok (.goto (-38), 3) := by decide +kernel
theorem dX6_init_95 : decode cX6_init 95 = .ok (.aload_n 0, 1) := by decide +kernel
theorem dX6_init_96 : decode cX6_init 96 = .ok (.getfield 25, 3) := by decide +kernel
theorem dX6_init_99 : decode cX6_init 99 = .ok (.bipush 40, 2) := by decide +kernel
theorem dX6_init_101 : decode cX6_init 101 = .ok (.invokestatic 38, 3) := by decide +kernel
theorem dX6_init_104 : decode cX6_init 104 = .ok (.return_, 1) := by decide +kernel
theorem dX6_weather_0 : decode cX6_weather 0 = .ok (.iload_n 1, 1) := by decide +kernel
theorem dX6_weather_1 : decode cX6_weather 1 = .ok (.i2l, 1) := by decide +kernel
theorem dX6_weather_2 : decode cX6_weather 2 = .ok (.lconst 0, 1) := by decide +kernel
theorem dX6_weather_3 : decode cX6_weather 3 = .ok (.ldc2_w 44, 3) := by decide +kernel
theorem dX6_weather_6 : decode cX6_weather 6 = .ok (.invokestatic 46, 3) := by decide +kernel
theorem dX6_weather_9 : decode cX6_weather 9 = .ok (.ifCond .eq 60, 3) := by decide +kernel
theorem dX6_weather_12 : decode cX6_weather 12 = .ok (.iload_n 2, 1) := by decide +kernel
theorem dX6_weather_13 : decode cX6_weather 13 = .ok (.i2l, 1) := by decide +kernel
theorem dX6_weather_14 : decode cX6_weather 14 = .ok (.ldc2_w 50, 3) := by decide +kernel
theorem dX6_weather_17 : decode cX6_weather 17 = .ok (.ldc2_w 52, 3) := by decide +kernel
theorem dX6_weather_20 : decode cX6_weather 20 = .ok (.invokestatic 46, 3) := by decide +kernel
theorem dX6_weather_23 : decode cX6_weather 23 = .ok (.ifCond .eq 46, 3) := by decide +kernel
theorem dX6_weather_26 : decode cX6_weather 26 = .ok (.iload_n 3, 1) := by decide +kernel
theorem dX6_weather_27 : decode cX6_weather 27 = .ok (.i2l, 1) := by decide +kernel
theorem dX6_weather_28 : decode cX6_weather 28 = .ok (.iload_n 2, 1) := by decide +kernel
theorem dX6_weather_29 : decode cX6_weather 29 = .ok (.i2l, 1) := by decide +kernel
theorem dX6_weather_30 : decode cX6_weather 30 = .ok (.ldc2_w 52, 3) := by decide +kernel
theorem dX6_weather_33 : decode cX6_weather 33 = .ok (.invokestatic 46, 3) := by decide +kernel
theorem dX6_weather_36 : decode cX6_weather 36 = .ok (.ifCond .eq 33, 3) := by decide +kernel
theorem dX6_weather_39 : decode cX6_weather 39 = .ok (.iload 4, 2) := by decide +kernel
theorem dX6_weather_41 : decode cX6_weather 41 = .ok (.i2l, 1) := by decide +kernel
theorem dX6_weather_42 : decode cX6_weather 42 = .ok (.lconst 0, 1) := by decide +kernel
theorem dX6_weather_43 : decode cX6_weather 43 = .ok (.ldc2_w 54, 3) := by decide +kernel
theorem dX6_weather_46 : decode cX6_weather 46 = .ok (.invokestatic 46, 3) := by decide +kernel
theorem dX6_weather_49 : decode cX6_weather 49 = .ok (.ifCond .eq 20, 3) := by decide +kernel
theorem dX6_weather_52 : decode cX6_weather 52 = .ok (.iload 5, 2) := by decide +kernel
theorem dX6_weather_54 : decode cX6_weather 54 = .ok (.i2l, 1) := by decide +kernel
theorem dX6_weather_55 : decode cX6_weather 55 = .ok (.lconst 0, 1) := by decide +kernel
theorem dX6_weather_56 : decode cX6_weather 56 = .ok (.ldc2_w 56, 3) := by decide +kernel
theorem dX6_weather_59 : decode cX6_weather 59 = .ok (.invokestatic 46, 3) := by decide +kernel
theorem dX6_weather_62 : decode cX6_weather 62 = .ok (.ifCond .eq 7, 3) := by decide +kernel
theorem dX6_weather_65 : decode cX6_weather 65 = .ok (.iconst 1, 1) := by decide +kernel
theorem dX6_weather_66 : decode cX6_weather 66 = .ok (.goto 4, 3) := by decide +kernel
theorem dX6_weather_69 : decode cX6_weather 69 = .ok (.iconst 0, 1) := by decide +kernel
theorem dX6_weather_70 : decode cX6_weather 70 = .ok (.istore 6, 2) := by decide +kernel
theorem dX6_weather_72 : decode cX6_weather 72 = .ok (.aload_n 0, 1) := by decide +kernel
theorem dX6_weather_73 : decode cX6_weather 73 = .ok (.iload 6, 2) := by decide +kernel
theorem dX6_weather_75 : decode cX6_weather 75 = .ok (.ifCond .ne 7, 3) := by decide +kernel
theorem dX6_weather_78 : decode cX6_weather 78 = .ok (.iconst 1, 1) := by decide +kernel
theorem dX6_weather_79 : decode cX6_weather 79 = .ok (.goto 19, 3) := by decide +kernel
theorem dX6_weather_82 : decode cX6_weather 82 = .ok (.aload_n 0, 1) := by decide +kernel
theorem dX6_weather_83 : decode cX6_weather 83 = .ok (.getfield 58, 3) := by decide +kernel
theorem dX6_weather_86 : decode cX6_weather 86 = .ok (.bipush 24, 2) := by decide +kernel
theorem dX6_weather_88 : decode cX6_weather 88 = .ok (.iload_n 1, 1) := by decide +kernel
theorem dX6_weather_89 : decode cX6_weather 89 = .ok (.imul, 1) := by decide +kernel
theorem dX6_weather_90 : decode cX6_weather 90 = .ok (.if_icmp .le 7, 3) := by decide +kernel
theorem dX6_weather_93 : decode cX6_weather 93 = .ok (.iconst 2, 1) := by decide +kernel
theorem dX6_weather_94 : decode cX6_weather 94 = .ok (.goto 4, 3) := by decide +kernel
theorem dX6_weather_97 : decode cX6_weather 97 = .ok (.iconst 0, 1) := by decide +kernel
theorem dX6_weather_98 : decode cX6_weather 98 = .ok (.invokevirtual 61, 3) := by decide +kernel
theorem dX6_weather_101 : decode cX6_weather 101 = .ok (.ifCond .eq 5, 3) := by decide +kernel
theorem dX6_weather_104 : decode cX6_weather 104 = .ok (.iconst 0, 1) := by decide +kernel
theorem dX6_weather_105 : decode cX6_weather 105 = .ok (.ireturn, 1) := by decide +kernel
theorem dX6_weather_106 : decode cX6_weather 106 = .ok (.aload_n 0, 1) := by decide +kernel
theorem dX6_weather_107 : decode cX6_weather 107 = .ok (.getfield 15, 3) := by decide +kernel
theorem dX6_weather_110 : decode cX6_weather 110 = .ok (.iload_n 1, 1) := by decide +kernel
theorem dX6_weather_111 : decode cX6_weather 111 = .ok (.aaload, 1) := by decide +kernel
theorem dX6_weather_112 : decode cX6_weather 112 = .ok (.iconst 0, 1) := by decide +kernel
theorem dX6_weather_113 : decode cX6_weather 113 = .ok (.iaload, 1) := by decide +kernel
theorem dX6_weather_114 : decode cX6_weather 114 = .ok (.istore 7, 2) := by decide +kernel
theorem dX6_weather_116 : decode cX6_weather 116 = .ok (.aload_n 0, 1) := by decide +kernel
theorem dX6_weather_117 : decode cX6_weather 117 = .ok (.getfield 15, 3) := by decide +kernel
theorem dX6_weather_120 : decode cX6_weather 120 = .ok (.iload_n 1, 1) := by decide +kernel
theorem dX6_weather_121 : decode cX6_weather 121 = .ok (.iconst 4, 1) := by decide +kernel
theorem dX6_weather_122 : decode cX6_weather 122 = .ok (.newarray .int, 2) := by decide +kernel
theorem dX6_weather_124 : decode cX6_weather 124 = .ok (.dup, 1) := by decide +kernel
theorem dX6_weather_125 : decode cX6_weather 125 = .ok (.iconst 0, 1) := by decide +kernel
theorem dX6_weather_126 : decode cX6_weather 126 = .ok (.iload_n 2, 1) := by decide +kernel
theorem dX6_weather_127 : decode cX6_weather 127 = .ok (.iastore, 1) := by decide +kernel
theorem dX6_weather_128 : decode cX6_weather 128 = .ok (.dup, 1) := by decide +kernel
theorem dX6_weather_129 : decode cX6_weather 129 = .ok (.iconst 1, 1) := by decide +kernel
theorem dX6_weather_130 : decode cX6_weather 130 = .ok (.iload_n 3, 1) := by decide +kernel
theorem dX6_weather_131 : decode cX6_weather 131 = .ok (.iastore, 1) := by decide +kernel
theorem dX6_weather_132 : decode cX6_weather 132 = .ok (.dup, 1) := by decide +kernel
theorem dX6_weather_133 : decode cX6_weather 133 = .ok (.iconst 2, 1) := by decide +kernel
theorem dX6_weather_134 : decode cX6_weather 134 = .ok (.iload 4, 2) := by decide +kernel
theorem dX6_weather_136 : decode cX6_weather 136 = .ok (.iastore, 1) := by decide +kernel
theorem dX6_weather_137 : decode cX6_weather 137 = .ok (.dup, 1) := by decide +kernel
theorem dX6_weather_138 : decode cX6_weather 138 = .ok (.iconst 3, 1) := by decide +kernel
theorem dX6_weather_139 : decode cX6_weather 139 = .ok (.iload 5, 2) := by decide +kernel
theorem dX6_weather_141 : decode cX6_weather 141 = .ok (.iastore, 1) := by decide +kernel
theorem dX6_weather_142 : decode cX6_weather 142 = .ok (.aastore, 1) := by decide +kernel
theorem dX6_weather_143 : decode cX6_weather 143 = .ok (.iload 7, 2) := by decide +kernel
theorem dX6_weather_145 : decode cX6_weather 145 = .ok (.ireturn, 1) := by decide +kernel
theorem dX6_warmthOf_0 : decode cX6_warmthOf 0 = .ok (.iload_n 1, 1) := by decide +kernel
theorem dX6_warmthOf_1 : decode cX6_warmthOf 1 = .ok (.sipush 504, 3) := by decide +kernel
theorem dX6_warmthOf_4 : decode cX6_warmthOf 4 = .ok (.if_icmp .ne 7, 3) := by decide +kernel
theorem dX6_warmthOf_7 : decode cX6_warmthOf 7 = .ok (.sipush (-150), 3) := by decide +kernel
theorem dX6_warmthOf_10 : decode cX6_warmthOf 10 = .ok (.ireturn, 1) := by decide +kernel
theorem dX6_warmthOf_11 : decode cX6_warmthOf 11 = .ok (.iload_n 1, 1) := by decide +kernel
theorem dX6_warmthOf_12 : decode cX6_warmthOf 12 = .ok (.bipush 24, 2) := by decide +kernel
theorem dX6_warmthOf_14 : decode cX6_warmthOf 14 = .ok (.irem, 1) := by decide +kernel
theorem dX6_warmthOf_15 : decode cX6_warmthOf 15 = .ok (.istore_n 2, 1) := by decide +kernel
theorem dX6_warmthOf_16 : decode cX6_warmthOf 16 = .ok (.aload_n 0, 1) := by decide +kernel
theorem dX6_warmthOf_17 : decode cX6_warmthOf 17 = .ok (.getfield 15, 3) := by decide +kernel
theorem dX6_warmthOf_20 : decode cX6_warmthOf 20 = .ok (.iload_n 1, 1) := by decide +kernel
theorem dX6_warmthOf_21 : decode cX6_warmthOf 21 = .ok (.bipush 24, 2) := by decide +kernel
theorem dX6_warmthOf_23 : decode cX6_warmthOf 23 = .ok (.idiv, 1) := by decide +kernel
theorem dX6_warmthOf_24 : decode cX6_warmthOf 24 = .ok (.aaload, 1) := by decide +kernel
theorem dX6_warmthOf_25 : decode cX6_warmthOf 25 = .ok (.astore_n 3, 1) := by decide +kernel
theorem dX6_warmthOf_26 : decode cX6_warmthOf 26 = .ok (.aload_n 3, 1) := by decide +kernel
theorem dX6_warmthOf_27 : decode cX6_warmthOf 27 = .ok (.iconst 0, 1) := by decide +kernel
theorem dX6_warmthOf_28 : decode cX6_warmthOf 28 = .ok (.iaload, 1) := by decide +kernel
theorem dX6_warmthOf_29 : decode cX6_warmthOf 29 = .ok (.aload_n 3, 1) := by decide +kernel
theorem dX6_warmthOf_30 : decode cX6_warmthOf 30 = .ok (.iconst 1, 1) := by decide +kernel
theorem dX6_warmthOf_31 : decode cX6_warmthOf 31 = .ok (.iaload, 1) := by decide +kernel
theorem dX6_warmthOf_32 : decode cX6_warmthOf 32 = .ok (.aload_n 3, 1) := by decide +kernel
theorem dX6_warmthOf_33 : decode cX6_warmthOf 33 = .ok (.iconst 0, 1) := by decide +kernel
theorem dX6_warmthOf_34 : decode cX6_warmthOf 34 = .ok (.iaload, 1) := by decide +kernel
theorem dX6_warmthOf_35 : decode cX6_warmthOf 35 = .ok (.isub, 1) := by decide +kernel
theorem dX6_warmthOf_36 : decode cX6_warmthOf 36 = .ok (.iload_n 2, 1) := by decide +kernel
theorem dX6_warmthOf_37 : decode cX6_warmthOf 37 = .ok (.bipush 12, 2) := by decide +kernel
theorem dX6_warmthOf_39 : decode cX6_warmthOf 39 = .ok (.if_icmp .gt 7, 3) := by decide +kernel
theorem dX6_warmthOf_42 : decode cX6_warmthOf 42 = .ok (.iload_n 2, 1) := by decide +kernel
theorem dX6_warmthOf_43 : decode cX6_warmthOf 43 = .ok (.goto 7, 3) := by decide +kernel
theorem dX6_warmthOf_46 : decode cX6_warmthOf 46 = .ok (.bipush 24, 2) := by decide +kernel
theorem dX6_warmthOf_48 : decode cX6_warmthOf 48 = .ok (.iload_n 2, 1) := by decide +kernel
theorem dX6_warmthOf_49 : decode cX6_warmthOf 49 = .ok (.isub, 1) := by decide +kernel
theorem dX6_warmthOf_50 : decode cX6_warmthOf 50 = .ok (.imul, 1) := by decide +kernel
theorem dX6_warmthOf_51 : decode cX6_warmthOf 51 = .ok (.bipush 12, 2) := by decide +kernel
theorem dX6_warmthOf_53 : decode cX6_warmthOf 53 = .ok (.idiv, 1) := by decide +kernel
theorem dX6_warmthOf_54 : decode cX6_warmthOf 54 = .ok (.iadd, 1) := by decide +kernel
theorem dX6_warmthOf_55 : decode cX6_warmthOf 55 = .ok (.ireturn, 1) := by decide +kernel
theorem dX6_warmth_0 : decode cX6_warmth 0 = .ok (.aload_n 0, 1) := by decide +kernel
theorem dX6_warmth_1 : decode cX6_warmth 1 = .ok (.iload_n 1, 1) := by decide +kernel
theorem dX6_warmth_2 : decode cX6_warmth 2 = .ok (.i2l, 1) := by decide +kernel
theorem dX6_warmth_3 : decode cX6_warmth 3 = .ok (.lconst 0, 1) := by decide +kernel
theorem dX6_warmth_4 : decode cX6_warmth 4 = .ok (.ldc2_w 65, 3) := by decide +kernel
theorem dX6_warmth_7 : decode cX6_warmth 7 = .ok (.invokestatic 46, 3) := by decide +kernel
theorem dX6_warmth_10 : decode cX6_warmth 10 = .ok (.ifCond .eq 7, 3) := by decide +kernel
theorem dX6_warmth_13 : decode cX6_warmth 13 = .ok (.iconst 0, 1) := by decide +kernel
theorem dX6_warmth_14 : decode cX6_warmth 14 = .ok (.goto 4, 3) := by decide +kernel
theorem dX6_warmth_17 : decode cX6_warmth 17 = .ok (.iconst 1, 1) := by decide +kernel
theorem dX6_warmth_18 : decode cX6_warmth 18 = .ok (.invokevirtual 61, 3) := by decide +kernel
theorem dX6_warmth_21 : decode cX6_warmth 21 = .ok (.ifCond .eq 7, 3) := by decide +kernel
theorem dX6_warmth_24 : decode cX6_warmth 24 = .ok (.iconst 0, 1) := by decide +kernel
theorem dX6_warmth_25 : decode cX6_warmth 25 = .ok (.goto 8, 3) := by decide +kernel
theorem dX6_warmth_28 : decode cX6_warmth 28 = .ok (.aload_n 0, 1) := by decide +kernel
theorem dX6_warmth_29 : decode cX6_warmth 29 = .ok (.iload_n 1, 1) := by decide +kernel
theorem dX6_warmth_30 : decode cX6_warmth 30 = .ok (.invokevirtual 67, 3) := by decide +kernel
theorem dX6_warmth_33 : decode cX6_warmth 33 = .ok (.ireturn, 1) := by decide +kernel
theorem dX6_wetOf_0 : decode cX6_wetOf 0 = .ok (.aload_n 0, 1) := by decide +kernel
theorem dX6_wetOf_1 : decode cX6_wetOf 1 = .ok (.iload_n 1, 1) := by decide +kernel
theorem dX6_wetOf_2 : decode cX6_wetOf 2 = .ok (.invokevirtual 67, 3) := by decide +kernel
theorem dX6_wetOf_5 : decode cX6_wetOf 5 = .ok (.bipush 100, 2) := by decide +kernel
theorem dX6_wetOf_7 : decode cX6_wetOf 7 = .ok (.aload_n 0, 1) := by decide +kernel
theorem dX6_wetOf_8 : decode cX6_wetOf 8 = .ok (.getfield 15, 3) := by decide +kernel
theorem dX6_wetOf_11 : decode cX6_wetOf 11 = .ok (.iload_n 1, 1) := by decide +kernel
theorem dX6_wetOf_12 : decode cX6_wetOf 12 = .ok (.bipush 24, 2) := by decide +kernel
theorem dX6_wetOf_14 : decode cX6_wetOf 14 = .ok (.idiv, 1) := by decide +kernel
theorem dX6_wetOf_15 : decode cX6_wetOf 15 = .ok (.aaload, 1) := by decide +kernel
theorem dX6_wetOf_16 : decode cX6_wetOf 16 = .ok (.iconst 3, 1) := by decide +kernel
theorem dX6_wetOf_17 : decode cX6_wetOf 17 = .ok (.iaload, 1) := by decide +kernel
theorem dX6_wetOf_18 : decode cX6_wetOf 18 = .ok (.isub, 1) := by decide +kernel
theorem dX6_wetOf_19 : decode cX6_wetOf 19 = .ok (.iconst 2, 1) := by decide +kernel
theorem dX6_wetOf_20 : decode cX6_wetOf 20 = .ok (.idiv, 1) := by decide +kernel
theorem dX6_wetOf_21 : decode cX6_wetOf 21 = .ok (.isub, 1) := by decide +kernel
theorem dX6_wetOf_22 : decode cX6_wetOf 22 = .ok (.ireturn, 1) := by decide +kernel
theorem dX6_wet_0 : decode cX6_wet 0 = .ok (.aload_n 0, 1) := by decide +kernel
theorem dX6_wet_1 : decode cX6_wet 1 = .ok (.iload_n 1, 1) := by decide +kernel
theorem dX6_wet_2 : decode cX6_wet 2 = .ok (.i2l, 1) := by decide +kernel
theorem dX6_wet_3 : decode cX6_wet 3 = .ok (.lconst 0, 1) := by decide +kernel
theorem dX6_wet_4 : decode cX6_wet 4 = .ok (.ldc2_w 71, 3) := by decide +kernel
theorem dX6_wet_7 : decode cX6_wet 7 = .ok (.invokestatic 46, 3) := by decide +kernel
theorem dX6_wet_10 : decode cX6_wet 10 = .ok (.ifCond .eq 7, 3) := by decide +kernel
theorem dX6_wet_13 : decode cX6_wet 13 = .ok (.iconst 0, 1) := by decide +kernel
theorem dX6_wet_14 : decode cX6_wet 14 = .ok (.goto 4, 3) := by decide +kernel
theorem dX6_wet_17 : decode cX6_wet 17 = .ok (.iconst 1, 1) := by decide +kernel
theorem dX6_wet_18 : decode cX6_wet 18 = .ok (.invokevirtual 61, 3) := by decide +kernel
theorem dX6_wet_21 : decode cX6_wet 21 = .ok (.ifCond .eq 7, 3) := by decide +kernel
theorem dX6_wet_24 : decode cX6_wet 24 = .ok (.iconst 0, 1) := by decide +kernel
theorem dX6_wet_25 : decode cX6_wet 25 = .ok (.goto 8, 3) := by decide +kernel
theorem dX6_wet_28 : decode cX6_wet 28 = .ok (.aload_n 0, 1) := by decide +kernel
theorem dX6_wet_29 : decode cX6_wet 29 = .ok (.iload_n 1, 1) := by decide +kernel
theorem dX6_wet_30 : decode cX6_wet 30 = .ok (.invokevirtual 73, 3) := by decide +kernel
theorem dX6_wet_33 : decode cX6_wet 33 = .ok (.ireturn, 1) := by decide +kernel
theorem dX6_now_0 : decode cX6_now 0 = .ok (.aload_n 0, 1) := by decide +kernel
theorem dX6_now_1 : decode cX6_now 1 = .ok (.iconst 0, 1) := by decide +kernel
theorem dX6_now_2 : decode cX6_now 2 = .ok (.putfield 1, 3) := by decide +kernel
theorem dX6_now_5 : decode cX6_now 5 = .ok (.aload_n 0, 1) := by decide +kernel
theorem dX6_now_6 : decode cX6_now 6 = .ok (.getfield 58, 3) := by decide +kernel
theorem dX6_now_9 : decode cX6_now 9 = .ok (.ireturn, 1) := by decide +kernel
theorem dX6_freezes_0 : decode cX6_freezes 0 = .ok (.iconst 0, 1) := by decide +kernel
theorem dX6_freezes_1 : decode cX6_freezes 1 = .ok (.istore_n 2, 1) := by decide +kernel
theorem dX6_freezes_2 : decode cX6_freezes 2 = .ok (.iload_n 2, 1) := by decide +kernel
theorem dX6_freezes_3 : decode cX6_freezes 3 = .ok (.iconst 4, 1) := by decide +kernel
theorem dX6_freezes_4 : decode cX6_freezes 4 = .ok (.if_icmp .ge 121, 3) := by decide +kernel
theorem dX6_freezes_7 : decode cX6_freezes 7 = .ok (.iload_n 1, 1) := by decide +kernel
theorem dX6_freezes_8 : decode cX6_freezes 8 = .ok (.ifCond .ge 65, 3) := by decide +kernel
theorem dX6_freezes_11 : decode cX6_freezes 11 = .ok (.sipush 2000, 3) := by decide +kernel
theorem dX6_freezes_14 : decode cX6_freezes 14 = .ok (.aload_n 0, 1) := by decide +kernel
theorem dX6_freezes_15 : decode cX6_freezes 15 = .ok (.getfield 19, 3) := by decide +kernel
theorem dX6_freezes_18 : decode cX6_freezes 18 = .ok (.iload_n 2, 1) := by decide +kernel
theorem dX6_freezes_19 : decode cX6_freezes 19 = .ok (.iaload, 1) := by decide +kernel
theorem dX6_freezes_20 : decode cX6_freezes 20 = .ok (.isub, 1) := by decide +kernel
theorem dX6_freezes_21 : decode cX6_freezes 21 = .ok (.iload_n 1, 1) := by decide +kernel
theorem dX6_freezes_22 : decode cX6_freezes 22 = .ok (.ineg, 1) := by decide +kernel
theorem dX6_freezes_23 : decode cX6_freezes 23 = .ok (.bipush 10, 2) := by decide +kernel
theorem dX6_freezes_25 : decode cX6_freezes 25 = .ok (.aload_n 0, 1) := by decide +kernel
theorem dX6_freezes_26 : decode cX6_freezes 26 = .ok (.getfield 19, 3) := by decide +kernel
theorem dX6_freezes_29 : decode cX6_freezes 29 = .ok (.iload_n 2, 1) := by decide +kernel
theorem dX6_freezes_30 : decode cX6_freezes 30 = .ok (.iaload, 1) := by decide +kernel
theorem dX6_freezes_31 : decode cX6_freezes 31 = .ok (.bipush 20, 2) := by decide +kernel
theorem dX6_freezes_33 : decode cX6_freezes 33 = .ok (.idiv, 1) := by decide +kernel
theorem dX6_freezes_34 : decode cX6_freezes 34 = .ok (.iadd, 1) := by decide +kernel
theorem dX6_freezes_35 : decode cX6_freezes 35 = .ok (.idiv, 1) := by decide +kernel
theorem dX6_freezes_36 : decode cX6_freezes 36 = .ok (.invokestatic 76, 3) := by decide +kernel
theorem dX6_freezes_39 : decode cX6_freezes 39 = .ok (.istore_n 3, 1) := by decide +kernel
theorem dX6_freezes_40 : decode cX6_freezes 40 = .ok (.aload_n 0, 1) := by decide +kernel
theorem dX6_freezes_41 : decode cX6_freezes 41 = .ok (.getfield 19, 3) := by decide +kernel
theorem dX6_freezes_44 : decode cX6_freezes 44 = .ok (.iload_n 2, 1) := by decide +kernel
theorem dX6_freezes_45 : decode cX6_freezes 45 = .ok (.dup2, 1) := by decide +kernel
theorem dX6_freezes_46 : decode cX6_freezes 46 = .ok (.iaload, 1) := by decide +kernel
theorem dX6_freezes_47 : decode cX6_freezes 47 = .ok (.iload_n 3, 1) := by decide +kernel
theorem dX6_freezes_48 : decode cX6_freezes 48 = .ok (.iadd, 1) := by decide +kernel
theorem dX6_freezes_49 : decode cX6_freezes 49 = .ok (.iastore, 1) := by decide +kernel
theorem dX6_freezes_50 : decode cX6_freezes 50 = .ok (.aload_n 0, 1) := by decide +kernel
theorem dX6_freezes_51 : decode cX6_freezes 51 = .ok (.getfield 22, 3) := by decide +kernel
theorem dX6_freezes_54 : decode cX6_freezes 54 = .ok (.iload_n 2, 1) := by decide +kernel
theorem dX6_freezes_55 : decode cX6_freezes 55 = .ok (.dup2, 1) := by decide +kernel
theorem dX6_freezes_56 : decode cX6_freezes 56 = .ok (.iaload, 1) := by decide +kernel
theorem dX6_freezes_57 : decode cX6_freezes 57 = .ok (.iload_n 1, 1) := by decide +kernel
theorem dX6_freezes_58 : decode cX6_freezes 58 = .ok (.bipush (-100), 2) := by decide +kernel
theorem dX6_freezes_60 : decode cX6_freezes 60 = .ok (.if_icmp .gt 7, 3) := by decide +kernel
theorem dX6_freezes_63 : decode cX6_freezes 63 = .ok (.iload_n 3, 1) := by decide +kernel
theorem dX6_freezes_64 : decode cX6_freezes 64 = .ok (.goto 4, 3) := by decide +kernel
theorem dX6_freezes_67 : decode cX6_freezes 67 = .ok (.iconst 0, 1) := by decide +kernel
theorem dX6_freezes_68 : decode cX6_freezes 68 = .ok (.iadd, 1) := by decide +kernel
theorem dX6_freezes_69 : decode cX6_freezes 69 = .ok (.iastore, 1) := by decide +kernel
theorem dX6_freezes_70 : decode cX6_freezes 70 = .ok (.goto 49, 3) := by decide +kernel
theorem dX6_freezes_73 : decode cX6_freezes 73 = .ok (.iload_n 1, 1) := by decide +kernel
theorem dX6_freezes_74 : decode cX6_freezes 74 = .ok (.ifCond .le 45, 3) := by decide +kernel
theorem dX6_freezes_77 : decode cX6_freezes 77 = .ok (.aload_n 0, 1) := by decide +kernel
theorem dX6_freezes_78 : decode cX6_freezes 78 = .ok (.getfield 19, 3) := by decide +kernel
theorem dX6_freezes_81 : decode cX6_freezes 81 = .ok (.iload_n 2, 1) := by decide +kernel
theorem dX6_freezes_82 : decode cX6_freezes 82 = .ok (.iconst 0, 1) := by decide +kernel
theorem dX6_freezes_83 : decode cX6_freezes 83 = .ok (.aload_n 0, 1) := by decide +kernel
theorem dX6_freezes_84 : decode cX6_freezes 84 = .ok (.getfield 19, 3) := by decide +kernel
theorem dX6_freezes_87 : decode cX6_freezes 87 = .ok (.iload_n 2, 1) := by decide +kernel
theorem dX6_freezes_88 : decode cX6_freezes 88 = .ok (.iaload, 1) := by decide +kernel
theorem dX6_freezes_89 : decode cX6_freezes 89 = .ok (.iload_n 1, 1) := by decide +kernel
theorem dX6_freezes_90 : decode cX6_freezes 90 = .ok (.bipush 10, 2) := by decide +kernel
theorem dX6_freezes_92 : decode cX6_freezes 92 = .ok (.idiv, 1) := by decide +kernel
theorem dX6_freezes_93 : decode cX6_freezes 93 = .ok (.isub, 1) := by decide +kernel
theorem dX6_freezes_94 : decode cX6_freezes 94 = .ok (.invokestatic 82, 3) := by decide +kernel
theorem dX6_freezes_97 : decode cX6_freezes 97 = .ok (.iastore, 1) := by decide +kernel
theorem dX6_freezes_98 : decode cX6_freezes 98 = .ok (.aload_n 0, 1) := by decide +kernel
theorem dX6_freezes_99 : decode cX6_freezes 99 = .ok (.getfield 22, 3) := by decide +kernel
theorem dX6_freezes_102 : decode cX6_freezes 102 = .ok (.iload_n 2, 1) := by decide +kernel
theorem dX6_freezes_103 : decode cX6_freezes 103 = .ok (.aload_n 0, 1) := by decide +kernel
theorem dX6_freezes_104 : decode cX6_freezes 104 = .ok (.getfield 22, 3) := by decide +kernel
theorem dX6_freezes_107 : decode cX6_freezes 107 = .ok (.iload_n 2, 1) := by decide +kernel
theorem dX6_freezes_108 : decode cX6_freezes 108 = .ok (.iaload, 1) := by decide +kernel
theorem dX6_freezes_109 : decode cX6_freezes 109 = .ok (.aload_n 0, 1) := by decide +kernel
theorem dX6_freezes_110 : decode cX6_freezes 110 = .ok (.getfield 19, 3) := by decide +kernel
theorem dX6_freezes_113 : decode cX6_freezes 113 = .ok (.iload_n 2, 1) := by decide +kernel
theorem dX6_freezes_114 : decode cX6_freezes 114 = .ok (.iaload, 1) := by decide +kernel
theorem dX6_freezes_115 : decode cX6_freezes 115 = .ok (.invokestatic 76, 3) := by decide +kernel
theorem dX6_freezes_118 : decode cX6_freezes 118 = .ok (.iastore, 1) := by decide +kernel
theorem dX6_freezes_119 : decode cX6_freezes 119 = .ok (.iinc 2 1, 3) := by decide +kernel
theorem dX6_freezes_122 : decode cX6_freezes 122 = .ok (.goto (-120), 3) := by decide +kernel
theorem dX6_freezes_125 : decode cX6_freezes 125 = .ok (.aload_n 0, 1) := by decide +kernel
theorem dX6_freezes_126 : decode cX6_freezes 126 = .ok (.getfield 85, 3) := by decide +kernel
theorem dX6_freezes_129 : decode cX6_freezes 129 = .ok (.ifCond .eq 32, 3) := by decide +kernel
theorem dX6_freezes_132 : decode cX6_freezes 132 = .ok (.aload_n 0, 1) := by decide +kernel
theorem dX6_freezes_133 : decode cX6_freezes 133 = .ok (.aload_n 0, 1) := by decide +kernel
theorem dX6_freezes_134 : decode cX6_freezes 134 = .ok (.getfield 58, 3) := by decide +kernel
theorem dX6_freezes_137 : decode cX6_freezes 137 = .ok (.invokevirtual 73, 3) := by decide +kernel
theorem dX6_freezes_140 : decode cX6_freezes 140 = .ok (.bipush (-20), 2) := by decide +kernel
theorem dX6_freezes_142 : decode cX6_freezes 142 = .ok (.if_icmp .gt 19, 3) := by decide +kernel
theorem dX6_freezes_145 : decode cX6_freezes 145 = .ok (.aload_n 0, 1) := by decide +kernel
theorem dX6_freezes_146 : decode cX6_freezes 146 = .ok (.sipush 500, 3) := by decide +kernel
theorem dX6_freezes_149 : decode cX6_freezes 149 = .ok (.aload_n 0, 1) := by decide +kernel
theorem dX6_freezes_150 : decode cX6_freezes 150 = .ok (.getfield 89, 3) := by decide +kernel
theorem dX6_freezes_153 : decode cX6_freezes 153 = .ok (.iconst 2, 1) := by decide +kernel
theorem dX6_freezes_154 : decode cX6_freezes 154 = .ok (.iadd, 1) := by decide +kernel
theorem dX6_freezes_155 : decode cX6_freezes 155 = .ok (.invokestatic 76, 3) := by decide +kernel
theorem dX6_freezes_158 : decode cX6_freezes 158 = .ok (.putfield 89, 3) := by decide +kernel
theorem dX6_freezes_161 : decode cX6_freezes 161 = .ok (.return_, 1) := by decide +kernel
theorem dX6_isNoField_0 : decode cX6_isNoField 0 = .ok (.aload_n 0, 1) := by decide +kernel
theorem dX6_isNoField_1 : decode cX6_isNoField 1 = .ok (.iload_n 1, 1) := by decide +kernel
theorem dX6_isNoField_2 : decode cX6_isNoField 2 = .ok (.i2l, 1) := by decide +kernel
theorem dX6_isNoField_3 : decode cX6_isNoField 3 = .ok (.lconst 0, 1) := by decide +kernel
theorem dX6_isNoField_4 : decode cX6_isNoField 4 = .ok (.ldc2_w 92, 3) := by decide +kernel
theorem dX6_isNoField_7 : decode cX6_isNoField 7 = .ok (.invokestatic 46, 3) := by decide +kernel
theorem dX6_isNoField_10 : decode cX6_isNoField 10 = .ok (.ifCond .eq 7, 3) := by decide +kernel
theorem dX6_isNoField_13 : decode cX6_isNoField 13 = .ok (.iconst 0, 1) := by decide +kernel
theorem dX6_isNoField_14 : decode cX6_isNoField 14 = .ok (.goto 4, 3) := by decide +kernel
theorem dX6_isNoField_17 : decode cX6_isNoField 17 = .ok (.iconst 1, 1) := by decide +kernel
theorem dX6_isNoField_18 : decode cX6_isNoField 18 = .ok (.invokevirtual 61, 3) := by decide +kernel
theorem dX6_isNoField_21 : decode cX6_isNoField 21 = .ok (.ireturn, 1) := by decide +kernel
theorem dX6_ice_0 : decode cX6_ice 0 = .ok (.aload_n 0, 1) := by decide +kernel
theorem dX6_ice_1 : decode cX6_ice 1 = .ok (.iload_n 1, 1) := by decide +kernel
theorem dX6_ice_2 : decode cX6_ice 2 = .ok (.invokevirtual 94, 3) := by decide +kernel
theorem dX6_ice_5 : decode cX6_ice 5 = .ok (.ifCond .eq 7, 3) := by decide +kernel
theorem dX6_ice_8 : decode cX6_ice 8 = .ok (.iconst 0, 1) := by decide +kernel
theorem dX6_ice_9 : decode cX6_ice 9 = .ok (.goto 9, 3) := by decide +kernel
theorem dX6_ice_12 : decode cX6_ice 12 = .ok (.aload_n 0, 1) := by decide +kernel
theorem dX6_ice_13 : decode cX6_ice 13 = .ok (.getfield 19, 3) := by decide +kernel
theorem dX6_ice_16 : decode cX6_ice 16 = .ok (.iload_n 1, 1) := by decide +kernel
theorem dX6_ice_17 : decode cX6_ice 17 = .ok (.iaload, 1) := by decide +kernel
theorem dX6_ice_18 : decode cX6_ice 18 = .ok (.ireturn, 1) := by decide +kernel
theorem dX6_clear_0 : decode cX6_clear 0 = .ok (.aload_n 0, 1) := by decide +kernel
theorem dX6_clear_1 : decode cX6_clear 1 = .ok (.iload_n 1, 1) := by decide +kernel
theorem dX6_clear_2 : decode cX6_clear 2 = .ok (.invokevirtual 94, 3) := by decide +kernel
theorem dX6_clear_5 : decode cX6_clear 5 = .ok (.ifCond .eq 7, 3) := by decide +kernel
theorem dX6_clear_8 : decode cX6_clear 8 = .ok (.iconst 0, 1) := by decide +kernel
theorem dX6_clear_9 : decode cX6_clear 9 = .ok (.goto 9, 3) := by decide +kernel
theorem dX6_clear_12 : decode cX6_clear 12 = .ok (.aload_n 0, 1) := by decide +kernel
theorem dX6_clear_13 : decode cX6_clear 13 = .ok (.getfield 22, 3) := by decide +kernel
theorem dX6_clear_16 : decode cX6_clear 16 = .ok (.iload_n 1, 1) := by decide +kernel
theorem dX6_clear_17 : decode cX6_clear 17 = .ok (.iaload, 1) := by decide +kernel
theorem dX6_clear_18 : decode cX6_clear 18 = .ok (.ireturn, 1) := by decide +kernel
theorem dX6_hasRoad_0 : decode cX6_hasRoad 0 = .ok (.aload_n 0, 1) := by decide +kernel
theorem dX6_hasRoad_1 : decode cX6_hasRoad 1 = .ok (.getfield 19, 3) := by decide +kernel
theorem dX6_hasRoad_4 : decode cX6_hasRoad 4 = .ok (.iload_n 1, 1) := by decide +kernel
theorem dX6_hasRoad_5 : decode cX6_hasRoad 5 = .ok (.iaload, 1) := by decide +kernel
theorem dX6_hasRoad_6 : decode cX6_hasRoad 6 = .ok (.sipush 250, 3) := by decide +kernel
theorem dX6_hasRoad_9 : decode cX6_hasRoad 9 = .ok (.if_icmp .lt 18, 3) := by decide +kernel
theorem dX6_hasRoad_12 : decode cX6_hasRoad 12 = .ok (.aload_n 0, 1) := by decide +kernel
theorem dX6_hasRoad_13 : decode cX6_hasRoad 13 = .ok (.getfield 25, 3) := by decide +kernel
theorem dX6_hasRoad_16 : decode cX6_hasRoad 16 = .ok (.iload_n 1, 1) := by decide +kernel
theorem dX6_hasRoad_17 : decode cX6_hasRoad 17 = .ok (.iaload, 1) := by decide +kernel
theorem dX6_hasRoad_18 : decode cX6_hasRoad 18 = .ok (.bipush 20, 2) := by decide +kernel
theorem dX6_hasRoad_20 : decode cX6_hasRoad 20 = .ok (.if_icmp .lt 7, 3) := by decide +kernel
theorem dX6_hasRoad_23 : decode cX6_hasRoad 23 = .ok (.iconst 1, 1) := by decide +kernel
theorem dX6_hasRoad_24 : decode cX6_hasRoad 24 = .ok (.goto 4, 3) := by decide +kernel
theorem dX6_hasRoad_27 : decode cX6_hasRoad 27 = .ok (.iconst 0, 1) := by decide +kernel
theorem dX6_hasRoad_28 : decode cX6_hasRoad 28 = .ok (.ireturn, 1) := by decide +kernel
theorem dX6_bears_0 : decode cX6_bears 0 = .ok (.aload_n 0, 1) := by decide +kernel
theorem dX6_bears_1 : decode cX6_bears 1 = .ok (.iload_n 1, 1) := by decide +kernel
theorem dX6_bears_2 : decode cX6_bears 2 = .ok (.invokevirtual 94, 3) := by decide +kernel
theorem dX6_bears_5 : decode cX6_bears 5 = .ok (.ifCond .ne 15, 3) := by decide +kernel
theorem dX6_bears_8 : decode cX6_bears 8 = .ok (.aload_n 0, 1) := by decide +kernel
theorem dX6_bears_9 : decode cX6_bears 9 = .ok (.iload_n 1, 1) := by decide +kernel
theorem dX6_bears_10 : decode cX6_bears 10 = .ok (.invokevirtual 97, 3) := by decide +kernel
theorem dX6_bears_13 : decode cX6_bears 13 = .ok (.ifCond .eq 7, 3) := by decide +kernel
theorem dX6_bears_16 : decode cX6_bears 16 = .ok (.iconst 1, 1) := by decide +kernel
theorem dX6_bears_17 : decode cX6_bears 17 = .ok (.goto 4, 3) := by decide +kernel
theorem dX6_bears_20 : decode cX6_bears 20 = .ok (.iconst 0, 1) := by decide +kernel
theorem dX6_bears_21 : decode cX6_bears 21 = .ok (.ireturn, 1) := by decide +kernel
theorem dX6_cut_0 : decode cX6_cut 0 = .ok (.aload_n 0, 1) := by decide +kernel
theorem dX6_cut_1 : decode cX6_cut 1 = .ok (.iload_n 1, 1) := by decide +kernel
theorem dX6_cut_2 : decode cX6_cut 2 = .ok (.invokevirtual 94, 3) := by decide +kernel
theorem dX6_cut_5 : decode cX6_cut 5 = .ok (.ifCond .ne 86, 3) := by decide +kernel
theorem dX6_cut_8 : decode cX6_cut 8 = .ok (.aload_n 0, 1) := by decide +kernel
theorem dX6_cut_9 : decode cX6_cut 9 = .ok (.iload_n 2, 1) := by decide +kernel
theorem dX6_cut_10 : decode cX6_cut 10 = .ok (.i2l, 1) := by decide +kernel
theorem dX6_cut_11 : decode cX6_cut 11 = .ok (.lconst 1, 1) := by decide +kernel
theorem dX6_cut_12 : decode cX6_cut 12 = .ok (.ldc2_w 44, 3) := by decide +kernel
theorem dX6_cut_15 : decode cX6_cut 15 = .ok (.invokestatic 46, 3) := by decide +kernel
theorem dX6_cut_18 : decode cX6_cut 18 = .ok (.ifCond .ne 7, 3) := by decide +kernel
theorem dX6_cut_21 : decode cX6_cut 21 = .ok (.iconst 1, 1) := by decide +kernel
theorem dX6_cut_22 : decode cX6_cut 22 = .ok (.goto 63, 3) := by decide +kernel
theorem dX6_cut_25 : decode cX6_cut 25 = .ok (.aload_n 0, 1) := by decide +kernel
theorem dX6_cut_26 : decode cX6_cut 26 = .ok (.getfield 19, 3) := by decide +kernel
theorem dX6_cut_29 : decode cX6_cut 29 = .ok (.iload_n 1, 1) := by decide +kernel
theorem dX6_cut_30 : decode cX6_cut 30 = .ok (.iaload, 1) := by decide +kernel
theorem dX6_cut_31 : decode cX6_cut 31 = .ok (.sipush 300, 3) := by decide +kernel
theorem dX6_cut_34 : decode cX6_cut 34 = .ok (.if_icmp .lt 21, 3) := by decide +kernel
theorem dX6_cut_37 : decode cX6_cut 37 = .ok (.aload_n 0, 1) := by decide +kernel
theorem dX6_cut_38 : decode cX6_cut 38 = .ok (.getfield 25, 3) := by decide +kernel
theorem dX6_cut_41 : decode cX6_cut 41 = .ok (.iload_n 1, 1) := by decide +kernel
theorem dX6_cut_42 : decode cX6_cut 42 = .ok (.iaload, 1) := by decide +kernel
theorem dX6_cut_43 : decode cX6_cut 43 = .ok (.iload_n 2, 1) := by decide +kernel
theorem dX6_cut_44 : decode cX6_cut 44 = .ok (.if_icmp .lt 11, 3) := by decide +kernel
theorem dX6_cut_47 : decode cX6_cut 47 = .ok (.aload_n 0, 1) := by decide +kernel
theorem dX6_cut_48 : decode cX6_cut 48 = .ok (.iload_n 1, 1) := by decide +kernel
theorem dX6_cut_49 : decode cX6_cut 49 = .ok (.invokevirtual 97, 3) := by decide +kernel
theorem dX6_cut_52 : decode cX6_cut 52 = .ok (.ifCond .ne 7, 3) := by decide +kernel
theorem dX6_cut_55 : decode cX6_cut 55 = .ok (.iconst 2, 1) := by decide +kernel
theorem dX6_cut_56 : decode cX6_cut 56 = .ok (.goto 29, 3) := by decide +kernel
theorem dX6_cut_59 : decode cX6_cut 59 = .ok (.aload_n 0, 1) := by decide +kernel
theorem dX6_cut_60 : decode cX6_cut 60 = .ok (.getfield 28, 3) := by decide +kernel
theorem dX6_cut_63 : decode cX6_cut 63 = .ok (.iconst 0, 1) := by decide +kernel
theorem dX6_cut_64 : decode cX6_cut 64 = .ok (.iaload, 1) := by decide +kernel
theorem dX6_cut_65 : decode cX6_cut 65 = .ok (.aload_n 0, 1) := by decide +kernel

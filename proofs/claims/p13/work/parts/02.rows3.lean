theorem dX6_take_2 : decode cX6_take 2 = .ok (.iload_n 2, 1) := by decide +kernel
theorem dX6_take_3 : decode cX6_take 3 = .ok (.iload_n 3, 1) := by decide +kernel
theorem dX6_take_4 : decode cX6_take 4 = .ok (.invokevirtual 179, 3) := by decide +kernel
theorem dX6_take_7 : decode cX6_take 7 = .ok (.ifCond .eq 5, 3) := by decide +kernel
theorem dX6_take_10 : decode cX6_take 10 = .ok (.iconst 0, 1) := by decide +kernel
theorem dX6_take_11 : decode cX6_take 11 = .ok (.ireturn, 1) := by decide +kernel
theorem dX6_take_12 : decode cX6_take 12 = .ok (.aload_n 0, 1) := by decide +kernel
theorem dX6_take_13 : decode cX6_take 13 = .ok (.getfield 34, 3) := by decide +kernel
theorem dX6_take_16 : decode cX6_take 16 = .ok (.iload_n 1, 1) := by decide +kernel
theorem dX6_take_17 : decode cX6_take 17 = .ok (.invokeinterface 149 2, 5) := by decide +kernel
theorem dX6_take_22 : decode cX6_take 22 = .ok (.checkcast 125, 3) := by decide +kernel
theorem dX6_take_25 : decode cX6_take 25 = .ok (.astore 4, 2) := by decide +kernel
theorem dX6_take_27 : decode cX6_take 27 = .ok (.aload 4, 2) := by decide +kernel
theorem dX6_take_29 : decode cX6_take 29 = .ok (.getfield 160, 3) := by decide +kernel
theorem dX6_take_32 : decode cX6_take 32 = .ok (.iload_n 3, 1) := by decide +kernel
theorem dX6_take_33 : decode cX6_take 33 = .ok (.aaload, 1) := by decide +kernel
theorem dX6_take_34 : decode cX6_take 34 = .ok (.iload_n 2, 1) := by decide +kernel
theorem dX6_take_35 : decode cX6_take 35 = .ok (.aaload, 1) := by decide +kernel
theorem dX6_take_36 : decode cX6_take 36 = .ok (.astore 5, 2) := by decide +kernel
theorem dX6_take_38 : decode cX6_take 38 = .ok (.aload 4, 2) := by decide +kernel
theorem dX6_take_40 : decode cX6_take 40 = .ok (.getfield 160, 3) := by decide +kernel
theorem dX6_take_43 : decode cX6_take 43 = .ok (.iload_n 3, 1) := by decide +kernel
theorem dX6_take_44 : decode cX6_take 44 = .ok (.aaload, 1) := by decide +kernel
theorem dX6_take_45 : decode cX6_take 45 = .ok (.iload_n 2, 1) := by decide +kernel
theorem dX6_take_46 : decode cX6_take 46 = .ok (.aconst_null, 1) := by decide +kernel
theorem dX6_take_47 : decode cX6_take 47 = .ok (.aastore, 1) := by decide +kernel
theorem dX6_take_48 : decode cX6_take 48 = .ok (.iconst 0, 1) := by decide +kernel
theorem dX6_take_49 : decode cX6_take 49 = .ok (.istore 6, 2) := by decide +kernel
theorem dX6_take_51 : decode cX6_take 51 = .ok (.aload 4, 2) := by decide +kernel
theorem dX6_take_53 : decode cX6_take 53 = .ok (.aload_n 0, 1) := by decide +kernel
theorem dX6_take_54 : decode cX6_take 54 = .ok (.aload_n 0, 1) := by decide +kernel
theorem dX6_take_55 : decode cX6_take 55 = .ok (.getfield 58, 3) := by decide +kernel
theorem dX6_take_58 : decode cX6_take 58 = .ok (.invokevirtual 67, 3) := by decide +kernel
theorem dX6_take_61 : decode cX6_take 61 = .ok (.invokevirtual 268, 3) := by decide +kernel
theorem dX6_take_64 : decode cX6_take 64 = .ok (.astore 7, 2) := by decide +kernel
theorem dX6_take_66 : decode cX6_take 66 = .ok (.aload 7, 2) := by decide +kernel
theorem dX6_take_68 : decode cX6_take 68 = .ok (.arraylength, 1) := by decide +kernel
theorem dX6_take_69 : decode cX6_take 69 = .ok (.istore 8, 2) := by decide +kernel
theorem dX6_take_71 : decode cX6_take 71 = .ok (.iconst 0, 1) := by decide +kernel
theorem dX6_take_72 : decode cX6_take 72 = .ok (.istore 9, 2) := by decide +kernel
theorem dX6_take_74 : decode cX6_take 74 = .ok (.iload 9, 2) := by decide +kernel
theorem dX6_take_76 : decode cX6_take 76 = .ok (.iload 8, 2) := by decide +kernel
theorem dX6_take_78 : decode cX6_take 78 = .ok (.if_icmp .ge 55, 3) := by decide +kernel
theorem dX6_take_81 : decode cX6_take 81 = .ok (.aload 7, 2) := by decide +kernel
theorem dX6_take_83 : decode cX6_take 83 = .ok (.iload 9, 2) := by decide +kernel
theorem dX6_take_85 : decode cX6_take 85 = .ok (.aaload, 1) := by decide +kernel
theorem dX6_take_86 : decode cX6_take 86 = .ok (.astore 10, 2) := by decide +kernel
theorem dX6_take_88 : decode cX6_take 88 = .ok (.aload 10, 2) := by decide +kernel
theorem dX6_take_90 : decode cX6_take 90 = .ok (.astore 11, 2) := by decide +kernel
theorem dX6_take_92 : decode cX6_take 92 = .ok (.aload 11, 2) := by decide +kernel
theorem dX6_take_94 : decode cX6_take 94 = .ok (.arraylength, 1) := by decide +kernel
theorem dX6_take_95 : decode cX6_take 95 = .ok (.istore 12, 2) := by decide +kernel
theorem dX6_take_97 : decode cX6_take 97 = .ok (.iconst 0, 1) := by decide +kernel
theorem dX6_take_98 : decode cX6_take 98 = .ok (.istore 13, 2) := by decide +kernel
theorem dX6_take_100 : decode cX6_take 100 = .ok (.iload 13, 2) := by decide +kernel
theorem dX6_take_102 : decode cX6_take 102 = .ok (.iload 12, 2) := by decide +kernel
theorem dX6_take_104 : decode cX6_take 104 = .ok (.if_icmp .ge 23, 3) := by decide +kernel
theorem dX6_take_107 : decode cX6_take 107 = .ok (.aload 11, 2) := by decide +kernel
theorem dX6_take_109 : decode cX6_take 109 = .ok (.iload 13, 2) := by decide +kernel
theorem dX6_take_111 : decode cX6_take 111 = .ok (.baload, 1) := by decide +kernel
theorem dX6_take_112 : decode cX6_take 112 = .ok (.istore 14, 2) := by decide +kernel
theorem dX6_take_114 : decode cX6_take 114 = .ok (.iload 6, 2) := by decide +kernel
theorem dX6_take_116 : decode cX6_take 116 = .ok (.iload 14, 2) := by decide +kernel
theorem dX6_take_118 : decode cX6_take 118 = .ok (.ior, 1) := by decide +kernel
theorem dX6_take_119 : decode cX6_take 119 = .ok (.istore 6, 2) := by decide +kernel
theorem dX6_take_121 : decode cX6_take 121 = .ok (.iinc 13 1, 3) := by decide +kernel
theorem dX6_take_124 : decode cX6_take 124 = .ok (.goto (-24), 3) := by decide +kernel
theorem dX6_take_127 : decode cX6_take 127 = .ok (.iinc 9 1, 3) := by decide +kernel
theorem dX6_take_130 : decode cX6_take 130 = .ok (.goto (-56), 3) := by decide +kernel
theorem dX6_take_133 : decode cX6_take 133 = .ok (.iload 6, 2) := by decide +kernel
theorem dX6_take_135 : decode cX6_take 135 = .ok (.ifCond .eq 14, 3) := by decide +kernel
theorem dX6_take_138 : decode cX6_take 138 = .ok (.aload 4, 2) := by decide +kernel
theorem dX6_take_140 : decode cX6_take 140 = .ok (.getfield 160, 3) := by decide +kernel
theorem dX6_take_143 : decode cX6_take 143 = .ok (.iload_n 3, 1) := by decide +kernel
theorem dX6_take_144 : decode cX6_take 144 = .ok (.aaload, 1) := by decide +kernel
theorem dX6_take_145 : decode cX6_take 145 = .ok (.iload_n 2, 1) := by decide +kernel
theorem dX6_take_146 : decode cX6_take 146 = .ok (.aload 5, 2) := by decide +kernel
theorem dX6_take_148 : decode cX6_take 148 = .ok (.aastore, 1) := by decide +kernel
theorem dX6_take_149 : decode cX6_take 149 = .ok (.aload_n 0, 1) := by decide +kernel
theorem dX6_take_150 : decode cX6_take 150 = .ok (.iload 6, 2) := by decide +kernel
theorem dX6_take_152 : decode cX6_take 152 = .ok (.ifCond .eq 7, 3) := by decide +kernel
theorem dX6_take_155 : decode cX6_take 155 = .ok (.iconst 3, 1) := by decide +kernel
theorem dX6_take_156 : decode cX6_take 156 = .ok (.goto 4, 3) := by decide +kernel
theorem dX6_take_159 : decode cX6_take 159 = .ok (.iconst 0, 1) := by decide +kernel
theorem dX6_take_160 : decode cX6_take 160 = .ok (.invokevirtual 61, 3) := by decide +kernel
theorem dX6_take_163 : decode cX6_take 163 = .ok (.ifCond .eq 7, 3) := by decide +kernel
theorem dX6_take_166 : decode cX6_take 166 = .ok (.iconst 0, 1) := by decide +kernel
theorem dX6_take_167 : decode cX6_take 167 = .ok (.goto 8, 3) := by decide +kernel
theorem dX6_take_170 : decode cX6_take 170 = .ok (.aload 5, 2) := by decide +kernel
theorem dX6_take_172 : decode cX6_take 172 = .ok (.getfield 182, 3) := by decide +kernel
theorem dX6_take_175 : decode cX6_take 175 = .ok (.ireturn, 1) := by decide +kernel
theorem dX6_money_0 : decode cX6_money 0 = .ok (.aload_n 0, 1) := by decide +kernel
theorem dX6_money_1 : decode cX6_money 1 = .ok (.iconst 0, 1) := by decide +kernel
theorem dX6_money_2 : decode cX6_money 2 = .ok (.putfield 1, 3) := by decide +kernel
theorem dX6_money_5 : decode cX6_money 5 = .ok (.aload_n 0, 1) := by decide +kernel
theorem dX6_money_6 : decode cX6_money 6 = .ok (.getfield 100, 3) := by decide +kernel
theorem dX6_money_9 : decode cX6_money 9 = .ok (.ireturn, 1) := by decide +kernel
theorem dX6_count_0 : decode cX6_count 0 = .ok (.aload_n 0, 1) := by decide +kernel
theorem dX6_count_1 : decode cX6_count 1 = .ok (.iload_n 1, 1) := by decide +kernel
theorem dX6_count_2 : decode cX6_count 2 = .ok (.invokevirtual 202, 3) := by decide +kernel
theorem dX6_count_5 : decode cX6_count 5 = .ok (.ifCond .eq 7, 3) := by decide +kernel
theorem dX6_count_8 : decode cX6_count 8 = .ok (.iconst 0, 1) := by decide +kernel
theorem dX6_count_9 : decode cX6_count 9 = .ok (.goto 19, 3) := by decide +kernel
theorem dX6_count_12 : decode cX6_count 12 = .ok (.aload_n 0, 1) := by decide +kernel
theorem dX6_count_13 : decode cX6_count 13 = .ok (.getfield 34, 3) := by decide +kernel
theorem dX6_count_16 : decode cX6_count 16 = .ok (.iload_n 1, 1) := by decide +kernel
theorem dX6_count_17 : decode cX6_count 17 = .ok (.invokeinterface 149 2, 5) := by decide +kernel
theorem dX6_count_22 : decode cX6_count 22 = .ok (.checkcast 125, 3) := by decide +kernel
theorem dX6_count_25 : decode cX6_count 25 = .ok (.invokevirtual 172, 3) := by decide +kernel
theorem dX6_count_28 : decode cX6_count 28 = .ok (.ireturn, 1) := by decide +kernel
theorem dX6_openShare_0 : decode cX6_openShare 0 = .ok (.iconst 0, 1) := by decide +kernel
theorem dX6_openShare_1 : decode cX6_openShare 1 = .ok (.istore_n 1, 1) := by decide +kernel
theorem dX6_openShare_2 : decode cX6_openShare 2 = .ok (.aload_n 0, 1) := by decide +kernel
theorem dX6_openShare_3 : decode cX6_openShare 3 = .ok (.getfield 34, 3) := by decide +kernel
theorem dX6_openShare_6 : decode cX6_openShare 6 = .ok (.invokeinterface 109 1, 5) := by decide +kernel
theorem dX6_openShare_11 : decode cX6_openShare 11 = .ok (.astore_n 2, 1) := by decide +kernel
theorem dX6_openShare_12 : decode cX6_openShare 12 = .ok (.aload_n 2, 1) := by decide +kernel
theorem dX6_openShare_13 : decode cX6_openShare 13 = .ok (.invokeinterface 115 1, 5) := by decide +kernel
theorem dX6_openShare_18 : decode cX6_openShare 18 = .ok (.ifCond .eq 33, 3) := by decide +kernel
theorem dX6_openShare_21 : decode cX6_openShare 21 = .ok (.aload_n 2, 1) := by decide +kernel
theorem dX6_openShare_22 : decode cX6_openShare 22 = .ok (.invokeinterface 121 1, 5) := by decide +kernel
theorem dX6_openShare_27 : decode cX6_openShare 27 = .ok (.checkcast 125, 3) := by decide +kernel
theorem dX6_openShare_30 : decode cX6_openShare 30 = .ok (.astore_n 3, 1) := by decide +kernel
theorem dX6_openShare_31 : decode cX6_openShare 31 = .ok (.iload_n 1, 1) := by decide +kernel
theorem dX6_openShare_32 : decode cX6_openShare 32 = .ok (.aload_n 3, 1) := by decide +kernel
theorem dX6_openShare_33 : decode cX6_openShare 33 = .ok (.iconst (-1), 1) := by decide +kernel
theorem dX6_openShare_34 : decode cX6_openShare 34 = .ok (.iconst 0, 1) := by decide +kernel
theorem dX6_openShare_35 : decode cX6_openShare 35 = .ok (.invokevirtual 227, 3) := by decide +kernel
theorem dX6_openShare_38 : decode cX6_openShare 38 = .ok (.ifCond .eq 7, 3) := by decide +kernel
theorem dX6_openShare_41 : decode cX6_openShare 41 = .ok (.iconst 1, 1) := by decide +kernel
theorem dX6_openShare_42 : decode cX6_openShare 42 = .ok (.goto 4, 3) := by decide +kernel
theorem dX6_openShare_45 : decode cX6_openShare 45 = .ok (.iconst 0, 1) := by decide +kernel
theorem dX6_openShare_46 : decode cX6_openShare 46 = .ok (.iadd, 1) := by decide +kernel
theorem dX6_openShare_47 : decode cX6_openShare 47 = .ok (.istore_n 1, 1) := by decide +kernel
theorem dX6_openShare_48 : decode cX6_openShare 48 = .ok (.goto (-36), 3) := by decide +kernel
theorem dX6_openShare_51 : decode cX6_openShare 51 = .ok (.aload_n 0, 1) := by decide +kernel
theorem dX6_openShare_52 : decode cX6_openShare 52 = .ok (.aload_n 0, 1) := by decide +kernel
theorem dX6_openShare_53 : decode cX6_openShare 53 = .ok (.getfield 34, 3) := by decide +kernel
theorem dX6_openShare_56 : decode cX6_openShare 56 = .ok (.invokeinterface 272 1, 5) := by decide +kernel
theorem dX6_openShare_61 : decode cX6_openShare 61 = .ok (.ifCond .eq 7, 3) := by decide +kernel
theorem dX6_openShare_64 : decode cX6_openShare 64 = .ok (.iconst 1, 1) := by decide +kernel
theorem dX6_openShare_65 : decode cX6_openShare 65 = .ok (.goto 4, 3) := by decide +kernel
theorem dX6_openShare_68 : decode cX6_openShare 68 = .ok (.iconst 0, 1) := by decide +kernel
theorem dX6_openShare_69 : decode cX6_openShare 69 = .ok (.invokevirtual 61, 3) := by decide +kernel
theorem dX6_openShare_72 : decode cX6_openShare 72 = .ok (.ifCond .eq 7, 3) := by decide +kernel
theorem dX6_openShare_75 : decode cX6_openShare 75 = .ok (.fconst 0, 1) := by decide +kernel
theorem dX6_openShare_76 : decode cX6_openShare 76 = .ok (.goto 16, 3) := by decide +kernel
theorem dX6_openShare_79 : decode cX6_openShare 79 = .ok (.iload_n 1, 1) := by decide +kernel
theorem dX6_openShare_80 : decode cX6_openShare 80 = .ok (.i2f, 1) := by decide +kernel
theorem dX6_openShare_81 : decode cX6_openShare 81 = .ok (.aload_n 0, 1) := by decide +kernel
theorem dX6_openShare_82 : decode cX6_openShare 82 = .ok (.getfield 34, 3) := by decide +kernel
theorem dX6_openShare_85 : decode cX6_openShare 85 = .ok (.invokeinterface 130 1, 5) := by decide +kernel
theorem dX6_openShare_90 : decode cX6_openShare 90 = .ok (.i2f, 1) := by decide +kernel
theorem dX6_openShare_91 : decode cX6_openShare 91 = .ok (.fdiv, 1) := by decide +kernel
theorem dX6_openShare_92 : decode cX6_openShare 92 = .ok (.freturn, 1) := by decide +kernel
theorem dX6_meanCreep_0 : decode cX6_meanCreep 0 = .ok (.aload_n 0, 1) := by decide +kernel
theorem dX6_meanCreep_1 : decode cX6_meanCreep 1 = .ok (.iload_n 1, 1) := by decide +kernel
theorem dX6_meanCreep_2 : decode cX6_meanCreep 2 = .ok (.invokevirtual 202, 3) := by decide +kernel
theorem dX6_meanCreep_5 : decode cX6_meanCreep 5 = .ok (.ifCond .eq 5, 3) := by decide +kernel
theorem dX6_meanCreep_8 : decode cX6_meanCreep 8 = .ok (.dconst 0, 1) := by decide +kernel
theorem dX6_meanCreep_9 : decode cX6_meanCreep 9 = .ok (.dreturn, 1) := by decide +kernel
theorem dX6_meanCreep_10 : decode cX6_meanCreep 10 = .ok (.iconst 0, 1) := by decide +kernel
theorem dX6_meanCreep_11 : decode cX6_meanCreep 11 = .ok (.istore_n 2, 1) := by decide +kernel
theorem dX6_meanCreep_12 : decode cX6_meanCreep 12 = .ok (.aload_n 0, 1) := by decide +kernel
theorem dX6_meanCreep_13 : decode cX6_meanCreep 13 = .ok (.getfield 34, 3) := by decide +kernel
theorem dX6_meanCreep_16 : decode cX6_meanCreep 16 = .ok (.iload_n 1, 1) := by decide +kernel
theorem dX6_meanCreep_17 : decode cX6_meanCreep 17 = .ok (.invokeinterface 149 2, 5) := by decide +kernel
theorem dX6_meanCreep_22 : decode cX6_meanCreep 22 = .ok (.checkcast 125, 3) := by decide +kernel
theorem dX6_meanCreep_25 : decode cX6_meanCreep 25 = .ok (.getfield 160, 3) := by decide +kernel
theorem dX6_meanCreep_28 : decode cX6_meanCreep 28 = .ok (.astore_n 3, 1) := by decide +kernel
theorem dX6_meanCreep_29 : decode cX6_meanCreep 29 = .ok (.aload_n 3, 1) := by decide +kernel
theorem dX6_meanCreep_30 : decode cX6_meanCreep 30 = .ok (.arraylength, 1) := by decide +kernel
theorem dX6_meanCreep_31 : decode cX6_meanCreep 31 = .ok (.istore 4, 2) := by decide +kernel
theorem dX6_meanCreep_33 : decode cX6_meanCreep 33 = .ok (.iconst 0, 1) := by decide +kernel
theorem dX6_meanCreep_34 : decode cX6_meanCreep 34 = .ok (.istore 5, 2) := by decide +kernel
theorem dX6_meanCreep_36 : decode cX6_meanCreep 36 = .ok (.iload 5, 2) := by decide +kernel
theorem dX6_meanCreep_38 : decode cX6_meanCreep 38 = .ok (.iload 4, 2) := by decide +kernel
theorem dX6_meanCreep_40 : decode cX6_meanCreep 40 = .ok (.if_icmp .ge 64, 3) := by decide +kernel
theorem dX6_meanCreep_43 : decode cX6_meanCreep 43 = .ok (.aload_n 3, 1) := by decide +kernel
theorem dX6_meanCreep_44 : decode cX6_meanCreep 44 = .ok (.iload 5, 2) := by decide +kernel
theorem dX6_meanCreep_46 : decode cX6_meanCreep 46 = .ok (.aaload, 1) := by decide +kernel
theorem dX6_meanCreep_47 : decode cX6_meanCreep 47 = .ok (.astore 6, 2) := by decide +kernel
theorem dX6_meanCreep_49 : decode cX6_meanCreep 49 = .ok (.aload 6, 2) := by decide +kernel
theorem dX6_meanCreep_51 : decode cX6_meanCreep 51 = .ok (.astore 7, 2) := by decide +kernel
theorem dX6_meanCreep_53 : decode cX6_meanCreep 53 = .ok (.aload 7, 2) := by decide +kernel
theorem dX6_meanCreep_55 : decode cX6_meanCreep 55 = .ok (.arraylength, 1) := by decide +kernel
theorem dX6_meanCreep_56 : decode cX6_meanCreep 56 = .ok (.istore 8, 2) := by decide +kernel
theorem dX6_meanCreep_58 : decode cX6_meanCreep 58 = .ok (.iconst 0, 1) := by decide +kernel
theorem dX6_meanCreep_59 : decode cX6_meanCreep 59 = .ok (.istore 9, 2) := by decide +kernel
theorem dX6_meanCreep_61 : decode cX6_meanCreep 61 = .ok (.iload 9, 2) := by decide +kernel
theorem dX6_meanCreep_63 : decode cX6_meanCreep 63 = .ok (.iload 8, 2) := by decide +kernel
theorem dX6_meanCreep_65 : decode cX6_meanCreep 65 = .ok (.if_icmp .ge 33, 3) := by decide +kernel
theorem dX6_meanCreep_68 : decode cX6_meanCreep 68 = .ok (.aload 7, 2) := by decide +kernel
theorem dX6_meanCreep_70 : decode cX6_meanCreep 70 = .ok (.iload 9, 2) := by decide +kernel
theorem dX6_meanCreep_72 : decode cX6_meanCreep 72 = .ok (.aaload, 1) := by decide +kernel
theorem dX6_meanCreep_73 : decode cX6_meanCreep 73 = .ok (.astore 10, 2) := by decide +kernel
theorem dX6_meanCreep_75 : decode cX6_meanCreep 75 = .ok (.iload_n 2, 1) := by decide +kernel
theorem dX6_meanCreep_76 : decode cX6_meanCreep 76 = .ok (.aload 10, 2) := by decide +kernel
theorem dX6_meanCreep_78 : decode cX6_meanCreep 78 = .ok (.ifnonnull 7, 3) := by decide +kernel
theorem dX6_meanCreep_81 : decode cX6_meanCreep 81 = .ok (.iconst 0, 1) := by decide +kernel
theorem dX6_meanCreep_82 : decode cX6_meanCreep 82 = .ok (.goto 8, 3) := by decide +kernel
theorem dX6_meanCreep_85 : decode cX6_meanCreep 85 = .ok (.aload 10, 2) := by decide +kernel
theorem dX6_meanCreep_87 : decode cX6_meanCreep 87 = .ok (.getfield 193, 3) := by decide +kernel
theorem dX6_meanCreep_90 : decode cX6_meanCreep 90 = .ok (.iadd, 1) := by decide +kernel
theorem dX6_meanCreep_91 : decode cX6_meanCreep 91 = .ok (.istore_n 2, 1) := by decide +kernel
theorem dX6_meanCreep_92 : decode cX6_meanCreep 92 = .ok (.iinc 9 1, 3) := by decide +kernel
theorem dX6_meanCreep_95 : decode cX6_meanCreep 95 = .ok (.goto (-34), 3) := by decide +kernel
theorem dX6_meanCreep_98 : decode cX6_meanCreep 98 = .ok (.iinc 5 1, 3) := by decide +kernel
theorem dX6_meanCreep_101 : decode cX6_meanCreep 101 = .ok (.goto (-65), 3) := by decide +kernel
theorem dX6_meanCreep_104 : decode cX6_meanCreep 104 = .ok (.aload_n 0, 1) := by decide +kernel
theorem dX6_meanCreep_105 : decode cX6_meanCreep 105 = .ok (.getfield 34, 3) := by decide +kernel
theorem dX6_meanCreep_108 : decode cX6_meanCreep 108 = .ok (.iload_n 1, 1) := by decide +kernel
theorem dX6_meanCreep_109 : decode cX6_meanCreep 109 = .ok (.invokeinterface 149 2, 5) := by decide +kernel
theorem dX6_meanCreep_114 : decode cX6_meanCreep 114 = .ok (.checkcast 125, 3) := by decide +kernel
theorem dX6_meanCreep_117 : decode cX6_meanCreep 117 = .ok (.invokevirtual 172, 3) := by decide +kernel
theorem dX6_meanCreep_120 : decode cX6_meanCreep 120 = .ok (.istore_n 3, 1) := by decide +kernel
theorem dX6_meanCreep_121 : decode cX6_meanCreep 121 = .ok (.aload_n 0, 1) := by decide +kernel
theorem dX6_meanCreep_122 : decode cX6_meanCreep 122 = .ok (.iload_n 3, 1) := by decide +kernel
theorem dX6_meanCreep_123 : decode cX6_meanCreep 123 = .ok (.ifCond .ne 7, 3) := by decide +kernel
theorem dX6_meanCreep_126 : decode cX6_meanCreep 126 = .ok (.iconst 2, 1) := by decide +kernel
theorem dX6_meanCreep_127 : decode cX6_meanCreep 127 = .ok (.goto 4, 3) := by decide +kernel
theorem dX6_meanCreep_130 : decode cX6_meanCreep 130 = .ok (.iconst 0, 1) := by decide +kernel
theorem dX6_meanCreep_131 : decode cX6_meanCreep 131 = .ok (.invokevirtual 61, 3) := by decide +kernel
theorem dX6_meanCreep_134 : decode cX6_meanCreep 134 = .ok (.ifCond .eq 7, 3) := by decide +kernel
theorem dX6_meanCreep_137 : decode cX6_meanCreep 137 = .ok (.dconst 0, 1) := by decide +kernel
theorem dX6_meanCreep_138 : decode cX6_meanCreep 138 = .ok (.goto 8, 3) := by decide +kernel
theorem dX6_meanCreep_141 : decode cX6_meanCreep 141 = .ok (.iload_n 2, 1) := by decide +kernel
theorem dX6_meanCreep_142 : decode cX6_meanCreep 142 = .ok (.i2d, 1) := by decide +kernel
theorem dX6_meanCreep_143 : decode cX6_meanCreep 143 = .ok (.iload_n 3, 1) := by decide +kernel
theorem dX6_meanCreep_144 : decode cX6_meanCreep 144 = .ok (.i2d, 1) := by decide +kernel
theorem dX6_meanCreep_145 : decode cX6_meanCreep 145 = .ok (.ddiv, 1) := by decide +kernel
theorem dX6_meanCreep_146 : decode cX6_meanCreep 146 = .ok (.dreturn, 1) := by decide +kernel
theorem dX6_checksum_0 : decode cX6_checksum 0 = .ok (.aload_n 0, 1) := by decide +kernel
theorem dX6_checksum_1 : decode cX6_checksum 1 = .ok (.iconst 0, 1) := by decide +kernel
theorem dX6_checksum_2 : decode cX6_checksum 2 = .ok (.putfield 1, 3) := by decide +kernel
theorem dX6_checksum_5 : decode cX6_checksum 5 = .ok (.ldc2_w 141, 3) := by decide +kernel
theorem dX6_checksum_8 : decode cX6_checksum 8 = .ok (.lstore_n 1, 1) := by decide +kernel
theorem dX6_checksum_9 : decode cX6_checksum 9 = .ok (.aload_n 0, 1) := by decide +kernel
theorem dX6_checksum_10 : decode cX6_checksum 10 = .ok (.getfield 34, 3) := by decide +kernel
theorem dX6_checksum_13 : decode cX6_checksum 13 = .ok (.invokeinterface 109 1, 5) := by decide +kernel
theorem dX6_checksum_18 : decode cX6_checksum 18 = .ok (.astore_n 3, 1) := by decide +kernel
theorem dX6_checksum_19 : decode cX6_checksum 19 = .ok (.aload_n 3, 1) := by decide +kernel
theorem dX6_checksum_20 : decode cX6_checksum 20 = .ok (.invokeinterface 115 1, 5) := by decide +kernel
theorem dX6_checksum_25 : decode cX6_checksum 25 = .ok (.ifCond .eq 112, 3) := by decide +kernel
theorem dX6_checksum_28 : decode cX6_checksum 28 = .ok (.aload_n 3, 1) := by decide +kernel
theorem dX6_checksum_29 : decode cX6_checksum 29 = .ok (.invokeinterface 121 1, 5) := by decide +kernel
theorem dX6_checksum_34 : decode cX6_checksum 34 = .ok (.checkcast 125, 3) := by decide +kernel
theorem dX6_checksum_37 : decode cX6_checksum 37 = .ok (.astore 4, 2) := by decide +kernel
theorem dX6_checksum_39 : decode cX6_checksum 39 = .ok (.aload 4, 2) := by decide +kernel
theorem dX6_checksum_41 : decode cX6_checksum 41 = .ok (.getfield 160, 3) := by decide +kernel
theorem dX6_checksum_44 : decode cX6_checksum 44 = .ok (.astore 5, 2) := by decide +kernel
theorem dX6_checksum_46 : decode cX6_checksum 46 = .ok (.aload 5, 2) := by decide +kernel
theorem dX6_checksum_48 : decode cX6_checksum 48 = .ok (.arraylength, 1) := by decide +kernel
theorem dX6_checksum_49 : decode cX6_checksum 49 = .ok (.istore 6, 2) := by decide +kernel
theorem dX6_checksum_51 : decode cX6_checksum 51 = .ok (.iconst 0, 1) := by decide +kernel
theorem dX6_checksum_52 : decode cX6_checksum 52 = .ok (.istore 7, 2) := by decide +kernel
theorem dX6_checksum_54 : decode cX6_checksum 54 = .ok (.iload 7, 2) := by decide +kernel
theorem dX6_checksum_56 : decode cX6_checksum 56 = .ok (.iload 6, 2) := by decide +kernel
theorem dX6_checksum_58 : decode cX6_checksum 58 = .ok (.if_icmp .ge 76, 3) := by decide +kernel
theorem dX6_checksum_61 : decode cX6_checksum 61 = .ok (.aload 5, 2) := by decide +kernel
theorem dX6_checksum_63 : decode cX6_checksum 63 = .ok (.iload 7, 2) := by decide +kernel
theorem dX6_checksum_65 : decode cX6_checksum 65 = .ok (.aaload, 1) := by decide +kernel
theorem dX6_checksum_66 : decode cX6_checksum 66 = .ok (.astore 8, 2) := by decide +kernel
theorem dX6_checksum_68 : decode cX6_checksum 68 = .ok (.aload 8, 2) := by decide +kernel
theorem dX6_checksum_70 : decode cX6_checksum 70 = .ok (.astore 9, 2) := by decide +kernel
theorem dX6_checksum_72 : decode cX6_checksum 72 = .ok (.aload 9, 2) := by decide +kernel
theorem dX6_checksum_74 : decode cX6_checksum 74 = .ok (.arraylength, 1) := by decide +kernel
theorem dX6_checksum_75 : decode cX6_checksum 75 = .ok (.istore 10, 2) := by decide +kernel
theorem dX6_checksum_77 : decode cX6_checksum 77 = .ok (.iconst 0, 1) := by decide +kernel
theorem dX6_checksum_78 : decode cX6_checksum 78 = .ok (.istore 11, 2) := by decide +kernel
theorem dX6_checksum_80 : decode cX6_checksum 80 = .ok (.iload 11, 2) := by decide +kernel
theorem dX6_checksum_82 : decode cX6_checksum 82 = .ok (.iload 10, 2) := by decide +kernel
theorem dX6_checksum_84 : decode cX6_checksum 84 = .ok (.if_icmp .ge 44, 3) := by decide +kernel
theorem dX6_checksum_87 : decode cX6_checksum 87 = .ok (.aload 9, 2) := by decide +kernel
theorem dX6_checksum_89 : decode cX6_checksum 89 = .ok (.iload 11, 2) := by decide +kernel
theorem dX6_checksum_91 : decode cX6_checksum 91 = .ok (.aaload, 1) := by decide +kernel
theorem dX6_checksum_92 : decode cX6_checksum 92 = .ok (.astore 12, 2) := by decide +kernel
theorem dX6_checksum_94 : decode cX6_checksum 94 = .ok (.ldc2_w 275, 3) := by decide +kernel
theorem dX6_checksum_97 : decode cX6_checksum 97 = .ok (.lload_n 1, 1) := by decide +kernel
theorem dX6_checksum_98 : decode cX6_checksum 98 = .ok (.lmul, 1) := by decide +kernel
theorem dX6_checksum_99 : decode cX6_checksum 99 = .ok (.aload 12, 2) := by decide +kernel
theorem dX6_checksum_101 : decode cX6_checksum 101 = .ok (.ifnonnull 7, 3) := by decide +kernel
theorem dX6_checksum_104 : decode cX6_checksum 104 = .ok (.iconst 0, 1) := by decide +kernel
theorem dX6_checksum_105 : decode cX6_checksum 105 = .ok (.goto 14, 3) := by decide +kernel
theorem dX6_checksum_108 : decode cX6_checksum 108 = .ok (.aload 12, 2) := by decide +kernel
theorem dX6_checksum_110 : decode cX6_checksum 110 = .ok (.getfield 182, 3) := by decide +kernel
theorem dX6_checksum_113 : decode cX6_checksum 113 = .ok (.aload 12, 2) := by decide +kernel
theorem dX6_checksum_115 : decode cX6_checksum 115 = .ok (.getfield 193, 3) := by decide +kernel
theorem dX6_checksum_118 : decode cX6_checksum 118 = .ok (.iadd, 1) := by decide +kernel
theorem dX6_checksum_119 : decode cX6_checksum 119 = .ok (.i2l, 1) := by decide +kernel
theorem dX6_checksum_120 : decode cX6_checksum 120 = .ok (.ladd, 1) := by decide +kernel
theorem dX6_checksum_121 : decode cX6_checksum 121 = .ok (.lstore_n 1, 1) := by decide +kernel
theorem dX6_checksum_122 : decode cX6_checksum 122 = .ok (.iinc 11 1, 3) := by decide +kernel
theorem dX6_checksum_125 : decode cX6_checksum 125 = .ok (.goto (-45), 3) := by decide +kernel
theorem dX6_checksum_128 : decode cX6_checksum 128 = .ok (.iinc 7 1, 3) := by decide +kernel
theorem dX6_checksum_131 : decode cX6_checksum 131 = .ok (.goto (-77), 3) := by decide +kernel
theorem dX6_checksum_134 : decode cX6_checksum 134 = .ok (.goto (-115), 3) := by decide +kernel
theorem dX6_checksum_137 : decode cX6_checksum 137 = .ok (.ldc2_w 275, 3) := by decide +kernel
theorem dX6_checksum_140 : decode cX6_checksum 140 = .ok (.ldc2_w 275, 3) := by decide +kernel
theorem dX6_checksum_143 : decode cX6_checksum 143 = .ok (.lload_n 1, 1) := by decide +kernel
theorem dX6_checksum_144 : decode cX6_checksum 144 = .ok (.lmul, 1) := by decide +kernel
theorem dX6_checksum_145 : decode cX6_checksum 145 = .ok (.aload_n 0, 1) := by decide +kernel
theorem dX6_checksum_146 : decode cX6_checksum 146 = .ok (.getfield 100, 3) := by decide +kernel
theorem dX6_checksum_149 : decode cX6_checksum 149 = .ok (.i2l, 1) := by decide +kernel
theorem dX6_checksum_150 : decode cX6_checksum 150 = .ok (.ladd, 1) := by decide +kernel
theorem dX6_checksum_151 : decode cX6_checksum 151 = .ok (.lmul, 1) := by decide +kernel
theorem dX6_checksum_152 : decode cX6_checksum 152 = .ok (.aload_n 0, 1) := by decide +kernel
theorem dX6_checksum_153 : decode cX6_checksum 153 = .ok (.getfield 89, 3) := by decide +kernel
theorem dX6_checksum_156 : decode cX6_checksum 156 = .ok (.i2l, 1) := by decide +kernel
theorem dX6_checksum_157 : decode cX6_checksum 157 = .ok (.ladd, 1) := by decide +kernel
theorem dX6_checksum_158 : decode cX6_checksum 158 = .ok (.lstore_n 1, 1) := by decide +kernel
theorem dX6_checksum_159 : decode cX6_checksum 159 = .ok (.aload_n 0, 1) := by decide +kernel
theorem dX6_checksum_160 : decode cX6_checksum 160 = .ok (.getfield 19, 3) := by decide +kernel
theorem dX6_checksum_163 : decode cX6_checksum 163 = .ok (.astore_n 3, 1) := by decide +kernel
theorem dX6_checksum_164 : decode cX6_checksum 164 = .ok (.aload_n 3, 1) := by decide +kernel
theorem dX6_checksum_165 : decode cX6_checksum 165 = .ok (.arraylength, 1) := by decide +kernel
theorem dX6_checksum_166 : decode cX6_checksum 166 = .ok (.istore 4, 2) := by decide +kernel
theorem dX6_checksum_168 : decode cX6_checksum 168 = .ok (.iconst 0, 1) := by decide +kernel
theorem dX6_checksum_169 : decode cX6_checksum 169 = .ok (.istore 5, 2) := by decide +kernel
theorem dX6_checksum_171 : decode cX6_checksum 171 = .ok (.iload 5, 2) := by decide +kernel
theorem dX6_checksum_173 : decode cX6_checksum 173 = .ok (.iload 4, 2) := by decide +kernel
theorem dX6_checksum_175 : decode cX6_checksum 175 = .ok (.if_icmp .ge 25, 3) := by decide +kernel
theorem dX6_checksum_178 : decode cX6_checksum 178 = .ok (.aload_n 3, 1) := by decide +kernel
theorem dX6_checksum_179 : decode cX6_checksum 179 = .ok (.iload 5, 2) := by decide +kernel
theorem dX6_checksum_181 : decode cX6_checksum 181 = .ok (.iaload, 1) := by decide +kernel
theorem dX6_checksum_182 : decode cX6_checksum 182 = .ok (.istore 6, 2) := by decide +kernel
theorem dX6_checksum_184 : decode cX6_checksum 184 = .ok (.ldc2_w 275, 3) := by decide +kernel
theorem dX6_checksum_187 : decode cX6_checksum 187 = .ok (.lload_n 1, 1) := by decide +kernel
theorem dX6_checksum_188 : decode cX6_checksum 188 = .ok (.lmul, 1) := by decide +kernel
theorem dX6_checksum_189 : decode cX6_checksum 189 = .ok (.iload 6, 2) := by decide +kernel
theorem dX6_checksum_191 : decode cX6_checksum 191 = .ok (.i2l, 1) := by decide +kernel
theorem dX6_checksum_192 : decode cX6_checksum 192 = .ok (.ladd, 1) := by decide +kernel
theorem dX6_checksum_193 : decode cX6_checksum 193 = .ok (.lstore_n 1, 1) := by decide +kernel
theorem dX6_checksum_194 : decode cX6_checksum 194 = .ok (.iinc 5 1, 3) := by decide +kernel
theorem dX6_checksum_197 : decode cX6_checksum 197 = .ok (.goto (-26), 3) := by decide +kernel
theorem dX6_checksum_200 : decode cX6_checksum 200 = .ok (.lload_n 1, 1) := by decide +kernel
theorem dX6_checksum_201 : decode cX6_checksum 201 = .ok (.lreturn, 1) := by decide +kernel
theorem dX6_isSound_0 : decode cX6_isSound 0 = .ok (.aload_n 0, 1) := by decide +kernel
theorem dX6_isSound_1 : decode cX6_isSound 1 = .ok (.iconst 0, 1) := by decide +kernel
theorem dX6_isSound_2 : decode cX6_isSound 2 = .ok (.putfield 1, 3) := by decide +kernel
theorem dX6_isSound_5 : decode cX6_isSound 5 = .ok (.iconst 1, 1) := by decide +kernel
theorem dX6_isSound_6 : decode cX6_isSound 6 = .ok (.ireturn, 1) := by decide +kernel
theorem dJxe99ae_isNaN_b9ae7_0 : decode cJxe99ae_isNaN_b9ae7 0 = .ok (.dload_n 0, 1) := by decide +kernel
theorem dJxe99ae_isNaN_b9ae7_1 : decode cJxe99ae_isNaN_b9ae7 1 = .ok (.dload_n 0, 1) := by decide +kernel
theorem dJxe99ae_isNaN_b9ae7_2 : decode cJxe99ae_isNaN_b9ae7 2 = .ok (.dcmp .l, 1) := by decide +kernel
theorem dJxe99ae_isNaN_b9ae7_3 : decode cJxe99ae_isNaN_b9ae7 3 = .ok (.ifCond .eq 7, 3) := by decide +kernel
theorem dJxe99ae_isNaN_b9ae7_6 : decode cJxe99ae_isNaN_b9ae7 6 = .ok (.iconst 1, 1) := by decide +kernel
theorem dJxe99ae_isNaN_b9ae7_7 : decode cJxe99ae_isNaN_b9ae7 7 = .ok (.goto 4, 3) := by decide +kernel
theorem dJxe99ae_isNaN_b9ae7_10 : decode cJxe99ae_isNaN_b9ae7 10 = .ok (.iconst 0, 1) := by decide +kernel
theorem dJxe99ae_isNaN_b9ae7_11 : decode cJxe99ae_isNaN_b9ae7 11 = .ok (.ireturn, 1) := by decide +kernel
theorem dJxe99ae_doubleToLongBits_ccdee_0 : decode cJxe99ae_doubleToLongBits_ccdee 0 = .ok (.dload_n 0, 1) := by decide +kernel
theorem dJxe99ae_doubleToLongBits_ccdee_1 : decode cJxe99ae_doubleToLongBits_ccdee 1 = .ok (.invokestatic 122, 3) := by decide +kernel
theorem dJxe99ae_doubleToLongBits_ccdee_4 : decode cJxe99ae_doubleToLongBits_ccdee 4 = .ok (.ifCond .ne 8, 3) := by decide +kernel
theorem dJxe99ae_doubleToLongBits_ccdee_7 : decode cJxe99ae_doubleToLongBits_ccdee 7 = .ok (.dload_n 0, 1) := by decide +kernel
theorem dJxe99ae_doubleToLongBits_ccdee_8 : decode cJxe99ae_doubleToLongBits_ccdee 8 = .ok (.invokestatic 134, 3) := by decide +kernel
theorem dJxe99ae_doubleToLongBits_ccdee_11 : decode cJxe99ae_doubleToLongBits_ccdee 11 = .ok (.lreturn, 1) := by decide +kernel
theorem dJxe99ae_doubleToLongBits_ccdee_12 : decode cJxe99ae_doubleToLongBits_ccdee 12 = .ok (.ldc2_w 137, 3) := by decide +kernel
theorem dJxe99ae_doubleToLongBits_ccdee_15 : decode cJxe99ae_doubleToLongBits_ccdee 15 = .ok (.lreturn, 1) := by decide +kernel
theorem dJxa1e45_init_da8c8_0 : decode cJxa1e45_init_da8c8 0 = .ok (.aload_n 0, 1) := by decide +kernel
theorem dJxa1e45_init_da8c8_1 : decode cJxa1e45_init_da8c8 1 = .ok (.invokespecial 1, 3) := by decide +kernel
theorem dJxa1e45_init_da8c8_4 : decode cJxa1e45_init_da8c8 4 = .ok (.return_, 1) := by decide +kernel
theorem dJxc12de_init_da8c8_0 : decode cJxc12de_init_da8c8 0 = .ok (.aload_n 0, 1) := by decide +kernel
theorem dJxc12de_init_da8c8_1 : decode cJxc12de_init_da8c8 1 = .ok (.invokespecial 1, 3) := by decide +kernel
theorem dJxc12de_init_da8c8_4 : decode cJxc12de_init_da8c8 4 = .ok (.aload_n 0, 1) := by decide +kernel
theorem dJxc12de_init_da8c8_5 : decode cJxc12de_init_da8c8 5 = .ok (.iconst 0, 1) := by decide +kernel
theorem dJxc12de_init_da8c8_6 : decode cJxc12de_init_da8c8 6 = .ok (.putfield 7, 3) := by decide +kernel
theorem dJxc12de_init_da8c8_9 : decode cJxc12de_init_da8c8 9 = .ok (.return_, 1) := by decide +kernel
theorem dJx35411_init_45d68_0 : decode cJx35411_init_45d68 0 = .ok (.aload_n 0, 1) := by decide +kernel
theorem dJx35411_init_45d68_1 : decode cJx35411_init_45d68 1 = .ok (.aload_n 1, 1) := by decide +kernel
theorem dJx35411_init_45d68_2 : decode cJx35411_init_45d68 2 = .ok (.putfield 1, 3) := by decide +kernel
theorem dJx35411_init_45d68_5 : decode cJx35411_init_45d68 5 = .ok (.aload_n 0, 1) := by decide +kernel
theorem dJx35411_init_45d68_6 : decode cJx35411_init_45d68 6 = .ok (.invokespecial 7, 3) := by decide +kernel
theorem dJx35411_init_45d68_9 : decode cJx35411_init_45d68 9 = .ok (.aload_n 0, 1) := by decide +kernel
theorem dJx35411_init_45d68_10 : decode cJx35411_init_45d68 10 = .ok (.iconst (-1), 1) := by decide +kernel
theorem dJx35411_init_45d68_11 : decode cJx35411_init_45d68 11 = .ok (.putfield 13, 3) := by decide +kernel
theorem dJx35411_init_45d68_14 : decode cJx35411_init_45d68 14 = .ok (.aload_n 0, 1) := by decide +kernel
theorem dJx35411_init_45d68_15 : decode cJx35411_init_45d68 15 = .ok (.aload_n 0, 1) := by decide +kernel
theorem dJx35411_init_45d68_16 : decode cJx35411_init_45d68 16 = .ok (.getfield 1, 3) := by decide +kernel
theorem dJx35411_init_45d68_19 : decode cJx35411_init_45d68 19 = .ok (.getfield 17, 3) := by decide +kernel
theorem dJx35411_init_45d68_22 : decode cJx35411_init_45d68 22 = .ok (.putfield 22, 3) := by decide +kernel
theorem dJx35411_init_45d68_25 : decode cJx35411_init_45d68 25 = .ok (.return_, 1) := by decide +kernel
theorem dJx35411_hasNext_aae02_0 : decode cJx35411_hasNext_aae02 0 = .ok (.aload_n 0, 1) := by decide +kernel
theorem dJx35411_hasNext_aae02_1 : decode cJx35411_hasNext_aae02 1 = .ok (.getfield 25, 3) := by decide +kernel
theorem dJx35411_hasNext_aae02_4 : decode cJx35411_hasNext_aae02 4 = .ok (.aload_n 0, 1) := by decide +kernel
theorem dJx35411_hasNext_aae02_5 : decode cJx35411_hasNext_aae02 5 = .ok (.getfield 1, 3) := by decide +kernel
theorem dJx35411_hasNext_aae02_8 : decode cJx35411_hasNext_aae02 8 = .ok (.getfield 28, 3) := by decide +kernel
theorem dJx35411_hasNext_aae02_11 : decode cJx35411_hasNext_aae02 11 = .ok (.if_icmp .eq 7, 3) := by decide +kernel
theorem dJx35411_hasNext_aae02_14 : decode cJx35411_hasNext_aae02 14 = .ok (.iconst 1, 1) := by decide +kernel
theorem dJx35411_hasNext_aae02_15 : decode cJx35411_hasNext_aae02 15 = .ok (.goto 4, 3) := by decide +kernel
theorem dJx35411_hasNext_aae02_18 : decode cJx35411_hasNext_aae02 18 = .ok (.iconst 0, 1) := by decide +kernel
theorem dJx35411_hasNext_aae02_19 : decode cJx35411_hasNext_aae02 19 = .ok (.ireturn, 1) := by decide +kernel
theorem dJx4a65c_init_da8c8_0 : decode cJx4a65c_init_da8c8 0 = .ok (.aload_n 0, 1) := by decide +kernel
theorem dJx4a65c_init_da8c8_1 : decode cJx4a65c_init_da8c8 1 = .ok (.invokespecial 1, 3) := by decide +kernel
theorem dJx4a65c_init_da8c8_4 : decode cJx4a65c_init_da8c8 4 = .ok (.aload_n 0, 1) := by decide +kernel
theorem dJx4a65c_init_da8c8_5 : decode cJx4a65c_init_da8c8 5 = .ok (.getstatic 39, 3) := by decide +kernel
theorem dJx4a65c_init_da8c8_8 : decode cJx4a65c_init_da8c8 8 = .ok (.putfield 9, 3) := by decide +kernel
theorem dJx4a65c_init_da8c8_11 : decode cJx4a65c_init_da8c8 11 = .ok (.return_, 1) := by decide +kernel
theorem dJx4a65c_grow_92f84_0 : decode cJx4a65c_grow_92f84 0 = .ok (.aload_n 0, 1) := by decide +kernel
theorem dJx4a65c_grow_92f84_1 : decode cJx4a65c_grow_92f84 1 = .ok (.getfield 9, 3) := by decide +kernel
theorem dJx4a65c_grow_92f84_4 : decode cJx4a65c_grow_92f84 4 = .ok (.arraylength, 1) := by decide +kernel
theorem dJx4a65c_grow_92f84_5 : decode cJx4a65c_grow_92f84 5 = .ok (.istore_n 2, 1) := by decide +kernel
theorem dJx4a65c_grow_92f84_6 : decode cJx4a65c_grow_92f84 6 = .ok (.iload_n 2, 1) := by decide +kernel
theorem dJx4a65c_grow_92f84_7 : decode cJx4a65c_grow_92f84 7 = .ok (.ifCond .gt 13, 3) := by decide +kernel
theorem dJx4a65c_grow_92f84_10 : decode cJx4a65c_grow_92f84 10 = .ok (.aload_n 0, 1) := by decide +kernel
theorem dJx4a65c_grow_92f84_11 : decode cJx4a65c_grow_92f84 11 = .ok (.getfield 9, 3) := by decide +kernel
theorem dJx4a65c_grow_92f84_14 : decode cJx4a65c_grow_92f84 14 = .ok (.getstatic 39, 3) := by decide +kernel
theorem dJx4a65c_grow_92f84_17 : decode cJx4a65c_grow_92f84 17 = .ok (.if_acmp .eq 28, 3) := by decide +kernel
theorem dJx4a65c_grow_92f84_20 : decode cJx4a65c_grow_92f84 20 = .ok (.iload_n 2, 1) := by decide +kernel
theorem dJx4a65c_grow_92f84_21 : decode cJx4a65c_grow_92f84 21 = .ok (.iload_n 1, 1) := by decide +kernel
theorem dJx4a65c_grow_92f84_22 : decode cJx4a65c_grow_92f84 22 = .ok (.iload_n 2, 1) := by decide +kernel
theorem dJx4a65c_grow_92f84_23 : decode cJx4a65c_grow_92f84 23 = .ok (.isub, 1) := by decide +kernel
theorem dJx4a65c_grow_92f84_24 : decode cJx4a65c_grow_92f84 24 = .ok (.iload_n 2, 1) := by decide +kernel
theorem dJx4a65c_grow_92f84_25 : decode cJx4a65c_grow_92f84 25 = .ok (.iconst 1, 1) := by decide +kernel
theorem dJx4a65c_grow_92f84_26 : decode cJx4a65c_grow_92f84 26 = .ok (.ishr, 1) := by decide +kernel
theorem dJx4a65c_grow_92f84_27 : decode cJx4a65c_grow_92f84 27 = .ok (.invokestatic 73, 3) := by decide +kernel
theorem dJx4a65c_grow_92f84_30 : decode cJx4a65c_grow_92f84 30 = .ok (.istore_n 3, 1) := by decide +kernel
theorem dJx4a65c_grow_92f84_31 : decode cJx4a65c_grow_92f84 31 = .ok (.aload_n 0, 1) := by decide +kernel
theorem dJx4a65c_grow_92f84_32 : decode cJx4a65c_grow_92f84 32 = .ok (.aload_n 0, 1) := by decide +kernel
theorem dJx4a65c_grow_92f84_33 : decode cJx4a65c_grow_92f84 33 = .ok (.getfield 9, 3) := by decide +kernel
theorem dJx4a65c_grow_92f84_36 : decode cJx4a65c_grow_92f84 36 = .ok (.iload_n 3, 1) := by decide +kernel
theorem dJx4a65c_grow_92f84_37 : decode cJx4a65c_grow_92f84 37 = .ok (.invokestatic 66, 3) := by decide +kernel
theorem dJx4a65c_grow_92f84_40 : decode cJx4a65c_grow_92f84 40 = .ok (.dup_x1, 1) := by decide +kernel
theorem dJx4a65c_grow_92f84_41 : decode cJx4a65c_grow_92f84 41 = .ok (.putfield 9, 3) := by decide +kernel
theorem dJx4a65c_grow_92f84_44 : decode cJx4a65c_grow_92f84 44 = .ok (.areturn, 1) := by decide +kernel
theorem dJx4a65c_grow_92f84_45 : decode cJx4a65c_grow_92f84 45 = .ok (.aload_n 0, 1) := by decide +kernel
theorem dJx4a65c_grow_92f84_46 : decode cJx4a65c_grow_92f84 46 = .ok (.bipush 10, 2) := by decide +kernel
theorem dJx4a65c_grow_92f84_48 : decode cJx4a65c_grow_92f84 48 = .ok (.iload_n 1, 1) := by decide +kernel
theorem dJx4a65c_grow_92f84_49 : decode cJx4a65c_grow_92f84 49 = .ok (.invokestatic 79, 3) := by decide +kernel
theorem dJx4a65c_grow_92f84_52 : decode cJx4a65c_grow_92f84 52 = .ok (.anewarray 7, 3) := by decide +kernel
theorem dJx4a65c_grow_92f84_55 : decode cJx4a65c_grow_92f84 55 = .ok (.dup_x1, 1) := by decide +kernel
theorem dJx4a65c_grow_92f84_56 : decode cJx4a65c_grow_92f84 56 = .ok (.putfield 9, 3) := by decide +kernel
theorem dJx4a65c_grow_92f84_59 : decode cJx4a65c_grow_92f84 59 = .ok (.areturn, 1) := by decide +kernel
theorem dJx4a65c_grow_d5877_0 : decode cJx4a65c_grow_d5877 0 = .ok (.aload_n 0, 1) := by decide +kernel
theorem dJx4a65c_grow_d5877_1 : decode cJx4a65c_grow_d5877 1 = .ok (.aload_n 0, 1) := by decide +kernel
theorem dJx4a65c_grow_d5877_2 : decode cJx4a65c_grow_d5877 2 = .ok (.getfield 48, 3) := by decide +kernel
theorem dJx4a65c_grow_d5877_5 : decode cJx4a65c_grow_d5877 5 = .ok (.iconst 1, 1) := by decide +kernel
theorem dJx4a65c_grow_d5877_6 : decode cJx4a65c_grow_d5877 6 = .ok (.iadd, 1) := by decide +kernel
theorem dJx4a65c_grow_d5877_7 : decode cJx4a65c_grow_d5877 7 = .ok (.invokevirtual 69, 3) := by decide +kernel
theorem dJx4a65c_grow_d5877_10 : decode cJx4a65c_grow_d5877 10 = .ok (.areturn, 1) := by decide +kernel
theorem dJx4a65c_size_8abf5_0 : decode cJx4a65c_size_8abf5 0 = .ok (.aload_n 0, 1) := by decide +kernel
theorem dJx4a65c_size_8abf5_1 : decode cJx4a65c_size_8abf5 1 = .ok (.getfield 48, 3) := by decide +kernel
theorem dJx4a65c_size_8abf5_4 : decode cJx4a65c_size_8abf5 4 = .ok (.ireturn, 1) := by decide +kernel
theorem dJx4a65c_isEmpty_aae02_0 : decode cJx4a65c_isEmpty_aae02 0 = .ok (.aload_n 0, 1) := by decide +kernel
theorem dJx4a65c_isEmpty_aae02_1 : decode cJx4a65c_isEmpty_aae02 1 = .ok (.getfield 48, 3) := by decide +kernel
theorem dJx4a65c_isEmpty_aae02_4 : decode cJx4a65c_isEmpty_aae02 4 = .ok (.ifCond .ne 7, 3) := by decide +kernel
theorem dJx4a65c_isEmpty_aae02_7 : decode cJx4a65c_isEmpty_aae02 7 = .ok (.iconst 1, 1) := by decide +kernel
theorem dJx4a65c_isEmpty_aae02_8 : decode cJx4a65c_isEmpty_aae02 8 = .ok (.goto 4, 3) := by decide +kernel
theorem dJx4a65c_isEmpty_aae02_11 : decode cJx4a65c_isEmpty_aae02 11 = .ok (.iconst 0, 1) := by decide +kernel
theorem dJx4a65c_isEmpty_aae02_12 : decode cJx4a65c_isEmpty_aae02 12 = .ok (.ireturn, 1) := by decide +kernel
theorem dJx4a65c_add_72be8_0 : decode cJx4a65c_add_72be8 0 = .ok (.iload_n 3, 1) := by decide +kernel
theorem dJx4a65c_add_72be8_1 : decode cJx4a65c_add_72be8 1 = .ok (.aload_n 2, 1) := by decide +kernel
theorem dJx4a65c_add_72be8_2 : decode cJx4a65c_add_72be8 2 = .ok (.arraylength, 1) := by decide +kernel
theorem dJx4a65c_add_72be8_3 : decode cJx4a65c_add_72be8 3 = .ok (.if_icmp .ne 8, 3) := by decide +kernel
theorem dJx4a65c_add_72be8_6 : decode cJx4a65c_add_72be8 6 = .ok (.aload_n 0, 1) := by decide +kernel
theorem dJx4a65c_add_72be8_7 : decode cJx4a65c_add_72be8 7 = .ok (.invokevirtual 129, 3) := by decide +kernel
theorem dJx4a65c_add_72be8_10 : decode cJx4a65c_add_72be8 10 = .ok (.astore_n 2, 1) := by decide +kernel
theorem dJx4a65c_add_72be8_11 : decode cJx4a65c_add_72be8 11 = .ok (.aload_n 2, 1) := by decide +kernel
theorem dJx4a65c_add_72be8_12 : decode cJx4a65c_add_72be8 12 = .ok (.iload_n 3, 1) := by decide +kernel
theorem dJx4a65c_add_72be8_13 : decode cJx4a65c_add_72be8 13 = .ok (.aload_n 1, 1) := by decide +kernel
theorem dJx4a65c_add_72be8_14 : decode cJx4a65c_add_72be8 14 = .ok (.aastore, 1) := by decide +kernel
theorem dJx4a65c_add_72be8_15 : decode cJx4a65c_add_72be8 15 = .ok (.aload_n 0, 1) := by decide +kernel
theorem dJx4a65c_add_72be8_16 : decode cJx4a65c_add_72be8 16 = .ok (.iload_n 3, 1) := by decide +kernel
theorem dJx4a65c_add_72be8_17 : decode cJx4a65c_add_72be8 17 = .ok (.iconst 1, 1) := by decide +kernel
theorem dJx4a65c_add_72be8_18 : decode cJx4a65c_add_72be8 18 = .ok (.iadd, 1) := by decide +kernel
theorem dJx4a65c_add_72be8_19 : decode cJx4a65c_add_72be8 19 = .ok (.putfield 48, 3) := by decide +kernel
theorem dJx4a65c_add_72be8_22 : decode cJx4a65c_add_72be8 22 = .ok (.return_, 1) := by decide +kernel
theorem dJx4a65c_add_9ea2d_0 : decode cJx4a65c_add_9ea2d 0 = .ok (.aload_n 0, 1) := by decide +kernel
theorem dJx4a65c_add_9ea2d_1 : decode cJx4a65c_add_9ea2d 1 = .ok (.dup, 1) := by decide +kernel
theorem dJx4a65c_add_9ea2d_2 : decode cJx4a65c_add_9ea2d 2 = .ok (.getfield 63, 3) := by decide +kernel
theorem dJx4a65c_add_9ea2d_5 : decode cJx4a65c_add_9ea2d 5 = .ok (.iconst 1, 1) := by decide +kernel
theorem dJx4a65c_add_9ea2d_6 : decode cJx4a65c_add_9ea2d 6 = .ok (.iadd, 1) := by decide +kernel
theorem dJx4a65c_add_9ea2d_7 : decode cJx4a65c_add_9ea2d 7 = .ok (.putfield 63, 3) := by decide +kernel
theorem dJx4a65c_add_9ea2d_10 : decode cJx4a65c_add_9ea2d 10 = .ok (.aload_n 0, 1) := by decide +kernel
theorem dJx4a65c_add_9ea2d_11 : decode cJx4a65c_add_9ea2d 11 = .ok (.aload_n 1, 1) := by decide +kernel
theorem dJx4a65c_add_9ea2d_12 : decode cJx4a65c_add_9ea2d 12 = .ok (.aload_n 0, 1) := by decide +kernel
theorem dJx4a65c_add_9ea2d_13 : decode cJx4a65c_add_9ea2d 13 = .ok (.getfield 9, 3) := by decide +kernel
theorem dJx4a65c_add_9ea2d_16 : decode cJx4a65c_add_9ea2d 16 = .ok (.aload_n 0, 1) := by decide +kernel
theorem dJx4a65c_add_9ea2d_17 : decode cJx4a65c_add_9ea2d 17 = .ok (.getfield 48, 3) := by decide +kernel
theorem dJx4a65c_add_9ea2d_20 : decode cJx4a65c_add_9ea2d 20 = .ok (.invokevirtual 131, 3) := by decide +kernel
theorem dJx4a65c_add_9ea2d_23 : decode cJx4a65c_add_9ea2d 23 = .ok (.iconst 1, 1) := by decide +kernel
theorem dJx4a65c_add_9ea2d_24 : decode cJx4a65c_add_9ea2d 24 = .ok (.ireturn, 1) := by decide +kernel
theorem dJx4a65c_iterator_32c93_0 : decode cJx4a65c_iterator_32c93 0 = .ok (.new 267, 3) := by decide +kernel
theorem dJx4a65c_iterator_32c93_3 : decode cJx4a65c_iterator_32c93 3 = .ok (.dup, 1) := by decide +kernel
theorem dJx4a65c_iterator_32c93_4 : decode cJx4a65c_iterator_32c93 4 = .ok (.aload_n 0, 1) := by decide +kernel
theorem dJx4a65c_iterator_32c93_5 : decode cJx4a65c_iterator_32c93 5 = .ok (.invokespecial 269, 3) := by decide +kernel
theorem dJx4a65c_iterator_32c93_8 : decode cJx4a65c_iterator_32c93 8 = .ok (.areturn, 1) := by decide +kernel
theorem dJ7_fill_53178_0 : decode cJ7_fill_53178 0 = .ok (.iconst 0, 1) := by decide +kernel
theorem dJ7_fill_53178_1 : decode cJ7_fill_53178 1 = .ok (.istore_n 2, 1) := by decide +kernel
theorem dJ7_fill_53178_2 : decode cJ7_fill_53178 2 = .ok (.aload_n 0, 1) := by decide +kernel
theorem dJ7_fill_53178_3 : decode cJ7_fill_53178 3 = .ok (.arraylength, 1) := by decide +kernel
theorem dJ7_fill_53178_4 : decode cJ7_fill_53178 4 = .ok (.istore_n 3, 1) := by decide +kernel
theorem dJ7_fill_53178_5 : decode cJ7_fill_53178 5 = .ok (.iload_n 2, 1) := by decide +kernel
theorem dJ7_fill_53178_6 : decode cJ7_fill_53178 6 = .ok (.iload_n 3, 1) := by decide +kernel
theorem dJ7_fill_53178_7 : decode cJ7_fill_53178 7 = .ok (.if_icmp .ge 13, 3) := by decide +kernel
theorem dJ7_fill_53178_10 : decode cJ7_fill_53178 10 = .ok (.aload_n 0, 1) := by decide +kernel
theorem dJ7_fill_53178_11 : decode cJ7_fill_53178 11 = .ok (.iload_n 2, 1) := by decide +kernel
theorem dJ7_fill_53178_12 : decode cJ7_fill_53178 12 = .ok (.iload_n 1, 1) := by decide +kernel
theorem dJ7_fill_53178_13 : decode cJ7_fill_53178 13 = .ok (.iastore, 1) := by decide +kernel
theorem dJ7_fill_53178_14 : decode cJ7_fill_53178 14 = .ok (.iinc 2 1, 3) := by decide +kernel
theorem dJ7_fill_53178_17 : decode cJ7_fill_53178 17 = .ok (.goto (-12), 3) := by decide +kernel
theorem dJ7_fill_53178_20 : decode cJ7_fill_53178 20 = .ok (.return_, 1) := by decide +kernel
theorem dL_weather_0 : decode cL_weather 0 = .ok (.aload 6, 2) := by decide +kernel
theorem dL_weather_2 : decode cL_weather 2 = .ok (.iconst 0, 1) := by decide +kernel
theorem dL_weather_3 : decode cL_weather 3 = .ok (.aload_n 0, 1) := by decide +kernel
theorem dL_weather_4 : decode cL_weather 4 = .ok (.iload_n 1, 1) := by decide +kernel
theorem dL_weather_5 : decode cL_weather 5 = .ok (.iload_n 2, 1) := by decide +kernel
theorem dL_weather_6 : decode cL_weather 6 = .ok (.iload_n 3, 1) := by decide +kernel
theorem dL_weather_7 : decode cL_weather 7 = .ok (.iload 4, 2) := by decide +kernel
theorem dL_weather_9 : decode cL_weather 9 = .ok (.iload 5, 2) := by decide +kernel
theorem dL_weather_11 : decode cL_weather 11 = .ok (.invokevirtual 7, 3) := by decide +kernel
theorem dL_weather_14 : decode cL_weather 14 = .ok (.i2l, 1) := by decide +kernel
theorem dL_weather_15 : decode cL_weather 15 = .ok (.lastore, 1) := by decide +kernel
theorem dL_weather_16 : decode cL_weather 16 = .ok (.goto 11, 3) := by decide +kernel
theorem dL_weather_19 : decode cL_weather 19 = .ok (.astore 7, 2) := by decide +kernel
theorem dL_weather_21 : decode cL_weather 21 = .ok (.iconst 1, 1) := by decide +kernel
theorem dL_weather_22 : decode cL_weather 22 = .ok (.ireturn, 1) := by decide +kernel
theorem dL_weather_23 : decode cL_weather 23 = .ok (.astore 7, 2) := by decide +kernel
theorem dL_weather_25 : decode cL_weather 25 = .ok (.iconst 2, 1) := by decide +kernel
theorem dL_weather_26 : decode cL_weather 26 = .ok (.ireturn, 1) := by decide +kernel
theorem dL_weather_27 : decode cL_weather 27 = .ok (.iconst 0, 1) := by decide +kernel
theorem dL_weather_28 : decode cL_weather 28 = .ok (.ireturn, 1) := by decide +kernel
theorem dL_warmth_0 : decode cL_warmth 0 = .ok (.aload_n 2, 1) := by decide +kernel
theorem dL_warmth_1 : decode cL_warmth 1 = .ok (.iconst 0, 1) := by decide +kernel
theorem dL_warmth_2 : decode cL_warmth 2 = .ok (.aload_n 0, 1) := by decide +kernel
theorem dL_warmth_3 : decode cL_warmth 3 = .ok (.iload_n 1, 1) := by decide +kernel
theorem dL_warmth_4 : decode cL_warmth 4 = .ok (.invokevirtual 17, 3) := by decide +kernel
theorem dL_warmth_7 : decode cL_warmth 7 = .ok (.i2l, 1) := by decide +kernel
theorem dL_warmth_8 : decode cL_warmth 8 = .ok (.lastore, 1) := by decide +kernel
theorem dL_warmth_9 : decode cL_warmth 9 = .ok (.goto 6, 3) := by decide +kernel
theorem dL_warmth_12 : decode cL_warmth 12 = .ok (.astore_n 3, 1) := by decide +kernel
theorem dL_warmth_13 : decode cL_warmth 13 = .ok (.iconst 1, 1) := by decide +kernel
theorem dL_warmth_14 : decode cL_warmth 14 = .ok (.ireturn, 1) := by decide +kernel
theorem dL_warmth_15 : decode cL_warmth 15 = .ok (.iconst 0, 1) := by decide +kernel
theorem dL_warmth_16 : decode cL_warmth 16 = .ok (.ireturn, 1) := by decide +kernel
theorem dL_wet_0 : decode cL_wet 0 = .ok (.aload_n 2, 1) := by decide +kernel
theorem dL_wet_1 : decode cL_wet 1 = .ok (.iconst 0, 1) := by decide +kernel
theorem dL_wet_2 : decode cL_wet 2 = .ok (.aload_n 0, 1) := by decide +kernel
theorem dL_wet_3 : decode cL_wet 3 = .ok (.iload_n 1, 1) := by decide +kernel
theorem dL_wet_4 : decode cL_wet 4 = .ok (.invokevirtual 21, 3) := by decide +kernel
theorem dL_wet_7 : decode cL_wet 7 = .ok (.i2l, 1) := by decide +kernel
theorem dL_wet_8 : decode cL_wet 8 = .ok (.lastore, 1) := by decide +kernel
theorem dL_wet_9 : decode cL_wet 9 = .ok (.goto 6, 3) := by decide +kernel
theorem dL_wet_12 : decode cL_wet 12 = .ok (.astore_n 3, 1) := by decide +kernel
theorem dL_wet_13 : decode cL_wet 13 = .ok (.iconst 1, 1) := by decide +kernel
theorem dL_wet_14 : decode cL_wet 14 = .ok (.ireturn, 1) := by decide +kernel
theorem dL_wet_15 : decode cL_wet 15 = .ok (.iconst 0, 1) := by decide +kernel
theorem dL_wet_16 : decode cL_wet 16 = .ok (.ireturn, 1) := by decide +kernel
theorem dL_go_0 : decode cL_go 0 = .ok (.aload_n 2, 1) := by decide +kernel
theorem dL_go_1 : decode cL_go 1 = .ok (.iconst 0, 1) := by decide +kernel
theorem dL_go_2 : decode cL_go 2 = .ok (.aload_n 0, 1) := by decide +kernel
theorem dL_go_3 : decode cL_go 3 = .ok (.iload_n 1, 1) := by decide +kernel
theorem dL_go_4 : decode cL_go 4 = .ok (.invokevirtual 24, 3) := by decide +kernel
theorem dL_go_7 : decode cL_go 7 = .ok (.i2l, 1) := by decide +kernel
theorem dL_go_8 : decode cL_go 8 = .ok (.lastore, 1) := by decide +kernel
theorem dL_go_9 : decode cL_go 9 = .ok (.goto 9, 3) := by decide +kernel
theorem dL_go_12 : decode cL_go 12 = .ok (.astore_n 3, 1) := by decide +kernel
theorem dL_go_13 : decode cL_go 13 = .ok (.iconst 1, 1) := by decide +kernel
theorem dL_go_14 : decode cL_go 14 = .ok (.ireturn, 1) := by decide +kernel
theorem dL_go_15 : decode cL_go 15 = .ok (.astore_n 3, 1) := by decide +kernel
theorem dL_go_16 : decode cL_go 16 = .ok (.iconst 2, 1) := by decide +kernel
theorem dL_go_17 : decode cL_go 17 = .ok (.ireturn, 1) := by decide +kernel
theorem dL_go_18 : decode cL_go 18 = .ok (.iconst 0, 1) := by decide +kernel
theorem dL_go_19 : decode cL_go 19 = .ok (.ireturn, 1) := by decide +kernel
theorem dL_ice_0 : decode cL_ice 0 = .ok (.aload_n 2, 1) := by decide +kernel
theorem dL_ice_1 : decode cL_ice 1 = .ok (.iconst 0, 1) := by decide +kernel
theorem dL_ice_2 : decode cL_ice 2 = .ok (.aload_n 0, 1) := by decide +kernel
theorem dL_ice_3 : decode cL_ice 3 = .ok (.iload_n 1, 1) := by decide +kernel
theorem dL_ice_4 : decode cL_ice 4 = .ok (.invokevirtual 29, 3) := by decide +kernel
theorem dL_ice_7 : decode cL_ice 7 = .ok (.i2l, 1) := by decide +kernel
theorem dL_ice_8 : decode cL_ice 8 = .ok (.lastore, 1) := by decide +kernel
theorem dL_ice_9 : decode cL_ice 9 = .ok (.goto 6, 3) := by decide +kernel
theorem dL_ice_12 : decode cL_ice 12 = .ok (.astore_n 3, 1) := by decide +kernel
theorem dL_ice_13 : decode cL_ice 13 = .ok (.iconst 1, 1) := by decide +kernel
theorem dL_ice_14 : decode cL_ice 14 = .ok (.ireturn, 1) := by decide +kernel
theorem dL_ice_15 : decode cL_ice 15 = .ok (.iconst 0, 1) := by decide +kernel
theorem dL_ice_16 : decode cL_ice 16 = .ok (.ireturn, 1) := by decide +kernel
theorem dL_clear_0 : decode cL_clear 0 = .ok (.aload_n 2, 1) := by decide +kernel
theorem dL_clear_1 : decode cL_clear 1 = .ok (.iconst 0, 1) := by decide +kernel
theorem dL_clear_2 : decode cL_clear 2 = .ok (.aload_n 0, 1) := by decide +kernel
theorem dL_clear_3 : decode cL_clear 3 = .ok (.iload_n 1, 1) := by decide +kernel
theorem dL_clear_4 : decode cL_clear 4 = .ok (.invokevirtual 32, 3) := by decide +kernel
theorem dL_clear_7 : decode cL_clear 7 = .ok (.i2l, 1) := by decide +kernel
theorem dL_clear_8 : decode cL_clear 8 = .ok (.lastore, 1) := by decide +kernel
theorem dL_clear_9 : decode cL_clear 9 = .ok (.goto 6, 3) := by decide +kernel
theorem dL_clear_12 : decode cL_clear 12 = .ok (.astore_n 3, 1) := by decide +kernel
theorem dL_clear_13 : decode cL_clear 13 = .ok (.iconst 1, 1) := by decide +kernel
theorem dL_clear_14 : decode cL_clear 14 = .ok (.ireturn, 1) := by decide +kernel
theorem dL_clear_15 : decode cL_clear 15 = .ok (.iconst 0, 1) := by decide +kernel
theorem dL_clear_16 : decode cL_clear 16 = .ok (.ireturn, 1) := by decide +kernel
theorem dL_bears_0 : decode cL_bears 0 = .ok (.aload_n 2, 1) := by decide +kernel
theorem dL_bears_1 : decode cL_bears 1 = .ok (.iconst 0, 1) := by decide +kernel
theorem dL_bears_2 : decode cL_bears 2 = .ok (.aload_n 0, 1) := by decide +kernel
theorem dL_bears_3 : decode cL_bears 3 = .ok (.iload_n 1, 1) := by decide +kernel
theorem dL_bears_4 : decode cL_bears 4 = .ok (.invokevirtual 35, 3) := by decide +kernel
theorem dL_bears_7 : decode cL_bears 7 = .ok (.ifCond .eq 7, 3) := by decide +kernel
theorem dL_bears_10 : decode cL_bears 10 = .ok (.lconst 1, 1) := by decide +kernel
theorem dL_bears_11 : decode cL_bears 11 = .ok (.goto 4, 3) := by decide +kernel
theorem dL_bears_14 : decode cL_bears 14 = .ok (.lconst 0, 1) := by decide +kernel
theorem dL_bears_15 : decode cL_bears 15 = .ok (.lastore, 1) := by decide +kernel
theorem dL_bears_16 : decode cL_bears 16 = .ok (.goto 6, 3) := by decide +kernel
theorem dL_bears_19 : decode cL_bears 19 = .ok (.astore_n 3, 1) := by decide +kernel
theorem dL_bears_20 : decode cL_bears 20 = .ok (.iconst 1, 1) := by decide +kernel
theorem dL_bears_21 : decode cL_bears 21 = .ok (.ireturn, 1) := by decide +kernel
theorem dL_bears_22 : decode cL_bears 22 = .ok (.iconst 0, 1) := by decide +kernel
theorem dL_bears_23 : decode cL_bears 23 = .ok (.ireturn, 1) := by decide +kernel
theorem dL_cut_0 : decode cL_cut 0 = .ok (.aload_n 3, 1) := by decide +kernel
theorem dL_cut_1 : decode cL_cut 1 = .ok (.iconst 0, 1) := by decide +kernel
theorem dL_cut_2 : decode cL_cut 2 = .ok (.aload_n 0, 1) := by decide +kernel
theorem dL_cut_3 : decode cL_cut 3 = .ok (.iload_n 1, 1) := by decide +kernel
theorem dL_cut_4 : decode cL_cut 4 = .ok (.iload_n 2, 1) := by decide +kernel
theorem dL_cut_5 : decode cL_cut 5 = .ok (.invokevirtual 39, 3) := by decide +kernel
theorem dL_cut_8 : decode cL_cut 8 = .ok (.i2l, 1) := by decide +kernel
theorem dL_cut_9 : decode cL_cut 9 = .ok (.lastore, 1) := by decide +kernel
theorem dL_cut_10 : decode cL_cut 10 = .ok (.goto 15, 3) := by decide +kernel
theorem dL_cut_13 : decode cL_cut 13 = .ok (.astore 4, 2) := by decide +kernel
theorem dL_cut_15 : decode cL_cut 15 = .ok (.iconst 1, 1) := by decide +kernel
theorem dL_cut_16 : decode cL_cut 16 = .ok (.ireturn, 1) := by decide +kernel
theorem dL_cut_17 : decode cL_cut 17 = .ok (.astore 4, 2) := by decide +kernel
theorem dL_cut_19 : decode cL_cut 19 = .ok (.iconst 2, 1) := by decide +kernel
theorem dL_cut_20 : decode cL_cut 20 = .ok (.ireturn, 1) := by decide +kernel
theorem dL_cut_21 : decode cL_cut 21 = .ok (.astore 4, 2) := by decide +kernel
theorem dL_cut_23 : decode cL_cut 23 = .ok (.iconst 3, 1) := by decide +kernel
theorem dL_cut_24 : decode cL_cut 24 = .ok (.ireturn, 1) := by decide +kernel
theorem dL_cut_25 : decode cL_cut 25 = .ok (.iconst 0, 1) := by decide +kernel
theorem dL_cut_26 : decode cL_cut 26 = .ok (.ireturn, 1) := by decide +kernel
theorem dL_lorries_0 : decode cL_lorries 0 = .ok (.aload_n 2, 1) := by decide +kernel
theorem dL_lorries_1 : decode cL_lorries 1 = .ok (.iconst 0, 1) := by decide +kernel
theorem dL_lorries_2 : decode cL_lorries 2 = .ok (.aload_n 0, 1) := by decide +kernel
theorem dL_lorries_3 : decode cL_lorries 3 = .ok (.iload_n 1, 1) := by decide +kernel
theorem dL_lorries_4 : decode cL_lorries 4 = .ok (.invokevirtual 43, 3) := by decide +kernel
theorem dL_lorries_7 : decode cL_lorries 7 = .ok (.i2l, 1) := by decide +kernel
theorem dL_lorries_8 : decode cL_lorries 8 = .ok (.lastore, 1) := by decide +kernel
theorem dL_lorries_9 : decode cL_lorries 9 = .ok (.goto 6, 3) := by decide +kernel
theorem dL_lorries_12 : decode cL_lorries 12 = .ok (.astore_n 3, 1) := by decide +kernel
theorem dL_lorries_13 : decode cL_lorries 13 = .ok (.iconst 1, 1) := by decide +kernel
theorem dL_lorries_14 : decode cL_lorries 14 = .ok (.ireturn, 1) := by decide +kernel
theorem dL_lorries_15 : decode cL_lorries 15 = .ok (.iconst 0, 1) := by decide +kernel
theorem dL_lorries_16 : decode cL_lorries 16 = .ok (.ireturn, 1) := by decide +kernel
theorem dL_site_0 : decode cL_site 0 = .ok (.aload_n 1, 1) := by decide +kernel
theorem dL_site_1 : decode cL_site 1 = .ok (.iconst 0, 1) := by decide +kernel
theorem dL_site_2 : decode cL_site 2 = .ok (.aload_n 0, 1) := by decide +kernel
theorem dL_site_3 : decode cL_site 3 = .ok (.invokevirtual 46, 3) := by decide +kernel
theorem dL_site_6 : decode cL_site 6 = .ok (.i2l, 1) := by decide +kernel
theorem dL_site_7 : decode cL_site 7 = .ok (.lastore, 1) := by decide +kernel
theorem dL_site_8 : decode cL_site 8 = .ok (.goto 6, 3) := by decide +kernel
theorem dL_site_11 : decode cL_site 11 = .ok (.astore_n 2, 1) := by decide +kernel
theorem dL_site_12 : decode cL_site 12 = .ok (.iconst 1, 1) := by decide +kernel
theorem dL_site_13 : decode cL_site 13 = .ok (.ireturn, 1) := by decide +kernel
theorem dL_site_14 : decode cL_site 14 = .ok (.iconst 0, 1) := by decide +kernel
theorem dL_site_15 : decode cL_site 15 = .ok (.ireturn, 1) := by decide +kernel
theorem dL_put_0 : decode cL_put 0 = .ok (.aload 5, 2) := by decide +kernel
theorem dL_put_2 : decode cL_put 2 = .ok (.iconst 0, 1) := by decide +kernel
theorem dL_put_3 : decode cL_put 3 = .ok (.aload_n 0, 1) := by decide +kernel
theorem dL_put_4 : decode cL_put 4 = .ok (.iload_n 1, 1) := by decide +kernel
theorem dL_put_5 : decode cL_put 5 = .ok (.iload_n 2, 1) := by decide +kernel
theorem dL_put_6 : decode cL_put 6 = .ok (.iload_n 3, 1) := by decide +kernel
theorem dL_put_7 : decode cL_put 7 = .ok (.iload 4, 2) := by decide +kernel
theorem dL_put_9 : decode cL_put 9 = .ok (.invokevirtual 50, 3) := by decide +kernel
theorem dL_put_12 : decode cL_put 12 = .ok (.i2l, 1) := by decide +kernel
theorem dL_put_13 : decode cL_put 13 = .ok (.lastore, 1) := by decide +kernel
theorem dL_put_14 : decode cL_put 14 = .ok (.goto 19, 3) := by decide +kernel
theorem dL_put_17 : decode cL_put 17 = .ok (.astore 6, 2) := by decide +kernel
theorem dL_put_19 : decode cL_put 19 = .ok (.iconst 1, 1) := by decide +kernel
theorem dL_put_20 : decode cL_put 20 = .ok (.ireturn, 1) := by decide +kernel
theorem dL_put_21 : decode cL_put 21 = .ok (.astore 6, 2) := by decide +kernel
theorem dL_put_23 : decode cL_put 23 = .ok (.iconst 2, 1) := by decide +kernel
theorem dL_put_24 : decode cL_put 24 = .ok (.ireturn, 1) := by decide +kernel
theorem dL_put_25 : decode cL_put 25 = .ok (.astore 6, 2) := by decide +kernel
theorem dL_put_27 : decode cL_put 27 = .ok (.iconst 3, 1) := by decide +kernel
theorem dL_put_28 : decode cL_put 28 = .ok (.ireturn, 1) := by decide +kernel
theorem dL_put_29 : decode cL_put 29 = .ok (.astore 6, 2) := by decide +kernel
theorem dL_put_31 : decode cL_put 31 = .ok (.iconst 4, 1) := by decide +kernel
theorem dL_put_32 : decode cL_put 32 = .ok (.ireturn, 1) := by decide +kernel
theorem dL_put_33 : decode cL_put 33 = .ok (.iconst 0, 1) := by decide +kernel
theorem dL_put_34 : decode cL_put 34 = .ok (.ireturn, 1) := by decide +kernel
theorem dL_at_0 : decode cL_at 0 = .ok (.aload 4, 2) := by decide +kernel
theorem dL_at_2 : decode cL_at 2 = .ok (.iconst 0, 1) := by decide +kernel
theorem dL_at_3 : decode cL_at 3 = .ok (.aload_n 0, 1) := by decide +kernel
theorem dL_at_4 : decode cL_at 4 = .ok (.iload_n 1, 1) := by decide +kernel
theorem dL_at_5 : decode cL_at 5 = .ok (.iload_n 2, 1) := by decide +kernel
theorem dL_at_6 : decode cL_at 6 = .ok (.iload_n 3, 1) := by decide +kernel
theorem dL_at_7 : decode cL_at 7 = .ok (.invokevirtual 56, 3) := by decide +kernel
theorem dL_at_10 : decode cL_at 10 = .ok (.i2l, 1) := by decide +kernel
theorem dL_at_11 : decode cL_at 11 = .ok (.lastore, 1) := by decide +kernel
theorem dL_at_12 : decode cL_at 12 = .ok (.goto 7, 3) := by decide +kernel
theorem dL_at_15 : decode cL_at 15 = .ok (.astore 5, 2) := by decide +kernel
theorem dL_at_17 : decode cL_at 17 = .ok (.iconst 1, 1) := by decide +kernel
theorem dL_at_18 : decode cL_at 18 = .ok (.ireturn, 1) := by decide +kernel
theorem dL_at_19 : decode cL_at 19 = .ok (.iconst 0, 1) := by decide +kernel
theorem dL_at_20 : decode cL_at 20 = .ok (.ireturn, 1) := by decide +kernel
theorem dL_mass_0 : decode cL_mass 0 = .ok (.aload 4, 2) := by decide +kernel
theorem dL_mass_2 : decode cL_mass 2 = .ok (.iconst 0, 1) := by decide +kernel
theorem dL_mass_3 : decode cL_mass 3 = .ok (.aload_n 0, 1) := by decide +kernel
theorem dL_mass_4 : decode cL_mass 4 = .ok (.iload_n 1, 1) := by decide +kernel
theorem dL_mass_5 : decode cL_mass 5 = .ok (.iload_n 2, 1) := by decide +kernel
theorem dL_mass_6 : decode cL_mass 6 = .ok (.iload_n 3, 1) := by decide +kernel
theorem dL_mass_7 : decode cL_mass 7 = .ok (.invokevirtual 60, 3) := by decide +kernel
theorem dL_mass_10 : decode cL_mass 10 = .ok (.i2l, 1) := by decide +kernel
theorem dL_mass_11 : decode cL_mass 11 = .ok (.lastore, 1) := by decide +kernel
theorem dL_mass_12 : decode cL_mass 12 = .ok (.goto 11, 3) := by decide +kernel
theorem dL_mass_15 : decode cL_mass 15 = .ok (.astore 5, 2) := by decide +kernel
theorem dL_mass_17 : decode cL_mass 17 = .ok (.iconst 1, 1) := by decide +kernel
theorem dL_mass_18 : decode cL_mass 18 = .ok (.ireturn, 1) := by decide +kernel
theorem dL_mass_19 : decode cL_mass 19 = .ok (.astore 5, 2) := by decide +kernel
theorem dL_mass_21 : decode cL_mass 21 = .ok (.iconst 2, 1) := by decide +kernel
theorem dL_mass_22 : decode cL_mass 22 = .ok (.ireturn, 1) := by decide +kernel
theorem dL_mass_23 : decode cL_mass 23 = .ok (.iconst 0, 1) := by decide +kernel
theorem dL_mass_24 : decode cL_mass 24 = .ok (.ireturn, 1) := by decide +kernel
theorem dL_load_0 : decode cL_load 0 = .ok (.aload 4, 2) := by decide +kernel
theorem dL_load_2 : decode cL_load 2 = .ok (.iconst 0, 1) := by decide +kernel
theorem dL_load_3 : decode cL_load 3 = .ok (.aload_n 0, 1) := by decide +kernel
theorem dL_load_4 : decode cL_load 4 = .ok (.iload_n 1, 1) := by decide +kernel
theorem dL_load_5 : decode cL_load 5 = .ok (.iload_n 2, 1) := by decide +kernel
theorem dL_load_6 : decode cL_load 6 = .ok (.iload_n 3, 1) := by decide +kernel
theorem dL_load_7 : decode cL_load 7 = .ok (.invokevirtual 66, 3) := by decide +kernel
theorem dL_load_10 : decode cL_load 10 = .ok (.i2l, 1) := by decide +kernel
theorem dL_load_11 : decode cL_load 11 = .ok (.lastore, 1) := by decide +kernel
theorem dL_load_12 : decode cL_load 12 = .ok (.goto 11, 3) := by decide +kernel
theorem dL_load_15 : decode cL_load 15 = .ok (.astore 5, 2) := by decide +kernel
theorem dL_load_17 : decode cL_load 17 = .ok (.iconst 1, 1) := by decide +kernel
theorem dL_load_18 : decode cL_load 18 = .ok (.ireturn, 1) := by decide +kernel
theorem dL_load_19 : decode cL_load 19 = .ok (.astore 5, 2) := by decide +kernel
theorem dL_load_21 : decode cL_load 21 = .ok (.iconst 2, 1) := by decide +kernel
theorem dL_load_22 : decode cL_load 22 = .ok (.ireturn, 1) := by decide +kernel
theorem dL_load_23 : decode cL_load 23 = .ok (.iconst 0, 1) := by decide +kernel
theorem dL_load_24 : decode cL_load 24 = .ok (.ireturn, 1) := by decide +kernel
theorem dL_strength_0 : decode cL_strength 0 = .ok (.aload 4, 2) := by decide +kernel
theorem dL_strength_2 : decode cL_strength 2 = .ok (.iconst 0, 1) := by decide +kernel
theorem dL_strength_3 : decode cL_strength 3 = .ok (.aload_n 0, 1) := by decide +kernel
theorem dL_strength_4 : decode cL_strength 4 = .ok (.iload_n 1, 1) := by decide +kernel
theorem dL_strength_5 : decode cL_strength 5 = .ok (.iload_n 2, 1) := by decide +kernel
theorem dL_strength_6 : decode cL_strength 6 = .ok (.iload_n 3, 1) := by decide +kernel
theorem dL_strength_7 : decode cL_strength 7 = .ok (.invokevirtual 69, 3) := by decide +kernel
theorem dL_strength_10 : decode cL_strength 10 = .ok (.i2l, 1) := by decide +kernel
theorem dL_strength_11 : decode cL_strength 11 = .ok (.lastore, 1) := by decide +kernel
theorem dL_strength_12 : decode cL_strength 12 = .ok (.goto 11, 3) := by decide +kernel
theorem dL_strength_15 : decode cL_strength 15 = .ok (.astore 5, 2) := by decide +kernel
theorem dL_strength_17 : decode cL_strength 17 = .ok (.iconst 1, 1) := by decide +kernel
theorem dL_strength_18 : decode cL_strength 18 = .ok (.ireturn, 1) := by decide +kernel
theorem dL_strength_19 : decode cL_strength 19 = .ok (.astore 5, 2) := by decide +kernel
theorem dL_strength_21 : decode cL_strength 21 = .ok (.iconst 2, 1) := by decide +kernel
theorem dL_strength_22 : decode cL_strength 22 = .ok (.ireturn, 1) := by decide +kernel
theorem dL_strength_23 : decode cL_strength 23 = .ok (.iconst 0, 1) := by decide +kernel
theorem dL_strength_24 : decode cL_strength 24 = .ok (.ireturn, 1) := by decide +kernel
theorem dL_creep_0 : decode cL_creep 0 = .ok (.aload 4, 2) := by decide +kernel
theorem dL_creep_2 : decode cL_creep 2 = .ok (.iconst 0, 1) := by decide +kernel
theorem dL_creep_3 : decode cL_creep 3 = .ok (.aload_n 0, 1) := by decide +kernel
theorem dL_creep_4 : decode cL_creep 4 = .ok (.iload_n 1, 1) := by decide +kernel
theorem dL_creep_5 : decode cL_creep 5 = .ok (.iload_n 2, 1) := by decide +kernel
theorem dL_creep_6 : decode cL_creep 6 = .ok (.iload_n 3, 1) := by decide +kernel
theorem dL_creep_7 : decode cL_creep 7 = .ok (.invokevirtual 72, 3) := by decide +kernel
theorem dL_creep_10 : decode cL_creep 10 = .ok (.i2l, 1) := by decide +kernel
theorem dL_creep_11 : decode cL_creep 11 = .ok (.lastore, 1) := by decide +kernel
theorem dL_creep_12 : decode cL_creep 12 = .ok (.goto 11, 3) := by decide +kernel
theorem dL_creep_15 : decode cL_creep 15 = .ok (.astore 5, 2) := by decide +kernel
theorem dL_creep_17 : decode cL_creep 17 = .ok (.iconst 1, 1) := by decide +kernel
theorem dL_creep_18 : decode cL_creep 18 = .ok (.ireturn, 1) := by decide +kernel
theorem dL_creep_19 : decode cL_creep 19 = .ok (.astore 5, 2) := by decide +kernel
theorem dL_creep_21 : decode cL_creep 21 = .ok (.iconst 2, 1) := by decide +kernel
theorem dL_creep_22 : decode cL_creep 22 = .ok (.ireturn, 1) := by decide +kernel
theorem dL_creep_23 : decode cL_creep 23 = .ok (.iconst 0, 1) := by decide +kernel
theorem dL_creep_24 : decode cL_creep 24 = .ok (.ireturn, 1) := by decide +kernel
theorem dL_age_0 : decode cL_age 0 = .ok (.aload 4, 2) := by decide +kernel
theorem dL_age_2 : decode cL_age 2 = .ok (.iconst 0, 1) := by decide +kernel
theorem dL_age_3 : decode cL_age 3 = .ok (.aload_n 0, 1) := by decide +kernel
theorem dL_age_4 : decode cL_age 4 = .ok (.iload_n 1, 1) := by decide +kernel
theorem dL_age_5 : decode cL_age 5 = .ok (.iload_n 2, 1) := by decide +kernel
theorem dL_age_6 : decode cL_age 6 = .ok (.iload_n 3, 1) := by decide +kernel
theorem dL_age_7 : decode cL_age 7 = .ok (.invokevirtual 75, 3) := by decide +kernel
theorem dL_age_10 : decode cL_age 10 = .ok (.i2l, 1) := by decide +kernel
theorem dL_age_11 : decode cL_age 11 = .ok (.lastore, 1) := by decide +kernel
theorem dL_age_12 : decode cL_age 12 = .ok (.goto 11, 3) := by decide +kernel
theorem dL_age_15 : decode cL_age 15 = .ok (.astore 5, 2) := by decide +kernel
theorem dL_age_17 : decode cL_age 17 = .ok (.iconst 1, 1) := by decide +kernel
theorem dL_age_18 : decode cL_age 18 = .ok (.ireturn, 1) := by decide +kernel
theorem dL_age_19 : decode cL_age 19 = .ok (.astore 5, 2) := by decide +kernel
theorem dL_age_21 : decode cL_age 21 = .ok (.iconst 2, 1) := by decide +kernel
theorem dL_age_22 : decode cL_age 22 = .ok (.ireturn, 1) := by decide +kernel
theorem dL_age_23 : decode cL_age 23 = .ok (.iconst 0, 1) := by decide +kernel
theorem dL_age_24 : decode cL_age 24 = .ok (.ireturn, 1) := by decide +kernel
theorem dL_isArch_0 : decode cL_isArch 0 = .ok (.aload 4, 2) := by decide +kernel
theorem dL_isArch_2 : decode cL_isArch 2 = .ok (.iconst 0, 1) := by decide +kernel
theorem dL_isArch_3 : decode cL_isArch 3 = .ok (.aload_n 0, 1) := by decide +kernel
theorem dL_isArch_4 : decode cL_isArch 4 = .ok (.iload_n 1, 1) := by decide +kernel
theorem dL_isArch_5 : decode cL_isArch 5 = .ok (.iload_n 2, 1) := by decide +kernel
theorem dL_isArch_6 : decode cL_isArch 6 = .ok (.iload_n 3, 1) := by decide +kernel
theorem dL_isArch_7 : decode cL_isArch 7 = .ok (.invokevirtual 78, 3) := by decide +kernel
theorem dL_isArch_10 : decode cL_isArch 10 = .ok (.ifCond .eq 7, 3) := by decide +kernel
theorem dL_isArch_13 : decode cL_isArch 13 = .ok (.lconst 1, 1) := by decide +kernel
theorem dL_isArch_14 : decode cL_isArch 14 = .ok (.goto 4, 3) := by decide +kernel
theorem dL_isArch_17 : decode cL_isArch 17 = .ok (.lconst 0, 1) := by decide +kernel
theorem dL_isArch_18 : decode cL_isArch 18 = .ok (.lastore, 1) := by decide +kernel
theorem dL_isArch_19 : decode cL_isArch 19 = .ok (.goto 11, 3) := by decide +kernel
theorem dL_isArch_22 : decode cL_isArch 22 = .ok (.astore 5, 2) := by decide +kernel
theorem dL_isArch_24 : decode cL_isArch 24 = .ok (.iconst 1, 1) := by decide +kernel
theorem dL_isArch_25 : decode cL_isArch 25 = .ok (.ireturn, 1) := by decide +kernel
theorem dL_isArch_26 : decode cL_isArch 26 = .ok (.astore 5, 2) := by decide +kernel
theorem dL_isArch_28 : decode cL_isArch 28 = .ok (.iconst 2, 1) := by decide +kernel
theorem dL_isArch_29 : decode cL_isArch 29 = .ok (.ireturn, 1) := by decide +kernel
theorem dL_isArch_30 : decode cL_isArch 30 = .ok (.iconst 0, 1) := by decide +kernel
theorem dL_isArch_31 : decode cL_isArch 31 = .ok (.ireturn, 1) := by decide +kernel
theorem dL_fell_0 : decode cL_fell 0 = .ok (.aload_n 2, 1) := by decide +kernel
theorem dL_fell_1 : decode cL_fell 1 = .ok (.iconst 0, 1) := by decide +kernel
theorem dL_fell_2 : decode cL_fell 2 = .ok (.aload_n 0, 1) := by decide +kernel
theorem dL_fell_3 : decode cL_fell 3 = .ok (.iload_n 1, 1) := by decide +kernel
theorem dL_fell_4 : decode cL_fell 4 = .ok (.invokevirtual 82, 3) := by decide +kernel
theorem dL_fell_7 : decode cL_fell 7 = .ok (.i2l, 1) := by decide +kernel
theorem dL_fell_8 : decode cL_fell 8 = .ok (.lastore, 1) := by decide +kernel
theorem dL_fell_9 : decode cL_fell 9 = .ok (.goto 6, 3) := by decide +kernel
theorem dL_fell_12 : decode cL_fell 12 = .ok (.astore_n 3, 1) := by decide +kernel
theorem dL_fell_13 : decode cL_fell 13 = .ok (.iconst 1, 1) := by decide +kernel
theorem dL_fell_14 : decode cL_fell 14 = .ok (.ireturn, 1) := by decide +kernel
theorem dL_fell_15 : decode cL_fell 15 = .ok (.iconst 0, 1) := by decide +kernel
theorem dL_fell_16 : decode cL_fell 16 = .ok (.ireturn, 1) := by decide +kernel
theorem dL_lastFell_0 : decode cL_lastFell 0 = .ok (.aload_n 2, 1) := by decide +kernel
theorem dL_lastFell_1 : decode cL_lastFell 1 = .ok (.iconst 0, 1) := by decide +kernel
theorem dL_lastFell_2 : decode cL_lastFell 2 = .ok (.aload_n 0, 1) := by decide +kernel
theorem dL_lastFell_3 : decode cL_lastFell 3 = .ok (.iload_n 1, 1) := by decide +kernel
theorem dL_lastFell_4 : decode cL_lastFell 4 = .ok (.invokevirtual 85, 3) := by decide +kernel
theorem dL_lastFell_7 : decode cL_lastFell 7 = .ok (.i2l, 1) := by decide +kernel
theorem dL_lastFell_8 : decode cL_lastFell 8 = .ok (.lastore, 1) := by decide +kernel
theorem dL_lastFell_9 : decode cL_lastFell 9 = .ok (.goto 9, 3) := by decide +kernel
theorem dL_lastFell_12 : decode cL_lastFell 12 = .ok (.astore_n 3, 1) := by decide +kernel
theorem dL_lastFell_13 : decode cL_lastFell 13 = .ok (.iconst 1, 1) := by decide +kernel
theorem dL_lastFell_14 : decode cL_lastFell 14 = .ok (.ireturn, 1) := by decide +kernel
theorem dL_lastFell_15 : decode cL_lastFell 15 = .ok (.astore_n 3, 1) := by decide +kernel
theorem dL_lastFell_16 : decode cL_lastFell 16 = .ok (.iconst 2, 1) := by decide +kernel
theorem dL_lastFell_17 : decode cL_lastFell 17 = .ok (.ireturn, 1) := by decide +kernel
theorem dL_lastFell_18 : decode cL_lastFell 18 = .ok (.iconst 0, 1) := by decide +kernel
theorem dL_lastFell_19 : decode cL_lastFell 19 = .ok (.ireturn, 1) := by decide +kernel
theorem dL_cover_0 : decode cL_cover 0 = .ok (.aload_n 3, 1) := by decide +kernel
theorem dL_cover_1 : decode cL_cover 1 = .ok (.iconst 0, 1) := by decide +kernel
theorem dL_cover_2 : decode cL_cover 2 = .ok (.aload_n 0, 1) := by decide +kernel
theorem dL_cover_3 : decode cL_cover 3 = .ok (.iload_n 1, 1) := by decide +kernel
theorem dL_cover_4 : decode cL_cover 4 = .ok (.iload_n 2, 1) := by decide +kernel
theorem dL_cover_5 : decode cL_cover 5 = .ok (.invokevirtual 88, 3) := by decide +kernel
theorem dL_cover_8 : decode cL_cover 8 = .ok (.ifCond .eq 7, 3) := by decide +kernel
theorem dL_cover_11 : decode cL_cover 11 = .ok (.lconst 1, 1) := by decide +kernel
theorem dL_cover_12 : decode cL_cover 12 = .ok (.goto 4, 3) := by decide +kernel
theorem dL_cover_15 : decode cL_cover 15 = .ok (.lconst 0, 1) := by decide +kernel
theorem dL_cover_16 : decode cL_cover 16 = .ok (.lastore, 1) := by decide +kernel
theorem dL_cover_17 : decode cL_cover 17 = .ok (.goto 7, 3) := by decide +kernel
theorem dL_cover_20 : decode cL_cover 20 = .ok (.astore 4, 2) := by decide +kernel
theorem dL_cover_22 : decode cL_cover 22 = .ok (.iconst 1, 1) := by decide +kernel
theorem dL_cover_23 : decode cL_cover 23 = .ok (.ireturn, 1) := by decide +kernel
theorem dL_cover_24 : decode cL_cover 24 = .ok (.iconst 0, 1) := by decide +kernel
theorem dL_cover_25 : decode cL_cover 25 = .ok (.ireturn, 1) := by decide +kernel
theorem dL_lamp_0 : decode cL_lamp 0 = .ok (.aload 5, 2) := by decide +kernel
theorem dL_lamp_2 : decode cL_lamp 2 = .ok (.iconst 0, 1) := by decide +kernel
theorem dL_lamp_3 : decode cL_lamp 3 = .ok (.aload_n 0, 1) := by decide +kernel
theorem dL_lamp_4 : decode cL_lamp 4 = .ok (.iload_n 1, 1) := by decide +kernel
theorem dL_lamp_5 : decode cL_lamp 5 = .ok (.iload_n 2, 1) := by decide +kernel
theorem dL_lamp_6 : decode cL_lamp 6 = .ok (.iload_n 3, 1) := by decide +kernel
theorem dL_lamp_7 : decode cL_lamp 7 = .ok (.iload 4, 2) := by decide +kernel
theorem dL_lamp_9 : decode cL_lamp 9 = .ok (.invokevirtual 92, 3) := by decide +kernel
theorem dL_lamp_12 : decode cL_lamp 12 = .ok (.ifCond .eq 7, 3) := by decide +kernel
theorem dL_lamp_15 : decode cL_lamp 15 = .ok (.lconst 1, 1) := by decide +kernel
theorem dL_lamp_16 : decode cL_lamp 16 = .ok (.goto 4, 3) := by decide +kernel
theorem dL_lamp_19 : decode cL_lamp 19 = .ok (.lconst 0, 1) := by decide +kernel
theorem dL_lamp_20 : decode cL_lamp 20 = .ok (.lastore, 1) := by decide +kernel
theorem dL_lamp_21 : decode cL_lamp 21 = .ok (.goto 15, 3) := by decide +kernel
theorem dL_lamp_24 : decode cL_lamp 24 = .ok (.astore 6, 2) := by decide +kernel
theorem dL_lamp_26 : decode cL_lamp 26 = .ok (.iconst 1, 1) := by decide +kernel
theorem dL_lamp_27 : decode cL_lamp 27 = .ok (.ireturn, 1) := by decide +kernel
theorem dL_lamp_28 : decode cL_lamp 28 = .ok (.astore 6, 2) := by decide +kernel
theorem dL_lamp_30 : decode cL_lamp 30 = .ok (.iconst 2, 1) := by decide +kernel
theorem dL_lamp_31 : decode cL_lamp 31 = .ok (.ireturn, 1) := by decide +kernel
theorem dL_lamp_32 : decode cL_lamp 32 = .ok (.astore 6, 2) := by decide +kernel
theorem dL_lamp_34 : decode cL_lamp 34 = .ok (.iconst 3, 1) := by decide +kernel
theorem dL_lamp_35 : decode cL_lamp 35 = .ok (.ireturn, 1) := by decide +kernel
theorem dL_lamp_36 : decode cL_lamp 36 = .ok (.iconst 0, 1) := by decide +kernel
theorem dL_lamp_37 : decode cL_lamp 37 = .ok (.ireturn, 1) := by decide +kernel
theorem dL_lightBits_0 : decode cL_lightBits 0 = .ok (.aload 4, 2) := by decide +kernel
theorem dL_lightBits_2 : decode cL_lightBits 2 = .ok (.iconst 0, 1) := by decide +kernel
theorem dL_lightBits_3 : decode cL_lightBits 3 = .ok (.aload_n 0, 1) := by decide +kernel
theorem dL_lightBits_4 : decode cL_lightBits 4 = .ok (.iload_n 1, 1) := by decide +kernel
theorem dL_lightBits_5 : decode cL_lightBits 5 = .ok (.iload_n 2, 1) := by decide +kernel
theorem dL_lightBits_6 : decode cL_lightBits 6 = .ok (.iload_n 3, 1) := by decide +kernel
theorem dL_lightBits_7 : decode cL_lightBits 7 = .ok (.invokevirtual 96, 3) := by decide +kernel
theorem dL_lightBits_10 : decode cL_lightBits 10 = .ok (.i2l, 1) := by decide +kernel
theorem dL_lightBits_11 : decode cL_lightBits 11 = .ok (.lastore, 1) := by decide +kernel
theorem dL_lightBits_12 : decode cL_lightBits 12 = .ok (.goto 7, 3) := by decide +kernel
theorem dL_lightBits_15 : decode cL_lightBits 15 = .ok (.astore 5, 2) := by decide +kernel
theorem dL_lightBits_17 : decode cL_lightBits 17 = .ok (.iconst 1, 1) := by decide +kernel
theorem dL_lightBits_18 : decode cL_lightBits 18 = .ok (.ireturn, 1) := by decide +kernel
theorem dL_lightBits_19 : decode cL_lightBits 19 = .ok (.iconst 0, 1) := by decide +kernel
theorem dL_lightBits_20 : decode cL_lightBits 20 = .ok (.ireturn, 1) := by decide +kernel
theorem dL_isOpen_0 : decode cL_isOpen 0 = .ok (.aload_n 2, 1) := by decide +kernel
theorem dL_isOpen_1 : decode cL_isOpen 1 = .ok (.iconst 0, 1) := by decide +kernel
theorem dL_isOpen_2 : decode cL_isOpen 2 = .ok (.aload_n 0, 1) := by decide +kernel
theorem dL_isOpen_3 : decode cL_isOpen 3 = .ok (.iload_n 1, 1) := by decide +kernel
theorem dL_isOpen_4 : decode cL_isOpen 4 = .ok (.invokevirtual 99, 3) := by decide +kernel
theorem dL_isOpen_7 : decode cL_isOpen 7 = .ok (.ifCond .eq 7, 3) := by decide +kernel
theorem dL_isOpen_10 : decode cL_isOpen 10 = .ok (.lconst 1, 1) := by decide +kernel
theorem dL_isOpen_11 : decode cL_isOpen 11 = .ok (.goto 4, 3) := by decide +kernel
theorem dL_isOpen_14 : decode cL_isOpen 14 = .ok (.lconst 0, 1) := by decide +kernel
theorem dL_isOpen_15 : decode cL_isOpen 15 = .ok (.lastore, 1) := by decide +kernel
theorem dL_isOpen_16 : decode cL_isOpen 16 = .ok (.goto 6, 3) := by decide +kernel
theorem dL_isOpen_19 : decode cL_isOpen 19 = .ok (.astore_n 3, 1) := by decide +kernel
theorem dL_isOpen_20 : decode cL_isOpen 20 = .ok (.iconst 1, 1) := by decide +kernel
theorem dL_isOpen_21 : decode cL_isOpen 21 = .ok (.ireturn, 1) := by decide +kernel
theorem dL_isOpen_22 : decode cL_isOpen 22 = .ok (.iconst 0, 1) := by decide +kernel
theorem dL_isOpen_23 : decode cL_isOpen 23 = .ok (.ireturn, 1) := by decide +kernel
theorem dL_carries_0 : decode cL_carries 0 = .ok (.aload_n 3, 1) := by decide +kernel
theorem dL_carries_1 : decode cL_carries 1 = .ok (.iconst 0, 1) := by decide +kernel
theorem dL_carries_2 : decode cL_carries 2 = .ok (.aload_n 0, 1) := by decide +kernel
theorem dL_carries_3 : decode cL_carries 3 = .ok (.iload_n 1, 1) := by decide +kernel
theorem dL_carries_4 : decode cL_carries 4 = .ok (.iload_n 2, 1) := by decide +kernel
theorem dL_carries_5 : decode cL_carries 5 = .ok (.invokevirtual 102, 3) := by decide +kernel
theorem dL_carries_8 : decode cL_carries 8 = .ok (.i2l, 1) := by decide +kernel
theorem dL_carries_9 : decode cL_carries 9 = .ok (.lastore, 1) := by decide +kernel
theorem dL_carries_10 : decode cL_carries 10 = .ok (.goto 11, 3) := by decide +kernel
theorem dL_carries_13 : decode cL_carries 13 = .ok (.astore 4, 2) := by decide +kernel
theorem dL_carries_15 : decode cL_carries 15 = .ok (.iconst 1, 1) := by decide +kernel
theorem dL_carries_16 : decode cL_carries 16 = .ok (.ireturn, 1) := by decide +kernel
theorem dL_carries_17 : decode cL_carries 17 = .ok (.astore 4, 2) := by decide +kernel
theorem dL_carries_19 : decode cL_carries 19 = .ok (.iconst 2, 1) := by decide +kernel
theorem dL_carries_20 : decode cL_carries 20 = .ok (.ireturn, 1) := by decide +kernel
theorem dL_carries_21 : decode cL_carries 21 = .ok (.iconst 0, 1) := by decide +kernel
theorem dL_carries_22 : decode cL_carries 22 = .ok (.ireturn, 1) := by decide +kernel
theorem dL_visit_0 : decode cL_visit 0 = .ok (.aload_n 3, 1) := by decide +kernel
theorem dL_visit_1 : decode cL_visit 1 = .ok (.iconst 0, 1) := by decide +kernel
theorem dL_visit_2 : decode cL_visit 2 = .ok (.aload_n 0, 1) := by decide +kernel
theorem dL_visit_3 : decode cL_visit 3 = .ok (.iload_n 1, 1) := by decide +kernel
theorem dL_visit_4 : decode cL_visit 4 = .ok (.iload_n 2, 1) := by decide +kernel
theorem dL_visit_5 : decode cL_visit 5 = .ok (.invokevirtual 105, 3) := by decide +kernel
theorem dL_visit_8 : decode cL_visit 8 = .ok (.i2l, 1) := by decide +kernel
theorem dL_visit_9 : decode cL_visit 9 = .ok (.lastore, 1) := by decide +kernel
theorem dL_visit_10 : decode cL_visit 10 = .ok (.goto 15, 3) := by decide +kernel
theorem dL_visit_13 : decode cL_visit 13 = .ok (.astore 4, 2) := by decide +kernel
theorem dL_visit_15 : decode cL_visit 15 = .ok (.iconst 1, 1) := by decide +kernel
theorem dL_visit_16 : decode cL_visit 16 = .ok (.ireturn, 1) := by decide +kernel
theorem dL_visit_17 : decode cL_visit 17 = .ok (.astore 4, 2) := by decide +kernel
theorem dL_visit_19 : decode cL_visit 19 = .ok (.iconst 2, 1) := by decide +kernel
theorem dL_visit_20 : decode cL_visit 20 = .ok (.ireturn, 1) := by decide +kernel
theorem dL_visit_21 : decode cL_visit 21 = .ok (.astore 4, 2) := by decide +kernel
theorem dL_visit_23 : decode cL_visit 23 = .ok (.iconst 3, 1) := by decide +kernel
theorem dL_visit_24 : decode cL_visit 24 = .ok (.ireturn, 1) := by decide +kernel
theorem dL_visit_25 : decode cL_visit 25 = .ok (.iconst 0, 1) := by decide +kernel
theorem dL_visit_26 : decode cL_visit 26 = .ok (.ireturn, 1) := by decide +kernel
theorem dL_squareBits_0 : decode cL_squareBits 0 = .ok (.aload 4, 2) := by decide +kernel
theorem dL_squareBits_2 : decode cL_squareBits 2 = .ok (.iconst 0, 1) := by decide +kernel
theorem dL_squareBits_3 : decode cL_squareBits 3 = .ok (.aload_n 0, 1) := by decide +kernel
theorem dL_squareBits_4 : decode cL_squareBits 4 = .ok (.iload_n 1, 1) := by decide +kernel
theorem dL_squareBits_5 : decode cL_squareBits 5 = .ok (.iload_n 2, 1) := by decide +kernel
theorem dL_squareBits_6 : decode cL_squareBits 6 = .ok (.iload_n 3, 1) := by decide +kernel
theorem dL_squareBits_7 : decode cL_squareBits 7 = .ok (.invokevirtual 108, 3) := by decide +kernel
theorem dL_squareBits_10 : decode cL_squareBits 10 = .ok (.lastore, 1) := by decide +kernel
theorem dL_squareBits_11 : decode cL_squareBits 11 = .ok (.goto 7, 3) := by decide +kernel
theorem dL_squareBits_14 : decode cL_squareBits 14 = .ok (.astore 5, 2) := by decide +kernel
theorem dL_squareBits_16 : decode cL_squareBits 16 = .ok (.iconst 1, 1) := by decide +kernel
theorem dL_squareBits_17 : decode cL_squareBits 17 = .ok (.ireturn, 1) := by decide +kernel
theorem dL_squareBits_18 : decode cL_squareBits 18 = .ok (.iconst 0, 1) := by decide +kernel
theorem dL_squareBits_19 : decode cL_squareBits 19 = .ok (.ireturn, 1) := by decide +kernel
theorem dL_plan_0 : decode cL_plan 0 = .ok (.aload 5, 2) := by decide +kernel
theorem dL_plan_2 : decode cL_plan 2 = .ok (.iconst 0, 1) := by decide +kernel
theorem dL_plan_3 : decode cL_plan 3 = .ok (.aload_n 0, 1) := by decide +kernel
theorem dL_plan_4 : decode cL_plan 4 = .ok (.iload_n 1, 1) := by decide +kernel
theorem dL_plan_5 : decode cL_plan 5 = .ok (.iload_n 2, 1) := by decide +kernel
theorem dL_plan_6 : decode cL_plan 6 = .ok (.iload_n 3, 1) := by decide +kernel
theorem dL_plan_7 : decode cL_plan 7 = .ok (.iload 4, 2) := by decide +kernel
theorem dL_plan_9 : decode cL_plan 9 = .ok (.invokevirtual 112, 3) := by decide +kernel
theorem dL_plan_12 : decode cL_plan 12 = .ok (.i2l, 1) := by decide +kernel
theorem dL_plan_13 : decode cL_plan 13 = .ok (.lastore, 1) := by decide +kernel
theorem dL_plan_14 : decode cL_plan 14 = .ok (.goto 7, 3) := by decide +kernel
theorem dL_plan_17 : decode cL_plan 17 = .ok (.astore 6, 2) := by decide +kernel
theorem dL_plan_19 : decode cL_plan 19 = .ok (.iconst 1, 1) := by decide +kernel
theorem dL_plan_20 : decode cL_plan 20 = .ok (.ireturn, 1) := by decide +kernel
theorem dL_plan_21 : decode cL_plan 21 = .ok (.iconst 0, 1) := by decide +kernel
theorem dL_plan_22 : decode cL_plan 22 = .ok (.ireturn, 1) := by decide +kernel
theorem dL_carve_0 : decode cL_carve 0 = .ok (.aload 5, 2) := by decide +kernel
theorem dL_carve_2 : decode cL_carve 2 = .ok (.iconst 0, 1) := by decide +kernel
theorem dL_carve_3 : decode cL_carve 3 = .ok (.aload_n 0, 1) := by decide +kernel
theorem dL_carve_4 : decode cL_carve 4 = .ok (.iload_n 1, 1) := by decide +kernel
theorem dL_carve_5 : decode cL_carve 5 = .ok (.iload_n 2, 1) := by decide +kernel
theorem dL_carve_6 : decode cL_carve 6 = .ok (.iload_n 3, 1) := by decide +kernel
theorem dL_carve_7 : decode cL_carve 7 = .ok (.iload 4, 2) := by decide +kernel
theorem dL_carve_9 : decode cL_carve 9 = .ok (.invokevirtual 116, 3) := by decide +kernel
theorem dL_carve_12 : decode cL_carve 12 = .ok (.i2l, 1) := by decide +kernel
theorem dL_carve_13 : decode cL_carve 13 = .ok (.lastore, 1) := by decide +kernel
theorem dL_carve_14 : decode cL_carve 14 = .ok (.goto 23, 3) := by decide +kernel
theorem dL_carve_17 : decode cL_carve 17 = .ok (.astore 6, 2) := by decide +kernel
theorem dL_carve_19 : decode cL_carve 19 = .ok (.iconst 1, 1) := by decide +kernel
theorem dL_carve_20 : decode cL_carve 20 = .ok (.ireturn, 1) := by decide +kernel
theorem dL_carve_21 : decode cL_carve 21 = .ok (.astore 6, 2) := by decide +kernel
theorem dL_carve_23 : decode cL_carve 23 = .ok (.iconst 2, 1) := by decide +kernel
theorem dL_carve_24 : decode cL_carve 24 = .ok (.ireturn, 1) := by decide +kernel
theorem dL_carve_25 : decode cL_carve 25 = .ok (.astore 6, 2) := by decide +kernel
theorem dL_carve_27 : decode cL_carve 27 = .ok (.iconst 3, 1) := by decide +kernel
theorem dL_carve_28 : decode cL_carve 28 = .ok (.ireturn, 1) := by decide +kernel
theorem dL_carve_29 : decode cL_carve 29 = .ok (.astore 6, 2) := by decide +kernel
theorem dL_carve_31 : decode cL_carve 31 = .ok (.iconst 4, 1) := by decide +kernel
theorem dL_carve_32 : decode cL_carve 32 = .ok (.ireturn, 1) := by decide +kernel
theorem dL_carve_33 : decode cL_carve 33 = .ok (.astore 6, 2) := by decide +kernel
theorem dL_carve_35 : decode cL_carve 35 = .ok (.iconst 5, 1) := by decide +kernel
theorem dL_carve_36 : decode cL_carve 36 = .ok (.ireturn, 1) := by decide +kernel
theorem dL_carve_37 : decode cL_carve 37 = .ok (.iconst 0, 1) := by decide +kernel
theorem dL_carve_38 : decode cL_carve 38 = .ok (.ireturn, 1) := by decide +kernel
theorem dL_hours_0 : decode cL_hours 0 = .ok (.aload_n 2, 1) := by decide +kernel
theorem dL_hours_1 : decode cL_hours 1 = .ok (.iconst 0, 1) := by decide +kernel
theorem dL_hours_2 : decode cL_hours 2 = .ok (.aload_n 0, 1) := by decide +kernel
theorem dL_hours_3 : decode cL_hours 3 = .ok (.iload_n 1, 1) := by decide +kernel
theorem dL_hours_4 : decode cL_hours 4 = .ok (.invokevirtual 120, 3) := by decide +kernel
theorem dL_hours_7 : decode cL_hours 7 = .ok (.i2l, 1) := by decide +kernel
theorem dL_hours_8 : decode cL_hours 8 = .ok (.lastore, 1) := by decide +kernel
theorem dL_hours_9 : decode cL_hours 9 = .ok (.goto 6, 3) := by decide +kernel
theorem dL_hours_12 : decode cL_hours 12 = .ok (.astore_n 3, 1) := by decide +kernel
theorem dL_hours_13 : decode cL_hours 13 = .ok (.iconst 1, 1) := by decide +kernel
theorem dL_hours_14 : decode cL_hours 14 = .ok (.ireturn, 1) := by decide +kernel
theorem dL_hours_15 : decode cL_hours 15 = .ok (.iconst 0, 1) := by decide +kernel
theorem dL_hours_16 : decode cL_hours 16 = .ok (.ireturn, 1) := by decide +kernel
theorem dL_judge_0 : decode cL_judge 0 = .ok (.aload_n 2, 1) := by decide +kernel
theorem dL_judge_1 : decode cL_judge 1 = .ok (.iconst 0, 1) := by decide +kernel
theorem dL_judge_2 : decode cL_judge 2 = .ok (.aload_n 0, 1) := by decide +kernel
theorem dL_judge_3 : decode cL_judge 3 = .ok (.iload_n 1, 1) := by decide +kernel
theorem dL_judge_4 : decode cL_judge 4 = .ok (.invokevirtual 123, 3) := by decide +kernel
theorem dL_judge_7 : decode cL_judge 7 = .ok (.dastore, 1) := by decide +kernel
theorem dL_judge_8 : decode cL_judge 8 = .ok (.goto 6, 3) := by decide +kernel
theorem dL_judge_11 : decode cL_judge 11 = .ok (.astore_n 3, 1) := by decide +kernel
theorem dL_judge_12 : decode cL_judge 12 = .ok (.iconst 1, 1) := by decide +kernel
theorem dL_judge_13 : decode cL_judge 13 = .ok (.ireturn, 1) := by decide +kernel
theorem dL_judge_14 : decode cL_judge 14 = .ok (.iconst 0, 1) := by decide +kernel
theorem dL_judge_15 : decode cL_judge 15 = .ok (.ireturn, 1) := by decide +kernel
theorem dL_mark_0 : decode cL_mark 0 = .ok (.aload_n 2, 1) := by decide +kernel
theorem dL_mark_1 : decode cL_mark 1 = .ok (.iconst 0, 1) := by decide +kernel
theorem dL_mark_2 : decode cL_mark 2 = .ok (.aload_n 0, 1) := by decide +kernel
theorem dL_mark_3 : decode cL_mark 3 = .ok (.iload_n 1, 1) := by decide +kernel
theorem dL_mark_4 : decode cL_mark 4 = .ok (.invokevirtual 127, 3) := by decide +kernel
theorem dL_mark_7 : decode cL_mark 7 = .ok (.dastore, 1) := by decide +kernel
theorem dL_mark_8 : decode cL_mark 8 = .ok (.goto 9, 3) := by decide +kernel
theorem dL_mark_11 : decode cL_mark 11 = .ok (.astore_n 3, 1) := by decide +kernel
theorem dL_mark_12 : decode cL_mark 12 = .ok (.iconst 1, 1) := by decide +kernel
theorem dL_mark_13 : decode cL_mark 13 = .ok (.ireturn, 1) := by decide +kernel
theorem dL_mark_14 : decode cL_mark 14 = .ok (.astore_n 3, 1) := by decide +kernel
theorem dL_mark_15 : decode cL_mark 15 = .ok (.iconst 2, 1) := by decide +kernel
theorem dL_mark_16 : decode cL_mark 16 = .ok (.ireturn, 1) := by decide +kernel
theorem dL_mark_17 : decode cL_mark 17 = .ok (.iconst 0, 1) := by decide +kernel
theorem dL_mark_18 : decode cL_mark 18 = .ok (.ireturn, 1) := by decide +kernel
theorem dL_take_0 : decode cL_take 0 = .ok (.aload 4, 2) := by decide +kernel
theorem dL_take_2 : decode cL_take 2 = .ok (.iconst 0, 1) := by decide +kernel
theorem dL_take_3 : decode cL_take 3 = .ok (.aload_n 0, 1) := by decide +kernel
theorem dL_take_4 : decode cL_take 4 = .ok (.iload_n 1, 1) := by decide +kernel
theorem dL_take_5 : decode cL_take 5 = .ok (.iload_n 2, 1) := by decide +kernel
theorem dL_take_6 : decode cL_take 6 = .ok (.iload_n 3, 1) := by decide +kernel
theorem dL_take_7 : decode cL_take 7 = .ok (.invokevirtual 130, 3) := by decide +kernel
theorem dL_take_10 : decode cL_take 10 = .ok (.i2l, 1) := by decide +kernel
theorem dL_take_11 : decode cL_take 11 = .ok (.lastore, 1) := by decide +kernel
theorem dL_take_12 : decode cL_take 12 = .ok (.goto 15, 3) := by decide +kernel
theorem dL_take_15 : decode cL_take 15 = .ok (.astore 5, 2) := by decide +kernel
theorem dL_take_17 : decode cL_take 17 = .ok (.iconst 1, 1) := by decide +kernel
theorem dL_take_18 : decode cL_take 18 = .ok (.ireturn, 1) := by decide +kernel
theorem dL_take_19 : decode cL_take 19 = .ok (.astore 5, 2) := by decide +kernel
theorem dL_take_21 : decode cL_take 21 = .ok (.iconst 2, 1) := by decide +kernel
theorem dL_take_22 : decode cL_take 22 = .ok (.ireturn, 1) := by decide +kernel
theorem dL_take_23 : decode cL_take 23 = .ok (.astore 5, 2) := by decide +kernel
theorem dL_take_25 : decode cL_take 25 = .ok (.iconst 3, 1) := by decide +kernel
theorem dL_take_26 : decode cL_take 26 = .ok (.ireturn, 1) := by decide +kernel
theorem dL_take_27 : decode cL_take 27 = .ok (.iconst 0, 1) := by decide +kernel
theorem dL_take_28 : decode cL_take 28 = .ok (.ireturn, 1) := by decide +kernel
theorem dL_count_0 : decode cL_count 0 = .ok (.aload_n 2, 1) := by decide +kernel
theorem dL_count_1 : decode cL_count 1 = .ok (.iconst 0, 1) := by decide +kernel
theorem dL_count_2 : decode cL_count 2 = .ok (.aload_n 0, 1) := by decide +kernel
theorem dL_count_3 : decode cL_count 3 = .ok (.iload_n 1, 1) := by decide +kernel
theorem dL_count_4 : decode cL_count 4 = .ok (.invokevirtual 133, 3) := by decide +kernel
theorem dL_count_7 : decode cL_count 7 = .ok (.i2l, 1) := by decide +kernel
theorem dL_count_8 : decode cL_count 8 = .ok (.lastore, 1) := by decide +kernel
theorem dL_count_9 : decode cL_count 9 = .ok (.goto 6, 3) := by decide +kernel
theorem dL_count_12 : decode cL_count 12 = .ok (.astore_n 3, 1) := by decide +kernel
theorem dL_count_13 : decode cL_count 13 = .ok (.iconst 1, 1) := by decide +kernel
theorem dL_count_14 : decode cL_count 14 = .ok (.ireturn, 1) := by decide +kernel
theorem dL_count_15 : decode cL_count 15 = .ok (.iconst 0, 1) := by decide +kernel
theorem dL_count_16 : decode cL_count 16 = .ok (.ireturn, 1) := by decide +kernel
theorem dL_openShare_0 : decode cL_openShare 0 = .ok (.aload_n 1, 1) := by decide +kernel
theorem dL_openShare_1 : decode cL_openShare 1 = .ok (.iconst 0, 1) := by decide +kernel
theorem dL_openShare_2 : decode cL_openShare 2 = .ok (.aload_n 0, 1) := by decide +kernel
theorem dL_openShare_3 : decode cL_openShare 3 = .ok (.invokevirtual 136, 3) := by decide +kernel
theorem dL_openShare_6 : decode cL_openShare 6 = .ok (.f2d, 1) := by decide +kernel
theorem dL_openShare_7 : decode cL_openShare 7 = .ok (.dastore, 1) := by decide +kernel
theorem dL_openShare_8 : decode cL_openShare 8 = .ok (.goto 6, 3) := by decide +kernel
theorem dL_openShare_11 : decode cL_openShare 11 = .ok (.astore_n 2, 1) := by decide +kernel
theorem dL_openShare_12 : decode cL_openShare 12 = .ok (.iconst 1, 1) := by decide +kernel
theorem dL_openShare_13 : decode cL_openShare 13 = .ok (.ireturn, 1) := by decide +kernel
theorem dL_openShare_14 : decode cL_openShare 14 = .ok (.iconst 0, 1) := by decide +kernel
theorem dL_openShare_15 : decode cL_openShare 15 = .ok (.ireturn, 1) := by decide +kernel
theorem dL_meanCreep_0 : decode cL_meanCreep 0 = .ok (.aload_n 2, 1) := by decide +kernel
theorem dL_meanCreep_1 : decode cL_meanCreep 1 = .ok (.iconst 0, 1) := by decide +kernel
theorem dL_meanCreep_2 : decode cL_meanCreep 2 = .ok (.aload_n 0, 1) := by decide +kernel
theorem dL_meanCreep_3 : decode cL_meanCreep 3 = .ok (.iload_n 1, 1) := by decide +kernel
theorem dL_meanCreep_4 : decode cL_meanCreep 4 = .ok (.invokevirtual 142, 3) := by decide +kernel
theorem dL_meanCreep_7 : decode cL_meanCreep 7 = .ok (.dastore, 1) := by decide +kernel
theorem dL_meanCreep_8 : decode cL_meanCreep 8 = .ok (.goto 9, 3) := by decide +kernel
theorem dL_meanCreep_11 : decode cL_meanCreep 11 = .ok (.astore_n 3, 1) := by decide +kernel
theorem dL_meanCreep_12 : decode cL_meanCreep 12 = .ok (.iconst 1, 1) := by decide +kernel
theorem dL_meanCreep_13 : decode cL_meanCreep 13 = .ok (.ireturn, 1) := by decide +kernel
theorem dL_meanCreep_14 : decode cL_meanCreep 14 = .ok (.astore_n 3, 1) := by decide +kernel
theorem dL_meanCreep_15 : decode cL_meanCreep 15 = .ok (.iconst 2, 1) := by decide +kernel
theorem dL_meanCreep_16 : decode cL_meanCreep 16 = .ok (.ireturn, 1) := by decide +kernel
theorem dL_meanCreep_17 : decode cL_meanCreep 17 = .ok (.iconst 0, 1) := by decide +kernel
theorem dL_meanCreep_18 : decode cL_meanCreep 18 = .ok (.ireturn, 1) := by decide +kernel

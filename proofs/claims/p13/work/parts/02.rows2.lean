theorem dX6_cut_66 : decode cX6_cut 66 = .ok (.getfield 28, 3) := by decide +kernel
theorem dX6_cut_69 : decode cX6_cut 69 = .ok (.iconst 1, 1) := by decide +kernel
theorem dX6_cut_70 : decode cX6_cut 70 = .ok (.iaload, 1) := by decide +kernel
theorem dX6_cut_71 : decode cX6_cut 71 = .ok (.iadd, 1) := by decide +kernel
theorem dX6_cut_72 : decode cX6_cut 72 = .ok (.iload_n 2, 1) := by decide +kernel
theorem dX6_cut_73 : decode cX6_cut 73 = .ok (.iadd, 1) := by decide +kernel
theorem dX6_cut_74 : decode cX6_cut 74 = .ok (.sipush 200, 3) := by decide +kernel
theorem dX6_cut_77 : decode cX6_cut 77 = .ok (.if_icmp .le 7, 3) := by decide +kernel
theorem dX6_cut_80 : decode cX6_cut 80 = .ok (.iconst 3, 1) := by decide +kernel
theorem dX6_cut_81 : decode cX6_cut 81 = .ok (.goto 4, 3) := by decide +kernel
theorem dX6_cut_84 : decode cX6_cut 84 = .ok (.iconst 0, 1) := by decide +kernel
theorem dX6_cut_85 : decode cX6_cut 85 = .ok (.invokevirtual 61, 3) := by decide +kernel
theorem dX6_cut_88 : decode cX6_cut 88 = .ok (.ifCond .eq 5, 3) := by decide +kernel
theorem dX6_cut_91 : decode cX6_cut 91 = .ok (.iconst 0, 1) := by decide +kernel
theorem dX6_cut_92 : decode cX6_cut 92 = .ok (.ireturn, 1) := by decide +kernel
theorem dX6_cut_93 : decode cX6_cut 93 = .ok (.aload_n 0, 1) := by decide +kernel
theorem dX6_cut_94 : decode cX6_cut 94 = .ok (.getfield 25, 3) := by decide +kernel
theorem dX6_cut_97 : decode cX6_cut 97 = .ok (.iload_n 1, 1) := by decide +kernel
theorem dX6_cut_98 : decode cX6_cut 98 = .ok (.dup2, 1) := by decide +kernel
theorem dX6_cut_99 : decode cX6_cut 99 = .ok (.iaload, 1) := by decide +kernel
theorem dX6_cut_100 : decode cX6_cut 100 = .ok (.iload_n 2, 1) := by decide +kernel
theorem dX6_cut_101 : decode cX6_cut 101 = .ok (.isub, 1) := by decide +kernel
theorem dX6_cut_102 : decode cX6_cut 102 = .ok (.iastore, 1) := by decide +kernel
theorem dX6_cut_103 : decode cX6_cut 103 = .ok (.aload_n 0, 1) := by decide +kernel
theorem dX6_cut_104 : decode cX6_cut 104 = .ok (.getfield 28, 3) := by decide +kernel
theorem dX6_cut_107 : decode cX6_cut 107 = .ok (.iconst 3, 1) := by decide +kernel
theorem dX6_cut_108 : decode cX6_cut 108 = .ok (.aload_n 0, 1) := by decide +kernel
theorem dX6_cut_109 : decode cX6_cut 109 = .ok (.getfield 22, 3) := by decide +kernel
theorem dX6_cut_112 : decode cX6_cut 112 = .ok (.iload_n 1, 1) := by decide +kernel
theorem dX6_cut_113 : decode cX6_cut 113 = .ok (.iaload, 1) := by decide +kernel
theorem dX6_cut_114 : decode cX6_cut 114 = .ok (.imul, 1) := by decide +kernel
theorem dX6_cut_115 : decode cX6_cut 115 = .ok (.iconst 2, 1) := by decide +kernel
theorem dX6_cut_116 : decode cX6_cut 116 = .ok (.aload_n 0, 1) := by decide +kernel
theorem dX6_cut_117 : decode cX6_cut 117 = .ok (.getfield 19, 3) := by decide +kernel
theorem dX6_cut_120 : decode cX6_cut 120 = .ok (.iload_n 1, 1) := by decide +kernel
theorem dX6_cut_121 : decode cX6_cut 121 = .ok (.iaload, 1) := by decide +kernel
theorem dX6_cut_122 : decode cX6_cut 122 = .ok (.imul, 1) := by decide +kernel
theorem dX6_cut_123 : decode cX6_cut 123 = .ok (.if_icmp .lt 7, 3) := by decide +kernel
theorem dX6_cut_126 : decode cX6_cut 126 = .ok (.iconst 1, 1) := by decide +kernel
theorem dX6_cut_127 : decode cX6_cut 127 = .ok (.goto 4, 3) := by decide +kernel
theorem dX6_cut_130 : decode cX6_cut 130 = .ok (.iconst 0, 1) := by decide +kernel
theorem dX6_cut_131 : decode cX6_cut 131 = .ok (.dup2, 1) := by decide +kernel
theorem dX6_cut_132 : decode cX6_cut 132 = .ok (.iaload, 1) := by decide +kernel
theorem dX6_cut_133 : decode cX6_cut 133 = .ok (.iload_n 2, 1) := by decide +kernel
theorem dX6_cut_134 : decode cX6_cut 134 = .ok (.iadd, 1) := by decide +kernel
theorem dX6_cut_135 : decode cX6_cut 135 = .ok (.iastore, 1) := by decide +kernel
theorem dX6_cut_136 : decode cX6_cut 136 = .ok (.aload_n 0, 1) := by decide +kernel
theorem dX6_cut_137 : decode cX6_cut 137 = .ok (.dup, 1) := by decide +kernel
theorem dX6_cut_138 : decode cX6_cut 138 = .ok (.getfield 100, 3) := by decide +kernel
theorem dX6_cut_141 : decode cX6_cut 141 = .ok (.bipush 20, 2) := by decide +kernel
theorem dX6_cut_143 : decode cX6_cut 143 = .ok (.iload_n 2, 1) := by decide +kernel
theorem dX6_cut_144 : decode cX6_cut 144 = .ok (.imul, 1) := by decide +kernel
theorem dX6_cut_145 : decode cX6_cut 145 = .ok (.isub, 1) := by decide +kernel
theorem dX6_cut_146 : decode cX6_cut 146 = .ok (.putfield 100, 3) := by decide +kernel
theorem dX6_cut_149 : decode cX6_cut 149 = .ok (.aload_n 0, 1) := by decide +kernel
theorem dX6_cut_150 : decode cX6_cut 150 = .ok (.getfield 25, 3) := by decide +kernel
theorem dX6_cut_153 : decode cX6_cut 153 = .ok (.iload_n 1, 1) := by decide +kernel
theorem dX6_cut_154 : decode cX6_cut 154 = .ok (.iaload, 1) := by decide +kernel
theorem dX6_cut_155 : decode cX6_cut 155 = .ok (.ireturn, 1) := by decide +kernel
theorem dX6_yard_0 : decode cX6_yard 0 = .ok (.aload_n 0, 1) := by decide +kernel
theorem dX6_yard_1 : decode cX6_yard 1 = .ok (.iconst 0, 1) := by decide +kernel
theorem dX6_yard_2 : decode cX6_yard 2 = .ok (.putfield 1, 3) := by decide +kernel
theorem dX6_yard_5 : decode cX6_yard 5 = .ok (.aload_n 0, 1) := by decide +kernel
theorem dX6_yard_6 : decode cX6_yard 6 = .ok (.getfield 28, 3) := by decide +kernel
theorem dX6_yard_9 : decode cX6_yard 9 = .ok (.iload_n 1, 1) := by decide +kernel
theorem dX6_yard_10 : decode cX6_yard 10 = .ok (.ifCond .eq 7, 3) := by decide +kernel
theorem dX6_yard_13 : decode cX6_yard 13 = .ok (.iconst 1, 1) := by decide +kernel
theorem dX6_yard_14 : decode cX6_yard 14 = .ok (.goto 4, 3) := by decide +kernel
theorem dX6_yard_17 : decode cX6_yard 17 = .ok (.iconst 0, 1) := by decide +kernel
theorem dX6_yard_18 : decode cX6_yard 18 = .ok (.iaload, 1) := by decide +kernel
theorem dX6_yard_19 : decode cX6_yard 19 = .ok (.ireturn, 1) := by decide +kernel
theorem dX6_lorries_0 : decode cX6_lorries 0 = .ok (.aload_n 0, 1) := by decide +kernel
theorem dX6_lorries_1 : decode cX6_lorries 1 = .ok (.iload_n 1, 1) := by decide +kernel
theorem dX6_lorries_2 : decode cX6_lorries 2 = .ok (.i2l, 1) := by decide +kernel
theorem dX6_lorries_3 : decode cX6_lorries 3 = .ok (.lconst 1, 1) := by decide +kernel
theorem dX6_lorries_4 : decode cX6_lorries 4 = .ok (.ldc2_w 44, 3) := by decide +kernel
theorem dX6_lorries_7 : decode cX6_lorries 7 = .ok (.invokestatic 46, 3) := by decide +kernel
theorem dX6_lorries_10 : decode cX6_lorries 10 = .ok (.ifCond .eq 7, 3) := by decide +kernel
theorem dX6_lorries_13 : decode cX6_lorries 13 = .ok (.iconst 0, 1) := by decide +kernel
theorem dX6_lorries_14 : decode cX6_lorries 14 = .ok (.goto 4, 3) := by decide +kernel
theorem dX6_lorries_17 : decode cX6_lorries 17 = .ok (.iconst 1, 1) := by decide +kernel
theorem dX6_lorries_18 : decode cX6_lorries 18 = .ok (.invokevirtual 61, 3) := by decide +kernel
theorem dX6_lorries_21 : decode cX6_lorries 21 = .ok (.ifCond .eq 5, 3) := by decide +kernel
theorem dX6_lorries_24 : decode cX6_lorries 24 = .ok (.iconst 0, 1) := by decide +kernel
theorem dX6_lorries_25 : decode cX6_lorries 25 = .ok (.ireturn, 1) := by decide +kernel
theorem dX6_lorries_26 : decode cX6_lorries 26 = .ok (.aload_n 0, 1) := by decide +kernel
theorem dX6_lorries_27 : decode cX6_lorries 27 = .ok (.sipush 500, 3) := by decide +kernel
theorem dX6_lorries_30 : decode cX6_lorries 30 = .ok (.aload_n 0, 1) := by decide +kernel
theorem dX6_lorries_31 : decode cX6_lorries 31 = .ok (.getfield 89, 3) := by decide +kernel
theorem dX6_lorries_34 : decode cX6_lorries 34 = .ok (.iconst 5, 1) := by decide +kernel
theorem dX6_lorries_35 : decode cX6_lorries 35 = .ok (.iload_n 1, 1) := by decide +kernel
theorem dX6_lorries_36 : decode cX6_lorries 36 = .ok (.imul, 1) := by decide +kernel
theorem dX6_lorries_37 : decode cX6_lorries 37 = .ok (.iadd, 1) := by decide +kernel
theorem dX6_lorries_38 : decode cX6_lorries 38 = .ok (.invokestatic 76, 3) := by decide +kernel
theorem dX6_lorries_41 : decode cX6_lorries 41 = .ok (.putfield 89, 3) := by decide +kernel
theorem dX6_lorries_44 : decode cX6_lorries 44 = .ok (.aload_n 0, 1) := by decide +kernel
theorem dX6_lorries_45 : decode cX6_lorries 45 = .ok (.dup, 1) := by decide +kernel
theorem dX6_lorries_46 : decode cX6_lorries 46 = .ok (.getfield 100, 3) := by decide +kernel
theorem dX6_lorries_49 : decode cX6_lorries 49 = .ok (.bipush 100, 2) := by decide +kernel
theorem dX6_lorries_51 : decode cX6_lorries 51 = .ok (.iload_n 1, 1) := by decide +kernel
theorem dX6_lorries_52 : decode cX6_lorries 52 = .ok (.imul, 1) := by decide +kernel
theorem dX6_lorries_53 : decode cX6_lorries 53 = .ok (.isub, 1) := by decide +kernel
theorem dX6_lorries_54 : decode cX6_lorries 54 = .ok (.putfield 100, 3) := by decide +kernel
theorem dX6_lorries_57 : decode cX6_lorries 57 = .ok (.aload_n 0, 1) := by decide +kernel
theorem dX6_lorries_58 : decode cX6_lorries 58 = .ok (.getfield 89, 3) := by decide +kernel
theorem dX6_lorries_61 : decode cX6_lorries 61 = .ok (.ireturn, 1) := by decide +kernel
theorem dX6_machine_0 : decode cX6_machine 0 = .ok (.aload_n 0, 1) := by decide +kernel
theorem dX6_machine_1 : decode cX6_machine 1 = .ok (.iconst 0, 1) := by decide +kernel
theorem dX6_machine_2 : decode cX6_machine 2 = .ok (.putfield 1, 3) := by decide +kernel
theorem dX6_machine_5 : decode cX6_machine 5 = .ok (.aload_n 0, 1) := by decide +kernel
theorem dX6_machine_6 : decode cX6_machine 6 = .ok (.getfield 85, 3) := by decide +kernel
theorem dX6_machine_9 : decode cX6_machine 9 = .ok (.istore_n 2, 1) := by decide +kernel
theorem dX6_machine_10 : decode cX6_machine 10 = .ok (.aload_n 0, 1) := by decide +kernel
theorem dX6_machine_11 : decode cX6_machine 11 = .ok (.iload_n 1, 1) := by decide +kernel
theorem dX6_machine_12 : decode cX6_machine 12 = .ok (.putfield 85, 3) := by decide +kernel
theorem dX6_machine_15 : decode cX6_machine 15 = .ok (.iload_n 2, 1) := by decide +kernel
theorem dX6_machine_16 : decode cX6_machine 16 = .ok (.ireturn, 1) := by decide +kernel
theorem dX6_snow_0 : decode cX6_snow 0 = .ok (.aload_n 0, 1) := by decide +kernel
theorem dX6_snow_1 : decode cX6_snow 1 = .ok (.iconst 0, 1) := by decide +kernel
theorem dX6_snow_2 : decode cX6_snow 2 = .ok (.putfield 1, 3) := by decide +kernel
theorem dX6_snow_5 : decode cX6_snow 5 = .ok (.aload_n 0, 1) := by decide +kernel
theorem dX6_snow_6 : decode cX6_snow 6 = .ok (.getfield 89, 3) := by decide +kernel
theorem dX6_snow_9 : decode cX6_snow 9 = .ok (.ireturn, 1) := by decide +kernel
theorem dX6_go_0 : decode cX6_go 0 = .ok (.aload_n 0, 1) := by decide +kernel
theorem dX6_go_1 : decode cX6_go 1 = .ok (.iload_n 1, 1) := by decide +kernel
theorem dX6_go_2 : decode cX6_go 2 = .ok (.i2l, 1) := by decide +kernel
theorem dX6_go_3 : decode cX6_go 3 = .ok (.lconst 1, 1) := by decide +kernel
theorem dX6_go_4 : decode cX6_go 4 = .ok (.ldc2_w 103, 3) := by decide +kernel
theorem dX6_go_7 : decode cX6_go 7 = .ok (.invokestatic 46, 3) := by decide +kernel
theorem dX6_go_10 : decode cX6_go 10 = .ok (.ifCond .ne 7, 3) := by decide +kernel
theorem dX6_go_13 : decode cX6_go 13 = .ok (.iconst 1, 1) := by decide +kernel
theorem dX6_go_14 : decode cX6_go 14 = .ok (.goto 20, 3) := by decide +kernel
theorem dX6_go_17 : decode cX6_go 17 = .ok (.aload_n 0, 1) := by decide +kernel
theorem dX6_go_18 : decode cX6_go 18 = .ok (.getfield 58, 3) := by decide +kernel
theorem dX6_go_21 : decode cX6_go 21 = .ok (.iload_n 1, 1) := by decide +kernel
theorem dX6_go_22 : decode cX6_go 22 = .ok (.iadd, 1) := by decide +kernel
theorem dX6_go_23 : decode cX6_go 23 = .ok (.sipush 504, 3) := by decide +kernel
theorem dX6_go_26 : decode cX6_go 26 = .ok (.if_icmp .le 7, 3) := by decide +kernel
theorem dX6_go_29 : decode cX6_go 29 = .ok (.iconst 2, 1) := by decide +kernel
theorem dX6_go_30 : decode cX6_go 30 = .ok (.goto 4, 3) := by decide +kernel
theorem dX6_go_33 : decode cX6_go 33 = .ok (.iconst 0, 1) := by decide +kernel
theorem dX6_go_34 : decode cX6_go 34 = .ok (.invokevirtual 61, 3) := by decide +kernel
theorem dX6_go_37 : decode cX6_go 37 = .ok (.ifCond .eq 5, 3) := by decide +kernel
theorem dX6_go_40 : decode cX6_go 40 = .ok (.iconst 0, 1) := by decide +kernel
theorem dX6_go_41 : decode cX6_go 41 = .ok (.ireturn, 1) := by decide +kernel
theorem dX6_go_42 : decode cX6_go 42 = .ok (.iconst 0, 1) := by decide +kernel
theorem dX6_go_43 : decode cX6_go 43 = .ok (.istore_n 2, 1) := by decide +kernel
theorem dX6_go_44 : decode cX6_go 44 = .ok (.iload_n 2, 1) := by decide +kernel
theorem dX6_go_45 : decode cX6_go 45 = .ok (.iload_n 1, 1) := by decide +kernel
theorem dX6_go_46 : decode cX6_go 46 = .ok (.if_icmp .ge 75, 3) := by decide +kernel
theorem dX6_go_49 : decode cX6_go 49 = .ok (.aload_n 0, 1) := by decide +kernel
theorem dX6_go_50 : decode cX6_go 50 = .ok (.aload_n 0, 1) := by decide +kernel
theorem dX6_go_51 : decode cX6_go 51 = .ok (.getfield 58, 3) := by decide +kernel
theorem dX6_go_54 : decode cX6_go 54 = .ok (.invokevirtual 67, 3) := by decide +kernel
theorem dX6_go_57 : decode cX6_go 57 = .ok (.istore_n 3, 1) := by decide +kernel
theorem dX6_go_58 : decode cX6_go 58 = .ok (.aload_n 0, 1) := by decide +kernel
theorem dX6_go_59 : decode cX6_go 59 = .ok (.iload_n 3, 1) := by decide +kernel
theorem dX6_go_60 : decode cX6_go 60 = .ok (.invokevirtual 105, 3) := by decide +kernel
theorem dX6_go_63 : decode cX6_go 63 = .ok (.aload_n 0, 1) := by decide +kernel
theorem dX6_go_64 : decode cX6_go 64 = .ok (.getfield 34, 3) := by decide +kernel
theorem dX6_go_67 : decode cX6_go 67 = .ok (.invokeinterface 109 1, 5) := by decide +kernel
theorem dX6_go_72 : decode cX6_go 72 = .ok (.astore 4, 2) := by decide +kernel
theorem dX6_go_74 : decode cX6_go 74 = .ok (.aload 4, 2) := by decide +kernel
theorem dX6_go_76 : decode cX6_go 76 = .ok (.invokeinterface 115 1, 5) := by decide +kernel
theorem dX6_go_81 : decode cX6_go 81 = .ok (.ifCond .eq 24, 3) := by decide +kernel
theorem dX6_go_84 : decode cX6_go 84 = .ok (.aload 4, 2) := by decide +kernel
theorem dX6_go_86 : decode cX6_go 86 = .ok (.invokeinterface 121 1, 5) := by decide +kernel
theorem dX6_go_91 : decode cX6_go 91 = .ok (.checkcast 125, 3) := by decide +kernel
theorem dX6_go_94 : decode cX6_go 94 = .ok (.astore 5, 2) := by decide +kernel
theorem dX6_go_96 : decode cX6_go 96 = .ok (.aload 5, 2) := by decide +kernel
theorem dX6_go_98 : decode cX6_go 98 = .ok (.iload_n 3, 1) := by decide +kernel
theorem dX6_go_99 : decode cX6_go 99 = .ok (.invokevirtual 127, 3) := by decide +kernel
theorem dX6_go_102 : decode cX6_go 102 = .ok (.goto (-28), 3) := by decide +kernel
theorem dX6_go_105 : decode cX6_go 105 = .ok (.aload_n 0, 1) := by decide +kernel
theorem dX6_go_106 : decode cX6_go 106 = .ok (.dup, 1) := by decide +kernel
theorem dX6_go_107 : decode cX6_go 107 = .ok (.getfield 58, 3) := by decide +kernel
theorem dX6_go_110 : decode cX6_go 110 = .ok (.iconst 1, 1) := by decide +kernel
theorem dX6_go_111 : decode cX6_go 111 = .ok (.iadd, 1) := by decide +kernel
theorem dX6_go_112 : decode cX6_go 112 = .ok (.putfield 58, 3) := by decide +kernel
theorem dX6_go_115 : decode cX6_go 115 = .ok (.iinc 2 1, 3) := by decide +kernel
theorem dX6_go_118 : decode cX6_go 118 = .ok (.goto (-74), 3) := by decide +kernel
theorem dX6_go_121 : decode cX6_go 121 = .ok (.aload_n 0, 1) := by decide +kernel
theorem dX6_go_122 : decode cX6_go 122 = .ok (.getfield 58, 3) := by decide +kernel
theorem dX6_go_125 : decode cX6_go 125 = .ok (.ireturn, 1) := by decide +kernel
theorem dX6_site_0 : decode cX6_site 0 = .ok (.aload_n 0, 1) := by decide +kernel
theorem dX6_site_1 : decode cX6_site 1 = .ok (.aload_n 0, 1) := by decide +kernel
theorem dX6_site_2 : decode cX6_site 2 = .ok (.getfield 34, 3) := by decide +kernel
theorem dX6_site_5 : decode cX6_site 5 = .ok (.invokeinterface 130 1, 5) := by decide +kernel
theorem dX6_site_10 : decode cX6_site 10 = .ok (.iconst 3, 1) := by decide +kernel
theorem dX6_site_11 : decode cX6_site 11 = .ok (.if_icmp .ne 7, 3) := by decide +kernel
theorem dX6_site_14 : decode cX6_site 14 = .ok (.iconst 1, 1) := by decide +kernel
theorem dX6_site_15 : decode cX6_site 15 = .ok (.goto 4, 3) := by decide +kernel
theorem dX6_site_18 : decode cX6_site 18 = .ok (.iconst 0, 1) := by decide +kernel
theorem dX6_site_19 : decode cX6_site 19 = .ok (.invokevirtual 61, 3) := by decide +kernel
theorem dX6_site_22 : decode cX6_site 22 = .ok (.ifCond .eq 5, 3) := by decide +kernel
theorem dX6_site_25 : decode cX6_site 25 = .ok (.iconst 0, 1) := by decide +kernel
theorem dX6_site_26 : decode cX6_site 26 = .ok (.ireturn, 1) := by decide +kernel
theorem dX6_site_27 : decode cX6_site 27 = .ok (.aload_n 0, 1) := by decide +kernel
theorem dX6_site_28 : decode cX6_site 28 = .ok (.getfield 34, 3) := by decide +kernel
theorem dX6_site_31 : decode cX6_site 31 = .ok (.new 125, 3) := by decide +kernel
theorem dX6_site_34 : decode cX6_site 34 = .ok (.dup, 1) := by decide +kernel
theorem dX6_site_35 : decode cX6_site 35 = .ok (.aload_n 0, 1) := by decide +kernel
theorem dX6_site_36 : decode cX6_site 36 = .ok (.invokespecial 134, 3) := by decide +kernel
theorem dX6_site_39 : decode cX6_site 39 = .ok (.invokeinterface 137 2, 5) := by decide +kernel
theorem dX6_site_44 : decode cX6_site 44 = .ok (.pop, 1) := by decide +kernel
theorem dX6_site_45 : decode cX6_site 45 = .ok (.aload_n 0, 1) := by decide +kernel
theorem dX6_site_46 : decode cX6_site 46 = .ok (.getfield 34, 3) := by decide +kernel
theorem dX6_site_49 : decode cX6_site 49 = .ok (.invokeinterface 130 1, 5) := by decide +kernel
theorem dX6_site_54 : decode cX6_site 54 = .ok (.iconst 1, 1) := by decide +kernel
theorem dX6_site_55 : decode cX6_site 55 = .ok (.isub, 1) := by decide +kernel
theorem dX6_site_56 : decode cX6_site 56 = .ok (.ireturn, 1) := by decide +kernel
theorem dX6_isNoSite_0 : decode cX6_isNoSite 0 = .ok (.aload_n 0, 1) := by decide +kernel
theorem dX6_isNoSite_1 : decode cX6_isNoSite 1 = .ok (.iload_n 1, 1) := by decide +kernel
theorem dX6_isNoSite_2 : decode cX6_isNoSite 2 = .ok (.i2l, 1) := by decide +kernel
theorem dX6_isNoSite_3 : decode cX6_isNoSite 3 = .ok (.lconst 0, 1) := by decide +kernel
theorem dX6_isNoSite_4 : decode cX6_isNoSite 4 = .ok (.aload_n 0, 1) := by decide +kernel
theorem dX6_isNoSite_5 : decode cX6_isNoSite 5 = .ok (.getfield 34, 3) := by decide +kernel
theorem dX6_isNoSite_8 : decode cX6_isNoSite 8 = .ok (.invokeinterface 130 1, 5) := by decide +kernel
theorem dX6_isNoSite_13 : decode cX6_isNoSite 13 = .ok (.iconst 1, 1) := by decide +kernel
theorem dX6_isNoSite_14 : decode cX6_isNoSite 14 = .ok (.isub, 1) := by decide +kernel
theorem dX6_isNoSite_15 : decode cX6_isNoSite 15 = .ok (.i2l, 1) := by decide +kernel
theorem dX6_isNoSite_16 : decode cX6_isNoSite 16 = .ok (.invokestatic 46, 3) := by decide +kernel
theorem dX6_isNoSite_19 : decode cX6_isNoSite 19 = .ok (.ifCond .eq 7, 3) := by decide +kernel
theorem dX6_isNoSite_22 : decode cX6_isNoSite 22 = .ok (.iconst 0, 1) := by decide +kernel
theorem dX6_isNoSite_23 : decode cX6_isNoSite 23 = .ok (.goto 4, 3) := by decide +kernel
theorem dX6_isNoSite_26 : decode cX6_isNoSite 26 = .ok (.iconst 1, 1) := by decide +kernel
theorem dX6_isNoSite_27 : decode cX6_isNoSite 27 = .ok (.invokevirtual 61, 3) := by decide +kernel
theorem dX6_isNoSite_30 : decode cX6_isNoSite 30 = .ok (.ireturn, 1) := by decide +kernel
theorem dX6_isNoPlace_0 : decode cX6_isNoPlace 0 = .ok (.aload_n 0, 1) := by decide +kernel
theorem dX6_isNoPlace_1 : decode cX6_isNoPlace 1 = .ok (.iload_n 1, 1) := by decide +kernel
theorem dX6_isNoPlace_2 : decode cX6_isNoPlace 2 = .ok (.i2l, 1) := by decide +kernel
theorem dX6_isNoPlace_3 : decode cX6_isNoPlace 3 = .ok (.lconst 0, 1) := by decide +kernel
theorem dX6_isNoPlace_4 : decode cX6_isNoPlace 4 = .ok (.aload_n 0, 1) := by decide +kernel
theorem dX6_isNoPlace_5 : decode cX6_isNoPlace 5 = .ok (.getfield 34, 3) := by decide +kernel
theorem dX6_isNoPlace_8 : decode cX6_isNoPlace 8 = .ok (.invokeinterface 130 1, 5) := by decide +kernel
theorem dX6_isNoPlace_13 : decode cX6_isNoPlace 13 = .ok (.iconst 1, 1) := by decide +kernel
theorem dX6_isNoPlace_14 : decode cX6_isNoPlace 14 = .ok (.isub, 1) := by decide +kernel
theorem dX6_isNoPlace_15 : decode cX6_isNoPlace 15 = .ok (.i2l, 1) := by decide +kernel
theorem dX6_isNoPlace_16 : decode cX6_isNoPlace 16 = .ok (.invokestatic 46, 3) := by decide +kernel
theorem dX6_isNoPlace_19 : decode cX6_isNoPlace 19 = .ok (.ifCond .eq 31, 3) := by decide +kernel
theorem dX6_isNoPlace_22 : decode cX6_isNoPlace 22 = .ok (.iload_n 2, 1) := by decide +kernel
theorem dX6_isNoPlace_23 : decode cX6_isNoPlace 23 = .ok (.i2l, 1) := by decide +kernel
theorem dX6_isNoPlace_24 : decode cX6_isNoPlace 24 = .ok (.lconst 0, 1) := by decide +kernel
theorem dX6_isNoPlace_25 : decode cX6_isNoPlace 25 = .ok (.ldc2_w 141, 3) := by decide +kernel
theorem dX6_isNoPlace_28 : decode cX6_isNoPlace 28 = .ok (.invokestatic 46, 3) := by decide +kernel
theorem dX6_isNoPlace_31 : decode cX6_isNoPlace 31 = .ok (.ifCond .eq 19, 3) := by decide +kernel
theorem dX6_isNoPlace_34 : decode cX6_isNoPlace 34 = .ok (.iload_n 3, 1) := by decide +kernel
theorem dX6_isNoPlace_35 : decode cX6_isNoPlace 35 = .ok (.i2l, 1) := by decide +kernel
theorem dX6_isNoPlace_36 : decode cX6_isNoPlace 36 = .ok (.lconst 0, 1) := by decide +kernel
theorem dX6_isNoPlace_37 : decode cX6_isNoPlace 37 = .ok (.ldc2_w 143, 3) := by decide +kernel
theorem dX6_isNoPlace_40 : decode cX6_isNoPlace 40 = .ok (.invokestatic 46, 3) := by decide +kernel
theorem dX6_isNoPlace_43 : decode cX6_isNoPlace 43 = .ok (.ifCond .eq 7, 3) := by decide +kernel
theorem dX6_isNoPlace_46 : decode cX6_isNoPlace 46 = .ok (.iconst 0, 1) := by decide +kernel
theorem dX6_isNoPlace_47 : decode cX6_isNoPlace 47 = .ok (.goto 4, 3) := by decide +kernel
theorem dX6_isNoPlace_50 : decode cX6_isNoPlace 50 = .ok (.iconst 1, 1) := by decide +kernel
theorem dX6_isNoPlace_51 : decode cX6_isNoPlace 51 = .ok (.invokevirtual 61, 3) := by decide +kernel
theorem dX6_isNoPlace_54 : decode cX6_isNoPlace 54 = .ok (.ireturn, 1) := by decide +kernel
theorem dX6_isNoCell_0 : decode cX6_isNoCell 0 = .ok (.aload_n 0, 1) := by decide +kernel
theorem dX6_isNoCell_1 : decode cX6_isNoCell 1 = .ok (.iload_n 1, 1) := by decide +kernel
theorem dX6_isNoCell_2 : decode cX6_isNoCell 2 = .ok (.iload_n 2, 1) := by decide +kernel
theorem dX6_isNoCell_3 : decode cX6_isNoCell 3 = .ok (.iload_n 3, 1) := by decide +kernel
theorem dX6_isNoCell_4 : decode cX6_isNoCell 4 = .ok (.invokevirtual 145, 3) := by decide +kernel
theorem dX6_isNoCell_7 : decode cX6_isNoCell 7 = .ok (.ifCond .ne 36, 3) := by decide +kernel
theorem dX6_isNoCell_10 : decode cX6_isNoCell 10 = .ok (.aload_n 0, 1) := by decide +kernel
theorem dX6_isNoCell_11 : decode cX6_isNoCell 11 = .ok (.aload_n 0, 1) := by decide +kernel
theorem dX6_isNoCell_12 : decode cX6_isNoCell 12 = .ok (.getfield 34, 3) := by decide +kernel
theorem dX6_isNoCell_15 : decode cX6_isNoCell 15 = .ok (.iload_n 1, 1) := by decide +kernel
theorem dX6_isNoCell_16 : decode cX6_isNoCell 16 = .ok (.invokeinterface 149 2, 5) := by decide +kernel
theorem dX6_isNoCell_21 : decode cX6_isNoCell 21 = .ok (.checkcast 125, 3) := by decide +kernel
theorem dX6_isNoCell_24 : decode cX6_isNoCell 24 = .ok (.iload_n 2, 1) := by decide +kernel
theorem dX6_isNoCell_25 : decode cX6_isNoCell 25 = .ok (.iload_n 3, 1) := by decide +kernel
theorem dX6_isNoCell_26 : decode cX6_isNoCell 26 = .ok (.invokevirtual 153, 3) := by decide +kernel
theorem dX6_isNoCell_29 : decode cX6_isNoCell 29 = .ok (.ifCond .eq 7, 3) := by decide +kernel
theorem dX6_isNoCell_32 : decode cX6_isNoCell 32 = .ok (.iconst 0, 1) := by decide +kernel
theorem dX6_isNoCell_33 : decode cX6_isNoCell 33 = .ok (.goto 4, 3) := by decide +kernel
theorem dX6_isNoCell_36 : decode cX6_isNoCell 36 = .ok (.iconst 2, 1) := by decide +kernel
theorem dX6_isNoCell_37 : decode cX6_isNoCell 37 = .ok (.invokevirtual 61, 3) := by decide +kernel
theorem dX6_isNoCell_40 : decode cX6_isNoCell 40 = .ok (.ifCond .eq 7, 3) := by decide +kernel
theorem dX6_isNoCell_43 : decode cX6_isNoCell 43 = .ok (.iconst 1, 1) := by decide +kernel
theorem dX6_isNoCell_44 : decode cX6_isNoCell 44 = .ok (.goto 4, 3) := by decide +kernel
theorem dX6_isNoCell_47 : decode cX6_isNoCell 47 = .ok (.iconst 0, 1) := by decide +kernel
theorem dX6_isNoCell_48 : decode cX6_isNoCell 48 = .ok (.ireturn, 1) := by decide +kernel
theorem dX6_put_0 : decode cX6_put 0 = .ok (.aload_n 0, 1) := by decide +kernel
theorem dX6_put_1 : decode cX6_put 1 = .ok (.iload_n 1, 1) := by decide +kernel
theorem dX6_put_2 : decode cX6_put 2 = .ok (.iload_n 2, 1) := by decide +kernel
theorem dX6_put_3 : decode cX6_put 3 = .ok (.iload_n 3, 1) := by decide +kernel
theorem dX6_put_4 : decode cX6_put 4 = .ok (.invokevirtual 145, 3) := by decide +kernel
theorem dX6_put_7 : decode cX6_put 7 = .ok (.ifCond .ne 36, 3) := by decide +kernel
theorem dX6_put_10 : decode cX6_put 10 = .ok (.aload_n 0, 1) := by decide +kernel
theorem dX6_put_11 : decode cX6_put 11 = .ok (.iload 4, 2) := by decide +kernel
theorem dX6_put_13 : decode cX6_put 13 = .ok (.bipush 115, 2) := by decide +kernel
theorem dX6_put_15 : decode cX6_put 15 = .ok (.if_icmp .eq 21, 3) := by decide +kernel
theorem dX6_put_18 : decode cX6_put 18 = .ok (.iload 4, 2) := by decide +kernel
theorem dX6_put_20 : decode cX6_put 20 = .ok (.bipush 105, 2) := by decide +kernel
theorem dX6_put_22 : decode cX6_put 22 = .ok (.if_icmp .eq 14, 3) := by decide +kernel
theorem dX6_put_25 : decode cX6_put 25 = .ok (.iload 4, 2) := by decide +kernel
theorem dX6_put_27 : decode cX6_put 27 = .ok (.bipush 99, 2) := by decide +kernel
theorem dX6_put_29 : decode cX6_put 29 = .ok (.if_icmp .eq 7, 3) := by decide +kernel
theorem dX6_put_32 : decode cX6_put 32 = .ok (.iconst 2, 1) := by decide +kernel
theorem dX6_put_33 : decode cX6_put 33 = .ok (.goto 4, 3) := by decide +kernel
theorem dX6_put_36 : decode cX6_put 36 = .ok (.iconst 0, 1) := by decide +kernel
theorem dX6_put_37 : decode cX6_put 37 = .ok (.invokevirtual 61, 3) := by decide +kernel
theorem dX6_put_40 : decode cX6_put 40 = .ok (.ifCond .eq 5, 3) := by decide +kernel
theorem dX6_put_43 : decode cX6_put 43 = .ok (.iconst 0, 1) := by decide +kernel
theorem dX6_put_44 : decode cX6_put 44 = .ok (.ireturn, 1) := by decide +kernel
theorem dX6_put_45 : decode cX6_put 45 = .ok (.aload_n 0, 1) := by decide +kernel
theorem dX6_put_46 : decode cX6_put 46 = .ok (.getfield 34, 3) := by decide +kernel
theorem dX6_put_49 : decode cX6_put 49 = .ok (.iload_n 1, 1) := by decide +kernel
theorem dX6_put_50 : decode cX6_put 50 = .ok (.invokeinterface 149 2, 5) := by decide +kernel
theorem dX6_put_55 : decode cX6_put 55 = .ok (.checkcast 125, 3) := by decide +kernel
theorem dX6_put_58 : decode cX6_put 58 = .ok (.astore 5, 2) := by decide +kernel
theorem dX6_put_60 : decode cX6_put 60 = .ok (.iload 4, 2) := by decide +kernel
theorem dX6_put_62 : decode cX6_put 62 = .ok (.bipush 115, 2) := by decide +kernel
theorem dX6_put_64 : decode cX6_put 64 = .ok (.if_icmp .ne 19, 3) := by decide +kernel
theorem dX6_put_67 : decode cX6_put 67 = .ok (.aload_n 0, 1) := by decide +kernel
theorem dX6_put_68 : decode cX6_put 68 = .ok (.getfield 89, 3) := by decide +kernel
theorem dX6_put_71 : decode cX6_put 71 = .ok (.iconst 4, 1) := by decide +kernel
theorem dX6_put_72 : decode cX6_put 72 = .ok (.if_icmp .lt 7, 3) := by decide +kernel
theorem dX6_put_75 : decode cX6_put 75 = .ok (.iconst 1, 1) := by decide +kernel
theorem dX6_put_76 : decode cX6_put 76 = .ok (.goto 32, 3) := by decide +kernel
theorem dX6_put_79 : decode cX6_put 79 = .ok (.iconst 0, 1) := by decide +kernel
theorem dX6_put_80 : decode cX6_put 80 = .ok (.goto 28, 3) := by decide +kernel
theorem dX6_put_83 : decode cX6_put 83 = .ok (.aload_n 0, 1) := by decide +kernel
theorem dX6_put_84 : decode cX6_put 84 = .ok (.getfield 28, 3) := by decide +kernel
theorem dX6_put_87 : decode cX6_put 87 = .ok (.iload 4, 2) := by decide +kernel
theorem dX6_put_89 : decode cX6_put 89 = .ok (.bipush 99, 2) := by decide +kernel
theorem dX6_put_91 : decode cX6_put 91 = .ok (.if_icmp .ne 7, 3) := by decide +kernel
theorem dX6_put_94 : decode cX6_put 94 = .ok (.iconst 1, 1) := by decide +kernel
theorem dX6_put_95 : decode cX6_put 95 = .ok (.goto 4, 3) := by decide +kernel
theorem dX6_put_98 : decode cX6_put 98 = .ok (.iconst 0, 1) := by decide +kernel
theorem dX6_put_99 : decode cX6_put 99 = .ok (.iaload, 1) := by decide +kernel
theorem dX6_put_100 : decode cX6_put 100 = .ok (.ifCond .le 7, 3) := by decide +kernel
theorem dX6_put_103 : decode cX6_put 103 = .ok (.iconst 1, 1) := by decide +kernel
theorem dX6_put_104 : decode cX6_put 104 = .ok (.goto 4, 3) := by decide +kernel
theorem dX6_put_107 : decode cX6_put 107 = .ok (.iconst 0, 1) := by decide +kernel
theorem dX6_put_108 : decode cX6_put 108 = .ok (.istore 6, 2) := by decide +kernel
theorem dX6_put_110 : decode cX6_put 110 = .ok (.aload_n 0, 1) := by decide +kernel
theorem dX6_put_111 : decode cX6_put 111 = .ok (.aload 5, 2) := by decide +kernel
theorem dX6_put_113 : decode cX6_put 113 = .ok (.iload_n 2, 1) := by decide +kernel
theorem dX6_put_114 : decode cX6_put 114 = .ok (.iload_n 3, 1) := by decide +kernel
theorem dX6_put_115 : decode cX6_put 115 = .ok (.invokevirtual 153, 3) := by decide +kernel
theorem dX6_put_118 : decode cX6_put 118 = .ok (.ifCond .ne 13, 3) := by decide +kernel
theorem dX6_put_121 : decode cX6_put 121 = .ok (.aload 5, 2) := by decide +kernel
theorem dX6_put_123 : decode cX6_put 123 = .ok (.iload_n 2, 1) := by decide +kernel
theorem dX6_put_124 : decode cX6_put 124 = .ok (.iload_n 3, 1) := by decide +kernel
theorem dX6_put_125 : decode cX6_put 125 = .ok (.invokevirtual 157, 3) := by decide +kernel
theorem dX6_put_128 : decode cX6_put 128 = .ok (.ifCond .ne 7, 3) := by decide +kernel
theorem dX6_put_131 : decode cX6_put 131 = .ok (.iconst 3, 1) := by decide +kernel
theorem dX6_put_132 : decode cX6_put 132 = .ok (.goto 13, 3) := by decide +kernel
theorem dX6_put_135 : decode cX6_put 135 = .ok (.iload 6, 2) := by decide +kernel
theorem dX6_put_137 : decode cX6_put 137 = .ok (.ifCond .ne 7, 3) := by decide +kernel
theorem dX6_put_140 : decode cX6_put 140 = .ok (.iconst 4, 1) := by decide +kernel
theorem dX6_put_141 : decode cX6_put 141 = .ok (.goto 4, 3) := by decide +kernel
theorem dX6_put_144 : decode cX6_put 144 = .ok (.iconst 0, 1) := by decide +kernel
theorem dX6_put_145 : decode cX6_put 145 = .ok (.invokevirtual 61, 3) := by decide +kernel
theorem dX6_put_148 : decode cX6_put 148 = .ok (.ifCond .eq 5, 3) := by decide +kernel
theorem dX6_put_151 : decode cX6_put 151 = .ok (.iconst 0, 1) := by decide +kernel
theorem dX6_put_152 : decode cX6_put 152 = .ok (.ireturn, 1) := by decide +kernel
theorem dX6_put_153 : decode cX6_put 153 = .ok (.iload 4, 2) := by decide +kernel
theorem dX6_put_155 : decode cX6_put 155 = .ok (.bipush 115, 2) := by decide +kernel
theorem dX6_put_157 : decode cX6_put 157 = .ok (.if_icmp .ne 16, 3) := by decide +kernel
theorem dX6_put_160 : decode cX6_put 160 = .ok (.aload_n 0, 1) := by decide +kernel
theorem dX6_put_161 : decode cX6_put 161 = .ok (.dup, 1) := by decide +kernel
theorem dX6_put_162 : decode cX6_put 162 = .ok (.getfield 89, 3) := by decide +kernel
theorem dX6_put_165 : decode cX6_put 165 = .ok (.iconst 4, 1) := by decide +kernel
theorem dX6_put_166 : decode cX6_put 166 = .ok (.isub, 1) := by decide +kernel
theorem dX6_put_167 : decode cX6_put 167 = .ok (.putfield 89, 3) := by decide +kernel
theorem dX6_put_170 : decode cX6_put 170 = .ok (.goto 24, 3) := by decide +kernel
theorem dX6_put_173 : decode cX6_put 173 = .ok (.aload_n 0, 1) := by decide +kernel
theorem dX6_put_174 : decode cX6_put 174 = .ok (.getfield 28, 3) := by decide +kernel
theorem dX6_put_177 : decode cX6_put 177 = .ok (.iload 4, 2) := by decide +kernel
theorem dX6_put_179 : decode cX6_put 179 = .ok (.bipush 99, 2) := by decide +kernel
theorem dX6_put_181 : decode cX6_put 181 = .ok (.if_icmp .ne 7, 3) := by decide +kernel
theorem dX6_put_184 : decode cX6_put 184 = .ok (.iconst 1, 1) := by decide +kernel
theorem dX6_put_185 : decode cX6_put 185 = .ok (.goto 4, 3) := by decide +kernel
theorem dX6_put_188 : decode cX6_put 188 = .ok (.iconst 0, 1) := by decide +kernel
theorem dX6_put_189 : decode cX6_put 189 = .ok (.dup2, 1) := by decide +kernel
theorem dX6_put_190 : decode cX6_put 190 = .ok (.iaload, 1) := by decide +kernel
theorem dX6_put_191 : decode cX6_put 191 = .ok (.iconst 1, 1) := by decide +kernel
theorem dX6_put_192 : decode cX6_put 192 = .ok (.isub, 1) := by decide +kernel
theorem dX6_put_193 : decode cX6_put 193 = .ok (.iastore, 1) := by decide +kernel
theorem dX6_put_194 : decode cX6_put 194 = .ok (.aload_n 0, 1) := by decide +kernel
theorem dX6_put_195 : decode cX6_put 195 = .ok (.dup, 1) := by decide +kernel
theorem dX6_put_196 : decode cX6_put 196 = .ok (.getfield 100, 3) := by decide +kernel
theorem dX6_put_199 : decode cX6_put 199 = .ok (.bipush 10, 2) := by decide +kernel
theorem dX6_put_201 : decode cX6_put 201 = .ok (.isub, 1) := by decide +kernel
theorem dX6_put_202 : decode cX6_put 202 = .ok (.putfield 100, 3) := by decide +kernel
theorem dX6_put_205 : decode cX6_put 205 = .ok (.aload 5, 2) := by decide +kernel
theorem dX6_put_207 : decode cX6_put 207 = .ok (.getfield 160, 3) := by decide +kernel
theorem dX6_put_210 : decode cX6_put 210 = .ok (.iload_n 3, 1) := by decide +kernel
theorem dX6_put_211 : decode cX6_put 211 = .ok (.aaload, 1) := by decide +kernel
theorem dX6_put_212 : decode cX6_put 212 = .ok (.iload_n 2, 1) := by decide +kernel
theorem dX6_put_213 : decode cX6_put 213 = .ok (.new 164, 3) := by decide +kernel
theorem dX6_put_216 : decode cX6_put 216 = .ok (.dup, 1) := by decide +kernel
theorem dX6_put_217 : decode cX6_put 217 = .ok (.iload 4, 2) := by decide +kernel
theorem dX6_put_219 : decode cX6_put 219 = .ok (.invokespecial 166, 3) := by decide +kernel
theorem dX6_put_222 : decode cX6_put 222 = .ok (.aastore, 1) := by decide +kernel
theorem dX6_put_223 : decode cX6_put 223 = .ok (.aload 5, 2) := by decide +kernel
theorem dX6_put_225 : decode cX6_put 225 = .ok (.aload_n 0, 1) := by decide +kernel
theorem dX6_put_226 : decode cX6_put 226 = .ok (.aload_n 0, 1) := by decide +kernel
theorem dX6_put_227 : decode cX6_put 227 = .ok (.getfield 58, 3) := by decide +kernel
theorem dX6_put_230 : decode cX6_put 230 = .ok (.invokevirtual 67, 3) := by decide +kernel
theorem dX6_put_233 : decode cX6_put 233 = .ok (.invokevirtual 169, 3) := by decide +kernel
theorem dX6_put_236 : decode cX6_put 236 = .ok (.pop, 1) := by decide +kernel
theorem dX6_put_237 : decode cX6_put 237 = .ok (.aload 5, 2) := by decide +kernel
theorem dX6_put_239 : decode cX6_put 239 = .ok (.invokevirtual 172, 3) := by decide +kernel
theorem dX6_put_242 : decode cX6_put 242 = .ok (.ireturn, 1) := by decide +kernel
theorem dX6_at_0 : decode cX6_at 0 = .ok (.aload_n 0, 1) := by decide +kernel
theorem dX6_at_1 : decode cX6_at 1 = .ok (.iload_n 1, 1) := by decide +kernel
theorem dX6_at_2 : decode cX6_at 2 = .ok (.iload_n 2, 1) := by decide +kernel
theorem dX6_at_3 : decode cX6_at 3 = .ok (.iload_n 3, 1) := by decide +kernel
theorem dX6_at_4 : decode cX6_at 4 = .ok (.invokevirtual 145, 3) := by decide +kernel
theorem dX6_at_7 : decode cX6_at 7 = .ok (.ifCond .eq 7, 3) := by decide +kernel
theorem dX6_at_10 : decode cX6_at 10 = .ok (.iconst 0, 1) := by decide +kernel
theorem dX6_at_11 : decode cX6_at 11 = .ok (.goto 52, 3) := by decide +kernel
theorem dX6_at_14 : decode cX6_at 14 = .ok (.aload_n 0, 1) := by decide +kernel
theorem dX6_at_15 : decode cX6_at 15 = .ok (.getfield 34, 3) := by decide +kernel
theorem dX6_at_18 : decode cX6_at 18 = .ok (.iload_n 1, 1) := by decide +kernel
theorem dX6_at_19 : decode cX6_at 19 = .ok (.invokeinterface 149 2, 5) := by decide +kernel
theorem dX6_at_24 : decode cX6_at 24 = .ok (.checkcast 125, 3) := by decide +kernel
theorem dX6_at_27 : decode cX6_at 27 = .ok (.iload_n 2, 1) := by decide +kernel
theorem dX6_at_28 : decode cX6_at 28 = .ok (.iload_n 3, 1) := by decide +kernel
theorem dX6_at_29 : decode cX6_at 29 = .ok (.invokevirtual 153, 3) := by decide +kernel
theorem dX6_at_32 : decode cX6_at 32 = .ok (.ifCond .eq 29, 3) := by decide +kernel
theorem dX6_at_35 : decode cX6_at 35 = .ok (.aload_n 0, 1) := by decide +kernel
theorem dX6_at_36 : decode cX6_at 36 = .ok (.getfield 34, 3) := by decide +kernel
theorem dX6_at_39 : decode cX6_at 39 = .ok (.iload_n 1, 1) := by decide +kernel
theorem dX6_at_40 : decode cX6_at 40 = .ok (.invokeinterface 149 2, 5) := by decide +kernel
theorem dX6_at_45 : decode cX6_at 45 = .ok (.checkcast 125, 3) := by decide +kernel
theorem dX6_at_48 : decode cX6_at 48 = .ok (.getfield 160, 3) := by decide +kernel
theorem dX6_at_51 : decode cX6_at 51 = .ok (.iload_n 3, 1) := by decide +kernel
theorem dX6_at_52 : decode cX6_at 52 = .ok (.aaload, 1) := by decide +kernel
theorem dX6_at_53 : decode cX6_at 53 = .ok (.iload_n 2, 1) := by decide +kernel
theorem dX6_at_54 : decode cX6_at 54 = .ok (.aaload, 1) := by decide +kernel
theorem dX6_at_55 : decode cX6_at 55 = .ok (.getfield 175, 3) := by decide +kernel
theorem dX6_at_58 : decode cX6_at 58 = .ok (.goto 5, 3) := by decide +kernel
theorem dX6_at_61 : decode cX6_at 61 = .ok (.bipush 46, 2) := by decide +kernel
theorem dX6_at_63 : decode cX6_at 63 = .ok (.ireturn, 1) := by decide +kernel
theorem dX6_mass_0 : decode cX6_mass 0 = .ok (.aload_n 0, 1) := by decide +kernel
theorem dX6_mass_1 : decode cX6_mass 1 = .ok (.iload_n 1, 1) := by decide +kernel
theorem dX6_mass_2 : decode cX6_mass 2 = .ok (.iload_n 2, 1) := by decide +kernel
theorem dX6_mass_3 : decode cX6_mass 3 = .ok (.iload_n 3, 1) := by decide +kernel
theorem dX6_mass_4 : decode cX6_mass 4 = .ok (.invokevirtual 179, 3) := by decide +kernel
theorem dX6_mass_7 : decode cX6_mass 7 = .ok (.ifCond .eq 7, 3) := by decide +kernel
theorem dX6_mass_10 : decode cX6_mass 10 = .ok (.iconst 0, 1) := by decide +kernel
theorem dX6_mass_11 : decode cX6_mass 11 = .ok (.goto 26, 3) := by decide +kernel
theorem dX6_mass_14 : decode cX6_mass 14 = .ok (.aload_n 0, 1) := by decide +kernel
theorem dX6_mass_15 : decode cX6_mass 15 = .ok (.getfield 34, 3) := by decide +kernel
theorem dX6_mass_18 : decode cX6_mass 18 = .ok (.iload_n 1, 1) := by decide +kernel
theorem dX6_mass_19 : decode cX6_mass 19 = .ok (.invokeinterface 149 2, 5) := by decide +kernel
theorem dX6_mass_24 : decode cX6_mass 24 = .ok (.checkcast 125, 3) := by decide +kernel
theorem dX6_mass_27 : decode cX6_mass 27 = .ok (.getfield 160, 3) := by decide +kernel
theorem dX6_mass_30 : decode cX6_mass 30 = .ok (.iload_n 3, 1) := by decide +kernel
theorem dX6_mass_31 : decode cX6_mass 31 = .ok (.aaload, 1) := by decide +kernel
theorem dX6_mass_32 : decode cX6_mass 32 = .ok (.iload_n 2, 1) := by decide +kernel
theorem dX6_mass_33 : decode cX6_mass 33 = .ok (.aaload, 1) := by decide +kernel
theorem dX6_mass_34 : decode cX6_mass 34 = .ok (.getfield 182, 3) := by decide +kernel
theorem dX6_mass_37 : decode cX6_mass 37 = .ok (.ireturn, 1) := by decide +kernel
theorem dX6_load_0 : decode cX6_load 0 = .ok (.aload_n 0, 1) := by decide +kernel
theorem dX6_load_1 : decode cX6_load 1 = .ok (.iload_n 1, 1) := by decide +kernel
theorem dX6_load_2 : decode cX6_load 2 = .ok (.iload_n 2, 1) := by decide +kernel
theorem dX6_load_3 : decode cX6_load 3 = .ok (.iload_n 3, 1) := by decide +kernel
theorem dX6_load_4 : decode cX6_load 4 = .ok (.invokevirtual 179, 3) := by decide +kernel
theorem dX6_load_7 : decode cX6_load 7 = .ok (.ifCond .eq 7, 3) := by decide +kernel
theorem dX6_load_10 : decode cX6_load 10 = .ok (.iconst 0, 1) := by decide +kernel
theorem dX6_load_11 : decode cX6_load 11 = .ok (.goto 25, 3) := by decide +kernel
theorem dX6_load_14 : decode cX6_load 14 = .ok (.aload_n 0, 1) := by decide +kernel
theorem dX6_load_15 : decode cX6_load 15 = .ok (.getfield 34, 3) := by decide +kernel
theorem dX6_load_18 : decode cX6_load 18 = .ok (.iload_n 1, 1) := by decide +kernel
theorem dX6_load_19 : decode cX6_load 19 = .ok (.invokeinterface 149 2, 5) := by decide +kernel
theorem dX6_load_24 : decode cX6_load 24 = .ok (.checkcast 125, 3) := by decide +kernel
theorem dX6_load_27 : decode cX6_load 27 = .ok (.iconst (-1), 1) := by decide +kernel
theorem dX6_load_28 : decode cX6_load 28 = .ok (.iconst 0, 1) := by decide +kernel
theorem dX6_load_29 : decode cX6_load 29 = .ok (.invokevirtual 185, 3) := by decide +kernel
theorem dX6_load_32 : decode cX6_load 32 = .ok (.iload_n 3, 1) := by decide +kernel
theorem dX6_load_33 : decode cX6_load 33 = .ok (.aaload, 1) := by decide +kernel
theorem dX6_load_34 : decode cX6_load 34 = .ok (.iload_n 2, 1) := by decide +kernel
theorem dX6_load_35 : decode cX6_load 35 = .ok (.iaload, 1) := by decide +kernel
theorem dX6_load_36 : decode cX6_load 36 = .ok (.ireturn, 1) := by decide +kernel
theorem dX6_strength_0 : decode cX6_strength 0 = .ok (.aload_n 0, 1) := by decide +kernel
theorem dX6_strength_1 : decode cX6_strength 1 = .ok (.iload_n 1, 1) := by decide +kernel
theorem dX6_strength_2 : decode cX6_strength 2 = .ok (.iload_n 2, 1) := by decide +kernel
theorem dX6_strength_3 : decode cX6_strength 3 = .ok (.iload_n 3, 1) := by decide +kernel
theorem dX6_strength_4 : decode cX6_strength 4 = .ok (.invokevirtual 179, 3) := by decide +kernel
theorem dX6_strength_7 : decode cX6_strength 7 = .ok (.ifCond .eq 7, 3) := by decide +kernel
theorem dX6_strength_10 : decode cX6_strength 10 = .ok (.iconst 0, 1) := by decide +kernel
theorem dX6_strength_11 : decode cX6_strength 11 = .ok (.goto 29, 3) := by decide +kernel
theorem dX6_strength_14 : decode cX6_strength 14 = .ok (.aload_n 0, 1) := by decide +kernel
theorem dX6_strength_15 : decode cX6_strength 15 = .ok (.getfield 34, 3) := by decide +kernel
theorem dX6_strength_18 : decode cX6_strength 18 = .ok (.iload_n 1, 1) := by decide +kernel
theorem dX6_strength_19 : decode cX6_strength 19 = .ok (.invokeinterface 149 2, 5) := by decide +kernel
theorem dX6_strength_24 : decode cX6_strength 24 = .ok (.checkcast 125, 3) := by decide +kernel
theorem dX6_strength_27 : decode cX6_strength 27 = .ok (.iload_n 2, 1) := by decide +kernel
theorem dX6_strength_28 : decode cX6_strength 28 = .ok (.iload_n 3, 1) := by decide +kernel
theorem dX6_strength_29 : decode cX6_strength 29 = .ok (.aload_n 0, 1) := by decide +kernel
theorem dX6_strength_30 : decode cX6_strength 30 = .ok (.aload_n 0, 1) := by decide +kernel
theorem dX6_strength_31 : decode cX6_strength 31 = .ok (.getfield 58, 3) := by decide +kernel
theorem dX6_strength_34 : decode cX6_strength 34 = .ok (.invokevirtual 67, 3) := by decide +kernel
theorem dX6_strength_37 : decode cX6_strength 37 = .ok (.invokevirtual 189, 3) := by decide +kernel
theorem dX6_strength_40 : decode cX6_strength 40 = .ok (.ireturn, 1) := by decide +kernel
theorem dX6_creep_0 : decode cX6_creep 0 = .ok (.aload_n 0, 1) := by decide +kernel
theorem dX6_creep_1 : decode cX6_creep 1 = .ok (.iload_n 1, 1) := by decide +kernel
theorem dX6_creep_2 : decode cX6_creep 2 = .ok (.iload_n 2, 1) := by decide +kernel
theorem dX6_creep_3 : decode cX6_creep 3 = .ok (.iload_n 3, 1) := by decide +kernel
theorem dX6_creep_4 : decode cX6_creep 4 = .ok (.invokevirtual 179, 3) := by decide +kernel
theorem dX6_creep_7 : decode cX6_creep 7 = .ok (.ifCond .eq 7, 3) := by decide +kernel
theorem dX6_creep_10 : decode cX6_creep 10 = .ok (.iconst 0, 1) := by decide +kernel
theorem dX6_creep_11 : decode cX6_creep 11 = .ok (.goto 26, 3) := by decide +kernel
theorem dX6_creep_14 : decode cX6_creep 14 = .ok (.aload_n 0, 1) := by decide +kernel
theorem dX6_creep_15 : decode cX6_creep 15 = .ok (.getfield 34, 3) := by decide +kernel
theorem dX6_creep_18 : decode cX6_creep 18 = .ok (.iload_n 1, 1) := by decide +kernel
theorem dX6_creep_19 : decode cX6_creep 19 = .ok (.invokeinterface 149 2, 5) := by decide +kernel
theorem dX6_creep_24 : decode cX6_creep 24 = .ok (.checkcast 125, 3) := by decide +kernel
theorem dX6_creep_27 : decode cX6_creep 27 = .ok (.getfield 160, 3) := by decide +kernel
theorem dX6_creep_30 : decode cX6_creep 30 = .ok (.iload_n 3, 1) := by decide +kernel
theorem dX6_creep_31 : decode cX6_creep 31 = .ok (.aaload, 1) := by decide +kernel
theorem dX6_creep_32 : decode cX6_creep 32 = .ok (.iload_n 2, 1) := by decide +kernel
theorem dX6_creep_33 : decode cX6_creep 33 = .ok (.aaload, 1) := by decide +kernel
theorem dX6_creep_34 : decode cX6_creep 34 = .ok (.getfield 193, 3) := by decide +kernel
theorem dX6_creep_37 : decode cX6_creep 37 = .ok (.ireturn, 1) := by decide +kernel
theorem dX6_age_0 : decode cX6_age 0 = .ok (.aload_n 0, 1) := by decide +kernel
theorem dX6_age_1 : decode cX6_age 1 = .ok (.iload_n 1, 1) := by decide +kernel
theorem dX6_age_2 : decode cX6_age 2 = .ok (.iload_n 2, 1) := by decide +kernel
theorem dX6_age_3 : decode cX6_age 3 = .ok (.iload_n 3, 1) := by decide +kernel
theorem dX6_age_4 : decode cX6_age 4 = .ok (.invokevirtual 179, 3) := by decide +kernel
theorem dX6_age_7 : decode cX6_age 7 = .ok (.ifCond .eq 7, 3) := by decide +kernel
theorem dX6_age_10 : decode cX6_age 10 = .ok (.iconst 0, 1) := by decide +kernel
theorem dX6_age_11 : decode cX6_age 11 = .ok (.goto 26, 3) := by decide +kernel
theorem dX6_age_14 : decode cX6_age 14 = .ok (.aload_n 0, 1) := by decide +kernel
theorem dX6_age_15 : decode cX6_age 15 = .ok (.getfield 34, 3) := by decide +kernel
theorem dX6_age_18 : decode cX6_age 18 = .ok (.iload_n 1, 1) := by decide +kernel
theorem dX6_age_19 : decode cX6_age 19 = .ok (.invokeinterface 149 2, 5) := by decide +kernel
theorem dX6_age_24 : decode cX6_age 24 = .ok (.checkcast 125, 3) := by decide +kernel
theorem dX6_age_27 : decode cX6_age 27 = .ok (.getfield 160, 3) := by decide +kernel
theorem dX6_age_30 : decode cX6_age 30 = .ok (.iload_n 3, 1) := by decide +kernel
theorem dX6_age_31 : decode cX6_age 31 = .ok (.aaload, 1) := by decide +kernel
theorem dX6_age_32 : decode cX6_age 32 = .ok (.iload_n 2, 1) := by decide +kernel
theorem dX6_age_33 : decode cX6_age 33 = .ok (.aaload, 1) := by decide +kernel
theorem dX6_age_34 : decode cX6_age 34 = .ok (.getfield 196, 3) := by decide +kernel
theorem dX6_age_37 : decode cX6_age 37 = .ok (.ireturn, 1) := by decide +kernel
theorem dX6_isArch_0 : decode cX6_isArch 0 = .ok (.aload_n 0, 1) := by decide +kernel
theorem dX6_isArch_1 : decode cX6_isArch 1 = .ok (.iload_n 1, 1) := by decide +kernel
theorem dX6_isArch_2 : decode cX6_isArch 2 = .ok (.iload_n 2, 1) := by decide +kernel
theorem dX6_isArch_3 : decode cX6_isArch 3 = .ok (.iload_n 3, 1) := by decide +kernel
theorem dX6_isArch_4 : decode cX6_isArch 4 = .ok (.invokevirtual 179, 3) := by decide +kernel
theorem dX6_isArch_7 : decode cX6_isArch 7 = .ok (.ifCond .ne 28, 3) := by decide +kernel
theorem dX6_isArch_10 : decode cX6_isArch 10 = .ok (.aload_n 0, 1) := by decide +kernel
theorem dX6_isArch_11 : decode cX6_isArch 11 = .ok (.getfield 34, 3) := by decide +kernel
theorem dX6_isArch_14 : decode cX6_isArch 14 = .ok (.iload_n 1, 1) := by decide +kernel
theorem dX6_isArch_15 : decode cX6_isArch 15 = .ok (.invokeinterface 149 2, 5) := by decide +kernel
theorem dX6_isArch_20 : decode cX6_isArch 20 = .ok (.checkcast 125, 3) := by decide +kernel
theorem dX6_isArch_23 : decode cX6_isArch 23 = .ok (.iload_n 2, 1) := by decide +kernel
theorem dX6_isArch_24 : decode cX6_isArch 24 = .ok (.iload_n 3, 1) := by decide +kernel
theorem dX6_isArch_25 : decode cX6_isArch 25 = .ok (.invokevirtual 199, 3) := by decide +kernel
theorem dX6_isArch_28 : decode cX6_isArch 28 = .ok (.ifCond .eq 7, 3) := by decide +kernel
theorem dX6_isArch_31 : decode cX6_isArch 31 = .ok (.iconst 1, 1) := by decide +kernel
theorem dX6_isArch_32 : decode cX6_isArch 32 = .ok (.goto 4, 3) := by decide +kernel
theorem dX6_isArch_35 : decode cX6_isArch 35 = .ok (.iconst 0, 1) := by decide +kernel
theorem dX6_isArch_36 : decode cX6_isArch 36 = .ok (.ireturn, 1) := by decide +kernel
theorem dX6_fell_0 : decode cX6_fell 0 = .ok (.aload_n 0, 1) := by decide +kernel
theorem dX6_fell_1 : decode cX6_fell 1 = .ok (.iload_n 1, 1) := by decide +kernel
theorem dX6_fell_2 : decode cX6_fell 2 = .ok (.invokevirtual 202, 3) := by decide +kernel
theorem dX6_fell_5 : decode cX6_fell 5 = .ok (.ifCond .eq 7, 3) := by decide +kernel
theorem dX6_fell_8 : decode cX6_fell 8 = .ok (.iconst 0, 1) := by decide +kernel
theorem dX6_fell_9 : decode cX6_fell 9 = .ok (.goto 19, 3) := by decide +kernel
theorem dX6_fell_12 : decode cX6_fell 12 = .ok (.aload_n 0, 1) := by decide +kernel
theorem dX6_fell_13 : decode cX6_fell 13 = .ok (.getfield 34, 3) := by decide +kernel
theorem dX6_fell_16 : decode cX6_fell 16 = .ok (.iload_n 1, 1) := by decide +kernel
theorem dX6_fell_17 : decode cX6_fell 17 = .ok (.invokeinterface 149 2, 5) := by decide +kernel
theorem dX6_fell_22 : decode cX6_fell 22 = .ok (.checkcast 125, 3) := by decide +kernel
theorem dX6_fell_25 : decode cX6_fell 25 = .ok (.getfield 205, 3) := by decide +kernel
theorem dX6_fell_28 : decode cX6_fell 28 = .ok (.ireturn, 1) := by decide +kernel
theorem dX6_lastFell_0 : decode cX6_lastFell 0 = .ok (.aload_n 0, 1) := by decide +kernel
theorem dX6_lastFell_1 : decode cX6_lastFell 1 = .ok (.iload_n 1, 1) := by decide +kernel
theorem dX6_lastFell_2 : decode cX6_lastFell 2 = .ok (.invokevirtual 202, 3) := by decide +kernel
theorem dX6_lastFell_5 : decode cX6_lastFell 5 = .ok (.ifCond .ne 35, 3) := by decide +kernel
theorem dX6_lastFell_8 : decode cX6_lastFell 8 = .ok (.aload_n 0, 1) := by decide +kernel
theorem dX6_lastFell_9 : decode cX6_lastFell 9 = .ok (.aload_n 0, 1) := by decide +kernel
theorem dX6_lastFell_10 : decode cX6_lastFell 10 = .ok (.getfield 34, 3) := by decide +kernel
theorem dX6_lastFell_13 : decode cX6_lastFell 13 = .ok (.iload_n 1, 1) := by decide +kernel
theorem dX6_lastFell_14 : decode cX6_lastFell 14 = .ok (.invokeinterface 149 2, 5) := by decide +kernel
theorem dX6_lastFell_19 : decode cX6_lastFell 19 = .ok (.checkcast 125, 3) := by decide +kernel
theorem dX6_lastFell_22 : decode cX6_lastFell 22 = .ok (.getfield 208, 3) := by decide +kernel
theorem dX6_lastFell_25 : decode cX6_lastFell 25 = .ok (.iconst (-1), 1) := by decide +kernel
theorem dX6_lastFell_26 : decode cX6_lastFell 26 = .ok (.if_icmp .ne 7, 3) := by decide +kernel
theorem dX6_lastFell_29 : decode cX6_lastFell 29 = .ok (.iconst 2, 1) := by decide +kernel
theorem dX6_lastFell_30 : decode cX6_lastFell 30 = .ok (.goto 4, 3) := by decide +kernel
theorem dX6_lastFell_33 : decode cX6_lastFell 33 = .ok (.iconst 0, 1) := by decide +kernel
theorem dX6_lastFell_34 : decode cX6_lastFell 34 = .ok (.invokevirtual 61, 3) := by decide +kernel
theorem dX6_lastFell_37 : decode cX6_lastFell 37 = .ok (.ifCond .eq 7, 3) := by decide +kernel
theorem dX6_lastFell_40 : decode cX6_lastFell 40 = .ok (.iconst 0, 1) := by decide +kernel
theorem dX6_lastFell_41 : decode cX6_lastFell 41 = .ok (.goto 19, 3) := by decide +kernel
theorem dX6_lastFell_44 : decode cX6_lastFell 44 = .ok (.aload_n 0, 1) := by decide +kernel
theorem dX6_lastFell_45 : decode cX6_lastFell 45 = .ok (.getfield 34, 3) := by decide +kernel
theorem dX6_lastFell_48 : decode cX6_lastFell 48 = .ok (.iload_n 1, 1) := by decide +kernel
theorem dX6_lastFell_49 : decode cX6_lastFell 49 = .ok (.invokeinterface 149 2, 5) := by decide +kernel
theorem dX6_lastFell_54 : decode cX6_lastFell 54 = .ok (.checkcast 125, 3) := by decide +kernel
theorem dX6_lastFell_57 : decode cX6_lastFell 57 = .ok (.getfield 208, 3) := by decide +kernel
theorem dX6_lastFell_60 : decode cX6_lastFell 60 = .ok (.ireturn, 1) := by decide +kernel
theorem dX6_cover_0 : decode cX6_cover 0 = .ok (.aload_n 0, 1) := by decide +kernel
theorem dX6_cover_1 : decode cX6_cover 1 = .ok (.iload_n 1, 1) := by decide +kernel
theorem dX6_cover_2 : decode cX6_cover 2 = .ok (.invokevirtual 202, 3) := by decide +kernel
theorem dX6_cover_5 : decode cX6_cover 5 = .ok (.ifCond .eq 5, 3) := by decide +kernel
theorem dX6_cover_8 : decode cX6_cover 8 = .ok (.iconst 0, 1) := by decide +kernel
theorem dX6_cover_9 : decode cX6_cover 9 = .ok (.ireturn, 1) := by decide +kernel
theorem dX6_cover_10 : decode cX6_cover 10 = .ok (.aload_n 0, 1) := by decide +kernel
theorem dX6_cover_11 : decode cX6_cover 11 = .ok (.getfield 34, 3) := by decide +kernel
theorem dX6_cover_14 : decode cX6_cover 14 = .ok (.iload_n 1, 1) := by decide +kernel
theorem dX6_cover_15 : decode cX6_cover 15 = .ok (.invokeinterface 149 2, 5) := by decide +kernel
theorem dX6_cover_20 : decode cX6_cover 20 = .ok (.checkcast 125, 3) := by decide +kernel
theorem dX6_cover_23 : decode cX6_cover 23 = .ok (.getfield 211, 3) := by decide +kernel
theorem dX6_cover_26 : decode cX6_cover 26 = .ok (.istore_n 3, 1) := by decide +kernel
theorem dX6_cover_27 : decode cX6_cover 27 = .ok (.aload_n 0, 1) := by decide +kernel
theorem dX6_cover_28 : decode cX6_cover 28 = .ok (.dup, 1) := by decide +kernel
theorem dX6_cover_29 : decode cX6_cover 29 = .ok (.getfield 100, 3) := by decide +kernel
theorem dX6_cover_32 : decode cX6_cover 32 = .ok (.iload_n 2, 1) := by decide +kernel
theorem dX6_cover_33 : decode cX6_cover 33 = .ok (.ifCond .eq 13, 3) := by decide +kernel
theorem dX6_cover_36 : decode cX6_cover 36 = .ok (.iload_n 3, 1) := by decide +kernel
theorem dX6_cover_37 : decode cX6_cover 37 = .ok (.ifCond .ne 9, 3) := by decide +kernel
theorem dX6_cover_40 : decode cX6_cover 40 = .ok (.sipush 300, 3) := by decide +kernel
theorem dX6_cover_43 : decode cX6_cover 43 = .ok (.goto 4, 3) := by decide +kernel
theorem dX6_cover_46 : decode cX6_cover 46 = .ok (.iconst 0, 1) := by decide +kernel
theorem dX6_cover_47 : decode cX6_cover 47 = .ok (.isub, 1) := by decide +kernel
theorem dX6_cover_48 : decode cX6_cover 48 = .ok (.putfield 100, 3) := by decide +kernel
theorem dX6_cover_51 : decode cX6_cover 51 = .ok (.aload_n 0, 1) := by decide +kernel
theorem dX6_cover_52 : decode cX6_cover 52 = .ok (.getfield 34, 3) := by decide +kernel
theorem dX6_cover_55 : decode cX6_cover 55 = .ok (.iload_n 1, 1) := by decide +kernel
theorem dX6_cover_56 : decode cX6_cover 56 = .ok (.invokeinterface 149 2, 5) := by decide +kernel
theorem dX6_cover_61 : decode cX6_cover 61 = .ok (.checkcast 125, 3) := by decide +kernel
theorem dX6_cover_64 : decode cX6_cover 64 = .ok (.iload_n 2, 1) := by decide +kernel
theorem dX6_cover_65 : decode cX6_cover 65 = .ok (.putfield 211, 3) := by decide +kernel
theorem dX6_cover_68 : decode cX6_cover 68 = .ok (.iload_n 3, 1) := by decide +kernel
theorem dX6_cover_69 : decode cX6_cover 69 = .ok (.ireturn, 1) := by decide +kernel
theorem dX6_lamp_0 : decode cX6_lamp 0 = .ok (.aload_n 0, 1) := by decide +kernel
theorem dX6_lamp_1 : decode cX6_lamp 1 = .ok (.iload_n 1, 1) := by decide +kernel
theorem dX6_lamp_2 : decode cX6_lamp 2 = .ok (.iload_n 2, 1) := by decide +kernel
theorem dX6_lamp_3 : decode cX6_lamp 3 = .ok (.iload_n 3, 1) := by decide +kernel
theorem dX6_lamp_4 : decode cX6_lamp 4 = .ok (.invokevirtual 179, 3) := by decide +kernel
theorem dX6_lamp_7 : decode cX6_lamp 7 = .ok (.ifCond .eq 5, 3) := by decide +kernel
theorem dX6_lamp_10 : decode cX6_lamp 10 = .ok (.iconst 0, 1) := by decide +kernel
theorem dX6_lamp_11 : decode cX6_lamp 11 = .ok (.ireturn, 1) := by decide +kernel
theorem dX6_lamp_12 : decode cX6_lamp 12 = .ok (.aload_n 0, 1) := by decide +kernel
theorem dX6_lamp_13 : decode cX6_lamp 13 = .ok (.getfield 34, 3) := by decide +kernel
theorem dX6_lamp_16 : decode cX6_lamp 16 = .ok (.iload_n 1, 1) := by decide +kernel
theorem dX6_lamp_17 : decode cX6_lamp 17 = .ok (.invokeinterface 149 2, 5) := by decide +kernel
theorem dX6_lamp_22 : decode cX6_lamp 22 = .ok (.checkcast 125, 3) := by decide +kernel
theorem dX6_lamp_25 : decode cX6_lamp 25 = .ok (.getfield 160, 3) := by decide +kernel
theorem dX6_lamp_28 : decode cX6_lamp 28 = .ok (.iload_n 3, 1) := by decide +kernel
theorem dX6_lamp_29 : decode cX6_lamp 29 = .ok (.aaload, 1) := by decide +kernel
theorem dX6_lamp_30 : decode cX6_lamp 30 = .ok (.iload_n 2, 1) := by decide +kernel
theorem dX6_lamp_31 : decode cX6_lamp 31 = .ok (.aaload, 1) := by decide +kernel
theorem dX6_lamp_32 : decode cX6_lamp 32 = .ok (.astore 5, 2) := by decide +kernel
theorem dX6_lamp_34 : decode cX6_lamp 34 = .ok (.aload_n 0, 1) := by decide +kernel
theorem dX6_lamp_35 : decode cX6_lamp 35 = .ok (.iload 4, 2) := by decide +kernel
theorem dX6_lamp_37 : decode cX6_lamp 37 = .ok (.ifCond .eq 17, 3) := by decide +kernel
theorem dX6_lamp_40 : decode cX6_lamp 40 = .ok (.aload 5, 2) := by decide +kernel
theorem dX6_lamp_42 : decode cX6_lamp 42 = .ok (.getfield 175, 3) := by decide +kernel
theorem dX6_lamp_45 : decode cX6_lamp 45 = .ok (.bipush 115, 2) := by decide +kernel
theorem dX6_lamp_47 : decode cX6_lamp 47 = .ok (.if_icmp .ne 7, 3) := by decide +kernel
theorem dX6_lamp_50 : decode cX6_lamp 50 = .ok (.iconst 3, 1) := by decide +kernel
theorem dX6_lamp_51 : decode cX6_lamp 51 = .ok (.goto 4, 3) := by decide +kernel
theorem dX6_lamp_54 : decode cX6_lamp 54 = .ok (.iconst 0, 1) := by decide +kernel
theorem dX6_lamp_55 : decode cX6_lamp 55 = .ok (.invokevirtual 61, 3) := by decide +kernel
theorem dX6_lamp_58 : decode cX6_lamp 58 = .ok (.ifCond .eq 5, 3) := by decide +kernel
theorem dX6_lamp_61 : decode cX6_lamp 61 = .ok (.iconst 0, 1) := by decide +kernel
theorem dX6_lamp_62 : decode cX6_lamp 62 = .ok (.ireturn, 1) := by decide +kernel
theorem dX6_lamp_63 : decode cX6_lamp 63 = .ok (.aload 5, 2) := by decide +kernel
theorem dX6_lamp_65 : decode cX6_lamp 65 = .ok (.getfield 214, 3) := by decide +kernel
theorem dX6_lamp_68 : decode cX6_lamp 68 = .ok (.istore 6, 2) := by decide +kernel
theorem dX6_lamp_70 : decode cX6_lamp 70 = .ok (.aload_n 0, 1) := by decide +kernel
theorem dX6_lamp_71 : decode cX6_lamp 71 = .ok (.dup, 1) := by decide +kernel
theorem dX6_lamp_72 : decode cX6_lamp 72 = .ok (.getfield 100, 3) := by decide +kernel
theorem dX6_lamp_75 : decode cX6_lamp 75 = .ok (.iload 4, 2) := by decide +kernel
theorem dX6_lamp_77 : decode cX6_lamp 77 = .ok (.ifCond .eq 13, 3) := by decide +kernel
theorem dX6_lamp_80 : decode cX6_lamp 80 = .ok (.iload 6, 2) := by decide +kernel
theorem dX6_lamp_82 : decode cX6_lamp 82 = .ok (.ifCond .ne 8, 3) := by decide +kernel
theorem dX6_lamp_85 : decode cX6_lamp 85 = .ok (.bipush 50, 2) := by decide +kernel
theorem dX6_lamp_87 : decode cX6_lamp 87 = .ok (.goto 4, 3) := by decide +kernel
theorem dX6_lamp_90 : decode cX6_lamp 90 = .ok (.iconst 0, 1) := by decide +kernel
theorem dX6_lamp_91 : decode cX6_lamp 91 = .ok (.isub, 1) := by decide +kernel
theorem dX6_lamp_92 : decode cX6_lamp 92 = .ok (.putfield 100, 3) := by decide +kernel
theorem dX6_lamp_95 : decode cX6_lamp 95 = .ok (.aload 5, 2) := by decide +kernel
theorem dX6_lamp_97 : decode cX6_lamp 97 = .ok (.iload 4, 2) := by decide +kernel
theorem dX6_lamp_99 : decode cX6_lamp 99 = .ok (.putfield 214, 3) := by decide +kernel
theorem dX6_lamp_102 : decode cX6_lamp 102 = .ok (.iload 6, 2) := by decide +kernel
theorem dX6_lamp_104 : decode cX6_lamp 104 = .ok (.ireturn, 1) := by decide +kernel
theorem dX6_lightBits_0 : decode cX6_lightBits 0 = .ok (.aload_n 0, 1) := by decide +kernel
theorem dX6_lightBits_1 : decode cX6_lightBits 1 = .ok (.iload_n 1, 1) := by decide +kernel
theorem dX6_lightBits_2 : decode cX6_lightBits 2 = .ok (.iload_n 2, 1) := by decide +kernel
theorem dX6_lightBits_3 : decode cX6_lightBits 3 = .ok (.iload_n 3, 1) := by decide +kernel
theorem dX6_lightBits_4 : decode cX6_lightBits 4 = .ok (.invokevirtual 145, 3) := by decide +kernel
theorem dX6_lightBits_7 : decode cX6_lightBits 7 = .ok (.ifCond .eq 5, 3) := by decide +kernel
theorem dX6_lightBits_10 : decode cX6_lightBits 10 = .ok (.iconst 0, 1) := by decide +kernel
theorem dX6_lightBits_11 : decode cX6_lightBits 11 = .ok (.ireturn, 1) := by decide +kernel
theorem dX6_lightBits_12 : decode cX6_lightBits 12 = .ok (.aload_n 0, 1) := by decide +kernel
theorem dX6_lightBits_13 : decode cX6_lightBits 13 = .ok (.getfield 34, 3) := by decide +kernel
theorem dX6_lightBits_16 : decode cX6_lightBits 16 = .ok (.iload_n 1, 1) := by decide +kernel
theorem dX6_lightBits_17 : decode cX6_lightBits 17 = .ok (.invokeinterface 149 2, 5) := by decide +kernel
theorem dX6_lightBits_22 : decode cX6_lightBits 22 = .ok (.checkcast 125, 3) := by decide +kernel
theorem dX6_lightBits_25 : decode cX6_lightBits 25 = .ok (.astore 4, 2) := by decide +kernel
theorem dX6_lightBits_27 : decode cX6_lightBits 27 = .ok (.fconst 0, 1) := by decide +kernel
theorem dX6_lightBits_28 : decode cX6_lightBits 28 = .ok (.fstore 5, 2) := by decide +kernel
theorem dX6_lightBits_30 : decode cX6_lightBits 30 = .ok (.iconst 0, 1) := by decide +kernel
theorem dX6_lightBits_31 : decode cX6_lightBits 31 = .ok (.istore 6, 2) := by decide +kernel
theorem dX6_lightBits_33 : decode cX6_lightBits 33 = .ok (.iload 6, 2) := by decide +kernel
theorem dX6_lightBits_35 : decode cX6_lightBits 35 = .ok (.bipush 8, 2) := by decide +kernel
theorem dX6_lightBits_37 : decode cX6_lightBits 37 = .ok (.if_icmp .ge 118, 3) := by decide +kernel
theorem dX6_lightBits_40 : decode cX6_lightBits 40 = .ok (.aload 4, 2) := by decide +kernel
theorem dX6_lightBits_42 : decode cX6_lightBits 42 = .ok (.iload 6, 2) := by decide +kernel
theorem dX6_lightBits_44 : decode cX6_lightBits 44 = .ok (.iload_n 3, 1) := by decide +kernel
theorem dX6_lightBits_45 : decode cX6_lightBits 45 = .ok (.invokevirtual 153, 3) := by decide +kernel
theorem dX6_lightBits_48 : decode cX6_lightBits 48 = .ok (.ifCond .eq 101, 3) := by decide +kernel
theorem dX6_lightBits_51 : decode cX6_lightBits 51 = .ok (.aload 4, 2) := by decide +kernel
theorem dX6_lightBits_53 : decode cX6_lightBits 53 = .ok (.getfield 160, 3) := by decide +kernel
theorem dX6_lightBits_56 : decode cX6_lightBits 56 = .ok (.iload_n 3, 1) := by decide +kernel
theorem dX6_lightBits_57 : decode cX6_lightBits 57 = .ok (.aaload, 1) := by decide +kernel
theorem dX6_lightBits_58 : decode cX6_lightBits 58 = .ok (.iload 6, 2) := by decide +kernel
theorem dX6_lightBits_60 : decode cX6_lightBits 60 = .ok (.aaload, 1) := by decide +kernel
theorem dX6_lightBits_61 : decode cX6_lightBits 61 = .ok (.getfield 214, 3) := by decide +kernel
theorem dX6_lightBits_64 : decode cX6_lightBits 64 = .ok (.ifCond .ne 6, 3) := by decide +kernel
theorem dX6_lightBits_67 : decode cX6_lightBits 67 = .ok (.goto 82, 3) := by decide +kernel
theorem dX6_lightBits_70 : decode cX6_lightBits 70 = .ok (.fconst 1, 1) := by decide +kernel
theorem dX6_lightBits_71 : decode cX6_lightBits 71 = .ok (.fstore 7, 2) := by decide +kernel
theorem dX6_lightBits_73 : decode cX6_lightBits 73 = .ok (.iload 6, 2) := by decide +kernel
theorem dX6_lightBits_75 : decode cX6_lightBits 75 = .ok (.iload_n 2, 1) := by decide +kernel
theorem dX6_lightBits_76 : decode cX6_lightBits 76 = .ok (.if_icmp .gt 7, 3) := by decide +kernel
theorem dX6_lightBits_79 : decode cX6_lightBits 79 = .ok (.iconst 1, 1) := by decide +kernel
theorem dX6_lightBits_80 : decode cX6_lightBits 80 = .ok (.goto 4, 3) := by decide +kernel
theorem dX6_lightBits_83 : decode cX6_lightBits 83 = .ok (.iconst (-1), 1) := by decide +kernel
theorem dX6_lightBits_84 : decode cX6_lightBits 84 = .ok (.istore 8, 2) := by decide +kernel
theorem dX6_lightBits_86 : decode cX6_lightBits 86 = .ok (.iload 6, 2) := by decide +kernel
theorem dX6_lightBits_88 : decode cX6_lightBits 88 = .ok (.istore 9, 2) := by decide +kernel
theorem dX6_lightBits_90 : decode cX6_lightBits 90 = .ok (.iload 9, 2) := by decide +kernel
theorem dX6_lightBits_92 : decode cX6_lightBits 92 = .ok (.iload_n 2, 1) := by decide +kernel
theorem dX6_lightBits_93 : decode cX6_lightBits 93 = .ok (.iload 8, 2) := by decide +kernel
theorem dX6_lightBits_95 : decode cX6_lightBits 95 = .ok (.iadd, 1) := by decide +kernel
theorem dX6_lightBits_96 : decode cX6_lightBits 96 = .ok (.if_icmp .eq 46, 3) := by decide +kernel
theorem dX6_lightBits_99 : decode cX6_lightBits 99 = .ok (.fload 7, 2) := by decide +kernel
theorem dX6_lightBits_101 : decode cX6_lightBits 101 = .ok (.aload 4, 2) := by decide +kernel
theorem dX6_lightBits_103 : decode cX6_lightBits 103 = .ok (.iload 9, 2) := by decide +kernel
theorem dX6_lightBits_105 : decode cX6_lightBits 105 = .ok (.iload_n 3, 1) := by decide +kernel
theorem dX6_lightBits_106 : decode cX6_lightBits 106 = .ok (.invokevirtual 153, 3) := by decide +kernel
theorem dX6_lightBits_109 : decode cX6_lightBits 109 = .ok (.ifCond .eq 19, 3) := by decide +kernel
theorem dX6_lightBits_112 : decode cX6_lightBits 112 = .ok (.aload 4, 2) := by decide +kernel
theorem dX6_lightBits_114 : decode cX6_lightBits 114 = .ok (.getfield 160, 3) := by decide +kernel
theorem dX6_lightBits_117 : decode cX6_lightBits 117 = .ok (.iload_n 3, 1) := by decide +kernel
theorem dX6_lightBits_118 : decode cX6_lightBits 118 = .ok (.aaload, 1) := by decide +kernel
theorem dX6_lightBits_119 : decode cX6_lightBits 119 = .ok (.iload 9, 2) := by decide +kernel
theorem dX6_lightBits_121 : decode cX6_lightBits 121 = .ok (.aaload, 1) := by decide +kernel
theorem dX6_lightBits_122 : decode cX6_lightBits 122 = .ok (.invokevirtual 217, 3) := by decide +kernel
theorem dX6_lightBits_125 : decode cX6_lightBits 125 = .ok (.goto 4, 3) := by decide +kernel
theorem dX6_lightBits_128 : decode cX6_lightBits 128 = .ok (.fconst 1, 1) := by decide +kernel
theorem dX6_lightBits_129 : decode cX6_lightBits 129 = .ok (.fmul, 1) := by decide +kernel
theorem dX6_lightBits_130 : decode cX6_lightBits 130 = .ok (.fstore 7, 2) := by decide +kernel
theorem dX6_lightBits_132 : decode cX6_lightBits 132 = .ok (.iload 9, 2) := by decide +kernel
theorem dX6_lightBits_134 : decode cX6_lightBits 134 = .ok (.iload 8, 2) := by decide +kernel
theorem dX6_lightBits_136 : decode cX6_lightBits 136 = .ok (.iadd, 1) := by decide +kernel
theorem dX6_lightBits_137 : decode cX6_lightBits 137 = .ok (.istore 9, 2) := by decide +kernel
theorem dX6_lightBits_139 : decode cX6_lightBits 139 = .ok (.goto (-49), 3) := by decide +kernel
theorem dX6_lightBits_142 : decode cX6_lightBits 142 = .ok (.fload 5, 2) := by decide +kernel
theorem dX6_lightBits_144 : decode cX6_lightBits 144 = .ok (.fload 7, 2) := by decide +kernel
theorem dX6_lightBits_146 : decode cX6_lightBits 146 = .ok (.fadd, 1) := by decide +kernel
theorem dX6_lightBits_147 : decode cX6_lightBits 147 = .ok (.fstore 5, 2) := by decide +kernel
theorem dX6_lightBits_149 : decode cX6_lightBits 149 = .ok (.iinc 6 1, 3) := by decide +kernel
theorem dX6_lightBits_152 : decode cX6_lightBits 152 = .ok (.goto (-119), 3) := by decide +kernel
theorem dX6_lightBits_155 : decode cX6_lightBits 155 = .ok (.fload 5, 2) := by decide +kernel
theorem dX6_lightBits_157 : decode cX6_lightBits 157 = .ok (.invokestatic 221, 3) := by decide +kernel
theorem dX6_lightBits_160 : decode cX6_lightBits 160 = .ok (.ireturn, 1) := by decide +kernel
theorem dX6_isOpen_0 : decode cX6_isOpen 0 = .ok (.aload_n 0, 1) := by decide +kernel
theorem dX6_isOpen_1 : decode cX6_isOpen 1 = .ok (.iload_n 1, 1) := by decide +kernel
theorem dX6_isOpen_2 : decode cX6_isOpen 2 = .ok (.invokevirtual 202, 3) := by decide +kernel
theorem dX6_isOpen_5 : decode cX6_isOpen 5 = .ok (.ifCond .ne 28, 3) := by decide +kernel
theorem dX6_isOpen_8 : decode cX6_isOpen 8 = .ok (.aload_n 0, 1) := by decide +kernel
theorem dX6_isOpen_9 : decode cX6_isOpen 9 = .ok (.getfield 34, 3) := by decide +kernel
theorem dX6_isOpen_12 : decode cX6_isOpen 12 = .ok (.iload_n 1, 1) := by decide +kernel
theorem dX6_isOpen_13 : decode cX6_isOpen 13 = .ok (.invokeinterface 149 2, 5) := by decide +kernel
theorem dX6_isOpen_18 : decode cX6_isOpen 18 = .ok (.checkcast 125, 3) := by decide +kernel
theorem dX6_isOpen_21 : decode cX6_isOpen 21 = .ok (.iconst (-1), 1) := by decide +kernel
theorem dX6_isOpen_22 : decode cX6_isOpen 22 = .ok (.iconst 0, 1) := by decide +kernel
theorem dX6_isOpen_23 : decode cX6_isOpen 23 = .ok (.invokevirtual 227, 3) := by decide +kernel
theorem dX6_isOpen_26 : decode cX6_isOpen 26 = .ok (.ifCond .eq 7, 3) := by decide +kernel
theorem dX6_isOpen_29 : decode cX6_isOpen 29 = .ok (.iconst 1, 1) := by decide +kernel
theorem dX6_isOpen_30 : decode cX6_isOpen 30 = .ok (.goto 4, 3) := by decide +kernel
theorem dX6_isOpen_33 : decode cX6_isOpen 33 = .ok (.iconst 0, 1) := by decide +kernel
theorem dX6_isOpen_34 : decode cX6_isOpen 34 = .ok (.ireturn, 1) := by decide +kernel
theorem dX6_carries_0 : decode cX6_carries 0 = .ok (.aload_n 0, 1) := by decide +kernel
theorem dX6_carries_1 : decode cX6_carries 1 = .ok (.iload_n 1, 1) := by decide +kernel
theorem dX6_carries_2 : decode cX6_carries 2 = .ok (.iload_n 2, 1) := by decide +kernel
theorem dX6_carries_3 : decode cX6_carries 3 = .ok (.iconst 0, 1) := by decide +kernel
theorem dX6_carries_4 : decode cX6_carries 4 = .ok (.invokevirtual 145, 3) := by decide +kernel
theorem dX6_carries_7 : decode cX6_carries 7 = .ok (.ifCond .eq 5, 3) := by decide +kernel
theorem dX6_carries_10 : decode cX6_carries 10 = .ok (.iconst 0, 1) := by decide +kernel
theorem dX6_carries_11 : decode cX6_carries 11 = .ok (.ireturn, 1) := by decide +kernel
theorem dX6_carries_12 : decode cX6_carries 12 = .ok (.aload_n 0, 1) := by decide +kernel
theorem dX6_carries_13 : decode cX6_carries 13 = .ok (.getfield 34, 3) := by decide +kernel
theorem dX6_carries_16 : decode cX6_carries 16 = .ok (.iload_n 1, 1) := by decide +kernel
theorem dX6_carries_17 : decode cX6_carries 17 = .ok (.invokeinterface 149 2, 5) := by decide +kernel
theorem dX6_carries_22 : decode cX6_carries 22 = .ok (.checkcast 125, 3) := by decide +kernel
theorem dX6_carries_25 : decode cX6_carries 25 = .ok (.astore_n 3, 1) := by decide +kernel
theorem dX6_carries_26 : decode cX6_carries 26 = .ok (.aload_n 0, 1) := by decide +kernel
theorem dX6_carries_27 : decode cX6_carries 27 = .ok (.aload_n 3, 1) := by decide +kernel
theorem dX6_carries_28 : decode cX6_carries 28 = .ok (.iload_n 2, 1) := by decide +kernel
theorem dX6_carries_29 : decode cX6_carries 29 = .ok (.invokevirtual 230, 3) := by decide +kernel
theorem dX6_carries_32 : decode cX6_carries 32 = .ok (.iconst (-1), 1) := by decide +kernel
theorem dX6_carries_33 : decode cX6_carries 33 = .ok (.if_icmp .ne 7, 3) := by decide +kernel
theorem dX6_carries_36 : decode cX6_carries 36 = .ok (.iconst 2, 1) := by decide +kernel
theorem dX6_carries_37 : decode cX6_carries 37 = .ok (.goto 4, 3) := by decide +kernel
theorem dX6_carries_40 : decode cX6_carries 40 = .ok (.iconst 0, 1) := by decide +kernel
theorem dX6_carries_41 : decode cX6_carries 41 = .ok (.invokevirtual 61, 3) := by decide +kernel
theorem dX6_carries_44 : decode cX6_carries 44 = .ok (.ifCond .ne 12, 3) := by decide +kernel
theorem dX6_carries_47 : decode cX6_carries 47 = .ok (.aload_n 3, 1) := by decide +kernel
theorem dX6_carries_48 : decode cX6_carries 48 = .ok (.iconst (-1), 1) := by decide +kernel
theorem dX6_carries_49 : decode cX6_carries 49 = .ok (.iconst 0, 1) := by decide +kernel
theorem dX6_carries_50 : decode cX6_carries 50 = .ok (.invokevirtual 227, 3) := by decide +kernel
theorem dX6_carries_53 : decode cX6_carries 53 = .ok (.ifCond .ne 5, 3) := by decide +kernel
theorem dX6_carries_56 : decode cX6_carries 56 = .ok (.iconst 0, 1) := by decide +kernel
theorem dX6_carries_57 : decode cX6_carries 57 = .ok (.ireturn, 1) := by decide +kernel
theorem dX6_carries_58 : decode cX6_carries 58 = .ok (.iconst 0, 1) := by decide +kernel
theorem dX6_carries_59 : decode cX6_carries 59 = .ok (.istore 4, 2) := by decide +kernel
theorem dX6_carries_61 : decode cX6_carries 61 = .ok (.iload 4, 2) := by decide +kernel
theorem dX6_carries_63 : decode cX6_carries 63 = .ok (.bipush 99, 2) := by decide +kernel
theorem dX6_carries_65 : decode cX6_carries 65 = .ok (.if_icmp .ge 21, 3) := by decide +kernel
theorem dX6_carries_68 : decode cX6_carries 68 = .ok (.aload_n 3, 1) := by decide +kernel
theorem dX6_carries_69 : decode cX6_carries 69 = .ok (.iload_n 2, 1) := by decide +kernel
theorem dX6_carries_70 : decode cX6_carries 70 = .ok (.iload 4, 2) := by decide +kernel
theorem dX6_carries_72 : decode cX6_carries 72 = .ok (.iconst 1, 1) := by decide +kernel
theorem dX6_carries_73 : decode cX6_carries 73 = .ok (.iadd, 1) := by decide +kernel
theorem dX6_carries_74 : decode cX6_carries 74 = .ok (.invokevirtual 227, 3) := by decide +kernel
theorem dX6_carries_77 : decode cX6_carries 77 = .ok (.ifCond .eq 9, 3) := by decide +kernel
theorem dX6_carries_80 : decode cX6_carries 80 = .ok (.iinc 4 1, 3) := by decide +kernel
theorem dX6_carries_83 : decode cX6_carries 83 = .ok (.goto (-22), 3) := by decide +kernel
theorem dX6_carries_86 : decode cX6_carries 86 = .ok (.iload 4, 2) := by decide +kernel
theorem dX6_carries_88 : decode cX6_carries 88 = .ok (.ireturn, 1) := by decide +kernel
theorem dX6_visit_0 : decode cX6_visit 0 = .ok (.aload_n 0, 1) := by decide +kernel
theorem dX6_visit_1 : decode cX6_visit 1 = .ok (.iload_n 1, 1) := by decide +kernel
theorem dX6_visit_2 : decode cX6_visit 2 = .ok (.invokevirtual 202, 3) := by decide +kernel
theorem dX6_visit_5 : decode cX6_visit 5 = .ok (.ifCond .ne 52, 3) := by decide +kernel
theorem dX6_visit_8 : decode cX6_visit 8 = .ok (.aload_n 0, 1) := by decide +kernel
theorem dX6_visit_9 : decode cX6_visit 9 = .ok (.iload_n 2, 1) := by decide +kernel
theorem dX6_visit_10 : decode cX6_visit 10 = .ok (.i2l, 1) := by decide +kernel
theorem dX6_visit_11 : decode cX6_visit 11 = .ok (.lconst 1, 1) := by decide +kernel
theorem dX6_visit_12 : decode cX6_visit 12 = .ok (.ldc2_w 233, 3) := by decide +kernel
theorem dX6_visit_15 : decode cX6_visit 15 = .ok (.invokestatic 46, 3) := by decide +kernel
theorem dX6_visit_18 : decode cX6_visit 18 = .ok (.ifCond .ne 7, 3) := by decide +kernel
theorem dX6_visit_21 : decode cX6_visit 21 = .ok (.iconst 2, 1) := by decide +kernel
theorem dX6_visit_22 : decode cX6_visit 22 = .ok (.goto 29, 3) := by decide +kernel
theorem dX6_visit_25 : decode cX6_visit 25 = .ok (.aload_n 0, 1) := by decide +kernel
theorem dX6_visit_26 : decode cX6_visit 26 = .ok (.getfield 34, 3) := by decide +kernel
theorem dX6_visit_29 : decode cX6_visit 29 = .ok (.iload_n 1, 1) := by decide +kernel
theorem dX6_visit_30 : decode cX6_visit 30 = .ok (.invokeinterface 149 2, 5) := by decide +kernel
theorem dX6_visit_35 : decode cX6_visit 35 = .ok (.checkcast 125, 3) := by decide +kernel
theorem dX6_visit_38 : decode cX6_visit 38 = .ok (.iconst (-1), 1) := by decide +kernel
theorem dX6_visit_39 : decode cX6_visit 39 = .ok (.iconst 0, 1) := by decide +kernel
theorem dX6_visit_40 : decode cX6_visit 40 = .ok (.invokevirtual 227, 3) := by decide +kernel
theorem dX6_visit_43 : decode cX6_visit 43 = .ok (.ifCond .ne 7, 3) := by decide +kernel
theorem dX6_visit_46 : decode cX6_visit 46 = .ok (.iconst 3, 1) := by decide +kernel
theorem dX6_visit_47 : decode cX6_visit 47 = .ok (.goto 4, 3) := by decide +kernel
theorem dX6_visit_50 : decode cX6_visit 50 = .ok (.iconst 0, 1) := by decide +kernel
theorem dX6_visit_51 : decode cX6_visit 51 = .ok (.invokevirtual 61, 3) := by decide +kernel
theorem dX6_visit_54 : decode cX6_visit 54 = .ok (.ifCond .eq 5, 3) := by decide +kernel
theorem dX6_visit_57 : decode cX6_visit 57 = .ok (.iconst 0, 1) := by decide +kernel
theorem dX6_visit_58 : decode cX6_visit 58 = .ok (.ireturn, 1) := by decide +kernel
theorem dX6_visit_59 : decode cX6_visit 59 = .ok (.aload_n 0, 1) := by decide +kernel
theorem dX6_visit_60 : decode cX6_visit 60 = .ok (.dup, 1) := by decide +kernel
theorem dX6_visit_61 : decode cX6_visit 61 = .ok (.getfield 100, 3) := by decide +kernel
theorem dX6_visit_64 : decode cX6_visit 64 = .ok (.iconst 5, 1) := by decide +kernel
theorem dX6_visit_65 : decode cX6_visit 65 = .ok (.iload_n 2, 1) := by decide +kernel
theorem dX6_visit_66 : decode cX6_visit 66 = .ok (.imul, 1) := by decide +kernel
theorem dX6_visit_67 : decode cX6_visit 67 = .ok (.iadd, 1) := by decide +kernel
theorem dX6_visit_68 : decode cX6_visit 68 = .ok (.putfield 100, 3) := by decide +kernel
theorem dX6_visit_71 : decode cX6_visit 71 = .ok (.aload_n 0, 1) := by decide +kernel
theorem dX6_visit_72 : decode cX6_visit 72 = .ok (.getfield 34, 3) := by decide +kernel
theorem dX6_visit_75 : decode cX6_visit 75 = .ok (.iload_n 1, 1) := by decide +kernel
theorem dX6_visit_76 : decode cX6_visit 76 = .ok (.invokeinterface 149 2, 5) := by decide +kernel
theorem dX6_visit_81 : decode cX6_visit 81 = .ok (.checkcast 125, 3) := by decide +kernel
theorem dX6_visit_84 : decode cX6_visit 84 = .ok (.dup, 1) := by decide +kernel
theorem dX6_visit_85 : decode cX6_visit 85 = .ok (.getfield 235, 3) := by decide +kernel
theorem dX6_visit_88 : decode cX6_visit 88 = .ok (.iload_n 2, 1) := by decide +kernel
theorem dX6_visit_89 : decode cX6_visit 89 = .ok (.iadd, 1) := by decide +kernel
theorem dX6_visit_90 : decode cX6_visit 90 = .ok (.putfield 235, 3) := by decide +kernel
theorem dX6_visit_93 : decode cX6_visit 93 = .ok (.aload_n 0, 1) := by decide +kernel
theorem dX6_visit_94 : decode cX6_visit 94 = .ok (.getfield 34, 3) := by decide +kernel
theorem dX6_visit_97 : decode cX6_visit 97 = .ok (.iload_n 1, 1) := by decide +kernel
theorem dX6_visit_98 : decode cX6_visit 98 = .ok (.invokeinterface 149 2, 5) := by decide +kernel
theorem dX6_visit_103 : decode cX6_visit 103 = .ok (.checkcast 125, 3) := by decide +kernel
theorem dX6_visit_106 : decode cX6_visit 106 = .ok (.getfield 235, 3) := by decide +kernel
theorem dX6_visit_109 : decode cX6_visit 109 = .ok (.ireturn, 1) := by decide +kernel
theorem dX6_squareBits_0 : decode cX6_squareBits 0 = .ok (.aload_n 0, 1) := by decide +kernel
theorem dX6_squareBits_1 : decode cX6_squareBits 1 = .ok (.iload_n 1, 1) := by decide +kernel
theorem dX6_squareBits_2 : decode cX6_squareBits 2 = .ok (.i2l, 1) := by decide +kernel
theorem dX6_squareBits_3 : decode cX6_squareBits 3 = .ok (.lconst 1, 1) := by decide +kernel
theorem dX6_squareBits_4 : decode cX6_squareBits 4 = .ok (.ldc2_w 44, 3) := by decide +kernel
theorem dX6_squareBits_7 : decode cX6_squareBits 7 = .ok (.invokestatic 46, 3) := by decide +kernel
theorem dX6_squareBits_10 : decode cX6_squareBits 10 = .ok (.ifCond .eq 17, 3) := by decide +kernel
theorem dX6_squareBits_13 : decode cX6_squareBits 13 = .ok (.iload_n 2, 1) := by decide +kernel
theorem dX6_squareBits_14 : decode cX6_squareBits 14 = .ok (.i2l, 1) := by decide +kernel
theorem dX6_squareBits_15 : decode cX6_squareBits 15 = .ok (.ldc2_w 143, 3) := by decide +kernel
theorem dX6_squareBits_18 : decode cX6_squareBits 18 = .ok (.ldc2_w 238, 3) := by decide +kernel
theorem dX6_squareBits_21 : decode cX6_squareBits 21 = .ok (.invokestatic 46, 3) := by decide +kernel
theorem dX6_squareBits_24 : decode cX6_squareBits 24 = .ok (.ifCond .ne 7, 3) := by decide +kernel
theorem dX6_squareBits_27 : decode cX6_squareBits 27 = .ok (.iconst 1, 1) := by decide +kernel
theorem dX6_squareBits_28 : decode cX6_squareBits 28 = .ok (.goto 4, 3) := by decide +kernel
theorem dX6_squareBits_31 : decode cX6_squareBits 31 = .ok (.iconst 0, 1) := by decide +kernel
theorem dX6_squareBits_32 : decode cX6_squareBits 32 = .ok (.invokevirtual 61, 3) := by decide +kernel
theorem dX6_squareBits_35 : decode cX6_squareBits 35 = .ok (.ifCond .eq 5, 3) := by decide +kernel
theorem dX6_squareBits_38 : decode cX6_squareBits 38 = .ok (.lconst 0, 1) := by decide +kernel
theorem dX6_squareBits_39 : decode cX6_squareBits 39 = .ok (.lreturn, 1) := by decide +kernel
theorem dX6_squareBits_40 : decode cX6_squareBits 40 = .ok (.iload_n 3, 1) := by decide +kernel
theorem dX6_squareBits_41 : decode cX6_squareBits 41 = .ok (.ifCond .eq 9, 3) := by decide +kernel
theorem dX6_squareBits_44 : decode cX6_squareBits 44 = .ok (.ldc2_w 240, 3) := by decide +kernel
theorem dX6_squareBits_47 : decode cX6_squareBits 47 = .ok (.goto 6, 3) := by decide +kernel
theorem dX6_squareBits_50 : decode cX6_squareBits 50 = .ok (.ldc2_w 242, 3) := by decide +kernel
theorem dX6_squareBits_53 : decode cX6_squareBits 53 = .ok (.aload_n 0, 1) := by decide +kernel
theorem dX6_squareBits_54 : decode cX6_squareBits 54 = .ok (.aload_n 0, 1) := by decide +kernel
theorem dX6_squareBits_55 : decode cX6_squareBits 55 = .ok (.getfield 58, 3) := by decide +kernel
theorem dX6_squareBits_58 : decode cX6_squareBits 58 = .ok (.invokevirtual 67, 3) := by decide +kernel
theorem dX6_squareBits_61 : decode cX6_squareBits 61 = .ok (.ifCond .le 9, 3) := by decide +kernel
theorem dX6_squareBits_64 : decode cX6_squareBits 64 = .ok (.ldc2_w 242, 3) := by decide +kernel
theorem dX6_squareBits_67 : decode cX6_squareBits 67 = .ok (.goto 4, 3) := by decide +kernel
theorem dX6_squareBits_70 : decode cX6_squareBits 70 = .ok (.dconst 0, 1) := by decide +kernel
theorem dX6_squareBits_71 : decode cX6_squareBits 71 = .ok (.dadd, 1) := by decide +kernel
theorem dX6_squareBits_72 : decode cX6_squareBits 72 = .ok (.dstore 4, 2) := by decide +kernel
theorem dX6_squareBits_74 : decode cX6_squareBits 74 = .ok (.ldc2_w 244, 3) := by decide +kernel
theorem dX6_squareBits_77 : decode cX6_squareBits 77 = .ok (.iload_n 1, 1) := by decide +kernel
theorem dX6_squareBits_78 : decode cX6_squareBits 78 = .ok (.i2d, 1) := by decide +kernel
theorem dX6_squareBits_79 : decode cX6_squareBits 79 = .ok (.dload 4, 2) := by decide +kernel
theorem dX6_squareBits_81 : decode cX6_squareBits 81 = .ok (.iload_n 2, 1) := by decide +kernel
theorem dX6_squareBits_82 : decode cX6_squareBits 82 = .ok (.i2d, 1) := by decide +kernel
theorem dX6_squareBits_83 : decode cX6_squareBits 83 = .ok (.dmul, 1) := by decide +kernel
theorem dX6_squareBits_84 : decode cX6_squareBits 84 = .ok (.dsub, 1) := by decide +kernel
theorem dX6_squareBits_85 : decode cX6_squareBits 85 = .ok (.dmul, 1) := by decide +kernel
theorem dX6_squareBits_86 : decode cX6_squareBits 86 = .ok (.dstore 6, 2) := by decide +kernel
theorem dX6_squareBits_88 : decode cX6_squareBits 88 = .ok (.dload 6, 2) := by decide +kernel
theorem dX6_squareBits_90 : decode cX6_squareBits 90 = .ok (.dconst 0, 1) := by decide +kernel
theorem dX6_squareBits_91 : decode cX6_squareBits 91 = .ok (.dcmp .l, 1) := by decide +kernel
theorem dX6_squareBits_92 : decode cX6_squareBits 92 = .ok (.ifCond .le 8, 3) := by decide +kernel
theorem dX6_squareBits_95 : decode cX6_squareBits 95 = .ok (.dload 6, 2) := by decide +kernel
theorem dX6_squareBits_97 : decode cX6_squareBits 97 = .ok (.goto 4, 3) := by decide +kernel
theorem dX6_squareBits_100 : decode cX6_squareBits 100 = .ok (.dconst 0, 1) := by decide +kernel
theorem dX6_squareBits_101 : decode cX6_squareBits 101 = .ok (.invokestatic 246, 3) := by decide +kernel
theorem dX6_squareBits_104 : decode cX6_squareBits 104 = .ok (.lreturn, 1) := by decide +kernel
theorem dX6_plan_0 : decode cX6_plan 0 = .ok (.aload_n 0, 1) := by decide +kernel
theorem dX6_plan_1 : decode cX6_plan 1 = .ok (.iload_n 1, 1) := by decide +kernel
theorem dX6_plan_2 : decode cX6_plan 2 = .ok (.iload_n 2, 1) := by decide +kernel
theorem dX6_plan_3 : decode cX6_plan 3 = .ok (.iload_n 3, 1) := by decide +kernel
theorem dX6_plan_4 : decode cX6_plan 4 = .ok (.invokevirtual 145, 3) := by decide +kernel
theorem dX6_plan_7 : decode cX6_plan 7 = .ok (.ifCond .eq 5, 3) := by decide +kernel
theorem dX6_plan_10 : decode cX6_plan 10 = .ok (.iconst 0, 1) := by decide +kernel
theorem dX6_plan_11 : decode cX6_plan 11 = .ok (.ireturn, 1) := by decide +kernel
theorem dX6_plan_12 : decode cX6_plan 12 = .ok (.aload_n 0, 1) := by decide +kernel
theorem dX6_plan_13 : decode cX6_plan 13 = .ok (.getfield 34, 3) := by decide +kernel
theorem dX6_plan_16 : decode cX6_plan 16 = .ok (.iload_n 1, 1) := by decide +kernel
theorem dX6_plan_17 : decode cX6_plan 17 = .ok (.invokeinterface 149 2, 5) := by decide +kernel
theorem dX6_plan_22 : decode cX6_plan 22 = .ok (.checkcast 125, 3) := by decide +kernel
theorem dX6_plan_25 : decode cX6_plan 25 = .ok (.getfield 252, 3) := by decide +kernel
theorem dX6_plan_28 : decode cX6_plan 28 = .ok (.iload_n 3, 1) := by decide +kernel
theorem dX6_plan_29 : decode cX6_plan 29 = .ok (.aaload, 1) := by decide +kernel
theorem dX6_plan_30 : decode cX6_plan 30 = .ok (.iload_n 2, 1) := by decide +kernel
theorem dX6_plan_31 : decode cX6_plan 31 = .ok (.iload 4, 2) := by decide +kernel
theorem dX6_plan_33 : decode cX6_plan 33 = .ok (.bastore, 1) := by decide +kernel
theorem dX6_plan_34 : decode cX6_plan 34 = .ok (.iconst 0, 1) := by decide +kernel
theorem dX6_plan_35 : decode cX6_plan 35 = .ok (.istore 5, 2) := by decide +kernel
theorem dX6_plan_37 : decode cX6_plan 37 = .ok (.aload_n 0, 1) := by decide +kernel
theorem dX6_plan_38 : decode cX6_plan 38 = .ok (.getfield 34, 3) := by decide +kernel
theorem dX6_plan_41 : decode cX6_plan 41 = .ok (.iload_n 1, 1) := by decide +kernel
theorem dX6_plan_42 : decode cX6_plan 42 = .ok (.invokeinterface 149 2, 5) := by decide +kernel
theorem dX6_plan_47 : decode cX6_plan 47 = .ok (.checkcast 125, 3) := by decide +kernel
theorem dX6_plan_50 : decode cX6_plan 50 = .ok (.getfield 252, 3) := by decide +kernel
theorem dX6_plan_53 : decode cX6_plan 53 = .ok (.astore 6, 2) := by decide +kernel
theorem dX6_plan_55 : decode cX6_plan 55 = .ok (.aload 6, 2) := by decide +kernel
theorem dX6_plan_57 : decode cX6_plan 57 = .ok (.arraylength, 1) := by decide +kernel
theorem dX6_plan_58 : decode cX6_plan 58 = .ok (.istore 7, 2) := by decide +kernel
theorem dX6_plan_60 : decode cX6_plan 60 = .ok (.iconst 0, 1) := by decide +kernel
theorem dX6_plan_61 : decode cX6_plan 61 = .ok (.istore 8, 2) := by decide +kernel
theorem dX6_plan_63 : decode cX6_plan 63 = .ok (.iload 8, 2) := by decide +kernel
theorem dX6_plan_65 : decode cX6_plan 65 = .ok (.iload 7, 2) := by decide +kernel
theorem dX6_plan_67 : decode cX6_plan 67 = .ok (.if_icmp .ge 63, 3) := by decide +kernel
theorem dX6_plan_70 : decode cX6_plan 70 = .ok (.aload 6, 2) := by decide +kernel
theorem dX6_plan_72 : decode cX6_plan 72 = .ok (.iload 8, 2) := by decide +kernel
theorem dX6_plan_74 : decode cX6_plan 74 = .ok (.aaload, 1) := by decide +kernel
theorem dX6_plan_75 : decode cX6_plan 75 = .ok (.astore 9, 2) := by decide +kernel
theorem dX6_plan_77 : decode cX6_plan 77 = .ok (.aload 9, 2) := by decide +kernel
theorem dX6_plan_79 : decode cX6_plan 79 = .ok (.astore 10, 2) := by decide +kernel
theorem dX6_plan_81 : decode cX6_plan 81 = .ok (.aload 10, 2) := by decide +kernel
theorem dX6_plan_83 : decode cX6_plan 83 = .ok (.arraylength, 1) := by decide +kernel
theorem dX6_plan_84 : decode cX6_plan 84 = .ok (.istore 11, 2) := by decide +kernel
theorem dX6_plan_86 : decode cX6_plan 86 = .ok (.iconst 0, 1) := by decide +kernel
theorem dX6_plan_87 : decode cX6_plan 87 = .ok (.istore 12, 2) := by decide +kernel
theorem dX6_plan_89 : decode cX6_plan 89 = .ok (.iload 12, 2) := by decide +kernel
theorem dX6_plan_91 : decode cX6_plan 91 = .ok (.iload 11, 2) := by decide +kernel
theorem dX6_plan_93 : decode cX6_plan 93 = .ok (.if_icmp .ge 31, 3) := by decide +kernel
theorem dX6_plan_96 : decode cX6_plan 96 = .ok (.aload 10, 2) := by decide +kernel
theorem dX6_plan_98 : decode cX6_plan 98 = .ok (.iload 12, 2) := by decide +kernel
theorem dX6_plan_100 : decode cX6_plan 100 = .ok (.baload, 1) := by decide +kernel
theorem dX6_plan_101 : decode cX6_plan 101 = .ok (.istore 13, 2) := by decide +kernel
theorem dX6_plan_103 : decode cX6_plan 103 = .ok (.iload 5, 2) := by decide +kernel
theorem dX6_plan_105 : decode cX6_plan 105 = .ok (.iload 13, 2) := by decide +kernel
theorem dX6_plan_107 : decode cX6_plan 107 = .ok (.ifCond .eq 7, 3) := by decide +kernel
theorem dX6_plan_110 : decode cX6_plan 110 = .ok (.iconst 1, 1) := by decide +kernel
theorem dX6_plan_111 : decode cX6_plan 111 = .ok (.goto 4, 3) := by decide +kernel
theorem dX6_plan_114 : decode cX6_plan 114 = .ok (.iconst 0, 1) := by decide +kernel
theorem dX6_plan_115 : decode cX6_plan 115 = .ok (.iadd, 1) := by decide +kernel
theorem dX6_plan_116 : decode cX6_plan 116 = .ok (.istore 5, 2) := by decide +kernel
theorem dX6_plan_118 : decode cX6_plan 118 = .ok (.iinc 12 1, 3) := by decide +kernel
theorem dX6_plan_121 : decode cX6_plan 121 = .ok (.goto (-32), 3) := by decide +kernel
theorem dX6_plan_124 : decode cX6_plan 124 = .ok (.iinc 8 1, 3) := by decide +kernel
theorem dX6_plan_127 : decode cX6_plan 127 = .ok (.goto (-64), 3) := by decide +kernel
theorem dX6_plan_130 : decode cX6_plan 130 = .ok (.iload 5, 2) := by decide +kernel
theorem dX6_plan_132 : decode cX6_plan 132 = .ok (.ireturn, 1) := by decide +kernel
theorem dX6_carve_0 : decode cX6_carve 0 = .ok (.aload_n 0, 1) := by decide +kernel
theorem dX6_carve_1 : decode cX6_carve 1 = .ok (.iload_n 1, 1) := by decide +kernel
theorem dX6_carve_2 : decode cX6_carve 2 = .ok (.iload_n 2, 1) := by decide +kernel
theorem dX6_carve_3 : decode cX6_carve 3 = .ok (.iload_n 3, 1) := by decide +kernel
theorem dX6_carve_4 : decode cX6_carve 4 = .ok (.invokevirtual 145, 3) := by decide +kernel
theorem dX6_carve_7 : decode cX6_carve 7 = .ok (.ifCond .eq 5, 3) := by decide +kernel
theorem dX6_carve_10 : decode cX6_carve 10 = .ok (.iconst 0, 1) := by decide +kernel
theorem dX6_carve_11 : decode cX6_carve 11 = .ok (.ireturn, 1) := by decide +kernel
theorem dX6_carve_12 : decode cX6_carve 12 = .ok (.aload_n 0, 1) := by decide +kernel
theorem dX6_carve_13 : decode cX6_carve 13 = .ok (.getfield 34, 3) := by decide +kernel
theorem dX6_carve_16 : decode cX6_carve 16 = .ok (.iload_n 1, 1) := by decide +kernel
theorem dX6_carve_17 : decode cX6_carve 17 = .ok (.invokeinterface 149 2, 5) := by decide +kernel
theorem dX6_carve_22 : decode cX6_carve 22 = .ok (.checkcast 125, 3) := by decide +kernel
theorem dX6_carve_25 : decode cX6_carve 25 = .ok (.astore 5, 2) := by decide +kernel
theorem dX6_carve_27 : decode cX6_carve 27 = .ok (.aload 5, 2) := by decide +kernel
theorem dX6_carve_29 : decode cX6_carve 29 = .ok (.getfield 160, 3) := by decide +kernel
theorem dX6_carve_32 : decode cX6_carve 32 = .ok (.iload_n 3, 1) := by decide +kernel
theorem dX6_carve_33 : decode cX6_carve 33 = .ok (.aaload, 1) := by decide +kernel
theorem dX6_carve_34 : decode cX6_carve 34 = .ok (.iload_n 2, 1) := by decide +kernel
theorem dX6_carve_35 : decode cX6_carve 35 = .ok (.aaload, 1) := by decide +kernel
theorem dX6_carve_36 : decode cX6_carve 36 = .ok (.astore 6, 2) := by decide +kernel
theorem dX6_carve_38 : decode cX6_carve 38 = .ok (.aload_n 0, 1) := by decide +kernel
theorem dX6_carve_39 : decode cX6_carve 39 = .ok (.iload 4, 2) := by decide +kernel
theorem dX6_carve_41 : decode cX6_carve 41 = .ok (.i2l, 1) := by decide +kernel
theorem dX6_carve_42 : decode cX6_carve 42 = .ok (.lconst 0, 1) := by decide +kernel
theorem dX6_carve_43 : decode cX6_carve 43 = .ok (.ldc2_w 52, 3) := by decide +kernel
theorem dX6_carve_46 : decode cX6_carve 46 = .ok (.invokestatic 46, 3) := by decide +kernel
theorem dX6_carve_49 : decode cX6_carve 49 = .ok (.ifCond .ne 7, 3) := by decide +kernel
theorem dX6_carve_52 : decode cX6_carve 52 = .ok (.iconst 2, 1) := by decide +kernel
theorem dX6_carve_53 : decode cX6_carve 53 = .ok (.goto 49, 3) := by decide +kernel
theorem dX6_carve_56 : decode cX6_carve 56 = .ok (.aload 6, 2) := by decide +kernel
theorem dX6_carve_58 : decode cX6_carve 58 = .ok (.ifnonnull 7, 3) := by decide +kernel
theorem dX6_carve_61 : decode cX6_carve 61 = .ok (.iconst 3, 1) := by decide +kernel
theorem dX6_carve_62 : decode cX6_carve 62 = .ok (.goto 40, 3) := by decide +kernel
theorem dX6_carve_65 : decode cX6_carve 65 = .ok (.aload 5, 2) := by decide +kernel
theorem dX6_carve_67 : decode cX6_carve 67 = .ok (.getfield 256, 3) := by decide +kernel
theorem dX6_carve_70 : decode cX6_carve 70 = .ok (.bipush 60, 2) := by decide +kernel
theorem dX6_carve_72 : decode cX6_carve 72 = .ok (.if_icmp .ne 7, 3) := by decide +kernel
theorem dX6_carve_75 : decode cX6_carve 75 = .ok (.iconst 4, 1) := by decide +kernel
theorem dX6_carve_76 : decode cX6_carve 76 = .ok (.goto 26, 3) := by decide +kernel
theorem dX6_carve_79 : decode cX6_carve 79 = .ok (.iload 4, 2) := by decide +kernel
theorem dX6_carve_81 : decode cX6_carve 81 = .ok (.ifCond .le 20, 3) := by decide +kernel
theorem dX6_carve_84 : decode cX6_carve 84 = .ok (.aload 6, 2) := by decide +kernel
theorem dX6_carve_86 : decode cX6_carve 86 = .ok (.getfield 182, 3) := by decide +kernel
theorem dX6_carve_89 : decode cX6_carve 89 = .ok (.iload 4, 2) := by decide +kernel
theorem dX6_carve_91 : decode cX6_carve 91 = .ok (.isub, 1) := by decide +kernel
theorem dX6_carve_92 : decode cX6_carve 92 = .ok (.bipush 100, 2) := by decide +kernel
theorem dX6_carve_94 : decode cX6_carve 94 = .ok (.if_icmp .gt 7, 3) := by decide +kernel
theorem dX6_carve_97 : decode cX6_carve 97 = .ok (.iconst 5, 1) := by decide +kernel
theorem dX6_carve_98 : decode cX6_carve 98 = .ok (.goto 4, 3) := by decide +kernel
theorem dX6_carve_101 : decode cX6_carve 101 = .ok (.iconst 0, 1) := by decide +kernel
theorem dX6_carve_102 : decode cX6_carve 102 = .ok (.invokevirtual 61, 3) := by decide +kernel
theorem dX6_carve_105 : decode cX6_carve 105 = .ok (.ifCond .eq 5, 3) := by decide +kernel
theorem dX6_carve_108 : decode cX6_carve 108 = .ok (.iconst 0, 1) := by decide +kernel
theorem dX6_carve_109 : decode cX6_carve 109 = .ok (.ireturn, 1) := by decide +kernel
theorem dX6_carve_110 : decode cX6_carve 110 = .ok (.aload 5, 2) := by decide +kernel
theorem dX6_carve_112 : decode cX6_carve 112 = .ok (.dup, 1) := by decide +kernel
theorem dX6_carve_113 : decode cX6_carve 113 = .ok (.getfield 256, 3) := by decide +kernel
theorem dX6_carve_116 : decode cX6_carve 116 = .ok (.iconst 1, 1) := by decide +kernel
theorem dX6_carve_117 : decode cX6_carve 117 = .ok (.iadd, 1) := by decide +kernel
theorem dX6_carve_118 : decode cX6_carve 118 = .ok (.putfield 256, 3) := by decide +kernel
theorem dX6_carve_121 : decode cX6_carve 121 = .ok (.iload 4, 2) := by decide +kernel
theorem dX6_carve_123 : decode cX6_carve 123 = .ok (.ifCond .ne 16, 3) := by decide +kernel
theorem dX6_carve_126 : decode cX6_carve 126 = .ok (.aload 5, 2) := by decide +kernel
theorem dX6_carve_128 : decode cX6_carve 128 = .ok (.getfield 160, 3) := by decide +kernel
theorem dX6_carve_131 : decode cX6_carve 131 = .ok (.iload_n 3, 1) := by decide +kernel
theorem dX6_carve_132 : decode cX6_carve 132 = .ok (.aaload, 1) := by decide +kernel
theorem dX6_carve_133 : decode cX6_carve 133 = .ok (.iload_n 2, 1) := by decide +kernel
theorem dX6_carve_134 : decode cX6_carve 134 = .ok (.aconst_null, 1) := by decide +kernel
theorem dX6_carve_135 : decode cX6_carve 135 = .ok (.aastore, 1) := by decide +kernel
theorem dX6_carve_136 : decode cX6_carve 136 = .ok (.goto 15, 3) := by decide +kernel
theorem dX6_carve_139 : decode cX6_carve 139 = .ok (.aload 6, 2) := by decide +kernel
theorem dX6_carve_141 : decode cX6_carve 141 = .ok (.dup, 1) := by decide +kernel
theorem dX6_carve_142 : decode cX6_carve 142 = .ok (.getfield 182, 3) := by decide +kernel
theorem dX6_carve_145 : decode cX6_carve 145 = .ok (.iload 4, 2) := by decide +kernel
theorem dX6_carve_147 : decode cX6_carve 147 = .ok (.isub, 1) := by decide +kernel
theorem dX6_carve_148 : decode cX6_carve 148 = .ok (.putfield 182, 3) := by decide +kernel
theorem dX6_carve_151 : decode cX6_carve 151 = .ok (.aload 5, 2) := by decide +kernel
theorem dX6_carve_153 : decode cX6_carve 153 = .ok (.aload_n 0, 1) := by decide +kernel
theorem dX6_carve_154 : decode cX6_carve 154 = .ok (.aload_n 0, 1) := by decide +kernel
theorem dX6_carve_155 : decode cX6_carve 155 = .ok (.getfield 58, 3) := by decide +kernel
theorem dX6_carve_158 : decode cX6_carve 158 = .ok (.invokevirtual 67, 3) := by decide +kernel
theorem dX6_carve_161 : decode cX6_carve 161 = .ok (.invokevirtual 169, 3) := by decide +kernel
theorem dX6_carve_164 : decode cX6_carve 164 = .ok (.ireturn, 1) := by decide +kernel
theorem dX6_hours_0 : decode cX6_hours 0 = .ok (.aload_n 0, 1) := by decide +kernel
theorem dX6_hours_1 : decode cX6_hours 1 = .ok (.iload_n 1, 1) := by decide +kernel
theorem dX6_hours_2 : decode cX6_hours 2 = .ok (.invokevirtual 202, 3) := by decide +kernel
theorem dX6_hours_5 : decode cX6_hours 5 = .ok (.ifCond .eq 7, 3) := by decide +kernel
theorem dX6_hours_8 : decode cX6_hours 8 = .ok (.iconst 0, 1) := by decide +kernel
theorem dX6_hours_9 : decode cX6_hours 9 = .ok (.goto 22, 3) := by decide +kernel
theorem dX6_hours_12 : decode cX6_hours 12 = .ok (.bipush 60, 2) := by decide +kernel
theorem dX6_hours_14 : decode cX6_hours 14 = .ok (.aload_n 0, 1) := by decide +kernel
theorem dX6_hours_15 : decode cX6_hours 15 = .ok (.getfield 34, 3) := by decide +kernel
theorem dX6_hours_18 : decode cX6_hours 18 = .ok (.iload_n 1, 1) := by decide +kernel
theorem dX6_hours_19 : decode cX6_hours 19 = .ok (.invokeinterface 149 2, 5) := by decide +kernel
theorem dX6_hours_24 : decode cX6_hours 24 = .ok (.checkcast 125, 3) := by decide +kernel
theorem dX6_hours_27 : decode cX6_hours 27 = .ok (.getfield 256, 3) := by decide +kernel
theorem dX6_hours_30 : decode cX6_hours 30 = .ok (.isub, 1) := by decide +kernel
theorem dX6_hours_31 : decode cX6_hours 31 = .ok (.ireturn, 1) := by decide +kernel
theorem dX6_judge_0 : decode cX6_judge 0 = .ok (.aload_n 0, 1) := by decide +kernel
theorem dX6_judge_1 : decode cX6_judge 1 = .ok (.iload_n 1, 1) := by decide +kernel
theorem dX6_judge_2 : decode cX6_judge 2 = .ok (.invokevirtual 202, 3) := by decide +kernel
theorem dX6_judge_5 : decode cX6_judge 5 = .ok (.ifCond .eq 5, 3) := by decide +kernel
theorem dX6_judge_8 : decode cX6_judge 8 = .ok (.dconst 0, 1) := by decide +kernel
theorem dX6_judge_9 : decode cX6_judge 9 = .ok (.dreturn, 1) := by decide +kernel
theorem dX6_judge_10 : decode cX6_judge 10 = .ok (.aload_n 0, 1) := by decide +kernel
theorem dX6_judge_11 : decode cX6_judge 11 = .ok (.getfield 34, 3) := by decide +kernel
theorem dX6_judge_14 : decode cX6_judge 14 = .ok (.iload_n 1, 1) := by decide +kernel
theorem dX6_judge_15 : decode cX6_judge 15 = .ok (.invokeinterface 149 2, 5) := by decide +kernel
theorem dX6_judge_20 : decode cX6_judge 20 = .ok (.checkcast 125, 3) := by decide +kernel
theorem dX6_judge_23 : decode cX6_judge 23 = .ok (.astore_n 2, 1) := by decide +kernel
theorem dX6_judge_24 : decode cX6_judge 24 = .ok (.iconst 0, 1) := by decide +kernel
theorem dX6_judge_25 : decode cX6_judge 25 = .ok (.istore_n 3, 1) := by decide +kernel
theorem dX6_judge_26 : decode cX6_judge 26 = .ok (.iconst 0, 1) := by decide +kernel
theorem dX6_judge_27 : decode cX6_judge 27 = .ok (.istore 4, 2) := by decide +kernel
theorem dX6_judge_29 : decode cX6_judge 29 = .ok (.iload 4, 2) := by decide +kernel
theorem dX6_judge_31 : decode cX6_judge 31 = .ok (.bipush 48, 2) := by decide +kernel
theorem dX6_judge_33 : decode cX6_judge 33 = .ok (.if_icmp .ge 50, 3) := by decide +kernel
theorem dX6_judge_36 : decode cX6_judge 36 = .ok (.iload_n 3, 1) := by decide +kernel
theorem dX6_judge_37 : decode cX6_judge 37 = .ok (.aload_n 2, 1) := by decide +kernel
theorem dX6_judge_38 : decode cX6_judge 38 = .ok (.iload 4, 2) := by decide +kernel
theorem dX6_judge_40 : decode cX6_judge 40 = .ok (.bipush 8, 2) := by decide +kernel
theorem dX6_judge_42 : decode cX6_judge 42 = .ok (.irem, 1) := by decide +kernel
theorem dX6_judge_43 : decode cX6_judge 43 = .ok (.iload 4, 2) := by decide +kernel
theorem dX6_judge_45 : decode cX6_judge 45 = .ok (.bipush 8, 2) := by decide +kernel
theorem dX6_judge_47 : decode cX6_judge 47 = .ok (.idiv, 1) := by decide +kernel
theorem dX6_judge_48 : decode cX6_judge 48 = .ok (.invokevirtual 153, 3) := by decide +kernel
theorem dX6_judge_51 : decode cX6_judge 51 = .ok (.aload_n 2, 1) := by decide +kernel
theorem dX6_judge_52 : decode cX6_judge 52 = .ok (.getfield 252, 3) := by decide +kernel
theorem dX6_judge_55 : decode cX6_judge 55 = .ok (.iload 4, 2) := by decide +kernel
theorem dX6_judge_57 : decode cX6_judge 57 = .ok (.bipush 8, 2) := by decide +kernel
theorem dX6_judge_59 : decode cX6_judge 59 = .ok (.idiv, 1) := by decide +kernel
theorem dX6_judge_60 : decode cX6_judge 60 = .ok (.aaload, 1) := by decide +kernel
theorem dX6_judge_61 : decode cX6_judge 61 = .ok (.iload 4, 2) := by decide +kernel
theorem dX6_judge_63 : decode cX6_judge 63 = .ok (.bipush 8, 2) := by decide +kernel
theorem dX6_judge_65 : decode cX6_judge 65 = .ok (.irem, 1) := by decide +kernel
theorem dX6_judge_66 : decode cX6_judge 66 = .ok (.baload, 1) := by decide +kernel
theorem dX6_judge_67 : decode cX6_judge 67 = .ok (.if_icmp .ne 7, 3) := by decide +kernel
theorem dX6_judge_70 : decode cX6_judge 70 = .ok (.iconst 1, 1) := by decide +kernel
theorem dX6_judge_71 : decode cX6_judge 71 = .ok (.goto 4, 3) := by decide +kernel
theorem dX6_judge_74 : decode cX6_judge 74 = .ok (.iconst 0, 1) := by decide +kernel
theorem dX6_judge_75 : decode cX6_judge 75 = .ok (.iadd, 1) := by decide +kernel
theorem dX6_judge_76 : decode cX6_judge 76 = .ok (.istore_n 3, 1) := by decide +kernel
theorem dX6_judge_77 : decode cX6_judge 77 = .ok (.iinc 4 1, 3) := by decide +kernel
theorem dX6_judge_80 : decode cX6_judge 80 = .ok (.goto (-51), 3) := by decide +kernel
theorem dX6_judge_83 : decode cX6_judge 83 = .ok (.aload_n 2, 1) := by decide +kernel
theorem dX6_judge_84 : decode cX6_judge 84 = .ok (.iload_n 3, 1) := by decide +kernel
theorem dX6_judge_85 : decode cX6_judge 85 = .ok (.i2d, 1) := by decide +kernel
theorem dX6_judge_86 : decode cX6_judge 86 = .ok (.ldc2_w 259, 3) := by decide +kernel
theorem dX6_judge_89 : decode cX6_judge 89 = .ok (.ddiv, 1) := by decide +kernel
theorem dX6_judge_90 : decode cX6_judge 90 = .ok (.ldc2_w 242, 3) := by decide +kernel
theorem dX6_judge_93 : decode cX6_judge 93 = .ok (.aload_n 2, 1) := by decide +kernel
theorem dX6_judge_94 : decode cX6_judge 94 = .ok (.getfield 205, 3) := by decide +kernel
theorem dX6_judge_97 : decode cX6_judge 97 = .ok (.i2d, 1) := by decide +kernel
theorem dX6_judge_98 : decode cX6_judge 98 = .ok (.dmul, 1) := by decide +kernel
theorem dX6_judge_99 : decode cX6_judge 99 = .ok (.dsub, 1) := by decide +kernel
theorem dX6_judge_100 : decode cX6_judge 100 = .ok (.putfield 261, 3) := by decide +kernel
theorem dX6_judge_103 : decode cX6_judge 103 = .ok (.aload_n 2, 1) := by decide +kernel
theorem dX6_judge_104 : decode cX6_judge 104 = .ok (.iconst 1, 1) := by decide +kernel
theorem dX6_judge_105 : decode cX6_judge 105 = .ok (.putfield 265, 3) := by decide +kernel
theorem dX6_judge_108 : decode cX6_judge 108 = .ok (.aload_n 2, 1) := by decide +kernel
theorem dX6_judge_109 : decode cX6_judge 109 = .ok (.getfield 261, 3) := by decide +kernel
theorem dX6_judge_112 : decode cX6_judge 112 = .ok (.dreturn, 1) := by decide +kernel
theorem dX6_mark_0 : decode cX6_mark 0 = .ok (.aload_n 0, 1) := by decide +kernel
theorem dX6_mark_1 : decode cX6_mark 1 = .ok (.iload_n 1, 1) := by decide +kernel
theorem dX6_mark_2 : decode cX6_mark 2 = .ok (.invokevirtual 202, 3) := by decide +kernel
theorem dX6_mark_5 : decode cX6_mark 5 = .ok (.ifCond .ne 34, 3) := by decide +kernel
theorem dX6_mark_8 : decode cX6_mark 8 = .ok (.aload_n 0, 1) := by decide +kernel
theorem dX6_mark_9 : decode cX6_mark 9 = .ok (.aload_n 0, 1) := by decide +kernel
theorem dX6_mark_10 : decode cX6_mark 10 = .ok (.getfield 34, 3) := by decide +kernel
theorem dX6_mark_13 : decode cX6_mark 13 = .ok (.iload_n 1, 1) := by decide +kernel
theorem dX6_mark_14 : decode cX6_mark 14 = .ok (.invokeinterface 149 2, 5) := by decide +kernel
theorem dX6_mark_19 : decode cX6_mark 19 = .ok (.checkcast 125, 3) := by decide +kernel
theorem dX6_mark_22 : decode cX6_mark 22 = .ok (.getfield 265, 3) := by decide +kernel
theorem dX6_mark_25 : decode cX6_mark 25 = .ok (.ifCond .eq 7, 3) := by decide +kernel
theorem dX6_mark_28 : decode cX6_mark 28 = .ok (.iconst 0, 1) := by decide +kernel
theorem dX6_mark_29 : decode cX6_mark 29 = .ok (.goto 4, 3) := by decide +kernel
theorem dX6_mark_32 : decode cX6_mark 32 = .ok (.iconst 2, 1) := by decide +kernel
theorem dX6_mark_33 : decode cX6_mark 33 = .ok (.invokevirtual 61, 3) := by decide +kernel
theorem dX6_mark_36 : decode cX6_mark 36 = .ok (.ifCond .eq 7, 3) := by decide +kernel
theorem dX6_mark_39 : decode cX6_mark 39 = .ok (.dconst 0, 1) := by decide +kernel
theorem dX6_mark_40 : decode cX6_mark 40 = .ok (.goto 19, 3) := by decide +kernel
theorem dX6_mark_43 : decode cX6_mark 43 = .ok (.aload_n 0, 1) := by decide +kernel
theorem dX6_mark_44 : decode cX6_mark 44 = .ok (.getfield 34, 3) := by decide +kernel
theorem dX6_mark_47 : decode cX6_mark 47 = .ok (.iload_n 1, 1) := by decide +kernel
theorem dX6_mark_48 : decode cX6_mark 48 = .ok (.invokeinterface 149 2, 5) := by decide +kernel
theorem dX6_mark_53 : decode cX6_mark 53 = .ok (.checkcast 125, 3) := by decide +kernel
theorem dX6_mark_56 : decode cX6_mark 56 = .ok (.getfield 261, 3) := by decide +kernel
theorem dX6_mark_59 : decode cX6_mark 59 = .ok (.dreturn, 1) := by decide +kernel
theorem dX6_take_0 : decode cX6_take 0 = .ok (.aload_n 0, 1) := by decide +kernel
theorem dX6_take_1 : decode cX6_take 1 = .ok (.iload_n 1, 1) := by decide +kernel

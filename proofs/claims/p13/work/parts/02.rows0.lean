theorem dX0_init_0 : decode cX0_init 0 = .ok (.aload_n 0, 1) := by decide +kernel
theorem dX0_init_1 : decode cX0_init 1 = .ok (.invokespecial 3, 3) := by decide +kernel
theorem dX0_init_4 : decode cX0_init 4 = .ok (.aload_n 0, 1) := by decide +kernel
theorem dX0_init_5 : decode cX0_init 5 = .ok (.iconst 4, 1) := by decide +kernel
theorem dX0_init_6 : decode cX0_init 6 = .ok (.newarray .int, 2) := by decide +kernel
theorem dX0_init_8 : decode cX0_init 8 = .ok (.putfield 9, 3) := by decide +kernel
theorem dX0_init_11 : decode cX0_init 11 = .ok (.aload_n 0, 1) := by decide +kernel
theorem dX0_init_12 : decode cX0_init 12 = .ok (.iconst 4, 1) := by decide +kernel
theorem dX0_init_13 : decode cX0_init 13 = .ok (.newarray .int, 2) := by decide +kernel
theorem dX0_init_15 : decode cX0_init 15 = .ok (.putfield 15, 3) := by decide +kernel
theorem dX0_init_18 : decode cX0_init 18 = .ok (.aload_n 0, 1) := by decide +kernel
theorem dX0_init_19 : decode cX0_init 19 = .ok (.iconst 4, 1) := by decide +kernel
theorem dX0_init_20 : decode cX0_init 20 = .ok (.newarray .int, 2) := by decide +kernel
theorem dX0_init_22 : decode cX0_init 22 = .ok (.putfield 18, 3) := by decide +kernel
theorem dX0_init_25 : decode cX0_init 25 = .ok (.iconst 0, 1) := by decide +kernel
theorem dX0_init_26 : decode cX0_init 26 = .ok (.istore_n 1, 1) := by decide +kernel
theorem dX0_init_27 : decode cX0_init 27 = .ok (.iload_n 1, 1) := by decide +kernel
theorem dX0_init_28 : decode cX0_init 28 = .ok (.iconst 4, 1) := by decide +kernel
theorem dX0_init_29 : decode cX0_init 29 = .ok (.if_icmp .ge 17, 3) := by decide +kernel
theorem dX0_init_32 : decode cX0_init 32 = .ok (.aload_n 0, 1) := by decide +kernel
theorem dX0_init_33 : decode cX0_init 33 = .ok (.getfield 18, 3) := by decide +kernel
theorem dX0_init_36 : decode cX0_init 36 = .ok (.iload_n 1, 1) := by decide +kernel
theorem dX0_init_37 : decode cX0_init 37 = .ok (.bipush 40, 2) := by decide +kernel
theorem dX0_init_39 : decode cX0_init 39 = .ok (.iastore, 1) := by decide +kernel
theorem dX0_init_40 : decode cX0_init 40 = .ok (.iinc 1 1, 3) := by decide +kernel
theorem dX0_init_43 : decode cX0_init 43 = .ok (.goto (-16), 3) := by decide +kernel
theorem dX0_init_46 : decode cX0_init 46 = .ok (.return_, 1) := by decide +kernel
theorem dX0_bearsLorries_0 : decode cX0_bearsLorries 0 = .ok (.iload_n 1, 1) := by decide +kernel
theorem dX0_bearsLorries_1 : decode cX0_bearsLorries 1 = .ok (.iconst 0, 1) := by decide +kernel
theorem dX0_bearsLorries_2 : decode cX0_bearsLorries 2 = .ok (.iconst 3, 1) := by decide +kernel
theorem dX0_bearsLorries_3 : decode cX0_bearsLorries 3 = .ok (.invokestatic 21, 3) := by decide +kernel
theorem dX0_bearsLorries_6 : decode cX0_bearsLorries 6 = .ok (.ifCond .eq 30, 3) := by decide +kernel
theorem dX0_bearsLorries_9 : decode cX0_bearsLorries 9 = .ok (.aload_n 0, 1) := by decide +kernel
theorem dX0_bearsLorries_10 : decode cX0_bearsLorries 10 = .ok (.getfield 9, 3) := by decide +kernel
theorem dX0_bearsLorries_13 : decode cX0_bearsLorries 13 = .ok (.iload_n 1, 1) := by decide +kernel
theorem dX0_bearsLorries_14 : decode cX0_bearsLorries 14 = .ok (.iaload, 1) := by decide +kernel
theorem dX0_bearsLorries_15 : decode cX0_bearsLorries 15 = .ok (.sipush 250, 3) := by decide +kernel
theorem dX0_bearsLorries_18 : decode cX0_bearsLorries 18 = .ok (.if_icmp .lt 18, 3) := by decide +kernel
theorem dX0_bearsLorries_21 : decode cX0_bearsLorries 21 = .ok (.aload_n 0, 1) := by decide +kernel
theorem dX0_bearsLorries_22 : decode cX0_bearsLorries 22 = .ok (.getfield 18, 3) := by decide +kernel
theorem dX0_bearsLorries_25 : decode cX0_bearsLorries 25 = .ok (.iload_n 1, 1) := by decide +kernel
theorem dX0_bearsLorries_26 : decode cX0_bearsLorries 26 = .ok (.iaload, 1) := by decide +kernel
theorem dX0_bearsLorries_27 : decode cX0_bearsLorries 27 = .ok (.bipush 20, 2) := by decide +kernel
theorem dX0_bearsLorries_29 : decode cX0_bearsLorries 29 = .ok (.if_icmp .lt 7, 3) := by decide +kernel
theorem dX0_bearsLorries_32 : decode cX0_bearsLorries 32 = .ok (.iconst 1, 1) := by decide +kernel
theorem dX0_bearsLorries_33 : decode cX0_bearsLorries 33 = .ok (.goto 4, 3) := by decide +kernel
theorem dX0_bearsLorries_36 : decode cX0_bearsLorries 36 = .ok (.iconst 0, 1) := by decide +kernel
theorem dX0_bearsLorries_37 : decode cX0_bearsLorries 37 = .ok (.ireturn, 1) := by decide +kernel
theorem dX0_passHour_0 : decode cX0_passHour 0 = .ok (.iconst 0, 1) := by decide +kernel
theorem dX0_passHour_1 : decode cX0_passHour 1 = .ok (.istore_n 2, 1) := by decide +kernel
theorem dX0_passHour_2 : decode cX0_passHour 2 = .ok (.iload_n 2, 1) := by decide +kernel
theorem dX0_passHour_3 : decode cX0_passHour 3 = .ok (.iconst 4, 1) := by decide +kernel
theorem dX0_passHour_4 : decode cX0_passHour 4 = .ok (.if_icmp .ge 108, 3) := by decide +kernel
theorem dX0_passHour_7 : decode cX0_passHour 7 = .ok (.iload_n 1, 1) := by decide +kernel
theorem dX0_passHour_8 : decode cX0_passHour 8 = .ok (.ifCond .ge 56, 3) := by decide +kernel
theorem dX0_passHour_11 : decode cX0_passHour 11 = .ok (.iload_n 1, 1) := by decide +kernel
theorem dX0_passHour_12 : decode cX0_passHour 12 = .ok (.ineg, 1) := by decide +kernel
theorem dX0_passHour_13 : decode cX0_passHour 13 = .ok (.bipush 10, 2) := by decide +kernel
theorem dX0_passHour_15 : decode cX0_passHour 15 = .ok (.iconst 0, 1) := by decide +kernel
theorem dX0_passHour_16 : decode cX0_passHour 16 = .ok (.aload_n 0, 1) := by decide +kernel
theorem dX0_passHour_17 : decode cX0_passHour 17 = .ok (.getfield 9, 3) := by decide +kernel
theorem dX0_passHour_20 : decode cX0_passHour 20 = .ok (.iload_n 2, 1) := by decide +kernel
theorem dX0_passHour_21 : decode cX0_passHour 21 = .ok (.iaload, 1) := by decide +kernel
theorem dX0_passHour_22 : decode cX0_passHour 22 = .ok (.invokestatic 25, 3) := by decide +kernel
theorem dX0_passHour_25 : decode cX0_passHour 25 = .ok (.bipush 20, 2) := by decide +kernel
theorem dX0_passHour_27 : decode cX0_passHour 27 = .ok (.idiv, 1) := by decide +kernel
theorem dX0_passHour_28 : decode cX0_passHour 28 = .ok (.iadd, 1) := by decide +kernel
theorem dX0_passHour_29 : decode cX0_passHour 29 = .ok (.idiv, 1) := by decide +kernel
theorem dX0_passHour_30 : decode cX0_passHour 30 = .ok (.istore_n 3, 1) := by decide +kernel
theorem dX0_passHour_31 : decode cX0_passHour 31 = .ok (.aload_n 0, 1) := by decide +kernel
theorem dX0_passHour_32 : decode cX0_passHour 32 = .ok (.getfield 9, 3) := by decide +kernel
theorem dX0_passHour_35 : decode cX0_passHour 35 = .ok (.iload_n 2, 1) := by decide +kernel
theorem dX0_passHour_36 : decode cX0_passHour 36 = .ok (.dup2, 1) := by decide +kernel
theorem dX0_passHour_37 : decode cX0_passHour 37 = .ok (.iaload, 1) := by decide +kernel
theorem dX0_passHour_38 : decode cX0_passHour 38 = .ok (.iload_n 3, 1) := by decide +kernel
theorem dX0_passHour_39 : decode cX0_passHour 39 = .ok (.iadd, 1) := by decide +kernel
theorem dX0_passHour_40 : decode cX0_passHour 40 = .ok (.iastore, 1) := by decide +kernel
theorem dX0_passHour_41 : decode cX0_passHour 41 = .ok (.aload_n 0, 1) := by decide +kernel
theorem dX0_passHour_42 : decode cX0_passHour 42 = .ok (.getfield 15, 3) := by decide +kernel
theorem dX0_passHour_45 : decode cX0_passHour 45 = .ok (.iload_n 2, 1) := by decide +kernel
theorem dX0_passHour_46 : decode cX0_passHour 46 = .ok (.dup2, 1) := by decide +kernel
theorem dX0_passHour_47 : decode cX0_passHour 47 = .ok (.iaload, 1) := by decide +kernel
theorem dX0_passHour_48 : decode cX0_passHour 48 = .ok (.iload_n 1, 1) := by decide +kernel
theorem dX0_passHour_49 : decode cX0_passHour 49 = .ok (.bipush (-100), 2) := by decide +kernel
theorem dX0_passHour_51 : decode cX0_passHour 51 = .ok (.if_icmp .gt 7, 3) := by decide +kernel
theorem dX0_passHour_54 : decode cX0_passHour 54 = .ok (.iload_n 3, 1) := by decide +kernel
theorem dX0_passHour_55 : decode cX0_passHour 55 = .ok (.goto 4, 3) := by decide +kernel
theorem dX0_passHour_58 : decode cX0_passHour 58 = .ok (.iconst 0, 1) := by decide +kernel
theorem dX0_passHour_59 : decode cX0_passHour 59 = .ok (.iadd, 1) := by decide +kernel
theorem dX0_passHour_60 : decode cX0_passHour 60 = .ok (.iastore, 1) := by decide +kernel
theorem dX0_passHour_61 : decode cX0_passHour 61 = .ok (.goto 45, 3) := by decide +kernel
theorem dX0_passHour_64 : decode cX0_passHour 64 = .ok (.aload_n 0, 1) := by decide +kernel
theorem dX0_passHour_65 : decode cX0_passHour 65 = .ok (.getfield 9, 3) := by decide +kernel
theorem dX0_passHour_68 : decode cX0_passHour 68 = .ok (.iload_n 2, 1) := by decide +kernel
theorem dX0_passHour_69 : decode cX0_passHour 69 = .ok (.iconst 0, 1) := by decide +kernel
theorem dX0_passHour_70 : decode cX0_passHour 70 = .ok (.aload_n 0, 1) := by decide +kernel
theorem dX0_passHour_71 : decode cX0_passHour 71 = .ok (.getfield 9, 3) := by decide +kernel
theorem dX0_passHour_74 : decode cX0_passHour 74 = .ok (.iload_n 2, 1) := by decide +kernel
theorem dX0_passHour_75 : decode cX0_passHour 75 = .ok (.iaload, 1) := by decide +kernel
theorem dX0_passHour_76 : decode cX0_passHour 76 = .ok (.iload_n 1, 1) := by decide +kernel
theorem dX0_passHour_77 : decode cX0_passHour 77 = .ok (.bipush 10, 2) := by decide +kernel
theorem dX0_passHour_79 : decode cX0_passHour 79 = .ok (.idiv, 1) := by decide +kernel
theorem dX0_passHour_80 : decode cX0_passHour 80 = .ok (.isub, 1) := by decide +kernel
theorem dX0_passHour_81 : decode cX0_passHour 81 = .ok (.invokestatic 25, 3) := by decide +kernel
theorem dX0_passHour_84 : decode cX0_passHour 84 = .ok (.iastore, 1) := by decide +kernel
theorem dX0_passHour_85 : decode cX0_passHour 85 = .ok (.aload_n 0, 1) := by decide +kernel
theorem dX0_passHour_86 : decode cX0_passHour 86 = .ok (.getfield 15, 3) := by decide +kernel
theorem dX0_passHour_89 : decode cX0_passHour 89 = .ok (.iload_n 2, 1) := by decide +kernel
theorem dX0_passHour_90 : decode cX0_passHour 90 = .ok (.aload_n 0, 1) := by decide +kernel
theorem dX0_passHour_91 : decode cX0_passHour 91 = .ok (.getfield 15, 3) := by decide +kernel
theorem dX0_passHour_94 : decode cX0_passHour 94 = .ok (.iload_n 2, 1) := by decide +kernel
theorem dX0_passHour_95 : decode cX0_passHour 95 = .ok (.iaload, 1) := by decide +kernel
theorem dX0_passHour_96 : decode cX0_passHour 96 = .ok (.aload_n 0, 1) := by decide +kernel
theorem dX0_passHour_97 : decode cX0_passHour 97 = .ok (.getfield 9, 3) := by decide +kernel
theorem dX0_passHour_100 : decode cX0_passHour 100 = .ok (.iload_n 2, 1) := by decide +kernel
theorem dX0_passHour_101 : decode cX0_passHour 101 = .ok (.iaload, 1) := by decide +kernel
theorem dX0_passHour_102 : decode cX0_passHour 102 = .ok (.invokestatic 31, 3) := by decide +kernel
theorem dX0_passHour_105 : decode cX0_passHour 105 = .ok (.iastore, 1) := by decide +kernel
theorem dX0_passHour_106 : decode cX0_passHour 106 = .ok (.iinc 2 1, 3) := by decide +kernel
theorem dX0_passHour_109 : decode cX0_passHour 109 = .ok (.goto (-107), 3) := by decide +kernel
theorem dX0_passHour_112 : decode cX0_passHour 112 = .ok (.return_, 1) := by decide +kernel
theorem dX1_init_0 : decode cX1_init 0 = .ok (.aload_n 0, 1) := by decide +kernel
theorem dX1_init_1 : decode cX1_init 1 = .ok (.invokespecial 3, 3) := by decide +kernel
theorem dX1_init_4 : decode cX1_init 4 = .ok (.aload_n 0, 1) := by decide +kernel
theorem dX1_init_5 : decode cX1_init 5 = .ok (.bipush 48, 2) := by decide +kernel
theorem dX1_init_7 : decode cX1_init 7 = .ok (.newarray .char, 2) := by decide +kernel
theorem dX1_init_9 : decode cX1_init 9 = .ok (.putfield 9, 3) := by decide +kernel
theorem dX1_init_12 : decode cX1_init 12 = .ok (.aload_n 0, 1) := by decide +kernel
theorem dX1_init_13 : decode cX1_init 13 = .ok (.bipush 48, 2) := by decide +kernel
theorem dX1_init_15 : decode cX1_init 15 = .ok (.newarray .int, 2) := by decide +kernel
theorem dX1_init_17 : decode cX1_init 17 = .ok (.putfield 15, 3) := by decide +kernel
theorem dX1_init_20 : decode cX1_init 20 = .ok (.aload_n 0, 1) := by decide +kernel
theorem dX1_init_21 : decode cX1_init 21 = .ok (.bipush 48, 2) := by decide +kernel
theorem dX1_init_23 : decode cX1_init 23 = .ok (.newarray .int, 2) := by decide +kernel
theorem dX1_init_25 : decode cX1_init 25 = .ok (.putfield 19, 3) := by decide +kernel
theorem dX1_init_28 : decode cX1_init 28 = .ok (.aload_n 0, 1) := by decide +kernel
theorem dX1_init_29 : decode cX1_init 29 = .ok (.bipush 48, 2) := by decide +kernel
theorem dX1_init_31 : decode cX1_init 31 = .ok (.newarray .int, 2) := by decide +kernel
theorem dX1_init_33 : decode cX1_init 33 = .ok (.putfield 22, 3) := by decide +kernel
theorem dX1_init_36 : decode cX1_init 36 = .ok (.aload_n 0, 1) := by decide +kernel
theorem dX1_init_37 : decode cX1_init 37 = .ok (.bipush 48, 2) := by decide +kernel
theorem dX1_init_39 : decode cX1_init 39 = .ok (.newarray .boolean, 2) := by decide +kernel
theorem dX1_init_41 : decode cX1_init 41 = .ok (.putfield 25, 3) := by decide +kernel
theorem dX1_init_44 : decode cX1_init 44 = .ok (.aload_n 0, 1) := by decide +kernel
theorem dX1_init_45 : decode cX1_init 45 = .ok (.bipush 48, 2) := by decide +kernel
theorem dX1_init_47 : decode cX1_init 47 = .ok (.newarray .boolean, 2) := by decide +kernel
theorem dX1_init_49 : decode cX1_init 49 = .ok (.putfield 29, 3) := by decide +kernel
theorem dX1_init_52 : decode cX1_init 52 = .ok (.aload_n 0, 1) := by decide +kernel
theorem dX1_init_53 : decode cX1_init 53 = .ok (.bipush 48, 2) := by decide +kernel
theorem dX1_init_55 : decode cX1_init 55 = .ok (.newarray .int, 2) := by decide +kernel
theorem dX1_init_57 : decode cX1_init 57 = .ok (.putfield 32, 3) := by decide +kernel
theorem dX1_init_60 : decode cX1_init 60 = .ok (.aload_n 0, 1) := by decide +kernel
theorem dX1_init_61 : decode cX1_init 61 = .ok (.bipush 48, 2) := by decide +kernel
theorem dX1_init_63 : decode cX1_init 63 = .ok (.newarray .boolean, 2) := by decide +kernel
theorem dX1_init_65 : decode cX1_init 65 = .ok (.putfield 35, 3) := by decide +kernel
theorem dX1_init_68 : decode cX1_init 68 = .ok (.aload_n 0, 1) := by decide +kernel
theorem dX1_init_69 : decode cX1_init 69 = .ok (.iconst 0, 1) := by decide +kernel
theorem dX1_init_70 : decode cX1_init 70 = .ok (.putfield 38, 3) := by decide +kernel
theorem dX1_init_73 : decode cX1_init 73 = .ok (.aload_n 0, 1) := by decide +kernel
theorem dX1_init_74 : decode cX1_init 74 = .ok (.iconst 0, 1) := by decide +kernel
theorem dX1_init_75 : decode cX1_init 75 = .ok (.putfield 42, 3) := by decide +kernel
theorem dX1_init_78 : decode cX1_init 78 = .ok (.aload_n 0, 1) := by decide +kernel
theorem dX1_init_79 : decode cX1_init 79 = .ok (.iconst (-1), 1) := by decide +kernel
theorem dX1_init_80 : decode cX1_init 80 = .ok (.putfield 46, 3) := by decide +kernel
theorem dX1_init_83 : decode cX1_init 83 = .ok (.aload_n 0, 1) := by decide +kernel
theorem dX1_init_84 : decode cX1_init 84 = .ok (.iconst 0, 1) := by decide +kernel
theorem dX1_init_85 : decode cX1_init 85 = .ok (.putfield 49, 3) := by decide +kernel
theorem dX1_init_88 : decode cX1_init 88 = .ok (.aload_n 0, 1) := by decide +kernel
theorem dX1_init_89 : decode cX1_init 89 = .ok (.iconst 0, 1) := by decide +kernel
theorem dX1_init_90 : decode cX1_init 90 = .ok (.putfield 52, 3) := by decide +kernel
theorem dX1_init_93 : decode cX1_init 93 = .ok (.aload_n 0, 1) := by decide +kernel
theorem dX1_init_94 : decode cX1_init 94 = .ok (.iconst 0, 1) := by decide +kernel
theorem dX1_init_95 : decode cX1_init 95 = .ok (.putfield 55, 3) := by decide +kernel
theorem dX1_init_98 : decode cX1_init 98 = .ok (.aload_n 0, 1) := by decide +kernel
theorem dX1_init_99 : decode cX1_init 99 = .ok (.dconst 0, 1) := by decide +kernel
theorem dX1_init_100 : decode cX1_init 100 = .ok (.putfield 58, 3) := by decide +kernel
theorem dX1_init_103 : decode cX1_init 103 = .ok (.iconst 0, 1) := by decide +kernel
theorem dX1_init_104 : decode cX1_init 104 = .ok (.istore_n 1, 1) := by decide +kernel
theorem dX1_init_105 : decode cX1_init 105 = .ok (.iload_n 1, 1) := by decide +kernel
theorem dX1_init_106 : decode cX1_init 106 = .ok (.bipush 48, 2) := by decide +kernel
theorem dX1_init_108 : decode cX1_init 108 = .ok (.if_icmp .ge 17, 3) := by decide +kernel
theorem dX1_init_111 : decode cX1_init 111 = .ok (.aload_n 0, 1) := by decide +kernel
theorem dX1_init_112 : decode cX1_init 112 = .ok (.getfield 9, 3) := by decide +kernel
theorem dX1_init_115 : decode cX1_init 115 = .ok (.iload_n 1, 1) := by decide +kernel
theorem dX1_init_116 : decode cX1_init 116 = .ok (.bipush 46, 2) := by decide +kernel
theorem dX1_init_118 : decode cX1_init 118 = .ok (.castore, 1) := by decide +kernel
theorem dX1_init_119 : decode cX1_init 119 = .ok (.iinc 1 1, 3) := by decide +kernel
theorem dX1_init_122 : decode cX1_init 122 = .ok (.goto (-17), 3) := by decide +kernel
theorem dX1_init_125 : decode cX1_init 125 = .ok (.return_, 1) := by decide +kernel
theorem dX2_init_0 : decode cX2_init 0 = .ok (.aload_n 0, 1) := by decide +kernel
theorem dX2_init_1 : decode cX2_init 1 = .ok (.invokespecial 3, 3) := by decide +kernel
theorem dX2_init_4 : decode cX2_init 4 = .ok (.aload_n 0, 1) := by decide +kernel
theorem dX2_init_5 : decode cX2_init 5 = .ok (.bipush 21, 2) := by decide +kernel
theorem dX2_init_7 : decode cX2_init 7 = .ok (.newarray .int, 2) := by decide +kernel
theorem dX2_init_9 : decode cX2_init 9 = .ok (.putfield 9, 3) := by decide +kernel
theorem dX2_init_12 : decode cX2_init 12 = .ok (.aload_n 0, 1) := by decide +kernel
theorem dX2_init_13 : decode cX2_init 13 = .ok (.bipush 21, 2) := by decide +kernel
theorem dX2_init_15 : decode cX2_init 15 = .ok (.newarray .int, 2) := by decide +kernel
theorem dX2_init_17 : decode cX2_init 17 = .ok (.putfield 15, 3) := by decide +kernel
theorem dX2_init_20 : decode cX2_init 20 = .ok (.aload_n 0, 1) := by decide +kernel
theorem dX2_init_21 : decode cX2_init 21 = .ok (.bipush 21, 2) := by decide +kernel
theorem dX2_init_23 : decode cX2_init 23 = .ok (.newarray .int, 2) := by decide +kernel
theorem dX2_init_25 : decode cX2_init 25 = .ok (.putfield 18, 3) := by decide +kernel
theorem dX2_init_28 : decode cX2_init 28 = .ok (.aload_n 0, 1) := by decide +kernel
theorem dX2_init_29 : decode cX2_init 29 = .ok (.bipush 21, 2) := by decide +kernel
theorem dX2_init_31 : decode cX2_init 31 = .ok (.newarray .int, 2) := by decide +kernel
theorem dX2_init_33 : decode cX2_init 33 = .ok (.putfield 21, 3) := by decide +kernel
theorem dX2_init_36 : decode cX2_init 36 = .ok (.iconst 0, 1) := by decide +kernel
theorem dX2_init_37 : decode cX2_init 37 = .ok (.istore_n 1, 1) := by decide +kernel
theorem dX2_init_38 : decode cX2_init 38 = .ok (.iload_n 1, 1) := by decide +kernel
theorem dX2_init_39 : decode cX2_init 39 = .ok (.bipush 21, 2) := by decide +kernel
theorem dX2_init_41 : decode cX2_init 41 = .ok (.if_icmp .ge 41, 3) := by decide +kernel
theorem dX2_init_44 : decode cX2_init 44 = .ok (.aload_n 0, 1) := by decide +kernel
theorem dX2_init_45 : decode cX2_init 45 = .ok (.getfield 9, 3) := by decide +kernel
theorem dX2_init_48 : decode cX2_init 48 = .ok (.iload_n 1, 1) := by decide +kernel
theorem dX2_init_49 : decode cX2_init 49 = .ok (.sipush (-150), 3) := by decide +kernel
theorem dX2_init_52 : decode cX2_init 52 = .ok (.iastore, 1) := by decide +kernel
theorem dX2_init_53 : decode cX2_init 53 = .ok (.aload_n 0, 1) := by decide +kernel
theorem dX2_init_54 : decode cX2_init 54 = .ok (.getfield 15, 3) := by decide +kernel
theorem dX2_init_57 : decode cX2_init 57 = .ok (.iload_n 1, 1) := by decide +kernel
theorem dX2_init_58 : decode cX2_init 58 = .ok (.bipush (-50), 2) := by decide +kernel
theorem dX2_init_60 : decode cX2_init 60 = .ok (.iastore, 1) := by decide +kernel
theorem dX2_init_61 : decode cX2_init 61 = .ok (.aload_n 0, 1) := by decide +kernel
theorem dX2_init_62 : decode cX2_init 62 = .ok (.getfield 18, 3) := by decide +kernel
theorem dX2_init_65 : decode cX2_init 65 = .ok (.iload_n 1, 1) := by decide +kernel
theorem dX2_init_66 : decode cX2_init 66 = .ok (.iconst 5, 1) := by decide +kernel
theorem dX2_init_67 : decode cX2_init 67 = .ok (.iastore, 1) := by decide +kernel
theorem dX2_init_68 : decode cX2_init 68 = .ok (.aload_n 0, 1) := by decide +kernel
theorem dX2_init_69 : decode cX2_init 69 = .ok (.getfield 21, 3) := by decide +kernel
theorem dX2_init_72 : decode cX2_init 72 = .ok (.iload_n 1, 1) := by decide +kernel
theorem dX2_init_73 : decode cX2_init 73 = .ok (.bipush 80, 2) := by decide +kernel
theorem dX2_init_75 : decode cX2_init 75 = .ok (.iastore, 1) := by decide +kernel
theorem dX2_init_76 : decode cX2_init 76 = .ok (.iinc 1 1, 3) := by decide +kernel
theorem dX2_init_79 : decode cX2_init 79 = .ok (.goto (-41), 3) := by decide +kernel
theorem dX2_init_82 : decode cX2_init 82 = .ok (.return_, 1) := by decide +kernel
theorem dX2_warmthOf_0 : decode cX2_warmthOf 0 = .ok (.iload_n 1, 1) := by decide +kernel
theorem dX2_warmthOf_1 : decode cX2_warmthOf 1 = .ok (.iconst 0, 1) := by decide +kernel
theorem dX2_warmthOf_2 : decode cX2_warmthOf 2 = .ok (.sipush 503, 3) := by decide +kernel
theorem dX2_warmthOf_5 : decode cX2_warmthOf 5 = .ok (.invokestatic 24, 3) := by decide +kernel
theorem dX2_warmthOf_8 : decode cX2_warmthOf 8 = .ok (.ifCond .ne 7, 3) := by decide +kernel
theorem dX2_warmthOf_11 : decode cX2_warmthOf 11 = .ok (.sipush (-150), 3) := by decide +kernel
theorem dX2_warmthOf_14 : decode cX2_warmthOf 14 = .ok (.ireturn, 1) := by decide +kernel
theorem dX2_warmthOf_15 : decode cX2_warmthOf 15 = .ok (.iload_n 1, 1) := by decide +kernel
theorem dX2_warmthOf_16 : decode cX2_warmthOf 16 = .ok (.bipush 24, 2) := by decide +kernel
theorem dX2_warmthOf_18 : decode cX2_warmthOf 18 = .ok (.idiv, 1) := by decide +kernel
theorem dX2_warmthOf_19 : decode cX2_warmthOf 19 = .ok (.istore_n 2, 1) := by decide +kernel
theorem dX2_warmthOf_20 : decode cX2_warmthOf 20 = .ok (.iload_n 1, 1) := by decide +kernel
theorem dX2_warmthOf_21 : decode cX2_warmthOf 21 = .ok (.bipush 24, 2) := by decide +kernel
theorem dX2_warmthOf_23 : decode cX2_warmthOf 23 = .ok (.irem, 1) := by decide +kernel
theorem dX2_warmthOf_24 : decode cX2_warmthOf 24 = .ok (.istore_n 3, 1) := by decide +kernel
theorem dX2_warmthOf_25 : decode cX2_warmthOf 25 = .ok (.iload_n 3, 1) := by decide +kernel
theorem dX2_warmthOf_26 : decode cX2_warmthOf 26 = .ok (.bipush 12, 2) := by decide +kernel
theorem dX2_warmthOf_28 : decode cX2_warmthOf 28 = .ok (.if_icmp .gt 7, 3) := by decide +kernel
theorem dX2_warmthOf_31 : decode cX2_warmthOf 31 = .ok (.iload_n 3, 1) := by decide +kernel
theorem dX2_warmthOf_32 : decode cX2_warmthOf 32 = .ok (.goto 7, 3) := by decide +kernel
theorem dX2_warmthOf_35 : decode cX2_warmthOf 35 = .ok (.bipush 24, 2) := by decide +kernel
theorem dX2_warmthOf_37 : decode cX2_warmthOf 37 = .ok (.iload_n 3, 1) := by decide +kernel
theorem dX2_warmthOf_38 : decode cX2_warmthOf 38 = .ok (.isub, 1) := by decide +kernel
theorem dX2_warmthOf_39 : decode cX2_warmthOf 39 = .ok (.istore 4, 2) := by decide +kernel
theorem dX2_warmthOf_41 : decode cX2_warmthOf 41 = .ok (.aload_n 0, 1) := by decide +kernel
theorem dX2_warmthOf_42 : decode cX2_warmthOf 42 = .ok (.getfield 9, 3) := by decide +kernel
theorem dX2_warmthOf_45 : decode cX2_warmthOf 45 = .ok (.iload_n 2, 1) := by decide +kernel
theorem dX2_warmthOf_46 : decode cX2_warmthOf 46 = .ok (.iaload, 1) := by decide +kernel
theorem dX2_warmthOf_47 : decode cX2_warmthOf 47 = .ok (.aload_n 0, 1) := by decide +kernel
theorem dX2_warmthOf_48 : decode cX2_warmthOf 48 = .ok (.getfield 15, 3) := by decide +kernel
theorem dX2_warmthOf_51 : decode cX2_warmthOf 51 = .ok (.iload_n 2, 1) := by decide +kernel
theorem dX2_warmthOf_52 : decode cX2_warmthOf 52 = .ok (.iaload, 1) := by decide +kernel
theorem dX2_warmthOf_53 : decode cX2_warmthOf 53 = .ok (.aload_n 0, 1) := by decide +kernel
theorem dX2_warmthOf_54 : decode cX2_warmthOf 54 = .ok (.getfield 9, 3) := by decide +kernel
theorem dX2_warmthOf_57 : decode cX2_warmthOf 57 = .ok (.iload_n 2, 1) := by decide +kernel
theorem dX2_warmthOf_58 : decode cX2_warmthOf 58 = .ok (.iaload, 1) := by decide +kernel
theorem dX2_warmthOf_59 : decode cX2_warmthOf 59 = .ok (.isub, 1) := by decide +kernel
theorem dX2_warmthOf_60 : decode cX2_warmthOf 60 = .ok (.iload 4, 2) := by decide +kernel
theorem dX2_warmthOf_62 : decode cX2_warmthOf 62 = .ok (.imul, 1) := by decide +kernel
theorem dX2_warmthOf_63 : decode cX2_warmthOf 63 = .ok (.bipush 12, 2) := by decide +kernel
theorem dX2_warmthOf_65 : decode cX2_warmthOf 65 = .ok (.idiv, 1) := by decide +kernel
theorem dX2_warmthOf_66 : decode cX2_warmthOf 66 = .ok (.iadd, 1) := by decide +kernel
theorem dX2_warmthOf_67 : decode cX2_warmthOf 67 = .ok (.ireturn, 1) := by decide +kernel
theorem dX2_wetWarmthOf_0 : decode cX2_wetWarmthOf 0 = .ok (.iload_n 1, 1) := by decide +kernel
theorem dX2_wetWarmthOf_1 : decode cX2_wetWarmthOf 1 = .ok (.iconst 0, 1) := by decide +kernel
theorem dX2_wetWarmthOf_2 : decode cX2_wetWarmthOf 2 = .ok (.sipush 503, 3) := by decide +kernel
theorem dX2_wetWarmthOf_5 : decode cX2_wetWarmthOf 5 = .ok (.invokestatic 24, 3) := by decide +kernel
theorem dX2_wetWarmthOf_8 : decode cX2_wetWarmthOf 8 = .ok (.ifCond .ne 7, 3) := by decide +kernel
theorem dX2_wetWarmthOf_11 : decode cX2_wetWarmthOf 11 = .ok (.sipush (-150), 3) := by decide +kernel
theorem dX2_wetWarmthOf_14 : decode cX2_wetWarmthOf 14 = .ok (.ireturn, 1) := by decide +kernel
theorem dX2_wetWarmthOf_15 : decode cX2_wetWarmthOf 15 = .ok (.aload_n 0, 1) := by decide +kernel
theorem dX2_wetWarmthOf_16 : decode cX2_wetWarmthOf 16 = .ok (.iload_n 1, 1) := by decide +kernel
theorem dX2_wetWarmthOf_17 : decode cX2_wetWarmthOf 17 = .ok (.invokevirtual 28, 3) := by decide +kernel
theorem dX2_wetWarmthOf_20 : decode cX2_wetWarmthOf 20 = .ok (.bipush 100, 2) := by decide +kernel
theorem dX2_wetWarmthOf_22 : decode cX2_wetWarmthOf 22 = .ok (.aload_n 0, 1) := by decide +kernel
theorem dX2_wetWarmthOf_23 : decode cX2_wetWarmthOf 23 = .ok (.getfield 21, 3) := by decide +kernel
theorem dX2_wetWarmthOf_26 : decode cX2_wetWarmthOf 26 = .ok (.iload_n 1, 1) := by decide +kernel
theorem dX2_wetWarmthOf_27 : decode cX2_wetWarmthOf 27 = .ok (.bipush 24, 2) := by decide +kernel
theorem dX2_wetWarmthOf_29 : decode cX2_wetWarmthOf 29 = .ok (.idiv, 1) := by decide +kernel
theorem dX2_wetWarmthOf_30 : decode cX2_wetWarmthOf 30 = .ok (.iaload, 1) := by decide +kernel
theorem dX2_wetWarmthOf_31 : decode cX2_wetWarmthOf 31 = .ok (.isub, 1) := by decide +kernel
theorem dX2_wetWarmthOf_32 : decode cX2_wetWarmthOf 32 = .ok (.iconst 2, 1) := by decide +kernel
theorem dX2_wetWarmthOf_33 : decode cX2_wetWarmthOf 33 = .ok (.idiv, 1) := by decide +kernel
theorem dX2_wetWarmthOf_34 : decode cX2_wetWarmthOf 34 = .ok (.isub, 1) := by decide +kernel
theorem dX2_wetWarmthOf_35 : decode cX2_wetWarmthOf 35 = .ok (.ireturn, 1) := by decide +kernel
theorem dX2_windOf_0 : decode cX2_windOf 0 = .ok (.iload_n 1, 1) := by decide +kernel
theorem dX2_windOf_1 : decode cX2_windOf 1 = .ok (.iconst 0, 1) := by decide +kernel
theorem dX2_windOf_2 : decode cX2_windOf 2 = .ok (.sipush 503, 3) := by decide +kernel
theorem dX2_windOf_5 : decode cX2_windOf 5 = .ok (.invokestatic 24, 3) := by decide +kernel
theorem dX2_windOf_8 : decode cX2_windOf 8 = .ok (.ifCond .eq 15, 3) := by decide +kernel
theorem dX2_windOf_11 : decode cX2_windOf 11 = .ok (.aload_n 0, 1) := by decide +kernel
theorem dX2_windOf_12 : decode cX2_windOf 12 = .ok (.getfield 18, 3) := by decide +kernel
theorem dX2_windOf_15 : decode cX2_windOf 15 = .ok (.iload_n 1, 1) := by decide +kernel
theorem dX2_windOf_16 : decode cX2_windOf 16 = .ok (.bipush 24, 2) := by decide +kernel
theorem dX2_windOf_18 : decode cX2_windOf 18 = .ok (.idiv, 1) := by decide +kernel
theorem dX2_windOf_19 : decode cX2_windOf 19 = .ok (.iaload, 1) := by decide +kernel
theorem dX2_windOf_20 : decode cX2_windOf 20 = .ok (.goto 4, 3) := by decide +kernel
theorem dX2_windOf_23 : decode cX2_windOf 23 = .ok (.iconst 5, 1) := by decide +kernel
theorem dX2_windOf_24 : decode cX2_windOf 24 = .ok (.ireturn, 1) := by decide +kernel
theorem dX3_init_0 : decode cX3_init 0 = .ok (.aload_n 0, 1) := by decide +kernel
theorem dX3_init_1 : decode cX3_init 1 = .ok (.invokespecial 1, 3) := by decide +kernel
theorem dX3_init_4 : decode cX3_init 4 = .ok (.aload_n 0, 1) := by decide +kernel
theorem dX3_init_5 : decode cX3_init 5 = .ok (.new 7, 3) := by decide +kernel
theorem dX3_init_8 : decode cX3_init 8 = .ok (.dup, 1) := by decide +kernel
theorem dX3_init_9 : decode cX3_init 9 = .ok (.invokespecial 9, 3) := by decide +kernel
theorem dX3_init_12 : decode cX3_init 12 = .ok (.putfield 10, 3) := by decide +kernel
theorem dX3_init_15 : decode cX3_init 15 = .ok (.aload_n 0, 1) := by decide +kernel
theorem dX3_init_16 : decode cX3_init 16 = .ok (.new 16, 3) := by decide +kernel
theorem dX3_init_19 : decode cX3_init 19 = .ok (.dup, 1) := by decide +kernel
theorem dX3_init_20 : decode cX3_init 20 = .ok (.invokespecial 18, 3) := by decide +kernel
theorem dX3_init_23 : decode cX3_init 23 = .ok (.putfield 19, 3) := by decide +kernel
theorem dX3_init_26 : decode cX3_init 26 = .ok (.aload_n 0, 1) := by decide +kernel
theorem dX3_init_27 : decode cX3_init 27 = .ok (.iconst 3, 1) := by decide +kernel
theorem dX3_init_28 : decode cX3_init 28 = .ok (.anewarray 23, 3) := by decide +kernel
theorem dX3_init_31 : decode cX3_init 31 = .ok (.putfield 25, 3) := by decide +kernel
theorem dX3_init_34 : decode cX3_init 34 = .ok (.aload_n 0, 1) := by decide +kernel
theorem dX3_init_35 : decode cX3_init 35 = .ok (.iconst 0, 1) := by decide +kernel
theorem dX3_init_36 : decode cX3_init 36 = .ok (.putfield 29, 3) := by decide +kernel
theorem dX3_init_39 : decode cX3_init 39 = .ok (.aload_n 0, 1) := by decide +kernel
theorem dX3_init_40 : decode cX3_init 40 = .ok (.iconst 0, 1) := by decide +kernel
theorem dX3_init_41 : decode cX3_init 41 = .ok (.putfield 33, 3) := by decide +kernel
theorem dX3_init_44 : decode cX3_init 44 = .ok (.aload_n 0, 1) := by decide +kernel
theorem dX3_init_45 : decode cX3_init 45 = .ok (.iconst 0, 1) := by decide +kernel
theorem dX3_init_46 : decode cX3_init 46 = .ok (.putfield 36, 3) := by decide +kernel
theorem dX3_init_49 : decode cX3_init 49 = .ok (.aload_n 0, 1) := by decide +kernel
theorem dX3_init_50 : decode cX3_init 50 = .ok (.iconst 0, 1) := by decide +kernel
theorem dX3_init_51 : decode cX3_init 51 = .ok (.putfield 39, 3) := by decide +kernel
theorem dX3_init_54 : decode cX3_init 54 = .ok (.aload_n 0, 1) := by decide +kernel
theorem dX3_init_55 : decode cX3_init 55 = .ok (.iconst 0, 1) := by decide +kernel
theorem dX3_init_56 : decode cX3_init 56 = .ok (.putfield 42, 3) := by decide +kernel
theorem dX3_init_59 : decode cX3_init 59 = .ok (.aload_n 0, 1) := by decide +kernel
theorem dX3_init_60 : decode cX3_init 60 = .ok (.iconst 0, 1) := by decide +kernel
theorem dX3_init_61 : decode cX3_init 61 = .ok (.putfield 45, 3) := by decide +kernel
theorem dX3_init_64 : decode cX3_init 64 = .ok (.aload_n 0, 1) := by decide +kernel
theorem dX3_init_65 : decode cX3_init 65 = .ok (.iconst 0, 1) := by decide +kernel
theorem dX3_init_66 : decode cX3_init 66 = .ok (.putfield 49, 3) := by decide +kernel
theorem dX3_init_69 : decode cX3_init 69 = .ok (.return_, 1) := by decide +kernel
theorem dX3_weather_0 : decode cX3_weather 0 = .ok (.iload_n 1, 1) := by decide +kernel
theorem dX3_weather_1 : decode cX3_weather 1 = .ok (.iconst 0, 1) := by decide +kernel
theorem dX3_weather_2 : decode cX3_weather 2 = .ok (.bipush 20, 2) := by decide +kernel
theorem dX3_weather_4 : decode cX3_weather 4 = .ok (.invokestatic 52, 3) := by decide +kernel
theorem dX3_weather_7 : decode cX3_weather 7 = .ok (.ifCond .eq 49, 3) := by decide +kernel
theorem dX3_weather_10 : decode cX3_weather 10 = .ok (.iload_n 2, 1) := by decide +kernel
theorem dX3_weather_11 : decode cX3_weather 11 = .ok (.sipush (-400), 3) := by decide +kernel
theorem dX3_weather_14 : decode cX3_weather 14 = .ok (.sipush 200, 3) := by decide +kernel
theorem dX3_weather_17 : decode cX3_weather 17 = .ok (.invokestatic 52, 3) := by decide +kernel
theorem dX3_weather_20 : decode cX3_weather 20 = .ok (.ifCond .eq 36, 3) := by decide +kernel
theorem dX3_weather_23 : decode cX3_weather 23 = .ok (.iload_n 3, 1) := by decide +kernel
theorem dX3_weather_24 : decode cX3_weather 24 = .ok (.iload_n 2, 1) := by decide +kernel
theorem dX3_weather_25 : decode cX3_weather 25 = .ok (.sipush 200, 3) := by decide +kernel
theorem dX3_weather_28 : decode cX3_weather 28 = .ok (.invokestatic 52, 3) := by decide +kernel
theorem dX3_weather_31 : decode cX3_weather 31 = .ok (.ifCond .eq 25, 3) := by decide +kernel
theorem dX3_weather_34 : decode cX3_weather 34 = .ok (.iload 4, 2) := by decide +kernel
theorem dX3_weather_36 : decode cX3_weather 36 = .ok (.iconst 0, 1) := by decide +kernel
theorem dX3_weather_37 : decode cX3_weather 37 = .ok (.bipush 30, 2) := by decide +kernel
theorem dX3_weather_39 : decode cX3_weather 39 = .ok (.invokestatic 52, 3) := by decide +kernel
theorem dX3_weather_42 : decode cX3_weather 42 = .ok (.ifCond .eq 14, 3) := by decide +kernel
theorem dX3_weather_45 : decode cX3_weather 45 = .ok (.iload 5, 2) := by decide +kernel
theorem dX3_weather_47 : decode cX3_weather 47 = .ok (.iconst 0, 1) := by decide +kernel
theorem dX3_weather_48 : decode cX3_weather 48 = .ok (.bipush 100, 2) := by decide +kernel
theorem dX3_weather_50 : decode cX3_weather 50 = .ok (.invokestatic 52, 3) := by decide +kernel
theorem dX3_weather_53 : decode cX3_weather 53 = .ok (.ifCond .ne 13, 3) := by decide +kernel
theorem dX3_weather_56 : decode cX3_weather 56 = .ok (.new 56, 3) := by decide +kernel
theorem dX3_weather_59 : decode cX3_weather 59 = .ok (.dup, 1) := by decide +kernel
theorem dX3_weather_60 : decode cX3_weather 60 = .ok (.ldc 58, 2) := by decide +kernel
theorem dX3_weather_62 : decode cX3_weather 62 = .ok (.invokespecial 60, 3) := by decide +kernel
theorem dX3_weather_65 : decode cX3_weather 65 = .ok (.athrow, 1) := by decide +kernel
theorem dX3_weather_66 : decode cX3_weather 66 = .ok (.aload_n 0, 1) := by decide +kernel
theorem dX3_weather_67 : decode cX3_weather 67 = .ok (.getfield 33, 3) := by decide +kernel
theorem dX3_weather_70 : decode cX3_weather 70 = .ok (.bipush 24, 2) := by decide +kernel
theorem dX3_weather_72 : decode cX3_weather 72 = .ok (.iload_n 1, 1) := by decide +kernel
theorem dX3_weather_73 : decode cX3_weather 73 = .ok (.imul, 1) := by decide +kernel
theorem dX3_weather_74 : decode cX3_weather 74 = .ok (.if_icmp .le 13, 3) := by decide +kernel
theorem dX3_weather_77 : decode cX3_weather 77 = .ok (.new 63, 3) := by decide +kernel
theorem dX3_weather_80 : decode cX3_weather 80 = .ok (.dup, 1) := by decide +kernel
theorem dX3_weather_81 : decode cX3_weather 81 = .ok (.ldc 65, 2) := by decide +kernel
theorem dX3_weather_83 : decode cX3_weather 83 = .ok (.invokespecial 67, 3) := by decide +kernel
theorem dX3_weather_86 : decode cX3_weather 86 = .ok (.athrow, 1) := by decide +kernel
theorem dX3_weather_87 : decode cX3_weather 87 = .ok (.aload_n 0, 1) := by decide +kernel
theorem dX3_weather_88 : decode cX3_weather 88 = .ok (.getfield 10, 3) := by decide +kernel
theorem dX3_weather_91 : decode cX3_weather 91 = .ok (.getfield 68, 3) := by decide +kernel
theorem dX3_weather_94 : decode cX3_weather 94 = .ok (.iload_n 1, 1) := by decide +kernel
theorem dX3_weather_95 : decode cX3_weather 95 = .ok (.iaload, 1) := by decide +kernel
theorem dX3_weather_96 : decode cX3_weather 96 = .ok (.istore 6, 2) := by decide +kernel
theorem dX3_weather_98 : decode cX3_weather 98 = .ok (.aload_n 0, 1) := by decide +kernel
theorem dX3_weather_99 : decode cX3_weather 99 = .ok (.getfield 10, 3) := by decide +kernel
theorem dX3_weather_102 : decode cX3_weather 102 = .ok (.getfield 68, 3) := by decide +kernel
theorem dX3_weather_105 : decode cX3_weather 105 = .ok (.iload_n 1, 1) := by decide +kernel
theorem dX3_weather_106 : decode cX3_weather 106 = .ok (.iload_n 2, 1) := by decide +kernel
theorem dX3_weather_107 : decode cX3_weather 107 = .ok (.iastore, 1) := by decide +kernel
theorem dX3_weather_108 : decode cX3_weather 108 = .ok (.aload_n 0, 1) := by decide +kernel
theorem dX3_weather_109 : decode cX3_weather 109 = .ok (.getfield 10, 3) := by decide +kernel
theorem dX3_weather_112 : decode cX3_weather 112 = .ok (.getfield 72, 3) := by decide +kernel
theorem dX3_weather_115 : decode cX3_weather 115 = .ok (.iload_n 1, 1) := by decide +kernel
theorem dX3_weather_116 : decode cX3_weather 116 = .ok (.iload_n 3, 1) := by decide +kernel
theorem dX3_weather_117 : decode cX3_weather 117 = .ok (.iastore, 1) := by decide +kernel
theorem dX3_weather_118 : decode cX3_weather 118 = .ok (.aload_n 0, 1) := by decide +kernel
theorem dX3_weather_119 : decode cX3_weather 119 = .ok (.getfield 10, 3) := by decide +kernel
theorem dX3_weather_122 : decode cX3_weather 122 = .ok (.getfield 75, 3) := by decide +kernel
theorem dX3_weather_125 : decode cX3_weather 125 = .ok (.iload_n 1, 1) := by decide +kernel
theorem dX3_weather_126 : decode cX3_weather 126 = .ok (.iload 4, 2) := by decide +kernel
theorem dX3_weather_128 : decode cX3_weather 128 = .ok (.iastore, 1) := by decide +kernel
theorem dX3_weather_129 : decode cX3_weather 129 = .ok (.aload_n 0, 1) := by decide +kernel
theorem dX3_weather_130 : decode cX3_weather 130 = .ok (.getfield 10, 3) := by decide +kernel
theorem dX3_weather_133 : decode cX3_weather 133 = .ok (.getfield 78, 3) := by decide +kernel
theorem dX3_weather_136 : decode cX3_weather 136 = .ok (.iload_n 1, 1) := by decide +kernel
theorem dX3_weather_137 : decode cX3_weather 137 = .ok (.iload 5, 2) := by decide +kernel
theorem dX3_weather_139 : decode cX3_weather 139 = .ok (.iastore, 1) := by decide +kernel
theorem dX3_weather_140 : decode cX3_weather 140 = .ok (.iload 6, 2) := by decide +kernel
theorem dX3_weather_142 : decode cX3_weather 142 = .ok (.ireturn, 1) := by decide +kernel
theorem dX3_warmth_0 : decode cX3_warmth 0 = .ok (.iload_n 1, 1) := by decide +kernel
theorem dX3_warmth_1 : decode cX3_warmth 1 = .ok (.iconst 0, 1) := by decide +kernel
theorem dX3_warmth_2 : decode cX3_warmth 2 = .ok (.sipush 504, 3) := by decide +kernel
theorem dX3_warmth_5 : decode cX3_warmth 5 = .ok (.invokestatic 52, 3) := by decide +kernel
theorem dX3_warmth_8 : decode cX3_warmth 8 = .ok (.ifCond .ne 13, 3) := by decide +kernel
theorem dX3_warmth_11 : decode cX3_warmth 11 = .ok (.new 56, 3) := by decide +kernel
theorem dX3_warmth_14 : decode cX3_warmth 14 = .ok (.dup, 1) := by decide +kernel
theorem dX3_warmth_15 : decode cX3_warmth 15 = .ok (.ldc 81, 2) := by decide +kernel
theorem dX3_warmth_17 : decode cX3_warmth 17 = .ok (.invokespecial 60, 3) := by decide +kernel
theorem dX3_warmth_20 : decode cX3_warmth 20 = .ok (.athrow, 1) := by decide +kernel
theorem dX3_warmth_21 : decode cX3_warmth 21 = .ok (.aload_n 0, 1) := by decide +kernel
theorem dX3_warmth_22 : decode cX3_warmth 22 = .ok (.getfield 10, 3) := by decide +kernel
theorem dX3_warmth_25 : decode cX3_warmth 25 = .ok (.iload_n 1, 1) := by decide +kernel
theorem dX3_warmth_26 : decode cX3_warmth 26 = .ok (.invokevirtual 83, 3) := by decide +kernel
theorem dX3_warmth_29 : decode cX3_warmth 29 = .ok (.ireturn, 1) := by decide +kernel
theorem dX3_wet_0 : decode cX3_wet 0 = .ok (.iload_n 1, 1) := by decide +kernel
theorem dX3_wet_1 : decode cX3_wet 1 = .ok (.iconst 0, 1) := by decide +kernel
theorem dX3_wet_2 : decode cX3_wet 2 = .ok (.sipush 503, 3) := by decide +kernel
theorem dX3_wet_5 : decode cX3_wet 5 = .ok (.invokestatic 52, 3) := by decide +kernel
theorem dX3_wet_8 : decode cX3_wet 8 = .ok (.ifCond .ne 13, 3) := by decide +kernel
theorem dX3_wet_11 : decode cX3_wet 11 = .ok (.new 56, 3) := by decide +kernel
theorem dX3_wet_14 : decode cX3_wet 14 = .ok (.dup, 1) := by decide +kernel
theorem dX3_wet_15 : decode cX3_wet 15 = .ok (.ldc 81, 2) := by decide +kernel
theorem dX3_wet_17 : decode cX3_wet 17 = .ok (.invokespecial 60, 3) := by decide +kernel
theorem dX3_wet_20 : decode cX3_wet 20 = .ok (.athrow, 1) := by decide +kernel
theorem dX3_wet_21 : decode cX3_wet 21 = .ok (.aload_n 0, 1) := by decide +kernel
theorem dX3_wet_22 : decode cX3_wet 22 = .ok (.getfield 10, 3) := by decide +kernel
theorem dX3_wet_25 : decode cX3_wet 25 = .ok (.iload_n 1, 1) := by decide +kernel
theorem dX3_wet_26 : decode cX3_wet 26 = .ok (.invokevirtual 87, 3) := by decide +kernel
theorem dX3_wet_29 : decode cX3_wet 29 = .ok (.ireturn, 1) := by decide +kernel
theorem dX3_go_0 : decode cX3_go 0 = .ok (.iload_n 1, 1) := by decide +kernel
theorem dX3_go_1 : decode cX3_go 1 = .ok (.iconst 1, 1) := by decide +kernel
theorem dX3_go_2 : decode cX3_go 2 = .ok (.bipush 48, 2) := by decide +kernel
theorem dX3_go_4 : decode cX3_go 4 = .ok (.invokestatic 52, 3) := by decide +kernel
theorem dX3_go_7 : decode cX3_go 7 = .ok (.ifCond .ne 13, 3) := by decide +kernel
theorem dX3_go_10 : decode cX3_go 10 = .ok (.new 56, 3) := by decide +kernel
theorem dX3_go_13 : decode cX3_go 13 = .ok (.dup, 1) := by decide +kernel
theorem dX3_go_14 : decode cX3_go 14 = .ok (.ldc 90, 2) := by decide +kernel
theorem dX3_go_16 : decode cX3_go 16 = .ok (.invokespecial 60, 3) := by decide +kernel
theorem dX3_go_19 : decode cX3_go 19 = .ok (.athrow, 1) := by decide +kernel
theorem dX3_go_20 : decode cX3_go 20 = .ok (.aload_n 0, 1) := by decide +kernel
theorem dX3_go_21 : decode cX3_go 21 = .ok (.getfield 33, 3) := by decide +kernel
theorem dX3_go_24 : decode cX3_go 24 = .ok (.iload_n 1, 1) := by decide +kernel
theorem dX3_go_25 : decode cX3_go 25 = .ok (.iadd, 1) := by decide +kernel
theorem dX3_go_26 : decode cX3_go 26 = .ok (.sipush 504, 3) := by decide +kernel
theorem dX3_go_29 : decode cX3_go 29 = .ok (.if_icmp .le 13, 3) := by decide +kernel
theorem dX3_go_32 : decode cX3_go 32 = .ok (.new 92, 3) := by decide +kernel
theorem dX3_go_35 : decode cX3_go 35 = .ok (.dup, 1) := by decide +kernel
theorem dX3_go_36 : decode cX3_go 36 = .ok (.ldc 94, 2) := by decide +kernel
theorem dX3_go_38 : decode cX3_go 38 = .ok (.invokespecial 96, 3) := by decide +kernel
theorem dX3_go_41 : decode cX3_go 41 = .ok (.athrow, 1) := by decide +kernel
theorem dX3_go_42 : decode cX3_go 42 = .ok (.iconst 0, 1) := by decide +kernel
theorem dX3_go_43 : decode cX3_go 43 = .ok (.istore_n 2, 1) := by decide +kernel
theorem dX3_go_44 : decode cX3_go 44 = .ok (.iload_n 2, 1) := by decide +kernel
theorem dX3_go_45 : decode cX3_go 45 = .ok (.iload_n 1, 1) := by decide +kernel
theorem dX3_go_46 : decode cX3_go 46 = .ok (.if_icmp .ge 23, 3) := by decide +kernel
theorem dX3_go_49 : decode cX3_go 49 = .ok (.aload_n 0, 1) := by decide +kernel
theorem dX3_go_50 : decode cX3_go 50 = .ok (.invokevirtual 97, 3) := by decide +kernel
theorem dX3_go_53 : decode cX3_go 53 = .ok (.aload_n 0, 1) := by decide +kernel
theorem dX3_go_54 : decode cX3_go 54 = .ok (.dup, 1) := by decide +kernel
theorem dX3_go_55 : decode cX3_go 55 = .ok (.getfield 33, 3) := by decide +kernel
theorem dX3_go_58 : decode cX3_go 58 = .ok (.iconst 1, 1) := by decide +kernel
theorem dX3_go_59 : decode cX3_go 59 = .ok (.iadd, 1) := by decide +kernel
theorem dX3_go_60 : decode cX3_go 60 = .ok (.putfield 33, 3) := by decide +kernel
theorem dX3_go_63 : decode cX3_go 63 = .ok (.iinc 2 1, 3) := by decide +kernel
theorem dX3_go_66 : decode cX3_go 66 = .ok (.goto (-22), 3) := by decide +kernel
theorem dX3_go_69 : decode cX3_go 69 = .ok (.aload_n 0, 1) := by decide +kernel
theorem dX3_go_70 : decode cX3_go 70 = .ok (.getfield 33, 3) := by decide +kernel
theorem dX3_go_73 : decode cX3_go 73 = .ok (.ireturn, 1) := by decide +kernel
theorem dX3_now_0 : decode cX3_now 0 = .ok (.aload_n 0, 1) := by decide +kernel
theorem dX3_now_1 : decode cX3_now 1 = .ok (.getfield 33, 3) := by decide +kernel
theorem dX3_now_4 : decode cX3_now 4 = .ok (.ireturn, 1) := by decide +kernel
theorem dX3_ice_0 : decode cX3_ice 0 = .ok (.iload_n 1, 1) := by decide +kernel
theorem dX3_ice_1 : decode cX3_ice 1 = .ok (.iconst 0, 1) := by decide +kernel
theorem dX3_ice_2 : decode cX3_ice 2 = .ok (.iconst 3, 1) := by decide +kernel
theorem dX3_ice_3 : decode cX3_ice 3 = .ok (.invokestatic 52, 3) := by decide +kernel
theorem dX3_ice_6 : decode cX3_ice 6 = .ok (.ifCond .ne 13, 3) := by decide +kernel
theorem dX3_ice_9 : decode cX3_ice 9 = .ok (.new 56, 3) := by decide +kernel
theorem dX3_ice_12 : decode cX3_ice 12 = .ok (.dup, 1) := by decide +kernel
theorem dX3_ice_13 : decode cX3_ice 13 = .ok (.ldc 100, 2) := by decide +kernel
theorem dX3_ice_15 : decode cX3_ice 15 = .ok (.invokespecial 60, 3) := by decide +kernel
theorem dX3_ice_18 : decode cX3_ice 18 = .ok (.athrow, 1) := by decide +kernel
theorem dX3_ice_19 : decode cX3_ice 19 = .ok (.aload_n 0, 1) := by decide +kernel
theorem dX3_ice_20 : decode cX3_ice 20 = .ok (.getfield 19, 3) := by decide +kernel
theorem dX3_ice_23 : decode cX3_ice 23 = .ok (.getfield 102, 3) := by decide +kernel
theorem dX3_ice_26 : decode cX3_ice 26 = .ok (.iload_n 1, 1) := by decide +kernel
theorem dX3_ice_27 : decode cX3_ice 27 = .ok (.iaload, 1) := by decide +kernel
theorem dX3_ice_28 : decode cX3_ice 28 = .ok (.ireturn, 1) := by decide +kernel
theorem dX3_clear_0 : decode cX3_clear 0 = .ok (.iload_n 1, 1) := by decide +kernel
theorem dX3_clear_1 : decode cX3_clear 1 = .ok (.iconst 0, 1) := by decide +kernel
theorem dX3_clear_2 : decode cX3_clear 2 = .ok (.iconst 3, 1) := by decide +kernel
theorem dX3_clear_3 : decode cX3_clear 3 = .ok (.invokestatic 52, 3) := by decide +kernel
theorem dX3_clear_6 : decode cX3_clear 6 = .ok (.ifCond .ne 13, 3) := by decide +kernel
theorem dX3_clear_9 : decode cX3_clear 9 = .ok (.new 56, 3) := by decide +kernel
theorem dX3_clear_12 : decode cX3_clear 12 = .ok (.dup, 1) := by decide +kernel
theorem dX3_clear_13 : decode cX3_clear 13 = .ok (.ldc 100, 2) := by decide +kernel
theorem dX3_clear_15 : decode cX3_clear 15 = .ok (.invokespecial 60, 3) := by decide +kernel
theorem dX3_clear_18 : decode cX3_clear 18 = .ok (.athrow, 1) := by decide +kernel
theorem dX3_clear_19 : decode cX3_clear 19 = .ok (.aload_n 0, 1) := by decide +kernel
theorem dX3_clear_20 : decode cX3_clear 20 = .ok (.getfield 19, 3) := by decide +kernel
theorem dX3_clear_23 : decode cX3_clear 23 = .ok (.getfield 105, 3) := by decide +kernel
theorem dX3_clear_26 : decode cX3_clear 26 = .ok (.iload_n 1, 1) := by decide +kernel
theorem dX3_clear_27 : decode cX3_clear 27 = .ok (.iaload, 1) := by decide +kernel
theorem dX3_clear_28 : decode cX3_clear 28 = .ok (.ireturn, 1) := by decide +kernel
theorem dX3_bears_0 : decode cX3_bears 0 = .ok (.iload_n 1, 1) := by decide +kernel
theorem dX3_bears_1 : decode cX3_bears 1 = .ok (.iconst 0, 1) := by decide +kernel
theorem dX3_bears_2 : decode cX3_bears 2 = .ok (.iconst 3, 1) := by decide +kernel
theorem dX3_bears_3 : decode cX3_bears 3 = .ok (.invokestatic 52, 3) := by decide +kernel
theorem dX3_bears_6 : decode cX3_bears 6 = .ok (.ifCond .ne 13, 3) := by decide +kernel
theorem dX3_bears_9 : decode cX3_bears 9 = .ok (.new 56, 3) := by decide +kernel
theorem dX3_bears_12 : decode cX3_bears 12 = .ok (.dup, 1) := by decide +kernel
theorem dX3_bears_13 : decode cX3_bears 13 = .ok (.ldc 100, 2) := by decide +kernel
theorem dX3_bears_15 : decode cX3_bears 15 = .ok (.invokespecial 60, 3) := by decide +kernel
theorem dX3_bears_18 : decode cX3_bears 18 = .ok (.athrow, 1) := by decide +kernel
theorem dX3_bears_19 : decode cX3_bears 19 = .ok (.aload_n 0, 1) := by decide +kernel
theorem dX3_bears_20 : decode cX3_bears 20 = .ok (.getfield 19, 3) := by decide +kernel
theorem dX3_bears_23 : decode cX3_bears 23 = .ok (.iload_n 1, 1) := by decide +kernel
theorem dX3_bears_24 : decode cX3_bears 24 = .ok (.invokevirtual 108, 3) := by decide +kernel
theorem dX3_bears_27 : decode cX3_bears 27 = .ok (.ireturn, 1) := by decide +kernel
theorem dX3_cut_0 : decode cX3_cut 0 = .ok (.iload_n 1, 1) := by decide +kernel
theorem dX3_cut_1 : decode cX3_cut 1 = .ok (.iconst 0, 1) := by decide +kernel
theorem dX3_cut_2 : decode cX3_cut 2 = .ok (.iconst 3, 1) := by decide +kernel
theorem dX3_cut_3 : decode cX3_cut 3 = .ok (.invokestatic 52, 3) := by decide +kernel
theorem dX3_cut_6 : decode cX3_cut 6 = .ok (.ifCond .eq 13, 3) := by decide +kernel
theorem dX3_cut_9 : decode cX3_cut 9 = .ok (.iload_n 2, 1) := by decide +kernel
theorem dX3_cut_10 : decode cX3_cut 10 = .ok (.iconst 1, 1) := by decide +kernel
theorem dX3_cut_11 : decode cX3_cut 11 = .ok (.bipush 20, 2) := by decide +kernel
theorem dX3_cut_13 : decode cX3_cut 13 = .ok (.invokestatic 52, 3) := by decide +kernel
theorem dX3_cut_16 : decode cX3_cut 16 = .ok (.ifCond .ne 13, 3) := by decide +kernel
theorem dX3_cut_19 : decode cX3_cut 19 = .ok (.new 56, 3) := by decide +kernel
theorem dX3_cut_22 : decode cX3_cut 22 = .ok (.dup, 1) := by decide +kernel
theorem dX3_cut_23 : decode cX3_cut 23 = .ok (.ldc 58, 2) := by decide +kernel
theorem dX3_cut_25 : decode cX3_cut 25 = .ok (.invokespecial 60, 3) := by decide +kernel
theorem dX3_cut_28 : decode cX3_cut 28 = .ok (.athrow, 1) := by decide +kernel
theorem dX3_cut_29 : decode cX3_cut 29 = .ok (.aload_n 0, 1) := by decide +kernel
theorem dX3_cut_30 : decode cX3_cut 30 = .ok (.getfield 19, 3) := by decide +kernel
theorem dX3_cut_33 : decode cX3_cut 33 = .ok (.getfield 102, 3) := by decide +kernel
theorem dX3_cut_36 : decode cX3_cut 36 = .ok (.iload_n 1, 1) := by decide +kernel
theorem dX3_cut_37 : decode cX3_cut 37 = .ok (.iaload, 1) := by decide +kernel
theorem dX3_cut_38 : decode cX3_cut 38 = .ok (.sipush 300, 3) := by decide +kernel
theorem dX3_cut_41 : decode cX3_cut 41 = .ok (.if_icmp .lt 27, 3) := by decide +kernel
theorem dX3_cut_44 : decode cX3_cut 44 = .ok (.aload_n 0, 1) := by decide +kernel
theorem dX3_cut_45 : decode cX3_cut 45 = .ok (.getfield 19, 3) := by decide +kernel
theorem dX3_cut_48 : decode cX3_cut 48 = .ok (.getfield 112, 3) := by decide +kernel
theorem dX3_cut_51 : decode cX3_cut 51 = .ok (.iload_n 1, 1) := by decide +kernel
theorem dX3_cut_52 : decode cX3_cut 52 = .ok (.iaload, 1) := by decide +kernel
theorem dX3_cut_53 : decode cX3_cut 53 = .ok (.iload_n 2, 1) := by decide +kernel
theorem dX3_cut_54 : decode cX3_cut 54 = .ok (.if_icmp .lt 14, 3) := by decide +kernel
theorem dX3_cut_57 : decode cX3_cut 57 = .ok (.aload_n 0, 1) := by decide +kernel
theorem dX3_cut_58 : decode cX3_cut 58 = .ok (.getfield 19, 3) := by decide +kernel
theorem dX3_cut_61 : decode cX3_cut 61 = .ok (.iload_n 1, 1) := by decide +kernel
theorem dX3_cut_62 : decode cX3_cut 62 = .ok (.invokevirtual 108, 3) := by decide +kernel
theorem dX3_cut_65 : decode cX3_cut 65 = .ok (.ifCond .ne 13, 3) := by decide +kernel
theorem dX3_cut_68 : decode cX3_cut 68 = .ok (.new 63, 3) := by decide +kernel
theorem dX3_cut_71 : decode cX3_cut 71 = .ok (.dup, 1) := by decide +kernel
theorem dX3_cut_72 : decode cX3_cut 72 = .ok (.ldc 115, 2) := by decide +kernel
theorem dX3_cut_74 : decode cX3_cut 74 = .ok (.invokespecial 67, 3) := by decide +kernel
theorem dX3_cut_77 : decode cX3_cut 77 = .ok (.athrow, 1) := by decide +kernel
theorem dX3_cut_78 : decode cX3_cut 78 = .ok (.aload_n 0, 1) := by decide +kernel
theorem dX3_cut_79 : decode cX3_cut 79 = .ok (.getfield 36, 3) := by decide +kernel
theorem dX3_cut_82 : decode cX3_cut 82 = .ok (.aload_n 0, 1) := by decide +kernel
theorem dX3_cut_83 : decode cX3_cut 83 = .ok (.getfield 39, 3) := by decide +kernel
theorem dX3_cut_86 : decode cX3_cut 86 = .ok (.iadd, 1) := by decide +kernel
theorem dX3_cut_87 : decode cX3_cut 87 = .ok (.iload_n 2, 1) := by decide +kernel
theorem dX3_cut_88 : decode cX3_cut 88 = .ok (.iadd, 1) := by decide +kernel
theorem dX3_cut_89 : decode cX3_cut 89 = .ok (.sipush 200, 3) := by decide +kernel
theorem dX3_cut_92 : decode cX3_cut 92 = .ok (.if_icmp .le 13, 3) := by decide +kernel
theorem dX3_cut_95 : decode cX3_cut 95 = .ok (.new 92, 3) := by decide +kernel
theorem dX3_cut_98 : decode cX3_cut 98 = .ok (.dup, 1) := by decide +kernel
theorem dX3_cut_99 : decode cX3_cut 99 = .ok (.ldc 117, 2) := by decide +kernel
theorem dX3_cut_101 : decode cX3_cut 101 = .ok (.invokespecial 96, 3) := by decide +kernel
theorem dX3_cut_104 : decode cX3_cut 104 = .ok (.athrow, 1) := by decide +kernel
theorem dX3_cut_105 : decode cX3_cut 105 = .ok (.aload_n 0, 1) := by decide +kernel
theorem dX3_cut_106 : decode cX3_cut 106 = .ok (.getfield 19, 3) := by decide +kernel
theorem dX3_cut_109 : decode cX3_cut 109 = .ok (.iload_n 1, 1) := by decide +kernel
theorem dX3_cut_110 : decode cX3_cut 110 = .ok (.invokevirtual 119, 3) := by decide +kernel
theorem dX3_cut_113 : decode cX3_cut 113 = .ok (.ifCond .eq 16, 3) := by decide +kernel
theorem dX3_cut_116 : decode cX3_cut 116 = .ok (.aload_n 0, 1) := by decide +kernel
theorem dX3_cut_117 : decode cX3_cut 117 = .ok (.dup, 1) := by decide +kernel
theorem dX3_cut_118 : decode cX3_cut 118 = .ok (.getfield 36, 3) := by decide +kernel
theorem dX3_cut_121 : decode cX3_cut 121 = .ok (.iload_n 2, 1) := by decide +kernel
theorem dX3_cut_122 : decode cX3_cut 122 = .ok (.iadd, 1) := by decide +kernel
theorem dX3_cut_123 : decode cX3_cut 123 = .ok (.putfield 36, 3) := by decide +kernel
theorem dX3_cut_126 : decode cX3_cut 126 = .ok (.goto 13, 3) := by decide +kernel
theorem dX3_cut_129 : decode cX3_cut 129 = .ok (.aload_n 0, 1) := by decide +kernel
theorem dX3_cut_130 : decode cX3_cut 130 = .ok (.dup, 1) := by decide +kernel
theorem dX3_cut_131 : decode cX3_cut 131 = .ok (.getfield 39, 3) := by decide +kernel
theorem dX3_cut_134 : decode cX3_cut 134 = .ok (.iload_n 2, 1) := by decide +kernel
theorem dX3_cut_135 : decode cX3_cut 135 = .ok (.iadd, 1) := by decide +kernel
theorem dX3_cut_136 : decode cX3_cut 136 = .ok (.putfield 39, 3) := by decide +kernel
theorem dX3_cut_139 : decode cX3_cut 139 = .ok (.aload_n 0, 1) := by decide +kernel
theorem dX3_cut_140 : decode cX3_cut 140 = .ok (.getfield 19, 3) := by decide +kernel
theorem dX3_cut_143 : decode cX3_cut 143 = .ok (.getfield 112, 3) := by decide +kernel
theorem dX3_cut_146 : decode cX3_cut 146 = .ok (.iload_n 1, 1) := by decide +kernel
theorem dX3_cut_147 : decode cX3_cut 147 = .ok (.dup2, 1) := by decide +kernel
theorem dX3_cut_148 : decode cX3_cut 148 = .ok (.iaload, 1) := by decide +kernel
theorem dX3_cut_149 : decode cX3_cut 149 = .ok (.iload_n 2, 1) := by decide +kernel
theorem dX3_cut_150 : decode cX3_cut 150 = .ok (.isub, 1) := by decide +kernel
theorem dX3_cut_151 : decode cX3_cut 151 = .ok (.iastore, 1) := by decide +kernel
theorem dX3_cut_152 : decode cX3_cut 152 = .ok (.aload_n 0, 1) := by decide +kernel
theorem dX3_cut_153 : decode cX3_cut 153 = .ok (.dup, 1) := by decide +kernel
theorem dX3_cut_154 : decode cX3_cut 154 = .ok (.getfield 49, 3) := by decide +kernel
theorem dX3_cut_157 : decode cX3_cut 157 = .ok (.bipush 20, 2) := by decide +kernel
theorem dX3_cut_159 : decode cX3_cut 159 = .ok (.iload_n 2, 1) := by decide +kernel
theorem dX3_cut_160 : decode cX3_cut 160 = .ok (.imul, 1) := by decide +kernel
theorem dX3_cut_161 : decode cX3_cut 161 = .ok (.isub, 1) := by decide +kernel
theorem dX3_cut_162 : decode cX3_cut 162 = .ok (.putfield 49, 3) := by decide +kernel
theorem dX3_cut_165 : decode cX3_cut 165 = .ok (.aload_n 0, 1) := by decide +kernel
theorem dX3_cut_166 : decode cX3_cut 166 = .ok (.getfield 19, 3) := by decide +kernel
theorem dX3_cut_169 : decode cX3_cut 169 = .ok (.getfield 112, 3) := by decide +kernel
theorem dX3_cut_172 : decode cX3_cut 172 = .ok (.iload_n 1, 1) := by decide +kernel
theorem dX3_cut_173 : decode cX3_cut 173 = .ok (.iaload, 1) := by decide +kernel
theorem dX3_cut_174 : decode cX3_cut 174 = .ok (.ireturn, 1) := by decide +kernel
theorem dX3_yard_0 : decode cX3_yard 0 = .ok (.iload_n 1, 1) := by decide +kernel
theorem dX3_yard_1 : decode cX3_yard 1 = .ok (.ifCond .eq 10, 3) := by decide +kernel
theorem dX3_yard_4 : decode cX3_yard 4 = .ok (.aload_n 0, 1) := by decide +kernel
theorem dX3_yard_5 : decode cX3_yard 5 = .ok (.getfield 36, 3) := by decide +kernel
theorem dX3_yard_8 : decode cX3_yard 8 = .ok (.goto 7, 3) := by decide +kernel
theorem dX3_yard_11 : decode cX3_yard 11 = .ok (.aload_n 0, 1) := by decide +kernel
theorem dX3_yard_12 : decode cX3_yard 12 = .ok (.getfield 39, 3) := by decide +kernel
theorem dX3_yard_15 : decode cX3_yard 15 = .ok (.ireturn, 1) := by decide +kernel
theorem dX3_lorries_0 : decode cX3_lorries 0 = .ok (.iload_n 1, 1) := by decide +kernel
theorem dX3_lorries_1 : decode cX3_lorries 1 = .ok (.iconst 1, 1) := by decide +kernel
theorem dX3_lorries_2 : decode cX3_lorries 2 = .ok (.bipush 20, 2) := by decide +kernel
theorem dX3_lorries_4 : decode cX3_lorries 4 = .ok (.invokestatic 52, 3) := by decide +kernel
theorem dX3_lorries_7 : decode cX3_lorries 7 = .ok (.ifCond .ne 13, 3) := by decide +kernel
theorem dX3_lorries_10 : decode cX3_lorries 10 = .ok (.new 56, 3) := by decide +kernel
theorem dX3_lorries_13 : decode cX3_lorries 13 = .ok (.dup, 1) := by decide +kernel
theorem dX3_lorries_14 : decode cX3_lorries 14 = .ok (.ldc 122, 2) := by decide +kernel
theorem dX3_lorries_16 : decode cX3_lorries 16 = .ok (.invokespecial 60, 3) := by decide +kernel
theorem dX3_lorries_19 : decode cX3_lorries 19 = .ok (.athrow, 1) := by decide +kernel
theorem dX3_lorries_20 : decode cX3_lorries 20 = .ok (.aload_n 0, 1) := by decide +kernel
theorem dX3_lorries_21 : decode cX3_lorries 21 = .ok (.iconst 5, 1) := by decide +kernel
theorem dX3_lorries_22 : decode cX3_lorries 22 = .ok (.iload_n 1, 1) := by decide +kernel
theorem dX3_lorries_23 : decode cX3_lorries 23 = .ok (.imul, 1) := by decide +kernel
theorem dX3_lorries_24 : decode cX3_lorries 24 = .ok (.invokevirtual 124, 3) := by decide +kernel
theorem dX3_lorries_27 : decode cX3_lorries 27 = .ok (.aload_n 0, 1) := by decide +kernel
theorem dX3_lorries_28 : decode cX3_lorries 28 = .ok (.dup, 1) := by decide +kernel
theorem dX3_lorries_29 : decode cX3_lorries 29 = .ok (.getfield 49, 3) := by decide +kernel
theorem dX3_lorries_32 : decode cX3_lorries 32 = .ok (.bipush 100, 2) := by decide +kernel
theorem dX3_lorries_34 : decode cX3_lorries 34 = .ok (.iload_n 1, 1) := by decide +kernel
theorem dX3_lorries_35 : decode cX3_lorries 35 = .ok (.imul, 1) := by decide +kernel
theorem dX3_lorries_36 : decode cX3_lorries 36 = .ok (.isub, 1) := by decide +kernel
theorem dX3_lorries_37 : decode cX3_lorries 37 = .ok (.putfield 49, 3) := by decide +kernel
theorem dX3_lorries_40 : decode cX3_lorries 40 = .ok (.aload_n 0, 1) := by decide +kernel
theorem dX3_lorries_41 : decode cX3_lorries 41 = .ok (.getfield 42, 3) := by decide +kernel
theorem dX3_lorries_44 : decode cX3_lorries 44 = .ok (.ireturn, 1) := by decide +kernel
theorem dX3_machine_0 : decode cX3_machine 0 = .ok (.aload_n 0, 1) := by decide +kernel
theorem dX3_machine_1 : decode cX3_machine 1 = .ok (.getfield 45, 3) := by decide +kernel
theorem dX3_machine_4 : decode cX3_machine 4 = .ok (.istore_n 2, 1) := by decide +kernel
theorem dX3_machine_5 : decode cX3_machine 5 = .ok (.aload_n 0, 1) := by decide +kernel
theorem dX3_machine_6 : decode cX3_machine 6 = .ok (.iload_n 1, 1) := by decide +kernel
theorem dX3_machine_7 : decode cX3_machine 7 = .ok (.putfield 45, 3) := by decide +kernel
theorem dX3_machine_10 : decode cX3_machine 10 = .ok (.iload_n 2, 1) := by decide +kernel
theorem dX3_machine_11 : decode cX3_machine 11 = .ok (.ireturn, 1) := by decide +kernel
theorem dX3_snow_0 : decode cX3_snow 0 = .ok (.aload_n 0, 1) := by decide +kernel
theorem dX3_snow_1 : decode cX3_snow 1 = .ok (.getfield 42, 3) := by decide +kernel
theorem dX3_snow_4 : decode cX3_snow 4 = .ok (.ireturn, 1) := by decide +kernel
theorem dX3_site_0 : decode cX3_site 0 = .ok (.aload_n 0, 1) := by decide +kernel
theorem dX3_site_1 : decode cX3_site 1 = .ok (.getfield 29, 3) := by decide +kernel
theorem dX3_site_4 : decode cX3_site 4 = .ok (.iconst 3, 1) := by decide +kernel
theorem dX3_site_5 : decode cX3_site 5 = .ok (.if_icmp .lt 13, 3) := by decide +kernel
theorem dX3_site_8 : decode cX3_site 8 = .ok (.new 92, 3) := by decide +kernel
theorem dX3_site_11 : decode cX3_site 11 = .ok (.dup, 1) := by decide +kernel
theorem dX3_site_12 : decode cX3_site 12 = .ok (.ldc 128, 2) := by decide +kernel
theorem dX3_site_14 : decode cX3_site 14 = .ok (.invokespecial 96, 3) := by decide +kernel
theorem dX3_site_17 : decode cX3_site 17 = .ok (.athrow, 1) := by decide +kernel
theorem dX3_site_18 : decode cX3_site 18 = .ok (.aload_n 0, 1) := by decide +kernel
theorem dX3_site_19 : decode cX3_site 19 = .ok (.getfield 25, 3) := by decide +kernel
theorem dX3_site_22 : decode cX3_site 22 = .ok (.aload_n 0, 1) := by decide +kernel
theorem dX3_site_23 : decode cX3_site 23 = .ok (.getfield 29, 3) := by decide +kernel
theorem dX3_site_26 : decode cX3_site 26 = .ok (.new 23, 3) := by decide +kernel
theorem dX3_site_29 : decode cX3_site 29 = .ok (.dup, 1) := by decide +kernel
theorem dX3_site_30 : decode cX3_site 30 = .ok (.invokespecial 130, 3) := by decide +kernel
theorem dX3_site_33 : decode cX3_site 33 = .ok (.aastore, 1) := by decide +kernel
theorem dX3_site_34 : decode cX3_site 34 = .ok (.aload_n 0, 1) := by decide +kernel
theorem dX3_site_35 : decode cX3_site 35 = .ok (.dup, 1) := by decide +kernel
theorem dX3_site_36 : decode cX3_site 36 = .ok (.getfield 29, 3) := by decide +kernel
theorem dX3_site_39 : decode cX3_site 39 = .ok (.iconst 1, 1) := by decide +kernel
theorem dX3_site_40 : decode cX3_site 40 = .ok (.iadd, 1) := by decide +kernel
theorem dX3_site_41 : decode cX3_site 41 = .ok (.putfield 29, 3) := by decide +kernel
theorem dX3_site_44 : decode cX3_site 44 = .ok (.aload_n 0, 1) := by decide +kernel
theorem dX3_site_45 : decode cX3_site 45 = .ok (.getfield 29, 3) := by decide +kernel
theorem dX3_site_48 : decode cX3_site 48 = .ok (.iconst 1, 1) := by decide +kernel
theorem dX3_site_49 : decode cX3_site 49 = .ok (.isub, 1) := by decide +kernel
theorem dX3_site_50 : decode cX3_site 50 = .ok (.ireturn, 1) := by decide +kernel
theorem dX3_put_0 : decode cX3_put 0 = .ok (.aload_n 0, 1) := by decide +kernel
theorem dX3_put_1 : decode cX3_put 1 = .ok (.iload_n 1, 1) := by decide +kernel
theorem dX3_put_2 : decode cX3_put 2 = .ok (.iload_n 2, 1) := by decide +kernel
theorem dX3_put_3 : decode cX3_put 3 = .ok (.iload_n 3, 1) := by decide +kernel
theorem dX3_put_4 : decode cX3_put 4 = .ok (.invokevirtual 131, 3) := by decide +kernel
theorem dX3_put_7 : decode cX3_put 7 = .ok (.astore 5, 2) := by decide +kernel
theorem dX3_put_9 : decode cX3_put 9 = .ok (.aload 5, 2) := by decide +kernel
theorem dX3_put_11 : decode cX3_put 11 = .ok (.ifnonnull 13, 3) := by decide +kernel
theorem dX3_put_14 : decode cX3_put 14 = .ok (.new 135, 3) := by decide +kernel
theorem dX3_put_17 : decode cX3_put 17 = .ok (.dup, 1) := by decide +kernel
theorem dX3_put_18 : decode cX3_put 18 = .ok (.ldc 137, 2) := by decide +kernel
theorem dX3_put_20 : decode cX3_put 20 = .ok (.invokespecial 139, 3) := by decide +kernel
theorem dX3_put_23 : decode cX3_put 23 = .ok (.athrow, 1) := by decide +kernel
theorem dX3_put_24 : decode cX3_put 24 = .ok (.iload 4, 2) := by decide +kernel
theorem dX3_put_26 : decode cX3_put 26 = .ok (.bipush 115, 2) := by decide +kernel
theorem dX3_put_28 : decode cX3_put 28 = .ok (.if_icmp .eq 27, 3) := by decide +kernel
theorem dX3_put_31 : decode cX3_put 31 = .ok (.iload 4, 2) := by decide +kernel
theorem dX3_put_33 : decode cX3_put 33 = .ok (.bipush 105, 2) := by decide +kernel
theorem dX3_put_35 : decode cX3_put 35 = .ok (.if_icmp .eq 20, 3) := by decide +kernel
theorem dX3_put_38 : decode cX3_put 38 = .ok (.iload 4, 2) := by decide +kernel
theorem dX3_put_40 : decode cX3_put 40 = .ok (.bipush 99, 2) := by decide +kernel
theorem dX3_put_42 : decode cX3_put 42 = .ok (.if_icmp .eq 13, 3) := by decide +kernel
theorem dX3_put_45 : decode cX3_put 45 = .ok (.new 56, 3) := by decide +kernel
theorem dX3_put_48 : decode cX3_put 48 = .ok (.dup, 1) := by decide +kernel
theorem dX3_put_49 : decode cX3_put 49 = .ok (.ldc 140, 2) := by decide +kernel
theorem dX3_put_51 : decode cX3_put 51 = .ok (.invokespecial 60, 3) := by decide +kernel
theorem dX3_put_54 : decode cX3_put 54 = .ok (.athrow, 1) := by decide +kernel
theorem dX3_put_55 : decode cX3_put 55 = .ok (.iload_n 2, 1) := by decide +kernel
theorem dX3_put_56 : decode cX3_put 56 = .ok (.iload_n 3, 1) := by decide +kernel
theorem dX3_put_57 : decode cX3_put 57 = .ok (.invokestatic 142, 3) := by decide +kernel
theorem dX3_put_60 : decode cX3_put 60 = .ok (.istore 6, 2) := by decide +kernel
theorem dX3_put_62 : decode cX3_put 62 = .ok (.aload 5, 2) := by decide +kernel
theorem dX3_put_64 : decode cX3_put 64 = .ok (.iload 6, 2) := by decide +kernel
theorem dX3_put_66 : decode cX3_put 66 = .ok (.invokevirtual 146, 3) := by decide +kernel
theorem dX3_put_69 : decode cX3_put 69 = .ok (.ifCond .ne 13, 3) := by decide +kernel
theorem dX3_put_72 : decode cX3_put 72 = .ok (.aload 5, 2) := by decide +kernel
theorem dX3_put_74 : decode cX3_put 74 = .ok (.iload 6, 2) := by decide +kernel
theorem dX3_put_76 : decode cX3_put 76 = .ok (.invokevirtual 149, 3) := by decide +kernel
theorem dX3_put_79 : decode cX3_put 79 = .ok (.ifCond .ne 13, 3) := by decide +kernel
theorem dX3_put_82 : decode cX3_put 82 = .ok (.new 63, 3) := by decide +kernel
theorem dX3_put_85 : decode cX3_put 85 = .ok (.dup, 1) := by decide +kernel
theorem dX3_put_86 : decode cX3_put 86 = .ok (.ldc 152, 2) := by decide +kernel
theorem dX3_put_88 : decode cX3_put 88 = .ok (.invokespecial 67, 3) := by decide +kernel
theorem dX3_put_91 : decode cX3_put 91 = .ok (.athrow, 1) := by decide +kernel
theorem dX3_put_92 : decode cX3_put 92 = .ok (.aload_n 0, 1) := by decide +kernel
theorem dX3_put_93 : decode cX3_put 93 = .ok (.iload 4, 2) := by decide +kernel
theorem dX3_put_95 : decode cX3_put 95 = .ok (.invokevirtual 154, 3) := by decide +kernel
theorem dX3_put_98 : decode cX3_put 98 = .ok (.ifCond .ne 13, 3) := by decide +kernel
theorem dX3_put_101 : decode cX3_put 101 = .ok (.new 92, 3) := by decide +kernel
theorem dX3_put_104 : decode cX3_put 104 = .ok (.dup, 1) := by decide +kernel
theorem dX3_put_105 : decode cX3_put 105 = .ok (.ldc 158, 2) := by decide +kernel
theorem dX3_put_107 : decode cX3_put 107 = .ok (.invokespecial 96, 3) := by decide +kernel
theorem dX3_put_110 : decode cX3_put 110 = .ok (.athrow, 1) := by decide +kernel
theorem dX3_put_111 : decode cX3_put 111 = .ok (.aload_n 0, 1) := by decide +kernel
theorem dX3_put_112 : decode cX3_put 112 = .ok (.iload 4, 2) := by decide +kernel
theorem dX3_put_114 : decode cX3_put 114 = .ok (.invokevirtual 160, 3) := by decide +kernel
theorem dX3_put_117 : decode cX3_put 117 = .ok (.aload_n 0, 1) := by decide +kernel
theorem dX3_put_118 : decode cX3_put 118 = .ok (.dup, 1) := by decide +kernel
theorem dX3_put_119 : decode cX3_put 119 = .ok (.getfield 49, 3) := by decide +kernel
theorem dX3_put_122 : decode cX3_put 122 = .ok (.bipush 10, 2) := by decide +kernel
theorem dX3_put_124 : decode cX3_put 124 = .ok (.isub, 1) := by decide +kernel
theorem dX3_put_125 : decode cX3_put 125 = .ok (.putfield 49, 3) := by decide +kernel
theorem dX3_put_128 : decode cX3_put 128 = .ok (.aload 5, 2) := by decide +kernel
theorem dX3_put_130 : decode cX3_put 130 = .ok (.iload 6, 2) := by decide +kernel
theorem dX3_put_132 : decode cX3_put 132 = .ok (.iload 4, 2) := by decide +kernel
theorem dX3_put_134 : decode cX3_put 134 = .ok (.invokevirtual 164, 3) := by decide +kernel
theorem dX3_put_137 : decode cX3_put 137 = .ok (.aload_n 0, 1) := by decide +kernel
theorem dX3_put_138 : decode cX3_put 138 = .ok (.aload 5, 2) := by decide +kernel
theorem dX3_put_140 : decode cX3_put 140 = .ok (.invokevirtual 168, 3) := by decide +kernel
theorem dX3_put_143 : decode cX3_put 143 = .ok (.pop, 1) := by decide +kernel
theorem dX3_put_144 : decode cX3_put 144 = .ok (.aload 5, 2) := by decide +kernel
theorem dX3_put_146 : decode cX3_put 146 = .ok (.invokevirtual 172, 3) := by decide +kernel
theorem dX3_put_149 : decode cX3_put 149 = .ok (.ireturn, 1) := by decide +kernel
theorem dX3_at_0 : decode cX3_at 0 = .ok (.aload_n 0, 1) := by decide +kernel
theorem dX3_at_1 : decode cX3_at 1 = .ok (.iload_n 1, 1) := by decide +kernel
theorem dX3_at_2 : decode cX3_at 2 = .ok (.iload_n 2, 1) := by decide +kernel
theorem dX3_at_3 : decode cX3_at 3 = .ok (.iload_n 3, 1) := by decide +kernel
theorem dX3_at_4 : decode cX3_at 4 = .ok (.invokevirtual 131, 3) := by decide +kernel
theorem dX3_at_7 : decode cX3_at 7 = .ok (.astore 4, 2) := by decide +kernel
theorem dX3_at_9 : decode cX3_at 9 = .ok (.aload 4, 2) := by decide +kernel
theorem dX3_at_11 : decode cX3_at 11 = .ok (.ifnonnull 13, 3) := by decide +kernel
theorem dX3_at_14 : decode cX3_at 14 = .ok (.new 135, 3) := by decide +kernel
theorem dX3_at_17 : decode cX3_at 17 = .ok (.dup, 1) := by decide +kernel
theorem dX3_at_18 : decode cX3_at 18 = .ok (.ldc 137, 2) := by decide +kernel
theorem dX3_at_20 : decode cX3_at 20 = .ok (.invokespecial 139, 3) := by decide +kernel
theorem dX3_at_23 : decode cX3_at 23 = .ok (.athrow, 1) := by decide +kernel
theorem dX3_at_24 : decode cX3_at 24 = .ok (.aload 4, 2) := by decide +kernel
theorem dX3_at_26 : decode cX3_at 26 = .ok (.getfield 176, 3) := by decide +kernel
theorem dX3_at_29 : decode cX3_at 29 = .ok (.iload_n 2, 1) := by decide +kernel
theorem dX3_at_30 : decode cX3_at 30 = .ok (.iload_n 3, 1) := by decide +kernel
theorem dX3_at_31 : decode cX3_at 31 = .ok (.invokestatic 142, 3) := by decide +kernel
theorem dX3_at_34 : decode cX3_at 34 = .ok (.caload, 1) := by decide +kernel
theorem dX3_at_35 : decode cX3_at 35 = .ok (.ireturn, 1) := by decide +kernel
theorem dX3_mass_0 : decode cX3_mass 0 = .ok (.aload_n 0, 1) := by decide +kernel
theorem dX3_mass_1 : decode cX3_mass 1 = .ok (.iload_n 1, 1) := by decide +kernel
theorem dX3_mass_2 : decode cX3_mass 2 = .ok (.iload_n 2, 1) := by decide +kernel
theorem dX3_mass_3 : decode cX3_mass 3 = .ok (.iload_n 3, 1) := by decide +kernel
theorem dX3_mass_4 : decode cX3_mass 4 = .ok (.invokevirtual 131, 3) := by decide +kernel
theorem dX3_mass_7 : decode cX3_mass 7 = .ok (.astore 4, 2) := by decide +kernel
theorem dX3_mass_9 : decode cX3_mass 9 = .ok (.aload 4, 2) := by decide +kernel
theorem dX3_mass_11 : decode cX3_mass 11 = .ok (.ifnonnull 13, 3) := by decide +kernel
theorem dX3_mass_14 : decode cX3_mass 14 = .ok (.new 135, 3) := by decide +kernel
theorem dX3_mass_17 : decode cX3_mass 17 = .ok (.dup, 1) := by decide +kernel
theorem dX3_mass_18 : decode cX3_mass 18 = .ok (.ldc 137, 2) := by decide +kernel
theorem dX3_mass_20 : decode cX3_mass 20 = .ok (.invokespecial 139, 3) := by decide +kernel
theorem dX3_mass_23 : decode cX3_mass 23 = .ok (.athrow, 1) := by decide +kernel
theorem dX3_mass_24 : decode cX3_mass 24 = .ok (.aload 4, 2) := by decide +kernel
theorem dX3_mass_26 : decode cX3_mass 26 = .ok (.iload_n 2, 1) := by decide +kernel
theorem dX3_mass_27 : decode cX3_mass 27 = .ok (.iload_n 3, 1) := by decide +kernel
theorem dX3_mass_28 : decode cX3_mass 28 = .ok (.invokestatic 142, 3) := by decide +kernel
theorem dX3_mass_31 : decode cX3_mass 31 = .ok (.invokevirtual 146, 3) := by decide +kernel
theorem dX3_mass_34 : decode cX3_mass 34 = .ok (.ifCond .ne 13, 3) := by decide +kernel
theorem dX3_mass_37 : decode cX3_mass 37 = .ok (.new 180, 3) := by decide +kernel
theorem dX3_mass_40 : decode cX3_mass 40 = .ok (.dup, 1) := by decide +kernel
theorem dX3_mass_41 : decode cX3_mass 41 = .ok (.ldc 182, 2) := by decide +kernel
theorem dX3_mass_43 : decode cX3_mass 43 = .ok (.invokespecial 184, 3) := by decide +kernel
theorem dX3_mass_46 : decode cX3_mass 46 = .ok (.athrow, 1) := by decide +kernel
theorem dX3_mass_47 : decode cX3_mass 47 = .ok (.aload 4, 2) := by decide +kernel
theorem dX3_mass_49 : decode cX3_mass 49 = .ok (.getfield 185, 3) := by decide +kernel
theorem dX3_mass_52 : decode cX3_mass 52 = .ok (.iload_n 2, 1) := by decide +kernel
theorem dX3_mass_53 : decode cX3_mass 53 = .ok (.iload_n 3, 1) := by decide +kernel
theorem dX3_mass_54 : decode cX3_mass 54 = .ok (.invokestatic 142, 3) := by decide +kernel
theorem dX3_mass_57 : decode cX3_mass 57 = .ok (.iaload, 1) := by decide +kernel
theorem dX3_mass_58 : decode cX3_mass 58 = .ok (.ireturn, 1) := by decide +kernel
theorem dX3_load_0 : decode cX3_load 0 = .ok (.aload_n 0, 1) := by decide +kernel
theorem dX3_load_1 : decode cX3_load 1 = .ok (.iload_n 1, 1) := by decide +kernel
theorem dX3_load_2 : decode cX3_load 2 = .ok (.iload_n 2, 1) := by decide +kernel
theorem dX3_load_3 : decode cX3_load 3 = .ok (.iload_n 3, 1) := by decide +kernel
theorem dX3_load_4 : decode cX3_load 4 = .ok (.invokevirtual 131, 3) := by decide +kernel
theorem dX3_load_7 : decode cX3_load 7 = .ok (.astore 4, 2) := by decide +kernel
theorem dX3_load_9 : decode cX3_load 9 = .ok (.aload 4, 2) := by decide +kernel
theorem dX3_load_11 : decode cX3_load 11 = .ok (.ifnonnull 13, 3) := by decide +kernel
theorem dX3_load_14 : decode cX3_load 14 = .ok (.new 135, 3) := by decide +kernel
theorem dX3_load_17 : decode cX3_load 17 = .ok (.dup, 1) := by decide +kernel
theorem dX3_load_18 : decode cX3_load 18 = .ok (.ldc 137, 2) := by decide +kernel
theorem dX3_load_20 : decode cX3_load 20 = .ok (.invokespecial 139, 3) := by decide +kernel
theorem dX3_load_23 : decode cX3_load 23 = .ok (.athrow, 1) := by decide +kernel
theorem dX3_load_24 : decode cX3_load 24 = .ok (.aload 4, 2) := by decide +kernel
theorem dX3_load_26 : decode cX3_load 26 = .ok (.iload_n 2, 1) := by decide +kernel
theorem dX3_load_27 : decode cX3_load 27 = .ok (.iload_n 3, 1) := by decide +kernel
theorem dX3_load_28 : decode cX3_load 28 = .ok (.invokestatic 142, 3) := by decide +kernel
theorem dX3_load_31 : decode cX3_load 31 = .ok (.invokevirtual 146, 3) := by decide +kernel
theorem dX3_load_34 : decode cX3_load 34 = .ok (.ifCond .ne 13, 3) := by decide +kernel
theorem dX3_load_37 : decode cX3_load 37 = .ok (.new 180, 3) := by decide +kernel
theorem dX3_load_40 : decode cX3_load 40 = .ok (.dup, 1) := by decide +kernel
theorem dX3_load_41 : decode cX3_load 41 = .ok (.ldc 182, 2) := by decide +kernel
theorem dX3_load_43 : decode cX3_load 43 = .ok (.invokespecial 184, 3) := by decide +kernel
theorem dX3_load_46 : decode cX3_load 46 = .ok (.athrow, 1) := by decide +kernel
theorem dX3_load_47 : decode cX3_load 47 = .ok (.aload 4, 2) := by decide +kernel
theorem dX3_load_49 : decode cX3_load 49 = .ok (.iconst (-1), 1) := by decide +kernel
theorem dX3_load_50 : decode cX3_load 50 = .ok (.iconst 0, 1) := by decide +kernel
theorem dX3_load_51 : decode cX3_load 51 = .ok (.invokevirtual 188, 3) := by decide +kernel
theorem dX3_load_54 : decode cX3_load 54 = .ok (.aload 4, 2) := by decide +kernel
theorem dX3_load_56 : decode cX3_load 56 = .ok (.getfield 192, 3) := by decide +kernel
theorem dX3_load_59 : decode cX3_load 59 = .ok (.iload_n 2, 1) := by decide +kernel
theorem dX3_load_60 : decode cX3_load 60 = .ok (.iload_n 3, 1) := by decide +kernel
theorem dX3_load_61 : decode cX3_load 61 = .ok (.invokestatic 142, 3) := by decide +kernel
theorem dX3_load_64 : decode cX3_load 64 = .ok (.iaload, 1) := by decide +kernel
theorem dX3_load_65 : decode cX3_load 65 = .ok (.ireturn, 1) := by decide +kernel
theorem dX3_strength_0 : decode cX3_strength 0 = .ok (.aload_n 0, 1) := by decide +kernel
theorem dX3_strength_1 : decode cX3_strength 1 = .ok (.iload_n 1, 1) := by decide +kernel
theorem dX3_strength_2 : decode cX3_strength 2 = .ok (.iload_n 2, 1) := by decide +kernel
theorem dX3_strength_3 : decode cX3_strength 3 = .ok (.iload_n 3, 1) := by decide +kernel
theorem dX3_strength_4 : decode cX3_strength 4 = .ok (.invokevirtual 131, 3) := by decide +kernel
theorem dX3_strength_7 : decode cX3_strength 7 = .ok (.astore 4, 2) := by decide +kernel
theorem dX3_strength_9 : decode cX3_strength 9 = .ok (.aload 4, 2) := by decide +kernel
theorem dX3_strength_11 : decode cX3_strength 11 = .ok (.ifnonnull 13, 3) := by decide +kernel
theorem dX3_strength_14 : decode cX3_strength 14 = .ok (.new 135, 3) := by decide +kernel
theorem dX3_strength_17 : decode cX3_strength 17 = .ok (.dup, 1) := by decide +kernel
theorem dX3_strength_18 : decode cX3_strength 18 = .ok (.ldc 137, 2) := by decide +kernel
theorem dX3_strength_20 : decode cX3_strength 20 = .ok (.invokespecial 139, 3) := by decide +kernel
theorem dX3_strength_23 : decode cX3_strength 23 = .ok (.athrow, 1) := by decide +kernel
theorem dX3_strength_24 : decode cX3_strength 24 = .ok (.aload 4, 2) := by decide +kernel
theorem dX3_strength_26 : decode cX3_strength 26 = .ok (.iload_n 2, 1) := by decide +kernel
theorem dX3_strength_27 : decode cX3_strength 27 = .ok (.iload_n 3, 1) := by decide +kernel
theorem dX3_strength_28 : decode cX3_strength 28 = .ok (.invokestatic 142, 3) := by decide +kernel
theorem dX3_strength_31 : decode cX3_strength 31 = .ok (.invokevirtual 146, 3) := by decide +kernel
theorem dX3_strength_34 : decode cX3_strength 34 = .ok (.ifCond .ne 13, 3) := by decide +kernel
theorem dX3_strength_37 : decode cX3_strength 37 = .ok (.new 180, 3) := by decide +kernel
theorem dX3_strength_40 : decode cX3_strength 40 = .ok (.dup, 1) := by decide +kernel
theorem dX3_strength_41 : decode cX3_strength 41 = .ok (.ldc 182, 2) := by decide +kernel
theorem dX3_strength_43 : decode cX3_strength 43 = .ok (.invokespecial 184, 3) := by decide +kernel
theorem dX3_strength_46 : decode cX3_strength 46 = .ok (.athrow, 1) := by decide +kernel
theorem dX3_strength_47 : decode cX3_strength 47 = .ok (.aload 4, 2) := by decide +kernel
theorem dX3_strength_49 : decode cX3_strength 49 = .ok (.iload_n 2, 1) := by decide +kernel
theorem dX3_strength_50 : decode cX3_strength 50 = .ok (.iload_n 3, 1) := by decide +kernel
theorem dX3_strength_51 : decode cX3_strength 51 = .ok (.invokestatic 142, 3) := by decide +kernel
theorem dX3_strength_54 : decode cX3_strength 54 = .ok (.aload_n 0, 1) := by decide +kernel
theorem dX3_strength_55 : decode cX3_strength 55 = .ok (.getfield 10, 3) := by decide +kernel
theorem dX3_strength_58 : decode cX3_strength 58 = .ok (.aload_n 0, 1) := by decide +kernel
theorem dX3_strength_59 : decode cX3_strength 59 = .ok (.getfield 33, 3) := by decide +kernel
theorem dX3_strength_62 : decode cX3_strength 62 = .ok (.invokevirtual 83, 3) := by decide +kernel
theorem dX3_strength_65 : decode cX3_strength 65 = .ok (.invokevirtual 195, 3) := by decide +kernel
theorem dX3_strength_68 : decode cX3_strength 68 = .ok (.ireturn, 1) := by decide +kernel
theorem dX3_creep_0 : decode cX3_creep 0 = .ok (.aload_n 0, 1) := by decide +kernel
theorem dX3_creep_1 : decode cX3_creep 1 = .ok (.iload_n 1, 1) := by decide +kernel
theorem dX3_creep_2 : decode cX3_creep 2 = .ok (.iload_n 2, 1) := by decide +kernel
theorem dX3_creep_3 : decode cX3_creep 3 = .ok (.iload_n 3, 1) := by decide +kernel
theorem dX3_creep_4 : decode cX3_creep 4 = .ok (.invokevirtual 131, 3) := by decide +kernel
theorem dX3_creep_7 : decode cX3_creep 7 = .ok (.astore 4, 2) := by decide +kernel
theorem dX3_creep_9 : decode cX3_creep 9 = .ok (.aload 4, 2) := by decide +kernel
theorem dX3_creep_11 : decode cX3_creep 11 = .ok (.ifnonnull 13, 3) := by decide +kernel
theorem dX3_creep_14 : decode cX3_creep 14 = .ok (.new 135, 3) := by decide +kernel
theorem dX3_creep_17 : decode cX3_creep 17 = .ok (.dup, 1) := by decide +kernel
theorem dX3_creep_18 : decode cX3_creep 18 = .ok (.ldc 137, 2) := by decide +kernel
theorem dX3_creep_20 : decode cX3_creep 20 = .ok (.invokespecial 139, 3) := by decide +kernel
theorem dX3_creep_23 : decode cX3_creep 23 = .ok (.athrow, 1) := by decide +kernel
theorem dX3_creep_24 : decode cX3_creep 24 = .ok (.aload 4, 2) := by decide +kernel
theorem dX3_creep_26 : decode cX3_creep 26 = .ok (.iload_n 2, 1) := by decide +kernel
theorem dX3_creep_27 : decode cX3_creep 27 = .ok (.iload_n 3, 1) := by decide +kernel
theorem dX3_creep_28 : decode cX3_creep 28 = .ok (.invokestatic 142, 3) := by decide +kernel
theorem dX3_creep_31 : decode cX3_creep 31 = .ok (.invokevirtual 146, 3) := by decide +kernel
theorem dX3_creep_34 : decode cX3_creep 34 = .ok (.ifCond .ne 13, 3) := by decide +kernel
theorem dX3_creep_37 : decode cX3_creep 37 = .ok (.new 180, 3) := by decide +kernel
theorem dX3_creep_40 : decode cX3_creep 40 = .ok (.dup, 1) := by decide +kernel
theorem dX3_creep_41 : decode cX3_creep 41 = .ok (.ldc 182, 2) := by decide +kernel
theorem dX3_creep_43 : decode cX3_creep 43 = .ok (.invokespecial 184, 3) := by decide +kernel
theorem dX3_creep_46 : decode cX3_creep 46 = .ok (.athrow, 1) := by decide +kernel
theorem dX3_creep_47 : decode cX3_creep 47 = .ok (.aload 4, 2) := by decide +kernel
theorem dX3_creep_49 : decode cX3_creep 49 = .ok (.getfield 198, 3) := by decide +kernel
theorem dX3_creep_52 : decode cX3_creep 52 = .ok (.iload_n 2, 1) := by decide +kernel
theorem dX3_creep_53 : decode cX3_creep 53 = .ok (.iload_n 3, 1) := by decide +kernel
theorem dX3_creep_54 : decode cX3_creep 54 = .ok (.invokestatic 142, 3) := by decide +kernel
theorem dX3_creep_57 : decode cX3_creep 57 = .ok (.iaload, 1) := by decide +kernel
theorem dX3_creep_58 : decode cX3_creep 58 = .ok (.ireturn, 1) := by decide +kernel
theorem dX3_age_0 : decode cX3_age 0 = .ok (.aload_n 0, 1) := by decide +kernel
theorem dX3_age_1 : decode cX3_age 1 = .ok (.iload_n 1, 1) := by decide +kernel
theorem dX3_age_2 : decode cX3_age 2 = .ok (.iload_n 2, 1) := by decide +kernel
theorem dX3_age_3 : decode cX3_age 3 = .ok (.iload_n 3, 1) := by decide +kernel
theorem dX3_age_4 : decode cX3_age 4 = .ok (.invokevirtual 131, 3) := by decide +kernel
theorem dX3_age_7 : decode cX3_age 7 = .ok (.astore 4, 2) := by decide +kernel
theorem dX3_age_9 : decode cX3_age 9 = .ok (.aload 4, 2) := by decide +kernel
theorem dX3_age_11 : decode cX3_age 11 = .ok (.ifnonnull 13, 3) := by decide +kernel
theorem dX3_age_14 : decode cX3_age 14 = .ok (.new 135, 3) := by decide +kernel
theorem dX3_age_17 : decode cX3_age 17 = .ok (.dup, 1) := by decide +kernel
theorem dX3_age_18 : decode cX3_age 18 = .ok (.ldc 137, 2) := by decide +kernel
theorem dX3_age_20 : decode cX3_age 20 = .ok (.invokespecial 139, 3) := by decide +kernel
theorem dX3_age_23 : decode cX3_age 23 = .ok (.athrow, 1) := by decide +kernel
theorem dX3_age_24 : decode cX3_age 24 = .ok (.aload 4, 2) := by decide +kernel
theorem dX3_age_26 : decode cX3_age 26 = .ok (.iload_n 2, 1) := by decide +kernel
theorem dX3_age_27 : decode cX3_age 27 = .ok (.iload_n 3, 1) := by decide +kernel
theorem dX3_age_28 : decode cX3_age 28 = .ok (.invokestatic 142, 3) := by decide +kernel
theorem dX3_age_31 : decode cX3_age 31 = .ok (.invokevirtual 146, 3) := by decide +kernel
theorem dX3_age_34 : decode cX3_age 34 = .ok (.ifCond .ne 13, 3) := by decide +kernel
theorem dX3_age_37 : decode cX3_age 37 = .ok (.new 180, 3) := by decide +kernel
theorem dX3_age_40 : decode cX3_age 40 = .ok (.dup, 1) := by decide +kernel
theorem dX3_age_41 : decode cX3_age 41 = .ok (.ldc 182, 2) := by decide +kernel
theorem dX3_age_43 : decode cX3_age 43 = .ok (.invokespecial 184, 3) := by decide +kernel
theorem dX3_age_46 : decode cX3_age 46 = .ok (.athrow, 1) := by decide +kernel
theorem dX3_age_47 : decode cX3_age 47 = .ok (.aload 4, 2) := by decide +kernel
theorem dX3_age_49 : decode cX3_age 49 = .ok (.getfield 201, 3) := by decide +kernel
theorem dX3_age_52 : decode cX3_age 52 = .ok (.iload_n 2, 1) := by decide +kernel
theorem dX3_age_53 : decode cX3_age 53 = .ok (.iload_n 3, 1) := by decide +kernel
theorem dX3_age_54 : decode cX3_age 54 = .ok (.invokestatic 142, 3) := by decide +kernel
theorem dX3_age_57 : decode cX3_age 57 = .ok (.iaload, 1) := by decide +kernel
theorem dX3_age_58 : decode cX3_age 58 = .ok (.ireturn, 1) := by decide +kernel
theorem dX3_isArch_0 : decode cX3_isArch 0 = .ok (.aload_n 0, 1) := by decide +kernel
theorem dX3_isArch_1 : decode cX3_isArch 1 = .ok (.iload_n 1, 1) := by decide +kernel
theorem dX3_isArch_2 : decode cX3_isArch 2 = .ok (.iload_n 2, 1) := by decide +kernel
theorem dX3_isArch_3 : decode cX3_isArch 3 = .ok (.iload_n 3, 1) := by decide +kernel
theorem dX3_isArch_4 : decode cX3_isArch 4 = .ok (.invokevirtual 131, 3) := by decide +kernel
theorem dX3_isArch_7 : decode cX3_isArch 7 = .ok (.astore 4, 2) := by decide +kernel
theorem dX3_isArch_9 : decode cX3_isArch 9 = .ok (.aload 4, 2) := by decide +kernel
theorem dX3_isArch_11 : decode cX3_isArch 11 = .ok (.ifnonnull 13, 3) := by decide +kernel
theorem dX3_isArch_14 : decode cX3_isArch 14 = .ok (.new 135, 3) := by decide +kernel
theorem dX3_isArch_17 : decode cX3_isArch 17 = .ok (.dup, 1) := by decide +kernel
theorem dX3_isArch_18 : decode cX3_isArch 18 = .ok (.ldc 137, 2) := by decide +kernel
theorem dX3_isArch_20 : decode cX3_isArch 20 = .ok (.invokespecial 139, 3) := by decide +kernel
theorem dX3_isArch_23 : decode cX3_isArch 23 = .ok (.athrow, 1) := by decide +kernel
theorem dX3_isArch_24 : decode cX3_isArch 24 = .ok (.aload 4, 2) := by decide +kernel
theorem dX3_isArch_26 : decode cX3_isArch 26 = .ok (.iload_n 2, 1) := by decide +kernel
theorem dX3_isArch_27 : decode cX3_isArch 27 = .ok (.iload_n 3, 1) := by decide +kernel
theorem dX3_isArch_28 : decode cX3_isArch 28 = .ok (.invokestatic 142, 3) := by decide +kernel
theorem dX3_isArch_31 : decode cX3_isArch 31 = .ok (.invokevirtual 146, 3) := by decide +kernel
theorem dX3_isArch_34 : decode cX3_isArch 34 = .ok (.ifCond .ne 13, 3) := by decide +kernel
theorem dX3_isArch_37 : decode cX3_isArch 37 = .ok (.new 180, 3) := by decide +kernel
theorem dX3_isArch_40 : decode cX3_isArch 40 = .ok (.dup, 1) := by decide +kernel
theorem dX3_isArch_41 : decode cX3_isArch 41 = .ok (.ldc 182, 2) := by decide +kernel
theorem dX3_isArch_43 : decode cX3_isArch 43 = .ok (.invokespecial 184, 3) := by decide +kernel
theorem dX3_isArch_46 : decode cX3_isArch 46 = .ok (.athrow, 1) := by decide +kernel
theorem dX3_isArch_47 : decode cX3_isArch 47 = .ok (.aload 4, 2) := by decide +kernel
theorem dX3_isArch_49 : decode cX3_isArch 49 = .ok (.iload_n 2, 1) := by decide +kernel
theorem dX3_isArch_50 : decode cX3_isArch 50 = .ok (.iload_n 3, 1) := by decide +kernel
theorem dX3_isArch_51 : decode cX3_isArch 51 = .ok (.invokestatic 142, 3) := by decide +kernel
theorem dX3_isArch_54 : decode cX3_isArch 54 = .ok (.invokevirtual 204, 3) := by decide +kernel
theorem dX3_isArch_57 : decode cX3_isArch 57 = .ok (.ireturn, 1) := by decide +kernel
theorem dX3_fell_0 : decode cX3_fell 0 = .ok (.aload_n 0, 1) := by decide +kernel
theorem dX3_fell_1 : decode cX3_fell 1 = .ok (.iload_n 1, 1) := by decide +kernel
theorem dX3_fell_2 : decode cX3_fell 2 = .ok (.invokevirtual 207, 3) := by decide +kernel
theorem dX3_fell_5 : decode cX3_fell 5 = .ok (.astore_n 2, 1) := by decide +kernel
theorem dX3_fell_6 : decode cX3_fell 6 = .ok (.aload_n 2, 1) := by decide +kernel
theorem dX3_fell_7 : decode cX3_fell 7 = .ok (.ifnonnull 13, 3) := by decide +kernel
theorem dX3_fell_10 : decode cX3_fell 10 = .ok (.new 135, 3) := by decide +kernel
theorem dX3_fell_13 : decode cX3_fell 13 = .ok (.dup, 1) := by decide +kernel
theorem dX3_fell_14 : decode cX3_fell 14 = .ok (.ldc 211, 2) := by decide +kernel
theorem dX3_fell_16 : decode cX3_fell 16 = .ok (.invokespecial 139, 3) := by decide +kernel
theorem dX3_fell_19 : decode cX3_fell 19 = .ok (.athrow, 1) := by decide +kernel
theorem dX3_fell_20 : decode cX3_fell 20 = .ok (.aload_n 2, 1) := by decide +kernel
theorem dX3_fell_21 : decode cX3_fell 21 = .ok (.getfield 213, 3) := by decide +kernel
theorem dX3_fell_24 : decode cX3_fell 24 = .ok (.ireturn, 1) := by decide +kernel
theorem dX3_lastFell_0 : decode cX3_lastFell 0 = .ok (.aload_n 0, 1) := by decide +kernel
theorem dX3_lastFell_1 : decode cX3_lastFell 1 = .ok (.iload_n 1, 1) := by decide +kernel
theorem dX3_lastFell_2 : decode cX3_lastFell 2 = .ok (.invokevirtual 207, 3) := by decide +kernel
theorem dX3_lastFell_5 : decode cX3_lastFell 5 = .ok (.astore_n 2, 1) := by decide +kernel
theorem dX3_lastFell_6 : decode cX3_lastFell 6 = .ok (.aload_n 2, 1) := by decide +kernel
theorem dX3_lastFell_7 : decode cX3_lastFell 7 = .ok (.ifnonnull 13, 3) := by decide +kernel
theorem dX3_lastFell_10 : decode cX3_lastFell 10 = .ok (.new 135, 3) := by decide +kernel
theorem dX3_lastFell_13 : decode cX3_lastFell 13 = .ok (.dup, 1) := by decide +kernel
theorem dX3_lastFell_14 : decode cX3_lastFell 14 = .ok (.ldc 211, 2) := by decide +kernel
theorem dX3_lastFell_16 : decode cX3_lastFell 16 = .ok (.invokespecial 139, 3) := by decide +kernel
theorem dX3_lastFell_19 : decode cX3_lastFell 19 = .ok (.athrow, 1) := by decide +kernel
theorem dX3_lastFell_20 : decode cX3_lastFell 20 = .ok (.aload_n 2, 1) := by decide +kernel
theorem dX3_lastFell_21 : decode cX3_lastFell 21 = .ok (.getfield 216, 3) := by decide +kernel
theorem dX3_lastFell_24 : decode cX3_lastFell 24 = .ok (.iconst (-1), 1) := by decide +kernel
theorem dX3_lastFell_25 : decode cX3_lastFell 25 = .ok (.if_icmp .ne 13, 3) := by decide +kernel
theorem dX3_lastFell_28 : decode cX3_lastFell 28 = .ok (.new 180, 3) := by decide +kernel
theorem dX3_lastFell_31 : decode cX3_lastFell 31 = .ok (.dup, 1) := by decide +kernel
theorem dX3_lastFell_32 : decode cX3_lastFell 32 = .ok (.ldc 219, 2) := by decide +kernel
theorem dX3_lastFell_34 : decode cX3_lastFell 34 = .ok (.invokespecial 184, 3) := by decide +kernel
theorem dX3_lastFell_37 : decode cX3_lastFell 37 = .ok (.athrow, 1) := by decide +kernel
theorem dX3_lastFell_38 : decode cX3_lastFell 38 = .ok (.aload_n 2, 1) := by decide +kernel
theorem dX3_lastFell_39 : decode cX3_lastFell 39 = .ok (.getfield 216, 3) := by decide +kernel
theorem dX3_lastFell_42 : decode cX3_lastFell 42 = .ok (.ireturn, 1) := by decide +kernel
theorem dX3_cover_0 : decode cX3_cover 0 = .ok (.aload_n 0, 1) := by decide +kernel
theorem dX3_cover_1 : decode cX3_cover 1 = .ok (.iload_n 1, 1) := by decide +kernel
theorem dX3_cover_2 : decode cX3_cover 2 = .ok (.invokevirtual 207, 3) := by decide +kernel
theorem dX3_cover_5 : decode cX3_cover 5 = .ok (.astore_n 3, 1) := by decide +kernel
theorem dX3_cover_6 : decode cX3_cover 6 = .ok (.aload_n 3, 1) := by decide +kernel
theorem dX3_cover_7 : decode cX3_cover 7 = .ok (.ifnonnull 13, 3) := by decide +kernel
theorem dX3_cover_10 : decode cX3_cover 10 = .ok (.new 135, 3) := by decide +kernel
theorem dX3_cover_13 : decode cX3_cover 13 = .ok (.dup, 1) := by decide +kernel
theorem dX3_cover_14 : decode cX3_cover 14 = .ok (.ldc 211, 2) := by decide +kernel
theorem dX3_cover_16 : decode cX3_cover 16 = .ok (.invokespecial 139, 3) := by decide +kernel
theorem dX3_cover_19 : decode cX3_cover 19 = .ok (.athrow, 1) := by decide +kernel
theorem dX3_cover_20 : decode cX3_cover 20 = .ok (.aload_n 3, 1) := by decide +kernel
theorem dX3_cover_21 : decode cX3_cover 21 = .ok (.getfield 221, 3) := by decide +kernel
theorem dX3_cover_24 : decode cX3_cover 24 = .ok (.istore 4, 2) := by decide +kernel
theorem dX3_cover_26 : decode cX3_cover 26 = .ok (.aload_n 3, 1) := by decide +kernel
theorem dX3_cover_27 : decode cX3_cover 27 = .ok (.iload_n 2, 1) := by decide +kernel
theorem dX3_cover_28 : decode cX3_cover 28 = .ok (.putfield 221, 3) := by decide +kernel
theorem dX3_cover_31 : decode cX3_cover 31 = .ok (.iload_n 2, 1) := by decide +kernel
theorem dX3_cover_32 : decode cX3_cover 32 = .ok (.ifCond .eq 20, 3) := by decide +kernel
theorem dX3_cover_35 : decode cX3_cover 35 = .ok (.iload 4, 2) := by decide +kernel
theorem dX3_cover_37 : decode cX3_cover 37 = .ok (.ifCond .ne 15, 3) := by decide +kernel
theorem dX3_cover_40 : decode cX3_cover 40 = .ok (.aload_n 0, 1) := by decide +kernel
theorem dX3_cover_41 : decode cX3_cover 41 = .ok (.dup, 1) := by decide +kernel
theorem dX3_cover_42 : decode cX3_cover 42 = .ok (.getfield 49, 3) := by decide +kernel
theorem dX3_cover_45 : decode cX3_cover 45 = .ok (.sipush 300, 3) := by decide +kernel
theorem dX3_cover_48 : decode cX3_cover 48 = .ok (.isub, 1) := by decide +kernel
theorem dX3_cover_49 : decode cX3_cover 49 = .ok (.putfield 49, 3) := by decide +kernel
theorem dX3_cover_52 : decode cX3_cover 52 = .ok (.iload 4, 2) := by decide +kernel
theorem dX3_cover_54 : decode cX3_cover 54 = .ok (.ireturn, 1) := by decide +kernel
theorem dX3_lamp_0 : decode cX3_lamp 0 = .ok (.aload_n 0, 1) := by decide +kernel
theorem dX3_lamp_1 : decode cX3_lamp 1 = .ok (.iload_n 1, 1) := by decide +kernel
theorem dX3_lamp_2 : decode cX3_lamp 2 = .ok (.iload_n 2, 1) := by decide +kernel
theorem dX3_lamp_3 : decode cX3_lamp 3 = .ok (.iload_n 3, 1) := by decide +kernel
theorem dX3_lamp_4 : decode cX3_lamp 4 = .ok (.invokevirtual 131, 3) := by decide +kernel
theorem dX3_lamp_7 : decode cX3_lamp 7 = .ok (.astore 5, 2) := by decide +kernel
theorem dX3_lamp_9 : decode cX3_lamp 9 = .ok (.aload 5, 2) := by decide +kernel
theorem dX3_lamp_11 : decode cX3_lamp 11 = .ok (.ifnonnull 13, 3) := by decide +kernel
theorem dX3_lamp_14 : decode cX3_lamp 14 = .ok (.new 135, 3) := by decide +kernel
theorem dX3_lamp_17 : decode cX3_lamp 17 = .ok (.dup, 1) := by decide +kernel
theorem dX3_lamp_18 : decode cX3_lamp 18 = .ok (.ldc 137, 2) := by decide +kernel
theorem dX3_lamp_20 : decode cX3_lamp 20 = .ok (.invokespecial 139, 3) := by decide +kernel
theorem dX3_lamp_23 : decode cX3_lamp 23 = .ok (.athrow, 1) := by decide +kernel
theorem dX3_lamp_24 : decode cX3_lamp 24 = .ok (.iload_n 2, 1) := by decide +kernel
theorem dX3_lamp_25 : decode cX3_lamp 25 = .ok (.iload_n 3, 1) := by decide +kernel
theorem dX3_lamp_26 : decode cX3_lamp 26 = .ok (.invokestatic 142, 3) := by decide +kernel
theorem dX3_lamp_29 : decode cX3_lamp 29 = .ok (.istore 6, 2) := by decide +kernel
theorem dX3_lamp_31 : decode cX3_lamp 31 = .ok (.aload 5, 2) := by decide +kernel
theorem dX3_lamp_33 : decode cX3_lamp 33 = .ok (.iload 6, 2) := by decide +kernel
theorem dX3_lamp_35 : decode cX3_lamp 35 = .ok (.invokevirtual 146, 3) := by decide +kernel
theorem dX3_lamp_38 : decode cX3_lamp 38 = .ok (.ifCond .ne 13, 3) := by decide +kernel
theorem dX3_lamp_41 : decode cX3_lamp 41 = .ok (.new 180, 3) := by decide +kernel
theorem dX3_lamp_44 : decode cX3_lamp 44 = .ok (.dup, 1) := by decide +kernel
theorem dX3_lamp_45 : decode cX3_lamp 45 = .ok (.ldc 182, 2) := by decide +kernel
theorem dX3_lamp_47 : decode cX3_lamp 47 = .ok (.invokespecial 184, 3) := by decide +kernel
theorem dX3_lamp_50 : decode cX3_lamp 50 = .ok (.athrow, 1) := by decide +kernel
theorem dX3_lamp_51 : decode cX3_lamp 51 = .ok (.iload 4, 2) := by decide +kernel
theorem dX3_lamp_53 : decode cX3_lamp 53 = .ok (.ifCond .eq 26, 3) := by decide +kernel
theorem dX3_lamp_56 : decode cX3_lamp 56 = .ok (.aload 5, 2) := by decide +kernel
theorem dX3_lamp_58 : decode cX3_lamp 58 = .ok (.getfield 176, 3) := by decide +kernel
theorem dX3_lamp_61 : decode cX3_lamp 61 = .ok (.iload 6, 2) := by decide +kernel
theorem dX3_lamp_63 : decode cX3_lamp 63 = .ok (.caload, 1) := by decide +kernel
theorem dX3_lamp_64 : decode cX3_lamp 64 = .ok (.bipush 115, 2) := by decide +kernel
theorem dX3_lamp_66 : decode cX3_lamp 66 = .ok (.if_icmp .ne 13, 3) := by decide +kernel
theorem dX3_lamp_69 : decode cX3_lamp 69 = .ok (.new 63, 3) := by decide +kernel
theorem dX3_lamp_72 : decode cX3_lamp 72 = .ok (.dup, 1) := by decide +kernel
theorem dX3_lamp_73 : decode cX3_lamp 73 = .ok (.ldc 224, 2) := by decide +kernel
theorem dX3_lamp_75 : decode cX3_lamp 75 = .ok (.invokespecial 67, 3) := by decide +kernel
theorem dX3_lamp_78 : decode cX3_lamp 78 = .ok (.athrow, 1) := by decide +kernel
theorem dX3_lamp_79 : decode cX3_lamp 79 = .ok (.aload 5, 2) := by decide +kernel
theorem dX3_lamp_81 : decode cX3_lamp 81 = .ok (.getfield 226, 3) := by decide +kernel
theorem dX3_lamp_84 : decode cX3_lamp 84 = .ok (.iload 6, 2) := by decide +kernel
theorem dX3_lamp_86 : decode cX3_lamp 86 = .ok (.baload, 1) := by decide +kernel
theorem dX3_lamp_87 : decode cX3_lamp 87 = .ok (.istore 7, 2) := by decide +kernel
theorem dX3_lamp_89 : decode cX3_lamp 89 = .ok (.aload 5, 2) := by decide +kernel
theorem dX3_lamp_91 : decode cX3_lamp 91 = .ok (.getfield 226, 3) := by decide +kernel
theorem dX3_lamp_94 : decode cX3_lamp 94 = .ok (.iload 6, 2) := by decide +kernel
theorem dX3_lamp_96 : decode cX3_lamp 96 = .ok (.iload 4, 2) := by decide +kernel
theorem dX3_lamp_98 : decode cX3_lamp 98 = .ok (.bastore, 1) := by decide +kernel
theorem dX3_lamp_99 : decode cX3_lamp 99 = .ok (.iload 4, 2) := by decide +kernel
theorem dX3_lamp_101 : decode cX3_lamp 101 = .ok (.ifCond .eq 19, 3) := by decide +kernel
theorem dX3_lamp_104 : decode cX3_lamp 104 = .ok (.iload 7, 2) := by decide +kernel
theorem dX3_lamp_106 : decode cX3_lamp 106 = .ok (.ifCond .ne 14, 3) := by decide +kernel
theorem dX3_lamp_109 : decode cX3_lamp 109 = .ok (.aload_n 0, 1) := by decide +kernel
theorem dX3_lamp_110 : decode cX3_lamp 110 = .ok (.dup, 1) := by decide +kernel
theorem dX3_lamp_111 : decode cX3_lamp 111 = .ok (.getfield 49, 3) := by decide +kernel
theorem dX3_lamp_114 : decode cX3_lamp 114 = .ok (.bipush 50, 2) := by decide +kernel
theorem dX3_lamp_116 : decode cX3_lamp 116 = .ok (.isub, 1) := by decide +kernel
theorem dX3_lamp_117 : decode cX3_lamp 117 = .ok (.putfield 49, 3) := by decide +kernel
theorem dX3_lamp_120 : decode cX3_lamp 120 = .ok (.iload 7, 2) := by decide +kernel
theorem dX3_lamp_122 : decode cX3_lamp 122 = .ok (.ireturn, 1) := by decide +kernel
theorem dX3_lightBits_0 : decode cX3_lightBits 0 = .ok (.aload_n 0, 1) := by decide +kernel
theorem dX3_lightBits_1 : decode cX3_lightBits 1 = .ok (.iload_n 1, 1) := by decide +kernel
theorem dX3_lightBits_2 : decode cX3_lightBits 2 = .ok (.iload_n 2, 1) := by decide +kernel
theorem dX3_lightBits_3 : decode cX3_lightBits 3 = .ok (.iload_n 3, 1) := by decide +kernel
theorem dX3_lightBits_4 : decode cX3_lightBits 4 = .ok (.invokevirtual 131, 3) := by decide +kernel
theorem dX3_lightBits_7 : decode cX3_lightBits 7 = .ok (.astore 4, 2) := by decide +kernel
theorem dX3_lightBits_9 : decode cX3_lightBits 9 = .ok (.aload 4, 2) := by decide +kernel
theorem dX3_lightBits_11 : decode cX3_lightBits 11 = .ok (.ifnonnull 13, 3) := by decide +kernel
theorem dX3_lightBits_14 : decode cX3_lightBits 14 = .ok (.new 135, 3) := by decide +kernel
theorem dX3_lightBits_17 : decode cX3_lightBits 17 = .ok (.dup, 1) := by decide +kernel
theorem dX3_lightBits_18 : decode cX3_lightBits 18 = .ok (.ldc 137, 2) := by decide +kernel
theorem dX3_lightBits_20 : decode cX3_lightBits 20 = .ok (.invokespecial 139, 3) := by decide +kernel
theorem dX3_lightBits_23 : decode cX3_lightBits 23 = .ok (.athrow, 1) := by decide +kernel
theorem dX3_lightBits_24 : decode cX3_lightBits 24 = .ok (.aload 4, 2) := by decide +kernel
theorem dX3_lightBits_26 : decode cX3_lightBits 26 = .ok (.iload_n 2, 1) := by decide +kernel
theorem dX3_lightBits_27 : decode cX3_lightBits 27 = .ok (.iload_n 3, 1) := by decide +kernel
theorem dX3_lightBits_28 : decode cX3_lightBits 28 = .ok (.invokevirtual 230, 3) := by decide +kernel
theorem dX3_lightBits_31 : decode cX3_lightBits 31 = .ok (.invokestatic 234, 3) := by decide +kernel
theorem dX3_lightBits_34 : decode cX3_lightBits 34 = .ok (.ireturn, 1) := by decide +kernel
theorem dX3_isOpen_0 : decode cX3_isOpen 0 = .ok (.aload_n 0, 1) := by decide +kernel
theorem dX3_isOpen_1 : decode cX3_isOpen 1 = .ok (.iload_n 1, 1) := by decide +kernel
theorem dX3_isOpen_2 : decode cX3_isOpen 2 = .ok (.invokevirtual 207, 3) := by decide +kernel
theorem dX3_isOpen_5 : decode cX3_isOpen 5 = .ok (.astore_n 2, 1) := by decide +kernel
theorem dX3_isOpen_6 : decode cX3_isOpen 6 = .ok (.aload_n 2, 1) := by decide +kernel
theorem dX3_isOpen_7 : decode cX3_isOpen 7 = .ok (.ifnonnull 13, 3) := by decide +kernel
theorem dX3_isOpen_10 : decode cX3_isOpen 10 = .ok (.new 135, 3) := by decide +kernel
theorem dX3_isOpen_13 : decode cX3_isOpen 13 = .ok (.dup, 1) := by decide +kernel
theorem dX3_isOpen_14 : decode cX3_isOpen 14 = .ok (.ldc 211, 2) := by decide +kernel
theorem dX3_isOpen_16 : decode cX3_isOpen 16 = .ok (.invokespecial 139, 3) := by decide +kernel
theorem dX3_isOpen_19 : decode cX3_isOpen 19 = .ok (.athrow, 1) := by decide +kernel
theorem dX3_isOpen_20 : decode cX3_isOpen 20 = .ok (.aload_n 2, 1) := by decide +kernel
theorem dX3_isOpen_21 : decode cX3_isOpen 21 = .ok (.iconst (-1), 1) := by decide +kernel
theorem dX3_isOpen_22 : decode cX3_isOpen 22 = .ok (.iconst 0, 1) := by decide +kernel
theorem dX3_isOpen_23 : decode cX3_isOpen 23 = .ok (.aload_n 0, 1) := by decide +kernel
theorem dX3_isOpen_24 : decode cX3_isOpen 24 = .ok (.getfield 10, 3) := by decide +kernel
theorem dX3_isOpen_27 : decode cX3_isOpen 27 = .ok (.aload_n 0, 1) := by decide +kernel
theorem dX3_isOpen_28 : decode cX3_isOpen 28 = .ok (.getfield 33, 3) := by decide +kernel
theorem dX3_isOpen_31 : decode cX3_isOpen 31 = .ok (.invokevirtual 83, 3) := by decide +kernel
theorem dX3_isOpen_34 : decode cX3_isOpen 34 = .ok (.invokevirtual 238, 3) := by decide +kernel
theorem dX3_isOpen_37 : decode cX3_isOpen 37 = .ok (.ireturn, 1) := by decide +kernel
theorem dX3_carries_0 : decode cX3_carries 0 = .ok (.aload_n 0, 1) := by decide +kernel
theorem dX3_carries_1 : decode cX3_carries 1 = .ok (.iload_n 1, 1) := by decide +kernel
theorem dX3_carries_2 : decode cX3_carries 2 = .ok (.iload_n 2, 1) := by decide +kernel
theorem dX3_carries_3 : decode cX3_carries 3 = .ok (.iconst 0, 1) := by decide +kernel
theorem dX3_carries_4 : decode cX3_carries 4 = .ok (.invokevirtual 131, 3) := by decide +kernel
theorem dX3_carries_7 : decode cX3_carries 7 = .ok (.astore_n 3, 1) := by decide +kernel
theorem dX3_carries_8 : decode cX3_carries 8 = .ok (.aload_n 3, 1) := by decide +kernel
theorem dX3_carries_9 : decode cX3_carries 9 = .ok (.ifnonnull 13, 3) := by decide +kernel
theorem dX3_carries_12 : decode cX3_carries 12 = .ok (.new 135, 3) := by decide +kernel
theorem dX3_carries_15 : decode cX3_carries 15 = .ok (.dup, 1) := by decide +kernel
theorem dX3_carries_16 : decode cX3_carries 16 = .ok (.ldc 137, 2) := by decide +kernel
theorem dX3_carries_18 : decode cX3_carries 18 = .ok (.invokespecial 139, 3) := by decide +kernel
theorem dX3_carries_21 : decode cX3_carries 21 = .ok (.athrow, 1) := by decide +kernel
theorem dX3_carries_22 : decode cX3_carries 22 = .ok (.aload_n 3, 1) := by decide +kernel
theorem dX3_carries_23 : decode cX3_carries 23 = .ok (.iload_n 2, 1) := by decide +kernel
theorem dX3_carries_24 : decode cX3_carries 24 = .ok (.invokevirtual 241, 3) := by decide +kernel
theorem dX3_carries_27 : decode cX3_carries 27 = .ok (.istore 4, 2) := by decide +kernel
theorem dX3_carries_29 : decode cX3_carries 29 = .ok (.iload 4, 2) := by decide +kernel
theorem dX3_carries_31 : decode cX3_carries 31 = .ok (.iconst (-1), 1) := by decide +kernel
theorem dX3_carries_32 : decode cX3_carries 32 = .ok (.if_icmp .ne 13, 3) := by decide +kernel
theorem dX3_carries_35 : decode cX3_carries 35 = .ok (.new 180, 3) := by decide +kernel
theorem dX3_carries_38 : decode cX3_carries 38 = .ok (.dup, 1) := by decide +kernel
theorem dX3_carries_39 : decode cX3_carries 39 = .ok (.ldc 244, 2) := by decide +kernel
theorem dX3_carries_41 : decode cX3_carries 41 = .ok (.invokespecial 184, 3) := by decide +kernel
theorem dX3_carries_44 : decode cX3_carries 44 = .ok (.athrow, 1) := by decide +kernel
theorem dX3_carries_45 : decode cX3_carries 45 = .ok (.aload_n 3, 1) := by decide +kernel
theorem dX3_carries_46 : decode cX3_carries 46 = .ok (.iload 4, 2) := by decide +kernel
theorem dX3_carries_48 : decode cX3_carries 48 = .ok (.aload_n 0, 1) := by decide +kernel
theorem dX3_carries_49 : decode cX3_carries 49 = .ok (.getfield 10, 3) := by decide +kernel
theorem dX3_carries_52 : decode cX3_carries 52 = .ok (.aload_n 0, 1) := by decide +kernel
theorem dX3_carries_53 : decode cX3_carries 53 = .ok (.getfield 33, 3) := by decide +kernel
theorem dX3_carries_56 : decode cX3_carries 56 = .ok (.invokevirtual 83, 3) := by decide +kernel
theorem dX3_carries_59 : decode cX3_carries 59 = .ok (.invokevirtual 246, 3) := by decide +kernel
theorem dX3_carries_62 : decode cX3_carries 62 = .ok (.ireturn, 1) := by decide +kernel
theorem dX3_visit_0 : decode cX3_visit 0 = .ok (.aload_n 0, 1) := by decide +kernel
theorem dX3_visit_1 : decode cX3_visit 1 = .ok (.iload_n 1, 1) := by decide +kernel

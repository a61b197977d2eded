theorem dX5_loads_44 : decode cX5_loads 44 = .ok (.if_icmp .ne 18, 3) := by decide +kernel
theorem dX5_loads_47 : decode cX5_loads 47 = .ok (.aload_n 0, 1) := by decide +kernel
theorem dX5_loads_48 : decode cX5_loads 48 = .ok (.iload 5, 2) := by decide +kernel
theorem dX5_loads_50 : decode cX5_loads 50 = .ok (.invokevirtual 49, 3) := by decide +kernel
theorem dX5_loads_53 : decode cX5_loads 53 = .ok (.iload 4, 2) := by decide +kernel
theorem dX5_loads_55 : decode cX5_loads 55 = .ok (.if_icmp .ne 7, 3) := by decide +kernel
theorem dX5_loads_58 : decode cX5_loads 58 = .ok (.iconst 1, 1) := by decide +kernel
theorem dX5_loads_59 : decode cX5_loads 59 = .ok (.goto 4, 3) := by decide +kernel
theorem dX5_loads_62 : decode cX5_loads 62 = .ok (.iconst 0, 1) := by decide +kernel
theorem dX5_loads_63 : decode cX5_loads 63 = .ok (.istore 6, 2) := by decide +kernel
theorem dX5_loads_65 : decode cX5_loads 65 = .ok (.aload_n 3, 1) := by decide +kernel
theorem dX5_loads_66 : decode cX5_loads 66 = .ok (.iload 4, 2) := by decide +kernel
theorem dX5_loads_68 : decode cX5_loads 68 = .ok (.aaload, 1) := by decide +kernel
theorem dX5_loads_69 : decode cX5_loads 69 = .ok (.iload 5, 2) := by decide +kernel
theorem dX5_loads_71 : decode cX5_loads 71 = .ok (.dup2, 1) := by decide +kernel
theorem dX5_loads_72 : decode cX5_loads 72 = .ok (.iaload, 1) := by decide +kernel
theorem dX5_loads_73 : decode cX5_loads 73 = .ok (.aload_n 0, 1) := by decide +kernel
theorem dX5_loads_74 : decode cX5_loads 74 = .ok (.getfield 17, 3) := by decide +kernel
theorem dX5_loads_77 : decode cX5_loads 77 = .ok (.iload 4, 2) := by decide +kernel
theorem dX5_loads_79 : decode cX5_loads 79 = .ok (.aaload, 1) := by decide +kernel
theorem dX5_loads_80 : decode cX5_loads 80 = .ok (.iload 5, 2) := by decide +kernel
theorem dX5_loads_82 : decode cX5_loads 82 = .ok (.aaload, 1) := by decide +kernel
theorem dX5_loads_83 : decode cX5_loads 83 = .ok (.getfield 53, 3) := by decide +kernel
theorem dX5_loads_86 : decode cX5_loads 86 = .ok (.aload_n 0, 1) := by decide +kernel
theorem dX5_loads_87 : decode cX5_loads 87 = .ok (.iload 5, 2) := by decide +kernel
theorem dX5_loads_89 : decode cX5_loads 89 = .ok (.iload 4, 2) := by decide +kernel
theorem dX5_loads_91 : decode cX5_loads 91 = .ok (.iconst 1, 1) := by decide +kernel
theorem dX5_loads_92 : decode cX5_loads 92 = .ok (.iadd, 1) := by decide +kernel
theorem dX5_loads_93 : decode cX5_loads 93 = .ok (.invokevirtual 37, 3) := by decide +kernel
theorem dX5_loads_96 : decode cX5_loads 96 = .ok (.ifCond .eq 15, 3) := by decide +kernel
theorem dX5_loads_99 : decode cX5_loads 99 = .ok (.aload_n 3, 1) := by decide +kernel
theorem dX5_loads_100 : decode cX5_loads 100 = .ok (.iload 4, 2) := by decide +kernel
theorem dX5_loads_102 : decode cX5_loads 102 = .ok (.iconst 1, 1) := by decide +kernel
theorem dX5_loads_103 : decode cX5_loads 103 = .ok (.iadd, 1) := by decide +kernel
theorem dX5_loads_104 : decode cX5_loads 104 = .ok (.aaload, 1) := by decide +kernel
theorem dX5_loads_105 : decode cX5_loads 105 = .ok (.iload 5, 2) := by decide +kernel
theorem dX5_loads_107 : decode cX5_loads 107 = .ok (.iaload, 1) := by decide +kernel
theorem dX5_loads_108 : decode cX5_loads 108 = .ok (.goto 4, 3) := by decide +kernel
theorem dX5_loads_111 : decode cX5_loads 111 = .ok (.iconst 0, 1) := by decide +kernel
theorem dX5_loads_112 : decode cX5_loads 112 = .ok (.iadd, 1) := by decide +kernel
theorem dX5_loads_113 : decode cX5_loads 113 = .ok (.iload 6, 2) := by decide +kernel
theorem dX5_loads_115 : decode cX5_loads 115 = .ok (.ifCond .eq 10, 3) := by decide +kernel
theorem dX5_loads_118 : decode cX5_loads 118 = .ok (.bipush 70, 2) := by decide +kernel
theorem dX5_loads_120 : decode cX5_loads 120 = .ok (.iload_n 2, 1) := by decide +kernel
theorem dX5_loads_121 : decode cX5_loads 121 = .ok (.imul, 1) := by decide +kernel
theorem dX5_loads_122 : decode cX5_loads 122 = .ok (.goto 4, 3) := by decide +kernel
theorem dX5_loads_125 : decode cX5_loads 125 = .ok (.iconst 0, 1) := by decide +kernel
theorem dX5_loads_126 : decode cX5_loads 126 = .ok (.iadd, 1) := by decide +kernel
theorem dX5_loads_127 : decode cX5_loads 127 = .ok (.iadd, 1) := by decide +kernel
theorem dX5_loads_128 : decode cX5_loads 128 = .ok (.iastore, 1) := by decide +kernel
theorem dX5_loads_129 : decode cX5_loads 129 = .ok (.iinc 5 1, 3) := by decide +kernel
theorem dX5_loads_132 : decode cX5_loads 132 = .ok (.goto (-112), 3) := by decide +kernel
theorem dX5_loads_135 : decode cX5_loads 135 = .ok (.iconst 0, 1) := by decide +kernel
theorem dX5_loads_136 : decode cX5_loads 136 = .ok (.istore 5, 2) := by decide +kernel
theorem dX5_loads_138 : decode cX5_loads 138 = .ok (.iload 5, 2) := by decide +kernel
theorem dX5_loads_140 : decode cX5_loads 140 = .ok (.bipush 8, 2) := by decide +kernel
theorem dX5_loads_142 : decode cX5_loads 142 = .ok (.if_icmp .ge 84, 3) := by decide +kernel
theorem dX5_loads_145 : decode cX5_loads 145 = .ok (.aload_n 0, 1) := by decide +kernel
theorem dX5_loads_146 : decode cX5_loads 146 = .ok (.iload 5, 2) := by decide +kernel
theorem dX5_loads_148 : decode cX5_loads 148 = .ok (.iload 4, 2) := by decide +kernel
theorem dX5_loads_150 : decode cX5_loads 150 = .ok (.invokevirtual 37, 3) := by decide +kernel
theorem dX5_loads_153 : decode cX5_loads 153 = .ok (.ifCond .eq 67, 3) := by decide +kernel
theorem dX5_loads_156 : decode cX5_loads 156 = .ok (.aload_n 0, 1) := by decide +kernel
theorem dX5_loads_157 : decode cX5_loads 157 = .ok (.iload 5, 2) := by decide +kernel
theorem dX5_loads_159 : decode cX5_loads 159 = .ok (.iload 4, 2) := by decide +kernel
theorem dX5_loads_161 : decode cX5_loads 161 = .ok (.invokevirtual 44, 3) := by decide +kernel
theorem dX5_loads_164 : decode cX5_loads 164 = .ok (.ifCond .ne 6, 3) := by decide +kernel
theorem dX5_loads_167 : decode cX5_loads 167 = .ok (.goto 53, 3) := by decide +kernel
theorem dX5_loads_170 : decode cX5_loads 170 = .ok (.aload_n 3, 1) := by decide +kernel
theorem dX5_loads_171 : decode cX5_loads 171 = .ok (.iload 4, 2) := by decide +kernel
theorem dX5_loads_173 : decode cX5_loads 173 = .ok (.aaload, 1) := by decide +kernel
theorem dX5_loads_174 : decode cX5_loads 174 = .ok (.iload 5, 2) := by decide +kernel
theorem dX5_loads_176 : decode cX5_loads 176 = .ok (.iconst 1, 1) := by decide +kernel
theorem dX5_loads_177 : decode cX5_loads 177 = .ok (.isub, 1) := by decide +kernel
theorem dX5_loads_178 : decode cX5_loads 178 = .ok (.dup2, 1) := by decide +kernel
theorem dX5_loads_179 : decode cX5_loads 179 = .ok (.iaload, 1) := by decide +kernel
theorem dX5_loads_180 : decode cX5_loads 180 = .ok (.aload_n 3, 1) := by decide +kernel
theorem dX5_loads_181 : decode cX5_loads 181 = .ok (.iload 4, 2) := by decide +kernel
theorem dX5_loads_183 : decode cX5_loads 183 = .ok (.aaload, 1) := by decide +kernel
theorem dX5_loads_184 : decode cX5_loads 184 = .ok (.iload 5, 2) := by decide +kernel
theorem dX5_loads_186 : decode cX5_loads 186 = .ok (.iaload, 1) := by decide +kernel
theorem dX5_loads_187 : decode cX5_loads 187 = .ok (.iconst 2, 1) := by decide +kernel
theorem dX5_loads_188 : decode cX5_loads 188 = .ok (.idiv, 1) := by decide +kernel
theorem dX5_loads_189 : decode cX5_loads 189 = .ok (.iadd, 1) := by decide +kernel
theorem dX5_loads_190 : decode cX5_loads 190 = .ok (.iastore, 1) := by decide +kernel
theorem dX5_loads_191 : decode cX5_loads 191 = .ok (.aload_n 3, 1) := by decide +kernel
theorem dX5_loads_192 : decode cX5_loads 192 = .ok (.iload 4, 2) := by decide +kernel
theorem dX5_loads_194 : decode cX5_loads 194 = .ok (.aaload, 1) := by decide +kernel
theorem dX5_loads_195 : decode cX5_loads 195 = .ok (.iload 5, 2) := by decide +kernel
theorem dX5_loads_197 : decode cX5_loads 197 = .ok (.iconst 1, 1) := by decide +kernel
theorem dX5_loads_198 : decode cX5_loads 198 = .ok (.iadd, 1) := by decide +kernel
theorem dX5_loads_199 : decode cX5_loads 199 = .ok (.dup2, 1) := by decide +kernel
theorem dX5_loads_200 : decode cX5_loads 200 = .ok (.iaload, 1) := by decide +kernel
theorem dX5_loads_201 : decode cX5_loads 201 = .ok (.aload_n 3, 1) := by decide +kernel
theorem dX5_loads_202 : decode cX5_loads 202 = .ok (.iload 4, 2) := by decide +kernel
theorem dX5_loads_204 : decode cX5_loads 204 = .ok (.aaload, 1) := by decide +kernel
theorem dX5_loads_205 : decode cX5_loads 205 = .ok (.iload 5, 2) := by decide +kernel
theorem dX5_loads_207 : decode cX5_loads 207 = .ok (.iaload, 1) := by decide +kernel
theorem dX5_loads_208 : decode cX5_loads 208 = .ok (.aload_n 3, 1) := by decide +kernel
theorem dX5_loads_209 : decode cX5_loads 209 = .ok (.iload 4, 2) := by decide +kernel
theorem dX5_loads_211 : decode cX5_loads 211 = .ok (.aaload, 1) := by decide +kernel
theorem dX5_loads_212 : decode cX5_loads 212 = .ok (.iload 5, 2) := by decide +kernel
theorem dX5_loads_214 : decode cX5_loads 214 = .ok (.iaload, 1) := by decide +kernel
theorem dX5_loads_215 : decode cX5_loads 215 = .ok (.iconst 2, 1) := by decide +kernel
theorem dX5_loads_216 : decode cX5_loads 216 = .ok (.idiv, 1) := by decide +kernel
theorem dX5_loads_217 : decode cX5_loads 217 = .ok (.isub, 1) := by decide +kernel
theorem dX5_loads_218 : decode cX5_loads 218 = .ok (.iadd, 1) := by decide +kernel
theorem dX5_loads_219 : decode cX5_loads 219 = .ok (.iastore, 1) := by decide +kernel
theorem dX5_loads_220 : decode cX5_loads 220 = .ok (.iinc 5 1, 3) := by decide +kernel
theorem dX5_loads_223 : decode cX5_loads 223 = .ok (.goto (-85), 3) := by decide +kernel
theorem dX5_loads_226 : decode cX5_loads 226 = .ok (.iinc 4 (-1), 3) := by decide +kernel
theorem dX5_loads_229 : decode cX5_loads 229 = .ok (.goto (-217), 3) := by decide +kernel
theorem dX5_loads_232 : decode cX5_loads 232 = .ok (.aload_n 3, 1) := by decide +kernel
theorem dX5_loads_233 : decode cX5_loads 233 = .ok (.areturn, 1) := by decide +kernel
theorem dX5_top_0 : decode cX5_top 0 = .ok (.iconst (-1), 1) := by decide +kernel
theorem dX5_top_1 : decode cX5_top 1 = .ok (.istore_n 2, 1) := by decide +kernel
theorem dX5_top_2 : decode cX5_top 2 = .ok (.iconst 0, 1) := by decide +kernel
theorem dX5_top_3 : decode cX5_top 3 = .ok (.istore_n 3, 1) := by decide +kernel
theorem dX5_top_4 : decode cX5_top 4 = .ok (.iload_n 3, 1) := by decide +kernel
theorem dX5_top_5 : decode cX5_top 5 = .ok (.bipush 6, 2) := by decide +kernel
theorem dX5_top_7 : decode cX5_top 7 = .ok (.if_icmp .ge 24, 3) := by decide +kernel
theorem dX5_top_10 : decode cX5_top 10 = .ok (.aload_n 0, 1) := by decide +kernel
theorem dX5_top_11 : decode cX5_top 11 = .ok (.iload_n 1, 1) := by decide +kernel
theorem dX5_top_12 : decode cX5_top 12 = .ok (.iload_n 3, 1) := by decide +kernel
theorem dX5_top_13 : decode cX5_top 13 = .ok (.invokevirtual 37, 3) := by decide +kernel
theorem dX5_top_16 : decode cX5_top 16 = .ok (.ifCond .eq 7, 3) := by decide +kernel
theorem dX5_top_19 : decode cX5_top 19 = .ok (.iload_n 3, 1) := by decide +kernel
theorem dX5_top_20 : decode cX5_top 20 = .ok (.goto 4, 3) := by decide +kernel
theorem dX5_top_23 : decode cX5_top 23 = .ok (.iload_n 2, 1) := by decide +kernel
theorem dX5_top_24 : decode cX5_top 24 = .ok (.istore_n 2, 1) := by decide +kernel
theorem dX5_top_25 : decode cX5_top 25 = .ok (.iinc 3 1, 3) := by decide +kernel
theorem dX5_top_28 : decode cX5_top 28 = .ok (.goto (-24), 3) := by decide +kernel
theorem dX5_top_31 : decode cX5_top 31 = .ok (.iload_n 2, 1) := by decide +kernel
theorem dX5_top_32 : decode cX5_top 32 = .ok (.ireturn, 1) := by decide +kernel
theorem dX5_strength_0 : decode cX5_strength 0 = .ok (.aload_n 0, 1) := by decide +kernel
theorem dX5_strength_1 : decode cX5_strength 1 = .ok (.getfield 17, 3) := by decide +kernel
theorem dX5_strength_4 : decode cX5_strength 4 = .ok (.iload_n 2, 1) := by decide +kernel
theorem dX5_strength_5 : decode cX5_strength 5 = .ok (.aaload, 1) := by decide +kernel
theorem dX5_strength_6 : decode cX5_strength 6 = .ok (.iload_n 1, 1) := by decide +kernel
theorem dX5_strength_7 : decode cX5_strength 7 = .ok (.aaload, 1) := by decide +kernel
theorem dX5_strength_8 : decode cX5_strength 8 = .ok (.astore 4, 2) := by decide +kernel
theorem dX5_strength_10 : decode cX5_strength 10 = .ok (.aload 4, 2) := by decide +kernel
theorem dX5_strength_12 : decode cX5_strength 12 = .ok (.getfield 58, 3) := by decide +kernel
theorem dX5_strength_15 : decode cX5_strength 15 = .ok (.bipush 115, 2) := by decide +kernel
theorem dX5_strength_17 : decode cX5_strength 17 = .ok (.if_icmp .ne 9, 3) := by decide +kernel
theorem dX5_strength_20 : decode cX5_strength 20 = .ok (.sipush 2500, 3) := by decide +kernel
theorem dX5_strength_23 : decode cX5_strength 23 = .ok (.goto 22, 3) := by decide +kernel
theorem dX5_strength_26 : decode cX5_strength 26 = .ok (.aload 4, 2) := by decide +kernel
theorem dX5_strength_28 : decode cX5_strength 28 = .ok (.getfield 58, 3) := by decide +kernel
theorem dX5_strength_31 : decode cX5_strength 31 = .ok (.bipush 105, 2) := by decide +kernel
theorem dX5_strength_33 : decode cX5_strength 33 = .ok (.if_icmp .ne 9, 3) := by decide +kernel
theorem dX5_strength_36 : decode cX5_strength 36 = .ok (.sipush 6000, 3) := by decide +kernel
theorem dX5_strength_39 : decode cX5_strength 39 = .ok (.goto 6, 3) := by decide +kernel
theorem dX5_strength_42 : decode cX5_strength 42 = .ok (.sipush 5000, 3) := by decide +kernel
theorem dX5_strength_45 : decode cX5_strength 45 = .ok (.istore 5, 2) := by decide +kernel
theorem dX5_strength_47 : decode cX5_strength 47 = .ok (.iconst 0, 1) := by decide +kernel
theorem dX5_strength_48 : decode cX5_strength 48 = .ok (.iload 5, 2) := by decide +kernel
theorem dX5_strength_50 : decode cX5_strength 50 = .ok (.bipush 10, 2) := by decide +kernel
theorem dX5_strength_52 : decode cX5_strength 52 = .ok (.bipush 48, 2) := by decide +kernel
theorem dX5_strength_54 : decode cX5_strength 54 = .ok (.aload 4, 2) := by decide +kernel
theorem dX5_strength_56 : decode cX5_strength 56 = .ok (.getfield 62, 3) := by decide +kernel
theorem dX5_strength_59 : decode cX5_strength 59 = .ok (.invokestatic 65, 3) := by decide +kernel
theorem dX5_strength_62 : decode cX5_strength 62 = .ok (.imul, 1) := by decide +kernel
theorem dX5_strength_63 : decode cX5_strength 63 = .ok (.iadd, 1) := by decide +kernel
theorem dX5_strength_64 : decode cX5_strength 64 = .ok (.aload 4, 2) := by decide +kernel
theorem dX5_strength_66 : decode cX5_strength 66 = .ok (.getfield 71, 3) := by decide +kernel
theorem dX5_strength_69 : decode cX5_strength 69 = .ok (.ifCond .eq 9, 3) := by decide +kernel
theorem dX5_strength_72 : decode cX5_strength 72 = .ok (.sipush 500, 3) := by decide +kernel
theorem dX5_strength_75 : decode cX5_strength 75 = .ok (.goto 4, 3) := by decide +kernel
theorem dX5_strength_78 : decode cX5_strength 78 = .ok (.iconst 0, 1) := by decide +kernel
theorem dX5_strength_79 : decode cX5_strength 79 = .ok (.isub, 1) := by decide +kernel
theorem dX5_strength_80 : decode cX5_strength 80 = .ok (.iload_n 3, 1) := by decide +kernel
theorem dX5_strength_81 : decode cX5_strength 81 = .ok (.bipush (-50), 2) := by decide +kernel
theorem dX5_strength_83 : decode cX5_strength 83 = .ok (.if_icmp .le 13, 3) := by decide +kernel
theorem dX5_strength_86 : decode cX5_strength 86 = .ok (.bipush 10, 2) := by decide +kernel
theorem dX5_strength_88 : decode cX5_strength 88 = .ok (.iload_n 3, 1) := by decide +kernel
theorem dX5_strength_89 : decode cX5_strength 89 = .ok (.bipush 50, 2) := by decide +kernel
theorem dX5_strength_91 : decode cX5_strength 91 = .ok (.iadd, 1) := by decide +kernel
theorem dX5_strength_92 : decode cX5_strength 92 = .ok (.imul, 1) := by decide +kernel
theorem dX5_strength_93 : decode cX5_strength 93 = .ok (.goto 4, 3) := by decide +kernel
theorem dX5_strength_96 : decode cX5_strength 96 = .ok (.iconst 0, 1) := by decide +kernel
theorem dX5_strength_97 : decode cX5_strength 97 = .ok (.isub, 1) := by decide +kernel
theorem dX5_strength_98 : decode cX5_strength 98 = .ok (.invokestatic 75, 3) := by decide +kernel
theorem dX5_strength_101 : decode cX5_strength 101 = .ok (.ireturn, 1) := by decide +kernel
theorem dX5_falls_0 : decode cX5_falls 0 = .ok (.iconst 0, 1) := by decide +kernel
theorem dX5_falls_1 : decode cX5_falls 1 = .ok (.istore_n 2, 1) := by decide +kernel
theorem dX5_falls_2 : decode cX5_falls 2 = .ok (.iconst 0, 1) := by decide +kernel
theorem dX5_falls_3 : decode cX5_falls 3 = .ok (.istore_n 3, 1) := by decide +kernel
theorem dX5_falls_4 : decode cX5_falls 4 = .ok (.iload_n 3, 1) := by decide +kernel
theorem dX5_falls_5 : decode cX5_falls 5 = .ok (.bipush 48, 2) := by decide +kernel
theorem dX5_falls_7 : decode cX5_falls 7 = .ok (.if_icmp .ge 49, 3) := by decide +kernel
theorem dX5_falls_10 : decode cX5_falls 10 = .ok (.aload_n 1, 1) := by decide +kernel
theorem dX5_falls_11 : decode cX5_falls 11 = .ok (.iload_n 3, 1) := by decide +kernel
theorem dX5_falls_12 : decode cX5_falls 12 = .ok (.bipush 8, 2) := by decide +kernel
theorem dX5_falls_14 : decode cX5_falls 14 = .ok (.idiv, 1) := by decide +kernel
theorem dX5_falls_15 : decode cX5_falls 15 = .ok (.aaload, 1) := by decide +kernel
theorem dX5_falls_16 : decode cX5_falls 16 = .ok (.iload_n 3, 1) := by decide +kernel
theorem dX5_falls_17 : decode cX5_falls 17 = .ok (.bipush 8, 2) := by decide +kernel
theorem dX5_falls_19 : decode cX5_falls 19 = .ok (.irem, 1) := by decide +kernel
theorem dX5_falls_20 : decode cX5_falls 20 = .ok (.baload, 1) := by decide +kernel
theorem dX5_falls_21 : decode cX5_falls 21 = .ok (.ifCond .ne 6, 3) := by decide +kernel
theorem dX5_falls_24 : decode cX5_falls 24 = .ok (.goto 26, 3) := by decide +kernel
theorem dX5_falls_27 : decode cX5_falls 27 = .ok (.aload_n 0, 1) := by decide +kernel
theorem dX5_falls_28 : decode cX5_falls 28 = .ok (.getfield 17, 3) := by decide +kernel
theorem dX5_falls_31 : decode cX5_falls 31 = .ok (.iload_n 3, 1) := by decide +kernel
theorem dX5_falls_32 : decode cX5_falls 32 = .ok (.bipush 8, 2) := by decide +kernel
theorem dX5_falls_34 : decode cX5_falls 34 = .ok (.idiv, 1) := by decide +kernel
theorem dX5_falls_35 : decode cX5_falls 35 = .ok (.aaload, 1) := by decide +kernel
theorem dX5_falls_36 : decode cX5_falls 36 = .ok (.iload_n 3, 1) := by decide +kernel
theorem dX5_falls_37 : decode cX5_falls 37 = .ok (.bipush 8, 2) := by decide +kernel
theorem dX5_falls_39 : decode cX5_falls 39 = .ok (.irem, 1) := by decide +kernel
theorem dX5_falls_40 : decode cX5_falls 40 = .ok (.aconst_null, 1) := by decide +kernel
theorem dX5_falls_41 : decode cX5_falls 41 = .ok (.aastore, 1) := by decide +kernel
theorem dX5_falls_42 : decode cX5_falls 42 = .ok (.aload_n 0, 1) := by decide +kernel
theorem dX5_falls_43 : decode cX5_falls 43 = .ok (.iload_n 3, 1) := by decide +kernel
theorem dX5_falls_44 : decode cX5_falls 44 = .ok (.putfield 25, 3) := by decide +kernel
theorem dX5_falls_47 : decode cX5_falls 47 = .ok (.iinc 2 1, 3) := by decide +kernel
theorem dX5_falls_50 : decode cX5_falls 50 = .ok (.iinc 3 1, 3) := by decide +kernel
theorem dX5_falls_53 : decode cX5_falls 53 = .ok (.goto (-49), 3) := by decide +kernel
theorem dX5_falls_56 : decode cX5_falls 56 = .ok (.aload_n 0, 1) := by decide +kernel
theorem dX5_falls_57 : decode cX5_falls 57 = .ok (.dup, 1) := by decide +kernel
theorem dX5_falls_58 : decode cX5_falls 58 = .ok (.getfield 78, 3) := by decide +kernel
theorem dX5_falls_61 : decode cX5_falls 61 = .ok (.iload_n 2, 1) := by decide +kernel
theorem dX5_falls_62 : decode cX5_falls 62 = .ok (.iadd, 1) := by decide +kernel
theorem dX5_falls_63 : decode cX5_falls 63 = .ok (.putfield 78, 3) := by decide +kernel
theorem dX5_falls_66 : decode cX5_falls 66 = .ok (.aload_n 0, 1) := by decide +kernel
theorem dX5_falls_67 : decode cX5_falls 67 = .ok (.getfield 3, 3) := by decide +kernel
theorem dX5_falls_70 : decode cX5_falls 70 = .ok (.dup, 1) := by decide +kernel
theorem dX5_falls_71 : decode cX5_falls 71 = .ok (.getfield 81, 3) := by decide +kernel
theorem dX5_falls_74 : decode cX5_falls 74 = .ok (.sipush 200, 3) := by decide +kernel
theorem dX5_falls_77 : decode cX5_falls 77 = .ok (.iload_n 2, 1) := by decide +kernel
theorem dX5_falls_78 : decode cX5_falls 78 = .ok (.imul, 1) := by decide +kernel
theorem dX5_falls_79 : decode cX5_falls 79 = .ok (.isub, 1) := by decide +kernel
theorem dX5_falls_80 : decode cX5_falls 80 = .ok (.putfield 81, 3) := by decide +kernel
theorem dX5_falls_83 : decode cX5_falls 83 = .ok (.iload_n 2, 1) := by decide +kernel
theorem dX5_falls_84 : decode cX5_falls 84 = .ok (.ireturn, 1) := by decide +kernel
theorem dX5_weak_0 : decode cX5_weak 0 = .ok (.bipush 6, 2) := by decide +kernel
theorem dX5_weak_2 : decode cX5_weak 2 = .ok (.bipush 8, 2) := by decide +kernel
theorem dX5_weak_4 : decode cX5_weak 4 = .ok (.multianewarray 20 2, 4) := by decide +kernel
theorem dX5_weak_8 : decode cX5_weak 8 = .ok (.astore_n 2, 1) := by decide +kernel
theorem dX5_weak_9 : decode cX5_weak 9 = .ok (.aload_n 0, 1) := by decide +kernel
theorem dX5_weak_10 : decode cX5_weak 10 = .ok (.iconst (-1), 1) := by decide +kernel
theorem dX5_weak_11 : decode cX5_weak 11 = .ok (.iconst 0, 1) := by decide +kernel
theorem dX5_weak_12 : decode cX5_weak 12 = .ok (.invokevirtual 84, 3) := by decide +kernel
theorem dX5_weak_15 : decode cX5_weak 15 = .ok (.astore_n 3, 1) := by decide +kernel
theorem dX5_weak_16 : decode cX5_weak 16 = .ok (.iconst 0, 1) := by decide +kernel
theorem dX5_weak_17 : decode cX5_weak 17 = .ok (.istore 4, 2) := by decide +kernel
theorem dX5_weak_19 : decode cX5_weak 19 = .ok (.iload 4, 2) := by decide +kernel
theorem dX5_weak_21 : decode cX5_weak 21 = .ok (.bipush 6, 2) := by decide +kernel
theorem dX5_weak_23 : decode cX5_weak 23 = .ok (.if_icmp .ge 78, 3) := by decide +kernel
theorem dX5_weak_26 : decode cX5_weak 26 = .ok (.iconst 0, 1) := by decide +kernel
theorem dX5_weak_27 : decode cX5_weak 27 = .ok (.istore 5, 2) := by decide +kernel
theorem dX5_weak_29 : decode cX5_weak 29 = .ok (.iload 5, 2) := by decide +kernel
theorem dX5_weak_31 : decode cX5_weak 31 = .ok (.bipush 8, 2) := by decide +kernel
theorem dX5_weak_33 : decode cX5_weak 33 = .ok (.if_icmp .ge 62, 3) := by decide +kernel
theorem dX5_weak_36 : decode cX5_weak 36 = .ok (.aload_n 2, 1) := by decide +kernel
theorem dX5_weak_37 : decode cX5_weak 37 = .ok (.iload 4, 2) := by decide +kernel
theorem dX5_weak_39 : decode cX5_weak 39 = .ok (.aaload, 1) := by decide +kernel
theorem dX5_weak_40 : decode cX5_weak 40 = .ok (.iload 5, 2) := by decide +kernel
theorem dX5_weak_42 : decode cX5_weak 42 = .ok (.aload_n 0, 1) := by decide +kernel
theorem dX5_weak_43 : decode cX5_weak 43 = .ok (.iload 5, 2) := by decide +kernel
theorem dX5_weak_45 : decode cX5_weak 45 = .ok (.iload 4, 2) := by decide +kernel
theorem dX5_weak_47 : decode cX5_weak 47 = .ok (.invokevirtual 37, 3) := by decide +kernel
theorem dX5_weak_50 : decode cX5_weak 50 = .ok (.ifCond .eq 37, 3) := by decide +kernel
theorem dX5_weak_53 : decode cX5_weak 53 = .ok (.aload_n 0, 1) := by decide +kernel
theorem dX5_weak_54 : decode cX5_weak 54 = .ok (.iload 5, 2) := by decide +kernel
theorem dX5_weak_56 : decode cX5_weak 56 = .ok (.iload 4, 2) := by decide +kernel
theorem dX5_weak_58 : decode cX5_weak 58 = .ok (.invokevirtual 88, 3) := by decide +kernel
theorem dX5_weak_61 : decode cX5_weak 61 = .ok (.ifCond .eq 22, 3) := by decide +kernel
theorem dX5_weak_64 : decode cX5_weak 64 = .ok (.aload_n 3, 1) := by decide +kernel
theorem dX5_weak_65 : decode cX5_weak 65 = .ok (.iload 4, 2) := by decide +kernel
theorem dX5_weak_67 : decode cX5_weak 67 = .ok (.aaload, 1) := by decide +kernel
theorem dX5_weak_68 : decode cX5_weak 68 = .ok (.iload 5, 2) := by decide +kernel
theorem dX5_weak_70 : decode cX5_weak 70 = .ok (.iaload, 1) := by decide +kernel
theorem dX5_weak_71 : decode cX5_weak 71 = .ok (.aload_n 0, 1) := by decide +kernel
theorem dX5_weak_72 : decode cX5_weak 72 = .ok (.iload 5, 2) := by decide +kernel
theorem dX5_weak_74 : decode cX5_weak 74 = .ok (.iload 4, 2) := by decide +kernel
theorem dX5_weak_76 : decode cX5_weak 76 = .ok (.iload_n 1, 1) := by decide +kernel
theorem dX5_weak_77 : decode cX5_weak 77 = .ok (.invokevirtual 91, 3) := by decide +kernel
theorem dX5_weak_80 : decode cX5_weak 80 = .ok (.if_icmp .le 7, 3) := by decide +kernel
theorem dX5_weak_83 : decode cX5_weak 83 = .ok (.iconst 1, 1) := by decide +kernel
theorem dX5_weak_84 : decode cX5_weak 84 = .ok (.goto 4, 3) := by decide +kernel
theorem dX5_weak_87 : decode cX5_weak 87 = .ok (.iconst 0, 1) := by decide +kernel
theorem dX5_weak_88 : decode cX5_weak 88 = .ok (.bastore, 1) := by decide +kernel
theorem dX5_weak_89 : decode cX5_weak 89 = .ok (.iinc 5 1, 3) := by decide +kernel
theorem dX5_weak_92 : decode cX5_weak 92 = .ok (.goto (-63), 3) := by decide +kernel
theorem dX5_weak_95 : decode cX5_weak 95 = .ok (.iinc 4 1, 3) := by decide +kernel
theorem dX5_weak_98 : decode cX5_weak 98 = .ok (.goto (-79), 3) := by decide +kernel
theorem dX5_weak_101 : decode cX5_weak 101 = .ok (.aload_n 2, 1) := by decide +kernel
theorem dX5_weak_102 : decode cX5_weak 102 = .ok (.areturn, 1) := by decide +kernel
theorem dX5_settles_0 : decode cX5_settles 0 = .ok (.iconst 0, 1) := by decide +kernel
theorem dX5_settles_1 : decode cX5_settles 1 = .ok (.istore_n 2, 1) := by decide +kernel
theorem dX5_settles_2 : decode cX5_settles 2 = .ok (.aload_n 0, 1) := by decide +kernel
theorem dX5_settles_3 : decode cX5_settles 3 = .ok (.aload_n 0, 1) := by decide +kernel
theorem dX5_settles_4 : decode cX5_settles 4 = .ok (.iload_n 1, 1) := by decide +kernel
theorem dX5_settles_5 : decode cX5_settles 5 = .ok (.invokevirtual 95, 3) := by decide +kernel
theorem dX5_settles_8 : decode cX5_settles 8 = .ok (.invokevirtual 99, 3) := by decide +kernel
theorem dX5_settles_11 : decode cX5_settles 11 = .ok (.istore_n 3, 1) := by decide +kernel
theorem dX5_settles_12 : decode cX5_settles 12 = .ok (.iload_n 3, 1) := by decide +kernel
theorem dX5_settles_13 : decode cX5_settles 13 = .ok (.ifCond .le 20, 3) := by decide +kernel
theorem dX5_settles_16 : decode cX5_settles 16 = .ok (.iload_n 2, 1) := by decide +kernel
theorem dX5_settles_17 : decode cX5_settles 17 = .ok (.iload_n 3, 1) := by decide +kernel
theorem dX5_settles_18 : decode cX5_settles 18 = .ok (.iadd, 1) := by decide +kernel
theorem dX5_settles_19 : decode cX5_settles 19 = .ok (.istore_n 2, 1) := by decide +kernel
theorem dX5_settles_20 : decode cX5_settles 20 = .ok (.aload_n 0, 1) := by decide +kernel
theorem dX5_settles_21 : decode cX5_settles 21 = .ok (.aload_n 0, 1) := by decide +kernel
theorem dX5_settles_22 : decode cX5_settles 22 = .ok (.iload_n 1, 1) := by decide +kernel
theorem dX5_settles_23 : decode cX5_settles 23 = .ok (.invokevirtual 95, 3) := by decide +kernel
theorem dX5_settles_26 : decode cX5_settles 26 = .ok (.invokevirtual 99, 3) := by decide +kernel
theorem dX5_settles_29 : decode cX5_settles 29 = .ok (.istore_n 3, 1) := by decide +kernel
theorem dX5_settles_30 : decode cX5_settles 30 = .ok (.goto (-18), 3) := by decide +kernel
theorem dX5_settles_33 : decode cX5_settles 33 = .ok (.iload_n 2, 1) := by decide +kernel
theorem dX5_settles_34 : decode cX5_settles 34 = .ok (.ireturn, 1) := by decide +kernel
theorem dX5_many_0 : decode cX5_many 0 = .ok (.iconst 0, 1) := by decide +kernel
theorem dX5_many_1 : decode cX5_many 1 = .ok (.istore_n 1, 1) := by decide +kernel
theorem dX5_many_2 : decode cX5_many 2 = .ok (.aload_n 0, 1) := by decide +kernel
theorem dX5_many_3 : decode cX5_many 3 = .ok (.getfield 17, 3) := by decide +kernel
theorem dX5_many_6 : decode cX5_many 6 = .ok (.astore_n 2, 1) := by decide +kernel
theorem dX5_many_7 : decode cX5_many 7 = .ok (.aload_n 2, 1) := by decide +kernel
theorem dX5_many_8 : decode cX5_many 8 = .ok (.arraylength, 1) := by decide +kernel
theorem dX5_many_9 : decode cX5_many 9 = .ok (.istore_n 3, 1) := by decide +kernel
theorem dX5_many_10 : decode cX5_many 10 = .ok (.iconst 0, 1) := by decide +kernel
theorem dX5_many_11 : decode cX5_many 11 = .ok (.istore 4, 2) := by decide +kernel
theorem dX5_many_13 : decode cX5_many 13 = .ok (.iload 4, 2) := by decide +kernel
theorem dX5_many_15 : decode cX5_many 15 = .ok (.iload_n 3, 1) := by decide +kernel
theorem dX5_many_16 : decode cX5_many 16 = .ok (.if_icmp .ge 60, 3) := by decide +kernel
theorem dX5_many_19 : decode cX5_many 19 = .ok (.aload_n 2, 1) := by decide +kernel
theorem dX5_many_20 : decode cX5_many 20 = .ok (.iload 4, 2) := by decide +kernel
theorem dX5_many_22 : decode cX5_many 22 = .ok (.aaload, 1) := by decide +kernel
theorem dX5_many_23 : decode cX5_many 23 = .ok (.astore 5, 2) := by decide +kernel
theorem dX5_many_25 : decode cX5_many 25 = .ok (.aload 5, 2) := by decide +kernel
theorem dX5_many_27 : decode cX5_many 27 = .ok (.astore 6, 2) := by decide +kernel
theorem dX5_many_29 : decode cX5_many 29 = .ok (.aload 6, 2) := by decide +kernel
theorem dX5_many_31 : decode cX5_many 31 = .ok (.arraylength, 1) := by decide +kernel
theorem dX5_many_32 : decode cX5_many 32 = .ok (.istore 7, 2) := by decide +kernel
theorem dX5_many_34 : decode cX5_many 34 = .ok (.iconst 0, 1) := by decide +kernel
theorem dX5_many_35 : decode cX5_many 35 = .ok (.istore 8, 2) := by decide +kernel
theorem dX5_many_37 : decode cX5_many 37 = .ok (.iload 8, 2) := by decide +kernel
theorem dX5_many_39 : decode cX5_many 39 = .ok (.iload 7, 2) := by decide +kernel
theorem dX5_many_41 : decode cX5_many 41 = .ok (.if_icmp .ge 29, 3) := by decide +kernel
theorem dX5_many_44 : decode cX5_many 44 = .ok (.aload 6, 2) := by decide +kernel
theorem dX5_many_46 : decode cX5_many 46 = .ok (.iload 8, 2) := by decide +kernel
theorem dX5_many_48 : decode cX5_many 48 = .ok (.aaload, 1) := by decide +kernel
theorem dX5_many_49 : decode cX5_many 49 = .ok (.astore 9, 2) := by decide +kernel
theorem dX5_many_51 : decode cX5_many 51 = .ok (.iload_n 1, 1) := by decide +kernel
theorem dX5_many_52 : decode cX5_many 52 = .ok (.aload 9, 2) := by decide +kernel
theorem dX5_many_54 : decode cX5_many 54 = .ok (.ifnonnull 7, 3) := by decide +kernel
theorem dX5_many_57 : decode cX5_many 57 = .ok (.iconst 0, 1) := by decide +kernel
theorem dX5_many_58 : decode cX5_many 58 = .ok (.goto 4, 3) := by decide +kernel
theorem dX5_many_61 : decode cX5_many 61 = .ok (.iconst 1, 1) := by decide +kernel
theorem dX5_many_62 : decode cX5_many 62 = .ok (.iadd, 1) := by decide +kernel
theorem dX5_many_63 : decode cX5_many 63 = .ok (.istore_n 1, 1) := by decide +kernel
theorem dX5_many_64 : decode cX5_many 64 = .ok (.iinc 8 1, 3) := by decide +kernel
theorem dX5_many_67 : decode cX5_many 67 = .ok (.goto (-30), 3) := by decide +kernel
theorem dX5_many_70 : decode cX5_many 70 = .ok (.iinc 4 1, 3) := by decide +kernel
theorem dX5_many_73 : decode cX5_many 73 = .ok (.goto (-60), 3) := by decide +kernel
theorem dX5_many_76 : decode cX5_many 76 = .ok (.iload_n 1, 1) := by decide +kernel
theorem dX5_many_77 : decode cX5_many 77 = .ok (.ireturn, 1) := by decide +kernel
theorem dX5_goes_0 : decode cX5_goes 0 = .ok (.bipush 6, 2) := by decide +kernel
theorem dX5_goes_2 : decode cX5_goes 2 = .ok (.bipush 8, 2) := by decide +kernel
theorem dX5_goes_4 : decode cX5_goes 4 = .ok (.multianewarray 20 2, 4) := by decide +kernel
theorem dX5_goes_8 : decode cX5_goes 8 = .ok (.astore_n 2, 1) := by decide +kernel
theorem dX5_goes_9 : decode cX5_goes 9 = .ok (.aload_n 0, 1) := by decide +kernel
theorem dX5_goes_10 : decode cX5_goes 10 = .ok (.getfield 3, 3) := by decide +kernel
theorem dX5_goes_13 : decode cX5_goes 13 = .ok (.getfield 103, 3) := by decide +kernel
theorem dX5_goes_16 : decode cX5_goes 16 = .ok (.bipush 24, 2) := by decide +kernel
theorem dX5_goes_18 : decode cX5_goes 18 = .ok (.irem, 1) := by decide +kernel
theorem dX5_goes_19 : decode cX5_goes 19 = .ok (.istore_n 3, 1) := by decide +kernel
theorem dX5_goes_20 : decode cX5_goes 20 = .ok (.aload_n 0, 1) := by decide +kernel
theorem dX5_goes_21 : decode cX5_goes 21 = .ok (.getfield 3, 3) := by decide +kernel
theorem dX5_goes_24 : decode cX5_goes 24 = .ok (.getfield 106, 3) := by decide +kernel
theorem dX5_goes_27 : decode cX5_goes 27 = .ok (.aload_n 0, 1) := by decide +kernel
theorem dX5_goes_28 : decode cX5_goes 28 = .ok (.getfield 3, 3) := by decide +kernel
theorem dX5_goes_31 : decode cX5_goes 31 = .ok (.getfield 103, 3) := by decide +kernel
theorem dX5_goes_34 : decode cX5_goes 34 = .ok (.bipush 24, 2) := by decide +kernel
theorem dX5_goes_36 : decode cX5_goes 36 = .ok (.idiv, 1) := by decide +kernel
theorem dX5_goes_37 : decode cX5_goes 37 = .ok (.aaload, 1) := by decide +kernel
theorem dX5_goes_38 : decode cX5_goes 38 = .ok (.iconst 2, 1) := by decide +kernel
theorem dX5_goes_39 : decode cX5_goes 39 = .ok (.iaload, 1) := by decide +kernel
theorem dX5_goes_40 : decode cX5_goes 40 = .ok (.istore 4, 2) := by decide +kernel
theorem dX5_goes_42 : decode cX5_goes 42 = .ok (.aload_n 0, 1) := by decide +kernel
theorem dX5_goes_43 : decode cX5_goes 43 = .ok (.getfield 109, 3) := by decide +kernel
theorem dX5_goes_46 : decode cX5_goes 46 = .ok (.ifCond .ne 27, 3) := by decide +kernel
theorem dX5_goes_49 : decode cX5_goes 49 = .ok (.iload_n 3, 1) := by decide +kernel
theorem dX5_goes_50 : decode cX5_goes 50 = .ok (.i2l, 1) := by decide +kernel
theorem dX5_goes_51 : decode cX5_goes 51 = .ok (.ldc2_w 112, 3) := by decide +kernel
theorem dX5_goes_54 : decode cX5_goes 54 = .ok (.ldc2_w 114, 3) := by decide +kernel
theorem dX5_goes_57 : decode cX5_goes 57 = .ok (.invokestatic 31, 3) := by decide +kernel
theorem dX5_goes_60 : decode cX5_goes 60 = .ok (.ifCond .eq 13, 3) := by decide +kernel
theorem dX5_goes_63 : decode cX5_goes 63 = .ok (.iload_n 1, 1) := by decide +kernel
theorem dX5_goes_64 : decode cX5_goes 64 = .ok (.bipush (-100), 2) := by decide +kernel
theorem dX5_goes_66 : decode cX5_goes 66 = .ok (.if_icmp .le 7, 3) := by decide +kernel
theorem dX5_goes_69 : decode cX5_goes 69 = .ok (.iconst 1, 1) := by decide +kernel
theorem dX5_goes_70 : decode cX5_goes 70 = .ok (.goto 4, 3) := by decide +kernel
theorem dX5_goes_73 : decode cX5_goes 73 = .ok (.iconst 0, 1) := by decide +kernel
theorem dX5_goes_74 : decode cX5_goes 74 = .ok (.istore 5, 2) := by decide +kernel
theorem dX5_goes_76 : decode cX5_goes 76 = .ok (.aload_n 0, 1) := by decide +kernel
theorem dX5_goes_77 : decode cX5_goes 77 = .ok (.getfield 109, 3) := by decide +kernel
theorem dX5_goes_80 : decode cX5_goes 80 = .ok (.ifCond .ne 14, 3) := by decide +kernel
theorem dX5_goes_83 : decode cX5_goes 83 = .ok (.iload 4, 2) := by decide +kernel
theorem dX5_goes_85 : decode cX5_goes 85 = .ok (.bipush 10, 2) := by decide +kernel
theorem dX5_goes_87 : decode cX5_goes 87 = .ok (.if_icmp .lt 7, 3) := by decide +kernel
theorem dX5_goes_90 : decode cX5_goes 90 = .ok (.iconst 1, 1) := by decide +kernel
theorem dX5_goes_91 : decode cX5_goes 91 = .ok (.goto 4, 3) := by decide +kernel
theorem dX5_goes_94 : decode cX5_goes 94 = .ok (.iconst 0, 1) := by decide +kernel
theorem dX5_goes_95 : decode cX5_goes 95 = .ok (.istore 6, 2) := by decide +kernel
theorem dX5_goes_97 : decode cX5_goes 97 = .ok (.iconst 0, 1) := by decide +kernel
theorem dX5_goes_98 : decode cX5_goes 98 = .ok (.istore 7, 2) := by decide +kernel
theorem dX5_goes_100 : decode cX5_goes 100 = .ok (.iload 7, 2) := by decide +kernel
theorem dX5_goes_102 : decode cX5_goes 102 = .ok (.bipush 6, 2) := by decide +kernel
theorem dX5_goes_104 : decode cX5_goes 104 = .ok (.if_icmp .ge 160, 3) := by decide +kernel
theorem dX5_goes_107 : decode cX5_goes 107 = .ok (.iconst 0, 1) := by decide +kernel
theorem dX5_goes_108 : decode cX5_goes 108 = .ok (.istore 8, 2) := by decide +kernel
theorem dX5_goes_110 : decode cX5_goes 110 = .ok (.iload 8, 2) := by decide +kernel
theorem dX5_goes_112 : decode cX5_goes 112 = .ok (.bipush 8, 2) := by decide +kernel
theorem dX5_goes_114 : decode cX5_goes 114 = .ok (.if_icmp .ge 144, 3) := by decide +kernel
theorem dX5_goes_117 : decode cX5_goes 117 = .ok (.aload_n 0, 1) := by decide +kernel
theorem dX5_goes_118 : decode cX5_goes 118 = .ok (.iload 8, 2) := by decide +kernel
theorem dX5_goes_120 : decode cX5_goes 120 = .ok (.iload 7, 2) := by decide +kernel
theorem dX5_goes_122 : decode cX5_goes 122 = .ok (.invokevirtual 37, 3) := by decide +kernel
theorem dX5_goes_125 : decode cX5_goes 125 = .ok (.ifCond .ne 6, 3) := by decide +kernel
theorem dX5_goes_128 : decode cX5_goes 128 = .ok (.goto 124, 3) := by decide +kernel
theorem dX5_goes_131 : decode cX5_goes 131 = .ok (.aload_n 0, 1) := by decide +kernel
theorem dX5_goes_132 : decode cX5_goes 132 = .ok (.getfield 17, 3) := by decide +kernel
theorem dX5_goes_135 : decode cX5_goes 135 = .ok (.iload 7, 2) := by decide +kernel
theorem dX5_goes_137 : decode cX5_goes 137 = .ok (.aaload, 1) := by decide +kernel
theorem dX5_goes_138 : decode cX5_goes 138 = .ok (.iload 8, 2) := by decide +kernel
theorem dX5_goes_140 : decode cX5_goes 140 = .ok (.aaload, 1) := by decide +kernel
theorem dX5_goes_141 : decode cX5_goes 141 = .ok (.dup, 1) := by decide +kernel
theorem dX5_goes_142 : decode cX5_goes 142 = .ok (.getfield 53, 3) := by decide +kernel
theorem dX5_goes_145 : decode cX5_goes 145 = .ok (.iload 5, 2) := by decide +kernel
theorem dX5_goes_147 : decode cX5_goes 147 = .ok (.ifCond .eq 26, 3) := by decide +kernel
theorem dX5_goes_150 : decode cX5_goes 150 = .ok (.aload_n 0, 1) := by decide +kernel
theorem dX5_goes_151 : decode cX5_goes 151 = .ok (.iload 8, 2) := by decide +kernel
theorem dX5_goes_153 : decode cX5_goes 153 = .ok (.iconst 1, 1) := by decide +kernel
theorem dX5_goes_154 : decode cX5_goes 154 = .ok (.iadd, 1) := by decide +kernel
theorem dX5_goes_155 : decode cX5_goes 155 = .ok (.iload 7, 2) := by decide +kernel
theorem dX5_goes_157 : decode cX5_goes 157 = .ok (.invokevirtual 37, 3) := by decide +kernel
theorem dX5_goes_160 : decode cX5_goes 160 = .ok (.ifCond .ne 13, 3) := by decide +kernel
theorem dX5_goes_163 : decode cX5_goes 163 = .ok (.iload_n 1, 1) := by decide +kernel
theorem dX5_goes_164 : decode cX5_goes 164 = .ok (.bipush 100, 2) := by decide +kernel
theorem dX5_goes_166 : decode cX5_goes 166 = .ok (.iadd, 1) := by decide +kernel
theorem dX5_goes_167 : decode cX5_goes 167 = .ok (.bipush 20, 2) := by decide +kernel
theorem dX5_goes_169 : decode cX5_goes 169 = .ok (.idiv, 1) := by decide +kernel
theorem dX5_goes_170 : decode cX5_goes 170 = .ok (.goto 4, 3) := by decide +kernel
theorem dX5_goes_173 : decode cX5_goes 173 = .ok (.iconst 0, 1) := by decide +kernel
theorem dX5_goes_174 : decode cX5_goes 174 = .ok (.isub, 1) := by decide +kernel
theorem dX5_goes_175 : decode cX5_goes 175 = .ok (.putfield 53, 3) := by decide +kernel
theorem dX5_goes_178 : decode cX5_goes 178 = .ok (.aload_n 0, 1) := by decide +kernel
theorem dX5_goes_179 : decode cX5_goes 179 = .ok (.getfield 17, 3) := by decide +kernel
theorem dX5_goes_182 : decode cX5_goes 182 = .ok (.iload 7, 2) := by decide +kernel
theorem dX5_goes_184 : decode cX5_goes 184 = .ok (.aaload, 1) := by decide +kernel
theorem dX5_goes_185 : decode cX5_goes 185 = .ok (.iload 8, 2) := by decide +kernel
theorem dX5_goes_187 : decode cX5_goes 187 = .ok (.aaload, 1) := by decide +kernel
theorem dX5_goes_188 : decode cX5_goes 188 = .ok (.dup, 1) := by decide +kernel
theorem dX5_goes_189 : decode cX5_goes 189 = .ok (.getfield 53, 3) := by decide +kernel
theorem dX5_goes_192 : decode cX5_goes 192 = .ok (.iload 6, 2) := by decide +kernel
theorem dX5_goes_194 : decode cX5_goes 194 = .ok (.ifCond .eq 23, 3) := by decide +kernel
theorem dX5_goes_197 : decode cX5_goes 197 = .ok (.aload_n 0, 1) := by decide +kernel
theorem dX5_goes_198 : decode cX5_goes 198 = .ok (.iload 8, 2) := by decide +kernel
theorem dX5_goes_200 : decode cX5_goes 200 = .ok (.iconst 1, 1) := by decide +kernel
theorem dX5_goes_201 : decode cX5_goes 201 = .ok (.isub, 1) := by decide +kernel
theorem dX5_goes_202 : decode cX5_goes 202 = .ok (.iload 7, 2) := by decide +kernel
theorem dX5_goes_204 : decode cX5_goes 204 = .ok (.invokevirtual 37, 3) := by decide +kernel
theorem dX5_goes_207 : decode cX5_goes 207 = .ok (.ifCond .ne 10, 3) := by decide +kernel
theorem dX5_goes_210 : decode cX5_goes 210 = .ok (.iload 4, 2) := by decide +kernel
theorem dX5_goes_212 : decode cX5_goes 212 = .ok (.iconst 5, 1) := by decide +kernel
theorem dX5_goes_213 : decode cX5_goes 213 = .ok (.idiv, 1) := by decide +kernel
theorem dX5_goes_214 : decode cX5_goes 214 = .ok (.goto 4, 3) := by decide +kernel
theorem dX5_goes_217 : decode cX5_goes 217 = .ok (.iconst 0, 1) := by decide +kernel
theorem dX5_goes_218 : decode cX5_goes 218 = .ok (.isub, 1) := by decide +kernel
theorem dX5_goes_219 : decode cX5_goes 219 = .ok (.putfield 53, 3) := by decide +kernel
theorem dX5_goes_222 : decode cX5_goes 222 = .ok (.aload_n 2, 1) := by decide +kernel
theorem dX5_goes_223 : decode cX5_goes 223 = .ok (.iload 7, 2) := by decide +kernel
theorem dX5_goes_225 : decode cX5_goes 225 = .ok (.aaload, 1) := by decide +kernel
theorem dX5_goes_226 : decode cX5_goes 226 = .ok (.iload 8, 2) := by decide +kernel
theorem dX5_goes_228 : decode cX5_goes 228 = .ok (.aload_n 0, 1) := by decide +kernel
theorem dX5_goes_229 : decode cX5_goes 229 = .ok (.getfield 17, 3) := by decide +kernel
theorem dX5_goes_232 : decode cX5_goes 232 = .ok (.iload 7, 2) := by decide +kernel
theorem dX5_goes_234 : decode cX5_goes 234 = .ok (.aaload, 1) := by decide +kernel
theorem dX5_goes_235 : decode cX5_goes 235 = .ok (.iload 8, 2) := by decide +kernel
theorem dX5_goes_237 : decode cX5_goes 237 = .ok (.aaload, 1) := by decide +kernel
theorem dX5_goes_238 : decode cX5_goes 238 = .ok (.getfield 53, 3) := by decide +kernel
theorem dX5_goes_241 : decode cX5_goes 241 = .ok (.bipush 100, 2) := by decide +kernel
theorem dX5_goes_243 : decode cX5_goes 243 = .ok (.if_icmp .gt 7, 3) := by decide +kernel
theorem dX5_goes_246 : decode cX5_goes 246 = .ok (.iconst 1, 1) := by decide +kernel
theorem dX5_goes_247 : decode cX5_goes 247 = .ok (.goto 4, 3) := by decide +kernel
theorem dX5_goes_250 : decode cX5_goes 250 = .ok (.iconst 0, 1) := by decide +kernel
theorem dX5_goes_251 : decode cX5_goes 251 = .ok (.bastore, 1) := by decide +kernel
theorem dX5_goes_252 : decode cX5_goes 252 = .ok (.iinc 8 1, 3) := by decide +kernel
theorem dX5_goes_255 : decode cX5_goes 255 = .ok (.goto (-145), 3) := by decide +kernel
theorem dX5_goes_258 : decode cX5_goes 258 = .ok (.iinc 7 1, 3) := by decide +kernel
theorem dX5_goes_261 : decode cX5_goes 261 = .ok (.goto (-161), 3) := by decide +kernel
theorem dX5_goes_264 : decode cX5_goes 264 = .ok (.aload_n 0, 1) := by decide +kernel
theorem dX5_goes_265 : decode cX5_goes 265 = .ok (.aload_n 2, 1) := by decide +kernel
theorem dX5_goes_266 : decode cX5_goes 266 = .ok (.invokevirtual 99, 3) := by decide +kernel
theorem dX5_goes_269 : decode cX5_goes 269 = .ok (.pop, 1) := by decide +kernel
theorem dX5_goes_270 : decode cX5_goes 270 = .ok (.aload_n 0, 1) := by decide +kernel
theorem dX5_goes_271 : decode cX5_goes 271 = .ok (.iload_n 1, 1) := by decide +kernel
theorem dX5_goes_272 : decode cX5_goes 272 = .ok (.invokevirtual 116, 3) := by decide +kernel
theorem dX5_goes_275 : decode cX5_goes 275 = .ok (.pop, 1) := by decide +kernel
theorem dX5_goes_276 : decode cX5_goes 276 = .ok (.aload_n 0, 1) := by decide +kernel
theorem dX5_goes_277 : decode cX5_goes 277 = .ok (.iconst (-1), 1) := by decide +kernel
theorem dX5_goes_278 : decode cX5_goes 278 = .ok (.iconst 0, 1) := by decide +kernel
theorem dX5_goes_279 : decode cX5_goes 279 = .ok (.invokevirtual 84, 3) := by decide +kernel
theorem dX5_goes_282 : decode cX5_goes 282 = .ok (.astore 7, 2) := by decide +kernel
theorem dX5_goes_284 : decode cX5_goes 284 = .ok (.iconst 0, 1) := by decide +kernel
theorem dX5_goes_285 : decode cX5_goes 285 = .ok (.istore 8, 2) := by decide +kernel
theorem dX5_goes_287 : decode cX5_goes 287 = .ok (.iload 8, 2) := by decide +kernel
theorem dX5_goes_289 : decode cX5_goes 289 = .ok (.bipush 6, 2) := by decide +kernel
theorem dX5_goes_291 : decode cX5_goes 291 = .ok (.if_icmp .ge 124, 3) := by decide +kernel
theorem dX5_goes_294 : decode cX5_goes 294 = .ok (.iconst 0, 1) := by decide +kernel
theorem dX5_goes_295 : decode cX5_goes 295 = .ok (.istore 9, 2) := by decide +kernel
theorem dX5_goes_297 : decode cX5_goes 297 = .ok (.iload 9, 2) := by decide +kernel
theorem dX5_goes_299 : decode cX5_goes 299 = .ok (.bipush 8, 2) := by decide +kernel
theorem dX5_goes_301 : decode cX5_goes 301 = .ok (.if_icmp .ge 108, 3) := by decide +kernel
theorem dX5_goes_304 : decode cX5_goes 304 = .ok (.aload_n 0, 1) := by decide +kernel
theorem dX5_goes_305 : decode cX5_goes 305 = .ok (.iload 9, 2) := by decide +kernel
theorem dX5_goes_307 : decode cX5_goes 307 = .ok (.iload 8, 2) := by decide +kernel
theorem dX5_goes_309 : decode cX5_goes 309 = .ok (.invokevirtual 37, 3) := by decide +kernel
theorem dX5_goes_312 : decode cX5_goes 312 = .ok (.ifCond .ne 6, 3) := by decide +kernel
theorem dX5_goes_315 : decode cX5_goes 315 = .ok (.goto 88, 3) := by decide +kernel
theorem dX5_goes_318 : decode cX5_goes 318 = .ok (.aload 7, 2) := by decide +kernel
theorem dX5_goes_320 : decode cX5_goes 320 = .ok (.iload 8, 2) := by decide +kernel
theorem dX5_goes_322 : decode cX5_goes 322 = .ok (.aaload, 1) := by decide +kernel
theorem dX5_goes_323 : decode cX5_goes 323 = .ok (.iload 9, 2) := by decide +kernel
theorem dX5_goes_325 : decode cX5_goes 325 = .ok (.iaload, 1) := by decide +kernel
theorem dX5_goes_326 : decode cX5_goes 326 = .ok (.iconst 0, 1) := by decide +kernel
theorem dX5_goes_327 : decode cX5_goes 327 = .ok (.iload_n 1, 1) := by decide +kernel
theorem dX5_goes_328 : decode cX5_goes 328 = .ok (.sipush 300, 3) := by decide +kernel
theorem dX5_goes_331 : decode cX5_goes 331 = .ok (.iadd, 1) := by decide +kernel
theorem dX5_goes_332 : decode cX5_goes 332 = .ok (.invokestatic 75, 3) := by decide +kernel
theorem dX5_goes_335 : decode cX5_goes 335 = .ok (.imul, 1) := by decide +kernel
theorem dX5_goes_336 : decode cX5_goes 336 = .ok (.ldc 119, 2) := by decide +kernel
theorem dX5_goes_338 : decode cX5_goes 338 = .ok (.idiv, 1) := by decide +kernel
theorem dX5_goes_339 : decode cX5_goes 339 = .ok (.istore 10, 2) := by decide +kernel
theorem dX5_goes_341 : decode cX5_goes 341 = .ok (.aload_n 0, 1) := by decide +kernel
theorem dX5_goes_342 : decode cX5_goes 342 = .ok (.getfield 17, 3) := by decide +kernel
theorem dX5_goes_345 : decode cX5_goes 345 = .ok (.iload 8, 2) := by decide +kernel
theorem dX5_goes_347 : decode cX5_goes 347 = .ok (.aaload, 1) := by decide +kernel
theorem dX5_goes_348 : decode cX5_goes 348 = .ok (.iload 9, 2) := by decide +kernel
theorem dX5_goes_350 : decode cX5_goes 350 = .ok (.aaload, 1) := by decide +kernel
theorem dX5_goes_351 : decode cX5_goes 351 = .ok (.dup, 1) := by decide +kernel
theorem dX5_goes_352 : decode cX5_goes 352 = .ok (.getfield 120, 3) := by decide +kernel
theorem dX5_goes_355 : decode cX5_goes 355 = .ok (.aload_n 0, 1) := by decide +kernel
theorem dX5_goes_356 : decode cX5_goes 356 = .ok (.getfield 17, 3) := by decide +kernel
theorem dX5_goes_359 : decode cX5_goes 359 = .ok (.iload 8, 2) := by decide +kernel
theorem dX5_goes_361 : decode cX5_goes 361 = .ok (.aaload, 1) := by decide +kernel
theorem dX5_goes_362 : decode cX5_goes 362 = .ok (.iload 9, 2) := by decide +kernel
theorem dX5_goes_364 : decode cX5_goes 364 = .ok (.aaload, 1) := by decide +kernel
theorem dX5_goes_365 : decode cX5_goes 365 = .ok (.getfield 71, 3) := by decide +kernel
theorem dX5_goes_368 : decode cX5_goes 368 = .ok (.ifCond .eq 10, 3) := by decide +kernel
theorem dX5_goes_371 : decode cX5_goes 371 = .ok (.iconst 2, 1) := by decide +kernel
theorem dX5_goes_372 : decode cX5_goes 372 = .ok (.iload 10, 2) := by decide +kernel
theorem dX5_goes_374 : decode cX5_goes 374 = .ok (.imul, 1) := by decide +kernel
theorem dX5_goes_375 : decode cX5_goes 375 = .ok (.goto 5, 3) := by decide +kernel
theorem dX5_goes_378 : decode cX5_goes 378 = .ok (.iload 10, 2) := by decide +kernel
theorem dX5_goes_380 : decode cX5_goes 380 = .ok (.iadd, 1) := by decide +kernel
theorem dX5_goes_381 : decode cX5_goes 381 = .ok (.putfield 120, 3) := by decide +kernel
theorem dX5_goes_384 : decode cX5_goes 384 = .ok (.aload_n 0, 1) := by decide +kernel
theorem dX5_goes_385 : decode cX5_goes 385 = .ok (.getfield 17, 3) := by decide +kernel
theorem dX5_goes_388 : decode cX5_goes 388 = .ok (.iload 8, 2) := by decide +kernel
theorem dX5_goes_390 : decode cX5_goes 390 = .ok (.aaload, 1) := by decide +kernel
theorem dX5_goes_391 : decode cX5_goes 391 = .ok (.iload 9, 2) := by decide +kernel
theorem dX5_goes_393 : decode cX5_goes 393 = .ok (.aaload, 1) := by decide +kernel
theorem dX5_goes_394 : decode cX5_goes 394 = .ok (.dup, 1) := by decide +kernel
theorem dX5_goes_395 : decode cX5_goes 395 = .ok (.getfield 62, 3) := by decide +kernel
theorem dX5_goes_398 : decode cX5_goes 398 = .ok (.iconst 1, 1) := by decide +kernel
theorem dX5_goes_399 : decode cX5_goes 399 = .ok (.iadd, 1) := by decide +kernel
theorem dX5_goes_400 : decode cX5_goes 400 = .ok (.putfield 62, 3) := by decide +kernel
theorem dX5_goes_403 : decode cX5_goes 403 = .ok (.iinc 9 1, 3) := by decide +kernel
theorem dX5_goes_406 : decode cX5_goes 406 = .ok (.goto (-109), 3) := by decide +kernel
theorem dX5_goes_409 : decode cX5_goes 409 = .ok (.iinc 8 1, 3) := by decide +kernel
theorem dX5_goes_412 : decode cX5_goes 412 = .ok (.goto (-125), 3) := by decide +kernel
theorem dX5_goes_415 : decode cX5_goes 415 = .ok (.return_, 1) := by decide +kernel
theorem dX5_isOpen_0 : decode cX5_isOpen 0 = .ok (.aload_n 0, 1) := by decide +kernel
theorem dX5_isOpen_1 : decode cX5_isOpen 1 = .ok (.iload_n 1, 1) := by decide +kernel
theorem dX5_isOpen_2 : decode cX5_isOpen 2 = .ok (.iload_n 2, 1) := by decide +kernel
theorem dX5_isOpen_3 : decode cX5_isOpen 3 = .ok (.invokevirtual 84, 3) := by decide +kernel
theorem dX5_isOpen_6 : decode cX5_isOpen 6 = .ok (.astore_n 3, 1) := by decide +kernel
theorem dX5_isOpen_7 : decode cX5_isOpen 7 = .ok (.aload_n 0, 1) := by decide +kernel
theorem dX5_isOpen_8 : decode cX5_isOpen 8 = .ok (.getfield 3, 3) := by decide +kernel
theorem dX5_isOpen_11 : decode cX5_isOpen 11 = .ok (.aload_n 0, 1) := by decide +kernel
theorem dX5_isOpen_12 : decode cX5_isOpen 12 = .ok (.getfield 3, 3) := by decide +kernel
theorem dX5_isOpen_15 : decode cX5_isOpen 15 = .ok (.getfield 103, 3) := by decide +kernel
theorem dX5_isOpen_18 : decode cX5_isOpen 18 = .ok (.invokevirtual 123, 3) := by decide +kernel
theorem dX5_isOpen_21 : decode cX5_isOpen 21 = .ok (.istore 4, 2) := by decide +kernel
theorem dX5_isOpen_23 : decode cX5_isOpen 23 = .ok (.aload_n 0, 1) := by decide +kernel
theorem dX5_isOpen_24 : decode cX5_isOpen 24 = .ok (.invokevirtual 126, 3) := by decide +kernel
theorem dX5_isOpen_27 : decode cX5_isOpen 27 = .ok (.ifCond .le 7, 3) := by decide +kernel
theorem dX5_isOpen_30 : decode cX5_isOpen 30 = .ok (.iconst 1, 1) := by decide +kernel
theorem dX5_isOpen_31 : decode cX5_isOpen 31 = .ok (.goto 4, 3) := by decide +kernel
theorem dX5_isOpen_34 : decode cX5_isOpen 34 = .ok (.iconst 0, 1) := by decide +kernel
theorem dX5_isOpen_35 : decode cX5_isOpen 35 = .ok (.istore 5, 2) := by decide +kernel
theorem dX5_isOpen_37 : decode cX5_isOpen 37 = .ok (.iconst 0, 1) := by decide +kernel
theorem dX5_isOpen_38 : decode cX5_isOpen 38 = .ok (.istore 6, 2) := by decide +kernel
theorem dX5_isOpen_40 : decode cX5_isOpen 40 = .ok (.iload 6, 2) := by decide +kernel
theorem dX5_isOpen_42 : decode cX5_isOpen 42 = .ok (.bipush 6, 2) := by decide +kernel
theorem dX5_isOpen_44 : decode cX5_isOpen 44 = .ok (.if_icmp .ge 87, 3) := by decide +kernel
theorem dX5_isOpen_47 : decode cX5_isOpen 47 = .ok (.iconst 0, 1) := by decide +kernel
theorem dX5_isOpen_48 : decode cX5_isOpen 48 = .ok (.istore 7, 2) := by decide +kernel
theorem dX5_isOpen_50 : decode cX5_isOpen 50 = .ok (.iload 7, 2) := by decide +kernel
theorem dX5_isOpen_52 : decode cX5_isOpen 52 = .ok (.bipush 8, 2) := by decide +kernel
theorem dX5_isOpen_54 : decode cX5_isOpen 54 = .ok (.if_icmp .ge 71, 3) := by decide +kernel
theorem dX5_isOpen_57 : decode cX5_isOpen 57 = .ok (.iload 5, 2) := by decide +kernel
theorem dX5_isOpen_59 : decode cX5_isOpen 59 = .ok (.aload_n 0, 1) := by decide +kernel
theorem dX5_isOpen_60 : decode cX5_isOpen 60 = .ok (.iload 7, 2) := by decide +kernel
theorem dX5_isOpen_62 : decode cX5_isOpen 62 = .ok (.iload 6, 2) := by decide +kernel
theorem dX5_isOpen_64 : decode cX5_isOpen 64 = .ok (.invokevirtual 37, 3) := by decide +kernel
theorem dX5_isOpen_67 : decode cX5_isOpen 67 = .ok (.ifCond .eq 44, 3) := by decide +kernel
theorem dX5_isOpen_70 : decode cX5_isOpen 70 = .ok (.aload_n 0, 1) := by decide +kernel
theorem dX5_isOpen_71 : decode cX5_isOpen 71 = .ok (.getfield 17, 3) := by decide +kernel
theorem dX5_isOpen_74 : decode cX5_isOpen 74 = .ok (.iload 6, 2) := by decide +kernel
theorem dX5_isOpen_76 : decode cX5_isOpen 76 = .ok (.aaload, 1) := by decide +kernel
theorem dX5_isOpen_77 : decode cX5_isOpen 77 = .ok (.iload 7, 2) := by decide +kernel
theorem dX5_isOpen_79 : decode cX5_isOpen 79 = .ok (.aaload, 1) := by decide +kernel
theorem dX5_isOpen_80 : decode cX5_isOpen 80 = .ok (.getfield 120, 3) := by decide +kernel
theorem dX5_isOpen_83 : decode cX5_isOpen 83 = .ok (.sipush 200, 3) := by decide +kernel
theorem dX5_isOpen_86 : decode cX5_isOpen 86 = .ok (.if_icmp .ge 29, 3) := by decide +kernel
theorem dX5_isOpen_89 : decode cX5_isOpen 89 = .ok (.iconst 2, 1) := by decide +kernel
theorem dX5_isOpen_90 : decode cX5_isOpen 90 = .ok (.aload_n 3, 1) := by decide +kernel
theorem dX5_isOpen_91 : decode cX5_isOpen 91 = .ok (.iload 6, 2) := by decide +kernel
theorem dX5_isOpen_93 : decode cX5_isOpen 93 = .ok (.aaload, 1) := by decide +kernel
theorem dX5_isOpen_94 : decode cX5_isOpen 94 = .ok (.iload 7, 2) := by decide +kernel
theorem dX5_isOpen_96 : decode cX5_isOpen 96 = .ok (.iaload, 1) := by decide +kernel
theorem dX5_isOpen_97 : decode cX5_isOpen 97 = .ok (.imul, 1) := by decide +kernel
theorem dX5_isOpen_98 : decode cX5_isOpen 98 = .ok (.aload_n 0, 1) := by decide +kernel
theorem dX5_isOpen_99 : decode cX5_isOpen 99 = .ok (.iload 7, 2) := by decide +kernel
theorem dX5_isOpen_101 : decode cX5_isOpen 101 = .ok (.iload 6, 2) := by decide +kernel
theorem dX5_isOpen_103 : decode cX5_isOpen 103 = .ok (.iload 4, 2) := by decide +kernel
theorem dX5_isOpen_105 : decode cX5_isOpen 105 = .ok (.invokevirtual 91, 3) := by decide +kernel
theorem dX5_isOpen_108 : decode cX5_isOpen 108 = .ok (.if_icmp .gt 7, 3) := by decide +kernel
theorem dX5_isOpen_111 : decode cX5_isOpen 111 = .ok (.iconst 1, 1) := by decide +kernel
theorem dX5_isOpen_112 : decode cX5_isOpen 112 = .ok (.goto 4, 3) := by decide +kernel
theorem dX5_isOpen_115 : decode cX5_isOpen 115 = .ok (.iconst 0, 1) := by decide +kernel
theorem dX5_isOpen_116 : decode cX5_isOpen 116 = .ok (.iand, 1) := by decide +kernel
theorem dX5_isOpen_117 : decode cX5_isOpen 117 = .ok (.istore 5, 2) := by decide +kernel
theorem dX5_isOpen_119 : decode cX5_isOpen 119 = .ok (.iinc 7 1, 3) := by decide +kernel
theorem dX5_isOpen_122 : decode cX5_isOpen 122 = .ok (.goto (-72), 3) := by decide +kernel
theorem dX5_isOpen_125 : decode cX5_isOpen 125 = .ok (.iinc 6 1, 3) := by decide +kernel
theorem dX5_isOpen_128 : decode cX5_isOpen 128 = .ok (.goto (-88), 3) := by decide +kernel
theorem dX5_isOpen_131 : decode cX5_isOpen 131 = .ok (.iload 5, 2) := by decide +kernel
theorem dX5_isOpen_133 : decode cX5_isOpen 133 = .ok (.ireturn, 1) := by decide +kernel
theorem dJx00060_init_a7421_0 : decode cJx00060_init_a7421 0 = .ok (.aload_n 0, 1) := by decide +kernel
theorem dJx00060_init_a7421_1 : decode cJx00060_init_a7421 1 = .ok (.aload_n 1, 1) := by decide +kernel
theorem dJx00060_init_a7421_2 : decode cJx00060_init_a7421 2 = .ok (.invokespecial 7, 3) := by decide +kernel
theorem dJx00060_init_a7421_5 : decode cJx00060_init_a7421 5 = .ok (.return_, 1) := by decide +kernel
theorem dJxf58ca_isNaN_12338_0 : decode cJxf58ca_isNaN_12338 0 = .ok (.fload_n 0, 1) := by decide +kernel
theorem dJxf58ca_isNaN_12338_1 : decode cJxf58ca_isNaN_12338 1 = .ok (.fload_n 0, 1) := by decide +kernel
theorem dJxf58ca_isNaN_12338_2 : decode cJxf58ca_isNaN_12338 2 = .ok (.fcmp .l, 1) := by decide +kernel
theorem dJxf58ca_isNaN_12338_3 : decode cJxf58ca_isNaN_12338 3 = .ok (.ifCond .eq 7, 3) := by decide +kernel
theorem dJxf58ca_isNaN_12338_6 : decode cJxf58ca_isNaN_12338 6 = .ok (.iconst 1, 1) := by decide +kernel
theorem dJxf58ca_isNaN_12338_7 : decode cJxf58ca_isNaN_12338 7 = .ok (.goto 4, 3) := by decide +kernel
theorem dJxf58ca_isNaN_12338_10 : decode cJxf58ca_isNaN_12338 10 = .ok (.iconst 0, 1) := by decide +kernel
theorem dJxf58ca_isNaN_12338_11 : decode cJxf58ca_isNaN_12338 11 = .ok (.ireturn, 1) := by decide +kernel
theorem dJxf58ca_floatToIntBits_5c35a_0 : decode cJxf58ca_floatToIntBits_5c35a 0 = .ok (.fload_n 0, 1) := by decide +kernel
theorem dJxf58ca_floatToIntBits_5c35a_1 : decode cJxf58ca_floatToIntBits_5c35a 1 = .ok (.invokestatic 59, 3) := by decide +kernel
theorem dJxf58ca_floatToIntBits_5c35a_4 : decode cJxf58ca_floatToIntBits_5c35a 4 = .ok (.ifCond .ne 8, 3) := by decide +kernel
theorem dJxf58ca_floatToIntBits_5c35a_7 : decode cJxf58ca_floatToIntBits_5c35a 7 = .ok (.fload_n 0, 1) := by decide +kernel
theorem dJxf58ca_floatToIntBits_5c35a_8 : decode cJxf58ca_floatToIntBits_5c35a 8 = .ok (.invokestatic 74, 3) := by decide +kernel
theorem dJxf58ca_floatToIntBits_5c35a_11 : decode cJxf58ca_floatToIntBits_5c35a 11 = .ok (.ireturn, 1) := by decide +kernel
theorem dJxf58ca_floatToIntBits_5c35a_12 : decode cJxf58ca_floatToIntBits_5c35a 12 = .ok (.ldc 77, 2) := by decide +kernel
theorem dJxf58ca_floatToIntBits_5c35a_14 : decode cJxf58ca_floatToIntBits_5c35a 14 = .ok (.ireturn, 1) := by decide +kernel
theorem dJ9_max_7cf53_0 : decode cJ9_max_7cf53 0 = .ok (.iload_n 0, 1) := by decide +kernel
theorem dJ9_max_7cf53_1 : decode cJ9_max_7cf53 1 = .ok (.iload_n 1, 1) := by decide +kernel
theorem dJ9_max_7cf53_2 : decode cJ9_max_7cf53 2 = .ok (.if_icmp .lt 7, 3) := by decide +kernel
theorem dJ9_max_7cf53_5 : decode cJ9_max_7cf53 5 = .ok (.iload_n 0, 1) := by decide +kernel
theorem dJ9_max_7cf53_6 : decode cJ9_max_7cf53 6 = .ok (.goto 4, 3) := by decide +kernel
theorem dJ9_max_7cf53_9 : decode cJ9_max_7cf53 9 = .ok (.iload_n 1, 1) := by decide +kernel
theorem dJ9_max_7cf53_10 : decode cJ9_max_7cf53 10 = .ok (.ireturn, 1) := by decide +kernel
theorem dJ9_min_7cf53_0 : decode cJ9_min_7cf53 0 = .ok (.iload_n 0, 1) := by decide +kernel
theorem dJ9_min_7cf53_1 : decode cJ9_min_7cf53 1 = .ok (.iload_n 1, 1) := by decide +kernel
theorem dJ9_min_7cf53_2 : decode cJ9_min_7cf53 2 = .ok (.if_icmp .gt 7, 3) := by decide +kernel
theorem dJ9_min_7cf53_5 : decode cJ9_min_7cf53 5 = .ok (.iload_n 0, 1) := by decide +kernel
theorem dJ9_min_7cf53_6 : decode cJ9_min_7cf53 6 = .ok (.goto 4, 3) := by decide +kernel
theorem dJ9_min_7cf53_9 : decode cJ9_min_7cf53 9 = .ok (.iload_n 1, 1) := by decide +kernel
theorem dJ9_min_7cf53_10 : decode cJ9_min_7cf53 10 = .ok (.ireturn, 1) := by decide +kernel
theorem dJx35411_next_0502b_0 : decode cJx35411_next_0502b 0 = .ok (.aload_n 0, 1) := by decide +kernel
theorem dJx35411_next_0502b_1 : decode cJx35411_next_0502b 1 = .ok (.invokevirtual 31, 3) := by decide +kernel
theorem dJx35411_next_0502b_4 : decode cJx35411_next_0502b 4 = .ok (.aload_n 0, 1) := by decide +kernel
theorem dJx35411_next_0502b_5 : decode cJx35411_next_0502b 5 = .ok (.getfield 25, 3) := by decide +kernel
theorem dJx35411_next_0502b_8 : decode cJx35411_next_0502b 8 = .ok (.istore_n 1, 1) := by decide +kernel
theorem dJx35411_next_0502b_9 : decode cJx35411_next_0502b 9 = .ok (.iload_n 1, 1) := by decide +kernel
theorem dJx35411_next_0502b_10 : decode cJx35411_next_0502b 10 = .ok (.aload_n 0, 1) := by decide +kernel
theorem dJx35411_next_0502b_11 : decode cJx35411_next_0502b 11 = .ok (.getfield 1, 3) := by decide +kernel
theorem dJx35411_next_0502b_14 : decode cJx35411_next_0502b 14 = .ok (.getfield 28, 3) := by decide +kernel
theorem dJx35411_next_0502b_17 : decode cJx35411_next_0502b 17 = .ok (.if_icmp .lt 11, 3) := by decide +kernel
theorem dJx35411_next_0502b_20 : decode cJx35411_next_0502b 20 = .ok (.new 34, 3) := by decide +kernel
theorem dJx35411_next_0502b_23 : decode cJx35411_next_0502b 23 = .ok (.dup, 1) := by decide +kernel
theorem dJx35411_next_0502b_24 : decode cJx35411_next_0502b 24 = .ok (.invokespecial 36, 3) := by decide +kernel
theorem dJx35411_next_0502b_27 : decode cJx35411_next_0502b 27 = .ok (.athrow, 1) := by decide +kernel
theorem dJx35411_next_0502b_28 : decode cJx35411_next_0502b 28 = .ok (.aload_n 0, 1) := by decide +kernel
theorem dJx35411_next_0502b_29 : decode cJx35411_next_0502b 29 = .ok (.getfield 1, 3) := by decide +kernel
theorem dJx35411_next_0502b_32 : decode cJx35411_next_0502b 32 = .ok (.getfield 37, 3) := by decide +kernel
theorem dJx35411_next_0502b_35 : decode cJx35411_next_0502b 35 = .ok (.astore_n 2, 1) := by decide +kernel
theorem dJx35411_next_0502b_36 : decode cJx35411_next_0502b 36 = .ok (.iload_n 1, 1) := by decide +kernel
theorem dJx35411_next_0502b_37 : decode cJx35411_next_0502b 37 = .ok (.aload_n 2, 1) := by decide +kernel
theorem dJx35411_next_0502b_38 : decode cJx35411_next_0502b 38 = .ok (.arraylength, 1) := by decide +kernel
theorem dJx35411_next_0502b_39 : decode cJx35411_next_0502b 39 = .ok (.if_icmp .lt 11, 3) := by decide +kernel
theorem dJx35411_next_0502b_42 : decode cJx35411_next_0502b 42 = .ok (.new 41, 3) := by decide +kernel
theorem dJx35411_next_0502b_45 : decode cJx35411_next_0502b 45 = .ok (.dup, 1) := by decide +kernel
theorem dJx35411_next_0502b_46 : decode cJx35411_next_0502b 46 = .ok (.invokespecial 43, 3) := by decide +kernel
theorem dJx35411_next_0502b_49 : decode cJx35411_next_0502b 49 = .ok (.athrow, 1) := by decide +kernel
theorem dJx35411_next_0502b_50 : decode cJx35411_next_0502b 50 = .ok (.aload_n 0, 1) := by decide +kernel
theorem dJx35411_next_0502b_51 : decode cJx35411_next_0502b 51 = .ok (.iload_n 1, 1) := by decide +kernel
theorem dJx35411_next_0502b_52 : decode cJx35411_next_0502b 52 = .ok (.iconst 1, 1) := by decide +kernel
theorem dJx35411_next_0502b_53 : decode cJx35411_next_0502b 53 = .ok (.iadd, 1) := by decide +kernel
theorem dJx35411_next_0502b_54 : decode cJx35411_next_0502b 54 = .ok (.putfield 25, 3) := by decide +kernel
theorem dJx35411_next_0502b_57 : decode cJx35411_next_0502b 57 = .ok (.aload_n 2, 1) := by decide +kernel
theorem dJx35411_next_0502b_58 : decode cJx35411_next_0502b 58 = .ok (.aload_n 0, 1) := by decide +kernel
theorem dJx35411_next_0502b_59 : decode cJx35411_next_0502b 59 = .ok (.iload_n 1, 1) := by decide +kernel
theorem dJx35411_next_0502b_60 : decode cJx35411_next_0502b 60 = .ok (.dup_x1, 1) := by decide +kernel
theorem dJx35411_next_0502b_61 : decode cJx35411_next_0502b 61 = .ok (.putfield 13, 3) := by decide +kernel
theorem dJx35411_next_0502b_64 : decode cJx35411_next_0502b 64 = .ok (.aaload, 1) := by decide +kernel
theorem dJx35411_next_0502b_65 : decode cJx35411_next_0502b 65 = .ok (.areturn, 1) := by decide +kernel
theorem dJx35411_checkForComodification_da8c8_0 : decode cJx35411_checkForComodification_da8c8 0 = .ok (.aload_n 0, 1) := by decide +kernel
theorem dJx35411_checkForComodification_da8c8_1 : decode cJx35411_checkForComodification_da8c8 1 = .ok (.getfield 1, 3) := by decide +kernel
theorem dJx35411_checkForComodification_da8c8_4 : decode cJx35411_checkForComodification_da8c8 4 = .ok (.getfield 17, 3) := by decide +kernel
theorem dJx35411_checkForComodification_da8c8_7 : decode cJx35411_checkForComodification_da8c8 7 = .ok (.aload_n 0, 1) := by decide +kernel
theorem dJx35411_checkForComodification_da8c8_8 : decode cJx35411_checkForComodification_da8c8 8 = .ok (.getfield 22, 3) := by decide +kernel
theorem dJx35411_checkForComodification_da8c8_11 : decode cJx35411_checkForComodification_da8c8 11 = .ok (.if_icmp .eq 11, 3) := by decide +kernel
theorem dJx35411_checkForComodification_da8c8_14 : decode cJx35411_checkForComodification_da8c8 14 = .ok (.new 41, 3) := by decide +kernel
theorem dJx35411_checkForComodification_da8c8_17 : decode cJx35411_checkForComodification_da8c8 17 = .ok (.dup, 1) := by decide +kernel
theorem dJx35411_checkForComodification_da8c8_18 : decode cJx35411_checkForComodification_da8c8 18 = .ok (.invokespecial 43, 3) := by decide +kernel
theorem dJx35411_checkForComodification_da8c8_21 : decode cJx35411_checkForComodification_da8c8 21 = .ok (.athrow, 1) := by decide +kernel
theorem dJx35411_checkForComodification_da8c8_22 : decode cJx35411_checkForComodification_da8c8 22 = .ok (.return_, 1) := by decide +kernel
theorem dJx4a65c_elementData_915e3_0 : decode cJx4a65c_elementData_915e3 0 = .ok (.aload_n 0, 1) := by decide +kernel
theorem dJx4a65c_elementData_915e3_1 : decode cJx4a65c_elementData_915e3 1 = .ok (.getfield 9, 3) := by decide +kernel
theorem dJx4a65c_elementData_915e3_4 : decode cJx4a65c_elementData_915e3 4 = .ok (.iload_n 1, 1) := by decide +kernel
theorem dJx4a65c_elementData_915e3_5 : decode cJx4a65c_elementData_915e3 5 = .ok (.aaload, 1) := by decide +kernel
theorem dJx4a65c_elementData_915e3_6 : decode cJx4a65c_elementData_915e3 6 = .ok (.areturn, 1) := by decide +kernel
theorem dJx4a65c_get_915e3_0 : decode cJx4a65c_get_915e3 0 = .ok (.iload_n 1, 1) := by decide +kernel
theorem dJx4a65c_get_915e3_1 : decode cJx4a65c_get_915e3 1 = .ok (.aload_n 0, 1) := by decide +kernel
theorem dJx4a65c_get_915e3_2 : decode cJx4a65c_get_915e3 2 = .ok (.getfield 48, 3) := by decide +kernel
theorem dJx4a65c_get_915e3_5 : decode cJx4a65c_get_915e3 5 = .ok (.invokestatic 118, 3) := by decide +kernel
theorem dJx4a65c_get_915e3_8 : decode cJx4a65c_get_915e3 8 = .ok (.pop, 1) := by decide +kernel
theorem dJx4a65c_get_915e3_9 : decode cJx4a65c_get_915e3 9 = .ok (.aload_n 0, 1) := by decide +kernel
theorem dJx4a65c_get_915e3_10 : decode cJx4a65c_get_915e3 10 = .ok (.iload_n 1, 1) := by decide +kernel
theorem dJx4a65c_get_915e3_11 : decode cJx4a65c_get_915e3 11 = .ok (.invokevirtual 123, 3) := by decide +kernel
theorem dJx4a65c_get_915e3_14 : decode cJx4a65c_get_915e3 14 = .ok (.areturn, 1) := by decide +kernel
theorem dJ7_copyOf_1904c_0 : decode cJ7_copyOf_1904c 0 = .ok (.aload_n 0, 1) := by decide +kernel
theorem dJ7_copyOf_1904c_1 : decode cJ7_copyOf_1904c 1 = .ok (.iload_n 1, 1) := by decide +kernel
theorem dJ7_copyOf_1904c_2 : decode cJ7_copyOf_1904c 2 = .ok (.aload_n 0, 1) := by decide +kernel
theorem dJ7_copyOf_1904c_3 : decode cJ7_copyOf_1904c 3 = .ok (.invokevirtual 86, 3) := by decide +kernel
theorem dJ7_copyOf_1904c_6 : decode cJ7_copyOf_1904c 6 = .ok (.invokestatic 300, 3) := by decide +kernel
theorem dJ7_copyOf_1904c_9 : decode cJ7_copyOf_1904c 9 = .ok (.areturn, 1) := by decide +kernel
theorem dJ7_copyOf_6403c_0 : decode cJ7_copyOf_6403c 0 = .ok (.aload_n 2, 1) := by decide +kernel
theorem dJ7_copyOf_6403c_1 : decode cJ7_copyOf_6403c 1 = .ok (.ldc 110, 2) := by decide +kernel
theorem dJ7_copyOf_6403c_3 : decode cJ7_copyOf_6403c 3 = .ok (.if_acmp .ne 10, 3) := by decide +kernel
theorem dJ7_copyOf_6403c_6 : decode cJ7_copyOf_6403c 6 = .ok (.iload_n 1, 1) := by decide +kernel
theorem dJ7_copyOf_6403c_7 : decode cJ7_copyOf_6403c 7 = .ok (.anewarray 2, 3) := by decide +kernel
theorem dJ7_copyOf_6403c_10 : decode cJ7_copyOf_6403c 10 = .ok (.goto 14, 3) := by decide +kernel
theorem dJ7_copyOf_6403c_13 : decode cJ7_copyOf_6403c 13 = .ok (.aload_n 2, 1) := by decide +kernel
theorem dJ7_copyOf_6403c_14 : decode cJ7_copyOf_6403c 14 = .ok (.invokevirtual 90, 3) := by decide +kernel
theorem dJ7_copyOf_6403c_17 : decode cJ7_copyOf_6403c 17 = .ok (.iload_n 1, 1) := by decide +kernel
theorem dJ7_copyOf_6403c_18 : decode cJ7_copyOf_6403c 18 = .ok (.invokestatic 95, 3) := by decide +kernel
theorem dJ7_copyOf_6403c_21 : decode cJ7_copyOf_6403c 21 = .ok (.checkcast 110, 3) := by decide +kernel
theorem dJ7_copyOf_6403c_24 : decode cJ7_copyOf_6403c 24 = .ok (.astore_n 3, 1) := by decide +kernel
theorem dJ7_copyOf_6403c_25 : decode cJ7_copyOf_6403c 25 = .ok (.aload_n 0, 1) := by decide +kernel
theorem dJ7_copyOf_6403c_26 : decode cJ7_copyOf_6403c 26 = .ok (.iconst 0, 1) := by decide +kernel
theorem dJ7_copyOf_6403c_27 : decode cJ7_copyOf_6403c 27 = .ok (.aload_n 3, 1) := by decide +kernel
theorem dJ7_copyOf_6403c_28 : decode cJ7_copyOf_6403c 28 = .ok (.iconst 0, 1) := by decide +kernel
theorem dJ7_copyOf_6403c_29 : decode cJ7_copyOf_6403c 29 = .ok (.aload_n 0, 1) := by decide +kernel
theorem dJ7_copyOf_6403c_30 : decode cJ7_copyOf_6403c 30 = .ok (.arraylength, 1) := by decide +kernel
theorem dJ7_copyOf_6403c_31 : decode cJ7_copyOf_6403c 31 = .ok (.iload_n 1, 1) := by decide +kernel
theorem dJ7_copyOf_6403c_32 : decode cJ7_copyOf_6403c 32 = .ok (.invokestatic 304, 3) := by decide +kernel
theorem dJ7_copyOf_6403c_35 : decode cJ7_copyOf_6403c 35 = .ok (.invokestatic 150, 3) := by decide +kernel
theorem dJ7_copyOf_6403c_38 : decode cJ7_copyOf_6403c 38 = .ok (.aload_n 3, 1) := by decide +kernel
theorem dJ7_copyOf_6403c_39 : decode cJ7_copyOf_6403c 39 = .ok (.areturn, 1) := by decide +kernel
theorem dJ15_checkIndex_7cf53_0 : decode cJ15_checkIndex_7cf53 0 = .ok (.iload_n 0, 1) := by decide +kernel
theorem dJ15_checkIndex_7cf53_1 : decode cJ15_checkIndex_7cf53 1 = .ok (.iload_n 1, 1) := by decide +kernel
theorem dJ15_checkIndex_7cf53_2 : decode cJ15_checkIndex_7cf53 2 = .ok (.aconst_null, 1) := by decide +kernel
theorem dJ15_checkIndex_7cf53_3 : decode cJ15_checkIndex_7cf53 3 = .ok (.invokestatic 105, 3) := by decide +kernel
theorem dJ15_checkIndex_7cf53_6 : decode cJ15_checkIndex_7cf53 6 = .ok (.ireturn, 1) := by decide +kernel
theorem dJ8_newLength_cabcc_0 : decode cJ8_newLength_cabcc 0 = .ok (.iload_n 0, 1) := by decide +kernel
theorem dJ8_newLength_cabcc_1 : decode cJ8_newLength_cabcc 1 = .ok (.iload_n 1, 1) := by decide +kernel
theorem dJ8_newLength_cabcc_2 : decode cJ8_newLength_cabcc 2 = .ok (.iload_n 2, 1) := by decide +kernel
theorem dJ8_newLength_cabcc_3 : decode cJ8_newLength_cabcc 3 = .ok (.invokestatic 194, 3) := by decide +kernel
theorem dJ8_newLength_cabcc_6 : decode cJ8_newLength_cabcc 6 = .ok (.iadd, 1) := by decide +kernel
theorem dJ8_newLength_cabcc_7 : decode cJ8_newLength_cabcc 7 = .ok (.istore_n 3, 1) := by decide +kernel
theorem dJ8_newLength_cabcc_8 : decode cJ8_newLength_cabcc 8 = .ok (.iconst 0, 1) := by decide +kernel
theorem dJ8_newLength_cabcc_9 : decode cJ8_newLength_cabcc 9 = .ok (.iload_n 3, 1) := by decide +kernel
theorem dJ8_newLength_cabcc_10 : decode cJ8_newLength_cabcc 10 = .ok (.if_icmp .ge 11, 3) := by decide +kernel
theorem dJ8_newLength_cabcc_13 : decode cJ8_newLength_cabcc 13 = .ok (.iload_n 3, 1) := by decide +kernel
theorem dJ8_newLength_cabcc_14 : decode cJ8_newLength_cabcc 14 = .ok (.ldc 200, 2) := by decide +kernel
theorem dJ8_newLength_cabcc_16 : decode cJ8_newLength_cabcc 16 = .ok (.if_icmp .gt 5, 3) := by decide +kernel
theorem dJ8_newLength_cabcc_19 : decode cJ8_newLength_cabcc 19 = .ok (.iload_n 3, 1) := by decide +kernel
theorem dJ8_newLength_cabcc_20 : decode cJ8_newLength_cabcc 20 = .ok (.ireturn, 1) := by decide +kernel
theorem dJ8_newLength_cabcc_21 : decode cJ8_newLength_cabcc 21 = .ok (.iload_n 0, 1) := by decide +kernel
theorem dJ8_newLength_cabcc_22 : decode cJ8_newLength_cabcc 22 = .ok (.iload_n 1, 1) := by decide +kernel
theorem dJ8_newLength_cabcc_23 : decode cJ8_newLength_cabcc 23 = .ok (.invokestatic 201, 3) := by decide +kernel
theorem dJ8_newLength_cabcc_26 : decode cJ8_newLength_cabcc 26 = .ok (.ireturn, 1) := by decide +kernel
theorem dJ8_hugeLength_7cf53_0 : decode cJ8_hugeLength_7cf53 0 = .ok (.iload_n 0, 1) := by decide +kernel
theorem dJ8_hugeLength_7cf53_1 : decode cJ8_hugeLength_7cf53 1 = .ok (.iload_n 1, 1) := by decide +kernel
theorem dJ8_hugeLength_7cf53_2 : decode cJ8_hugeLength_7cf53 2 = .ok (.iadd, 1) := by decide +kernel
theorem dJ8_hugeLength_7cf53_3 : decode cJ8_hugeLength_7cf53 3 = .ok (.istore_n 2, 1) := by decide +kernel
theorem dJ8_hugeLength_7cf53_4 : decode cJ8_hugeLength_7cf53 4 = .ok (.iload_n 2, 1) := by decide +kernel
theorem dJ8_hugeLength_7cf53_5 : decode cJ8_hugeLength_7cf53 5 = .ok (.ifCond .ge 44, 3) := by decide +kernel
theorem dJ8_hugeLength_7cf53_8 : decode cJ8_hugeLength_7cf53 8 = .ok (.new 204, 3) := by decide +kernel
theorem dJ8_hugeLength_7cf53_11 : decode cJ8_hugeLength_7cf53 11 = .ok (.dup, 1) := by decide +kernel
theorem dJ8_hugeLength_7cf53_12 : decode cJ8_hugeLength_7cf53 12 = .ok (.new 89, 3) := by decide +kernel
theorem dJ8_hugeLength_7cf53_15 : decode cJ8_hugeLength_7cf53 15 = .ok (.dup, 1) := by decide +kernel
theorem dJ8_hugeLength_7cf53_16 : decode cJ8_hugeLength_7cf53 16 = .ok (.invokespecial 91, 3) := by decide +kernel
theorem dJ8_hugeLength_7cf53_19 : decode cJ8_hugeLength_7cf53 19 = .ok (.ldc 206, 2) := by decide +kernel
theorem dJ8_hugeLength_7cf53_21 : decode cJ8_hugeLength_7cf53 21 = .ok (.invokevirtual 94, 3) := by decide +kernel
theorem dJ8_hugeLength_7cf53_24 : decode cJ8_hugeLength_7cf53 24 = .ok (.iload_n 0, 1) := by decide +kernel
theorem dJ8_hugeLength_7cf53_25 : decode cJ8_hugeLength_7cf53 25 = .ok (.invokevirtual 98, 3) := by decide +kernel
theorem dJ8_hugeLength_7cf53_28 : decode cJ8_hugeLength_7cf53 28 = .ok (.ldc 208, 2) := by decide +kernel
theorem dJ8_hugeLength_7cf53_30 : decode cJ8_hugeLength_7cf53 30 = .ok (.invokevirtual 94, 3) := by decide +kernel
theorem dJ8_hugeLength_7cf53_33 : decode cJ8_hugeLength_7cf53 33 = .ok (.iload_n 1, 1) := by decide +kernel
theorem dJ8_hugeLength_7cf53_34 : decode cJ8_hugeLength_7cf53 34 = .ok (.invokevirtual 98, 3) := by decide +kernel
theorem dJ8_hugeLength_7cf53_37 : decode cJ8_hugeLength_7cf53 37 = .ok (.ldc 210, 2) := by decide +kernel
theorem dJ8_hugeLength_7cf53_39 : decode cJ8_hugeLength_7cf53 39 = .ok (.invokevirtual 94, 3) := by decide +kernel
theorem dJ8_hugeLength_7cf53_42 : decode cJ8_hugeLength_7cf53 42 = .ok (.invokevirtual 101, 3) := by decide +kernel
theorem dJ8_hugeLength_7cf53_45 : decode cJ8_hugeLength_7cf53 45 = .ok (.invokespecial 212, 3) := by decide +kernel
theorem dJ8_hugeLength_7cf53_48 : decode cJ8_hugeLength_7cf53 48 = .ok (.athrow, 1) := by decide +kernel
theorem dJ8_hugeLength_7cf53_49 : decode cJ8_hugeLength_7cf53 49 = .ok (.iload_n 2, 1) := by decide +kernel
theorem dJ8_hugeLength_7cf53_50 : decode cJ8_hugeLength_7cf53 50 = .ok (.ldc 200, 2) := by decide +kernel
theorem dJ8_hugeLength_7cf53_52 : decode cJ8_hugeLength_7cf53 52 = .ok (.if_icmp .gt 6, 3) := by decide +kernel
theorem dJ8_hugeLength_7cf53_55 : decode cJ8_hugeLength_7cf53 55 = .ok (.ldc 200, 2) := by decide +kernel
theorem dJ8_hugeLength_7cf53_57 : decode cJ8_hugeLength_7cf53 57 = .ok (.ireturn, 1) := by decide +kernel
theorem dJ8_hugeLength_7cf53_58 : decode cJ8_hugeLength_7cf53 58 = .ok (.iload_n 2, 1) := by decide +kernel
theorem dJ8_hugeLength_7cf53_59 : decode cJ8_hugeLength_7cf53 59 = .ok (.ireturn, 1) := by decide +kernel
theorem dJ3_checkIndex_8e157_0 : decode cJ3_checkIndex_8e157 0 = .ok (.iload_n 0, 1) := by decide +kernel
theorem dJ3_checkIndex_8e157_1 : decode cJ3_checkIndex_8e157 1 = .ok (.ifCond .lt 8, 3) := by decide +kernel
theorem dJ3_checkIndex_8e157_4 : decode cJ3_checkIndex_8e157 4 = .ok (.iload_n 0, 1) := by decide +kernel
theorem dJ3_checkIndex_8e157_5 : decode cJ3_checkIndex_8e157 5 = .ok (.iload_n 1, 1) := by decide +kernel
theorem dJ3_checkIndex_8e157_6 : decode cJ3_checkIndex_8e157 6 = .ok (.if_icmp .lt 10, 3) := by decide +kernel
theorem dJ3_checkIndex_8e157_9 : decode cJ3_checkIndex_8e157 9 = .ok (.aload_n 2, 1) := by decide +kernel
theorem dJ3_checkIndex_8e157_10 : decode cJ3_checkIndex_8e157 10 = .ok (.iload_n 0, 1) := by decide +kernel
theorem dJ3_checkIndex_8e157_11 : decode cJ3_checkIndex_8e157 11 = .ok (.iload_n 1, 1) := by decide +kernel
theorem dJ3_checkIndex_8e157_12 : decode cJ3_checkIndex_8e157 12 = .ok (.invokestatic 95, 3) := by decide +kernel
theorem dJ3_checkIndex_8e157_15 : decode cJ3_checkIndex_8e157 15 = .ok (.athrow, 1) := by decide +kernel
theorem dJ3_checkIndex_8e157_16 : decode cJ3_checkIndex_8e157 16 = .ok (.iload_n 0, 1) := by decide +kernel
theorem dJ3_checkIndex_8e157_17 : decode cJ3_checkIndex_8e157 17 = .ok (.ireturn, 1) := by decide +kernel

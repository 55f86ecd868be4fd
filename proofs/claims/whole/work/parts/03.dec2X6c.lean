theorem dX6_weigh_235 : decode cX6_weigh 235 = .ok (.invokevirtual 149, 3) := by decide +kernel
theorem dX6_weigh_238 : decode cX6_weigh 238 = .ok (.invokestatic 152, 3) := by decide +kernel
theorem dX6_weigh_241 : decode cX6_weigh 241 = .ok (.if_icmp .gt 22, 3) := by decide +kernel
theorem dX6_weigh_244 : decode cX6_weigh 244 = .ok (.aload_n 0, 1) := by decide +kernel
theorem dX6_weigh_245 : decode cX6_weigh 245 = .ok (.aload_n 0, 1) := by decide +kernel
theorem dX6_weigh_246 : decode cX6_weigh 246 = .ok (.iload_n 1, 1) := by decide +kernel
theorem dX6_weigh_247 : decode cX6_weigh 247 = .ok (.iload_n 3, 1) := by decide +kernel
theorem dX6_weigh_248 : decode cX6_weigh 248 = .ok (.iload 5, 2) := by decide +kernel
theorem dX6_weigh_250 : decode cX6_weigh 250 = .ok (.iadd, 1) := by decide +kernel
theorem dX6_weigh_251 : decode cX6_weigh 251 = .ok (.invokevirtual 149, 3) := by decide +kernel
theorem dX6_weigh_254 : decode cX6_weigh 254 = .ok (.invokevirtual 162, 3) := by decide +kernel
theorem dX6_weigh_257 : decode cX6_weigh 257 = .ok (.iinc 5 1, 3) := by decide +kernel
theorem dX6_weigh_260 : decode cX6_weigh 260 = .ok (.goto (-30), 3) := by decide +kernel
theorem dX6_weigh_263 : decode cX6_weigh 263 = .ok (.iload_n 3, 1) := by decide +kernel
theorem dX6_weigh_264 : decode cX6_weigh 264 = .ok (.iconst 1, 1) := by decide +kernel
theorem dX6_weigh_265 : decode cX6_weigh 265 = .ok (.aload_n 0, 1) := by decide +kernel
theorem dX6_weigh_266 : decode cX6_weigh 266 = .ok (.iload_n 1, 1) := by decide +kernel
theorem dX6_weigh_267 : decode cX6_weigh 267 = .ok (.iload_n 3, 1) := by decide +kernel
theorem dX6_weigh_268 : decode cX6_weigh 268 = .ok (.invokevirtual 149, 3) := by decide +kernel
theorem dX6_weigh_271 : decode cX6_weigh 271 = .ok (.invokestatic 152, 3) := by decide +kernel
theorem dX6_weigh_274 : decode cX6_weigh 274 = .ok (.iadd, 1) := by decide +kernel
theorem dX6_weigh_275 : decode cX6_weigh 275 = .ok (.iadd, 1) := by decide +kernel
theorem dX6_weigh_276 : decode cX6_weigh 276 = .ok (.istore_n 3, 1) := by decide +kernel
theorem dX6_weigh_277 : decode cX6_weigh 277 = .ok (.goto (-169), 3) := by decide +kernel
theorem dX6_weigh_280 : decode cX6_weigh 280 = .ok (.aload_n 0, 1) := by decide +kernel
theorem dX6_weigh_281 : decode cX6_weigh 281 = .ok (.getfield 128, 3) := by decide +kernel
theorem dX6_weigh_284 : decode cX6_weigh 284 = .ok (.iconst 2, 1) := by decide +kernel
theorem dX6_weigh_285 : decode cX6_weigh 285 = .ok (.if_icmp .ne 7, 3) := by decide +kernel
theorem dX6_weigh_288 : decode cX6_weigh 288 = .ok (.iconst 1, 1) := by decide +kernel
theorem dX6_weigh_289 : decode cX6_weigh 289 = .ok (.goto 4, 3) := by decide +kernel
theorem dX6_weigh_292 : decode cX6_weigh 292 = .ok (.iconst 0, 1) := by decide +kernel
theorem dX6_weigh_293 : decode cX6_weigh 293 = .ok (.ireturn, 1) := by decide +kernel
theorem dX6_isRight_0 : decode cX6_isRight 0 = .ok (.aload_n 0, 1) := by decide +kernel
theorem dX6_isRight_1 : decode cX6_isRight 1 = .ok (.iload_n 1, 1) := by decide +kernel
theorem dX6_isRight_2 : decode cX6_isRight 2 = .ok (.iconst 2, 1) := by decide +kernel
theorem dX6_isRight_3 : decode cX6_isRight 3 = .ok (.invokevirtual 149, 3) := by decide +kernel
theorem dX6_isRight_6 : decode cX6_isRight 6 = .ok (.aload_n 0, 1) := by decide +kernel
theorem dX6_isRight_7 : decode cX6_isRight 7 = .ok (.getfield 41, 3) := by decide +kernel
theorem dX6_isRight_10 : decode cX6_isRight 10 = .ok (.iload_n 1, 1) := by decide +kernel
theorem dX6_isRight_11 : decode cX6_isRight 11 = .ok (.iaload, 1) := by decide +kernel
theorem dX6_isRight_12 : decode cX6_isRight 12 = .ok (.if_icmp .ne 7, 3) := by decide +kernel
theorem dX6_isRight_15 : decode cX6_isRight 15 = .ok (.iconst 1, 1) := by decide +kernel
theorem dX6_isRight_16 : decode cX6_isRight 16 = .ok (.goto 4, 3) := by decide +kernel
theorem dX6_isRight_19 : decode cX6_isRight 19 = .ok (.iconst 0, 1) := by decide +kernel
theorem dX6_isRight_20 : decode cX6_isRight 20 = .ok (.istore_n 3, 1) := by decide +kernel
theorem dX6_isRight_21 : decode cX6_isRight 21 = .ok (.aload_n 0, 1) := by decide +kernel
theorem dX6_isRight_22 : decode cX6_isRight 22 = .ok (.iload_n 1, 1) := by decide +kernel
theorem dX6_isRight_23 : decode cX6_isRight 23 = .ok (.iconst 1, 1) := by decide +kernel
theorem dX6_isRight_24 : decode cX6_isRight 24 = .ok (.invokevirtual 149, 3) := by decide +kernel
theorem dX6_isRight_27 : decode cX6_isRight 27 = .ok (.iconst 2, 1) := by decide +kernel
theorem dX6_isRight_28 : decode cX6_isRight 28 = .ok (.if_icmp .ne 74, 3) := by decide +kernel
theorem dX6_isRight_31 : decode cX6_isRight 31 = .ok (.iload_n 3, 1) := by decide +kernel
theorem dX6_isRight_32 : decode cX6_isRight 32 = .ok (.ifCond .eq 19, 3) := by decide +kernel
theorem dX6_isRight_35 : decode cX6_isRight 35 = .ok (.iload_n 2, 1) := by decide +kernel
theorem dX6_isRight_36 : decode cX6_isRight 36 = .ok (.iconst 3, 1) := by decide +kernel
theorem dX6_isRight_37 : decode cX6_isRight 37 = .ok (.isub, 1) := by decide +kernel
theorem dX6_isRight_38 : decode cX6_isRight 38 = .ok (.aload_n 0, 1) := by decide +kernel
theorem dX6_isRight_39 : decode cX6_isRight 39 = .ok (.getfield 44, 3) := by decide +kernel
theorem dX6_isRight_42 : decode cX6_isRight 42 = .ok (.iload_n 1, 1) := by decide +kernel
theorem dX6_isRight_43 : decode cX6_isRight 43 = .ok (.iaload, 1) := by decide +kernel
theorem dX6_isRight_44 : decode cX6_isRight 44 = .ok (.if_icmp .ne 7, 3) := by decide +kernel
theorem dX6_isRight_47 : decode cX6_isRight 47 = .ok (.iconst 1, 1) := by decide +kernel
theorem dX6_isRight_48 : decode cX6_isRight 48 = .ok (.goto 4, 3) := by decide +kernel
theorem dX6_isRight_51 : decode cX6_isRight 51 = .ok (.iconst 0, 1) := by decide +kernel
theorem dX6_isRight_52 : decode cX6_isRight 52 = .ok (.istore_n 3, 1) := by decide +kernel
theorem dX6_isRight_53 : decode cX6_isRight 53 = .ok (.iconst 3, 1) := by decide +kernel
theorem dX6_isRight_54 : decode cX6_isRight 54 = .ok (.istore 4, 2) := by decide +kernel
theorem dX6_isRight_56 : decode cX6_isRight 56 = .ok (.iload 4, 2) := by decide +kernel
theorem dX6_isRight_58 : decode cX6_isRight 58 = .ok (.iload_n 2, 1) := by decide +kernel
theorem dX6_isRight_59 : decode cX6_isRight 59 = .ok (.if_icmp .ge 43, 3) := by decide +kernel
theorem dX6_isRight_62 : decode cX6_isRight 62 = .ok (.iload_n 3, 1) := by decide +kernel
theorem dX6_isRight_63 : decode cX6_isRight 63 = .ok (.ifCond .eq 39, 3) := by decide +kernel
theorem dX6_isRight_66 : decode cX6_isRight 66 = .ok (.aload_n 0, 1) := by decide +kernel
theorem dX6_isRight_67 : decode cX6_isRight 67 = .ok (.iload_n 1, 1) := by decide +kernel
theorem dX6_isRight_68 : decode cX6_isRight 68 = .ok (.iload 4, 2) := by decide +kernel
theorem dX6_isRight_70 : decode cX6_isRight 70 = .ok (.invokevirtual 149, 3) := by decide +kernel
theorem dX6_isRight_73 : decode cX6_isRight 73 = .ok (.aload_n 0, 1) := by decide +kernel
theorem dX6_isRight_74 : decode cX6_isRight 74 = .ok (.getfield 47, 3) := by decide +kernel
theorem dX6_isRight_77 : decode cX6_isRight 77 = .ok (.bipush 8, 2) := by decide +kernel
theorem dX6_isRight_79 : decode cX6_isRight 79 = .ok (.iload_n 1, 1) := by decide +kernel
theorem dX6_isRight_80 : decode cX6_isRight 80 = .ok (.imul, 1) := by decide +kernel
theorem dX6_isRight_81 : decode cX6_isRight 81 = .ok (.iload 4, 2) := by decide +kernel
theorem dX6_isRight_83 : decode cX6_isRight 83 = .ok (.iadd, 1) := by decide +kernel
theorem dX6_isRight_84 : decode cX6_isRight 84 = .ok (.iconst 3, 1) := by decide +kernel
theorem dX6_isRight_85 : decode cX6_isRight 85 = .ok (.isub, 1) := by decide +kernel
theorem dX6_isRight_86 : decode cX6_isRight 86 = .ok (.iaload, 1) := by decide +kernel
theorem dX6_isRight_87 : decode cX6_isRight 87 = .ok (.if_icmp .ne 7, 3) := by decide +kernel
theorem dX6_isRight_90 : decode cX6_isRight 90 = .ok (.iconst 1, 1) := by decide +kernel
theorem dX6_isRight_91 : decode cX6_isRight 91 = .ok (.goto 4, 3) := by decide +kernel
theorem dX6_isRight_94 : decode cX6_isRight 94 = .ok (.iconst 0, 1) := by decide +kernel
theorem dX6_isRight_95 : decode cX6_isRight 95 = .ok (.istore_n 3, 1) := by decide +kernel
theorem dX6_isRight_96 : decode cX6_isRight 96 = .ok (.iinc 4 1, 3) := by decide +kernel
theorem dX6_isRight_99 : decode cX6_isRight 99 = .ok (.goto (-43), 3) := by decide +kernel
theorem dX6_isRight_102 : decode cX6_isRight 102 = .ok (.iload_n 3, 1) := by decide +kernel
theorem dX6_isRight_103 : decode cX6_isRight 103 = .ok (.ireturn, 1) := by decide +kernel
theorem dX6_change_0 : decode cX6_change 0 = .ok (.iconst 3, 1) := by decide +kernel
theorem dX6_change_1 : decode cX6_change 1 = .ok (.istore_n 3, 1) := by decide +kernel
theorem dX6_change_2 : decode cX6_change 2 = .ok (.iload_n 3, 1) := by decide +kernel
theorem dX6_change_3 : decode cX6_change 3 = .ok (.iload_n 2, 1) := by decide +kernel
theorem dX6_change_4 : decode cX6_change 4 = .ok (.if_icmp .ge 175, 3) := by decide +kernel
theorem dX6_change_7 : decode cX6_change 7 = .ok (.aload_n 0, 1) := by decide +kernel
theorem dX6_change_8 : decode cX6_change 8 = .ok (.iload_n 1, 1) := by decide +kernel
theorem dX6_change_9 : decode cX6_change 9 = .ok (.iload_n 3, 1) := by decide +kernel
theorem dX6_change_10 : decode cX6_change 10 = .ok (.invokevirtual 149, 3) := by decide +kernel
theorem dX6_change_13 : decode cX6_change 13 = .ok (.istore 4, 2) := by decide +kernel
theorem dX6_change_15 : decode cX6_change 15 = .ok (.aload_n 0, 1) := by decide +kernel
theorem dX6_change_16 : decode cX6_change 16 = .ok (.iload_n 1, 1) := by decide +kernel
theorem dX6_change_17 : decode cX6_change 17 = .ok (.iconst 1, 1) := by decide +kernel
theorem dX6_change_18 : decode cX6_change 18 = .ok (.invokevirtual 149, 3) := by decide +kernel
theorem dX6_change_21 : decode cX6_change 21 = .ok (.iconst 4, 1) := by decide +kernel
theorem dX6_change_22 : decode cX6_change 22 = .ok (.if_icmp .ne 58, 3) := by decide +kernel
theorem dX6_change_25 : decode cX6_change 25 = .ok (.aload_n 0, 1) := by decide +kernel
theorem dX6_change_26 : decode cX6_change 26 = .ok (.getfield 34, 3) := by decide +kernel
theorem dX6_change_29 : decode cX6_change 29 = .ok (.iload_n 1, 1) := by decide +kernel
theorem dX6_change_30 : decode cX6_change 30 = .ok (.aload_n 0, 1) := by decide +kernel
theorem dX6_change_31 : decode cX6_change 31 = .ok (.getfield 34, 3) := by decide +kernel
theorem dX6_change_34 : decode cX6_change 34 = .ok (.iload_n 1, 1) := by decide +kernel
theorem dX6_change_35 : decode cX6_change 35 = .ok (.baload, 1) := by decide +kernel
theorem dX6_change_36 : decode cX6_change 36 = .ok (.ifCond .eq 13, 3) := by decide +kernel
theorem dX6_change_39 : decode cX6_change 39 = .ok (.iload 4, 2) := by decide +kernel
theorem dX6_change_41 : decode cX6_change 41 = .ok (.iconst 1, 1) := by decide +kernel
theorem dX6_change_42 : decode cX6_change 42 = .ok (.if_icmp .eq 7, 3) := by decide +kernel
theorem dX6_change_45 : decode cX6_change 45 = .ok (.iconst 1, 1) := by decide +kernel
theorem dX6_change_46 : decode cX6_change 46 = .ok (.goto 4, 3) := by decide +kernel
theorem dX6_change_49 : decode cX6_change 49 = .ok (.iconst 0, 1) := by decide +kernel
theorem dX6_change_50 : decode cX6_change 50 = .ok (.bastore, 1) := by decide +kernel
theorem dX6_change_51 : decode cX6_change 51 = .ok (.aload_n 0, 1) := by decide +kernel
theorem dX6_change_52 : decode cX6_change 52 = .ok (.getfield 38, 3) := by decide +kernel
theorem dX6_change_55 : decode cX6_change 55 = .ok (.iload_n 1, 1) := by decide +kernel
theorem dX6_change_56 : decode cX6_change 56 = .ok (.aload_n 0, 1) := by decide +kernel
theorem dX6_change_57 : decode cX6_change 57 = .ok (.getfield 38, 3) := by decide +kernel
theorem dX6_change_60 : decode cX6_change 60 = .ok (.iload_n 1, 1) := by decide +kernel
theorem dX6_change_61 : decode cX6_change 61 = .ok (.baload, 1) := by decide +kernel
theorem dX6_change_62 : decode cX6_change 62 = .ok (.ifCond .eq 13, 3) := by decide +kernel
theorem dX6_change_65 : decode cX6_change 65 = .ok (.iload 4, 2) := by decide +kernel
theorem dX6_change_67 : decode cX6_change 67 = .ok (.iconst 5, 1) := by decide +kernel
theorem dX6_change_68 : decode cX6_change 68 = .ok (.if_icmp .eq 7, 3) := by decide +kernel
theorem dX6_change_71 : decode cX6_change 71 = .ok (.iconst 1, 1) := by decide +kernel
theorem dX6_change_72 : decode cX6_change 72 = .ok (.goto 4, 3) := by decide +kernel
theorem dX6_change_75 : decode cX6_change 75 = .ok (.iconst 0, 1) := by decide +kernel
theorem dX6_change_76 : decode cX6_change 76 = .ok (.bastore, 1) := by decide +kernel
theorem dX6_change_77 : decode cX6_change 77 = .ok (.goto 85, 3) := by decide +kernel
theorem dX6_change_80 : decode cX6_change 80 = .ok (.iload 4, 2) := by decide +kernel
theorem dX6_change_82 : decode cX6_change 82 = .ok (.iconst 1, 1) := by decide +kernel
theorem dX6_change_83 : decode cX6_change 83 = .ok (.if_icmp .ne 59, 3) := by decide +kernel
theorem dX6_change_86 : decode cX6_change 86 = .ok (.aload_n 0, 1) := by decide +kernel
theorem dX6_change_87 : decode cX6_change 87 = .ok (.iload_n 1, 1) := by decide +kernel
theorem dX6_change_88 : decode cX6_change 88 = .ok (.iload_n 3, 1) := by decide +kernel
theorem dX6_change_89 : decode cX6_change 89 = .ok (.iconst 1, 1) := by decide +kernel
theorem dX6_change_90 : decode cX6_change 90 = .ok (.iadd, 1) := by decide +kernel
theorem dX6_change_91 : decode cX6_change 91 = .ok (.invokevirtual 149, 3) := by decide +kernel
theorem dX6_change_94 : decode cX6_change 94 = .ok (.sipush 256, 3) := by decide +kernel
theorem dX6_change_97 : decode cX6_change 97 = .ok (.imul, 1) := by decide +kernel
theorem dX6_change_98 : decode cX6_change 98 = .ok (.aload_n 0, 1) := by decide +kernel
theorem dX6_change_99 : decode cX6_change 99 = .ok (.iload_n 1, 1) := by decide +kernel
theorem dX6_change_100 : decode cX6_change 100 = .ok (.iload_n 3, 1) := by decide +kernel
theorem dX6_change_101 : decode cX6_change 101 = .ok (.iconst 2, 1) := by decide +kernel
theorem dX6_change_102 : decode cX6_change 102 = .ok (.iadd, 1) := by decide +kernel
theorem dX6_change_103 : decode cX6_change 103 = .ok (.invokevirtual 149, 3) := by decide +kernel
theorem dX6_change_106 : decode cX6_change 106 = .ok (.iadd, 1) := by decide +kernel
theorem dX6_change_107 : decode cX6_change 107 = .ok (.istore 5, 2) := by decide +kernel
theorem dX6_change_109 : decode cX6_change 109 = .ok (.aload_n 0, 1) := by decide +kernel
theorem dX6_change_110 : decode cX6_change 110 = .ok (.getfield 16, 3) := by decide +kernel
theorem dX6_change_113 : decode cX6_change 113 = .ok (.iload_n 1, 1) := by decide +kernel
theorem dX6_change_114 : decode cX6_change 114 = .ok (.iload 5, 2) := by decide +kernel
theorem dX6_change_116 : decode cX6_change 116 = .ok (.bipush 64, 2) := by decide +kernel
theorem dX6_change_118 : decode cX6_change 118 = .ok (.sipush 1500, 3) := by decide +kernel
theorem dX6_change_121 : decode cX6_change 121 = .ok (.invokestatic 87, 3) := by decide +kernel
theorem dX6_change_124 : decode cX6_change 124 = .ok (.ifCond .eq 8, 3) := by decide +kernel
theorem dX6_change_127 : decode cX6_change 127 = .ok (.iload 5, 2) := by decide +kernel
theorem dX6_change_129 : decode cX6_change 129 = .ok (.goto 9, 3) := by decide +kernel
theorem dX6_change_132 : decode cX6_change 132 = .ok (.aload_n 0, 1) := by decide +kernel
theorem dX6_change_133 : decode cX6_change 133 = .ok (.getfield 16, 3) := by decide +kernel
theorem dX6_change_136 : decode cX6_change 136 = .ok (.iload_n 1, 1) := by decide +kernel
theorem dX6_change_137 : decode cX6_change 137 = .ok (.iaload, 1) := by decide +kernel
theorem dX6_change_138 : decode cX6_change 138 = .ok (.iastore, 1) := by decide +kernel
theorem dX6_change_139 : decode cX6_change 139 = .ok (.goto 23, 3) := by decide +kernel
theorem dX6_change_142 : decode cX6_change 142 = .ok (.iload 4, 2) := by decide +kernel
theorem dX6_change_144 : decode cX6_change 144 = .ok (.iconst 5, 1) := by decide +kernel
theorem dX6_change_145 : decode cX6_change 145 = .ok (.if_icmp .ne 17, 3) := by decide +kernel
theorem dX6_change_148 : decode cX6_change 148 = .ok (.aload_n 0, 1) := by decide +kernel
theorem dX6_change_149 : decode cX6_change 149 = .ok (.getfield 22, 3) := by decide +kernel
theorem dX6_change_152 : decode cX6_change 152 = .ok (.iload_n 1, 1) := by decide +kernel
theorem dX6_change_153 : decode cX6_change 153 = .ok (.aload_n 0, 1) := by decide +kernel
theorem dX6_change_154 : decode cX6_change 154 = .ok (.iload_n 1, 1) := by decide +kernel
theorem dX6_change_155 : decode cX6_change 155 = .ok (.iload_n 3, 1) := by decide +kernel
theorem dX6_change_156 : decode cX6_change 156 = .ok (.iconst 1, 1) := by decide +kernel
theorem dX6_change_157 : decode cX6_change 157 = .ok (.iadd, 1) := by decide +kernel
theorem dX6_change_158 : decode cX6_change 158 = .ok (.invokevirtual 159, 3) := by decide +kernel
theorem dX6_change_161 : decode cX6_change 161 = .ok (.iastore, 1) := by decide +kernel
theorem dX6_change_162 : decode cX6_change 162 = .ok (.iload_n 3, 1) := by decide +kernel
theorem dX6_change_163 : decode cX6_change 163 = .ok (.iconst 1, 1) := by decide +kernel
theorem dX6_change_164 : decode cX6_change 164 = .ok (.aload_n 0, 1) := by decide +kernel
theorem dX6_change_165 : decode cX6_change 165 = .ok (.iload_n 1, 1) := by decide +kernel
theorem dX6_change_166 : decode cX6_change 166 = .ok (.iload_n 3, 1) := by decide +kernel
theorem dX6_change_167 : decode cX6_change 167 = .ok (.invokevirtual 149, 3) := by decide +kernel
theorem dX6_change_170 : decode cX6_change 170 = .ok (.invokestatic 152, 3) := by decide +kernel
theorem dX6_change_173 : decode cX6_change 173 = .ok (.iadd, 1) := by decide +kernel
theorem dX6_change_174 : decode cX6_change 174 = .ok (.iadd, 1) := by decide +kernel
theorem dX6_change_175 : decode cX6_change 175 = .ok (.istore_n 3, 1) := by decide +kernel
theorem dX6_change_176 : decode cX6_change 176 = .ok (.goto (-174), 3) := by decide +kernel
theorem dX6_change_179 : decode cX6_change 179 = .ok (.return_, 1) := by decide +kernel
theorem dX6_control_0 : decode cX6_control 0 = .ok (.aload_n 0, 1) := by decide +kernel
theorem dX6_control_1 : decode cX6_control 1 = .ok (.iload_n 1, 1) := by decide +kernel
theorem dX6_control_2 : decode cX6_control 2 = .ok (.iconst 1, 1) := by decide +kernel
theorem dX6_control_3 : decode cX6_control 3 = .ok (.invokevirtual 149, 3) := by decide +kernel
theorem dX6_control_6 : decode cX6_control 6 = .ok (.istore_n 3, 1) := by decide +kernel
theorem dX6_control_7 : decode cX6_control 7 = .ok (.aload_n 0, 1) := by decide +kernel
theorem dX6_control_8 : decode cX6_control 8 = .ok (.aload_n 0, 1) := by decide +kernel
theorem dX6_control_9 : decode cX6_control 9 = .ok (.iload_n 1, 1) := by decide +kernel
theorem dX6_control_10 : decode cX6_control 10 = .ok (.iconst 2, 1) := by decide +kernel
theorem dX6_control_11 : decode cX6_control 11 = .ok (.invokevirtual 149, 3) := by decide +kernel
theorem dX6_control_14 : decode cX6_control 14 = .ok (.putfield 131, 3) := by decide +kernel
theorem dX6_control_17 : decode cX6_control 17 = .ok (.aload_n 0, 1) := by decide +kernel
theorem dX6_control_18 : decode cX6_control 18 = .ok (.iload_n 3, 1) := by decide +kernel
theorem dX6_control_19 : decode cX6_control 19 = .ok (.putfield 143, 3) := by decide +kernel
theorem dX6_control_22 : decode cX6_control 22 = .ok (.iload_n 3, 1) := by decide +kernel
theorem dX6_control_23 : decode cX6_control 23 = .ok (.iconst 2, 1) := by decide +kernel
theorem dX6_control_24 : decode cX6_control 24 = .ok (.iconst 4, 1) := by decide +kernel
theorem dX6_control_25 : decode cX6_control 25 = .ok (.invokestatic 87, 3) := by decide +kernel
theorem dX6_control_28 : decode cX6_control 28 = .ok (.ifCond .eq 19, 3) := by decide +kernel
theorem dX6_control_31 : decode cX6_control 31 = .ok (.aload_n 0, 1) := by decide +kernel
theorem dX6_control_32 : decode cX6_control 32 = .ok (.iload_n 1, 1) := by decide +kernel
theorem dX6_control_33 : decode cX6_control 33 = .ok (.iload_n 2, 1) := by decide +kernel
theorem dX6_control_34 : decode cX6_control 34 = .ok (.invokevirtual 172, 3) := by decide +kernel
theorem dX6_control_37 : decode cX6_control 37 = .ok (.ifCond .ne 10, 3) := by decide +kernel
theorem dX6_control_40 : decode cX6_control 40 = .ok (.aload_n 0, 1) := by decide +kernel
theorem dX6_control_41 : decode cX6_control 41 = .ok (.iload_n 1, 1) := by decide +kernel
theorem dX6_control_42 : decode cX6_control 42 = .ok (.iconst 1, 1) := by decide +kernel
theorem dX6_control_43 : decode cX6_control 43 = .ok (.invokevirtual 108, 3) := by decide +kernel
theorem dX6_control_46 : decode cX6_control 46 = .ok (.return_, 1) := by decide +kernel
theorem dX6_control_47 : decode cX6_control 47 = .ok (.aload_n 0, 1) := by decide +kernel
theorem dX6_control_48 : decode cX6_control 48 = .ok (.iload_n 1, 1) := by decide +kernel
theorem dX6_control_49 : decode cX6_control 49 = .ok (.iconst 0, 1) := by decide +kernel
theorem dX6_control_50 : decode cX6_control 50 = .ok (.invokevirtual 108, 3) := by decide +kernel
theorem dX6_control_53 : decode cX6_control 53 = .ok (.iload_n 3, 1) := by decide +kernel
theorem dX6_control_54 : decode cX6_control 54 = .ok (.tableswitch 201 1 10 #[54, 82, 92, 92, 108, 118, 128, 201, 158, 198], 54) := by decide +kernel
theorem dX6_control_108 : decode cX6_control 108 = .ok (.aload_n 0, 1) := by decide +kernel
theorem dX6_control_109 : decode cX6_control 109 = .ok (.iload_n 1, 1) := by decide +kernel
theorem dX6_control_110 : decode cX6_control 110 = .ok (.iload_n 2, 1) := by decide +kernel
theorem dX6_control_111 : decode cX6_control 111 = .ok (.invokevirtual 175, 3) := by decide +kernel
theorem dX6_control_114 : decode cX6_control 114 = .ok (.istore 4, 2) := by decide +kernel
theorem dX6_control_116 : decode cX6_control 116 = .ok (.aload_n 0, 1) := by decide +kernel
theorem dX6_control_117 : decode cX6_control 117 = .ok (.iload_n 1, 1) := by decide +kernel
theorem dX6_control_118 : decode cX6_control 118 = .ok (.iload 4, 2) := by decide +kernel
theorem dX6_control_120 : decode cX6_control 120 = .ok (.ifCond .eq 8, 3) := by decide +kernel
theorem dX6_control_123 : decode cX6_control 123 = .ok (.bipush 6, 2) := by decide +kernel
theorem dX6_control_125 : decode cX6_control 125 = .ok (.goto 5, 3) := by decide +kernel
theorem dX6_control_128 : decode cX6_control 128 = .ok (.bipush 7, 2) := by decide +kernel
theorem dX6_control_130 : decode cX6_control 130 = .ok (.invokevirtual 178, 3) := by decide +kernel
theorem dX6_control_133 : decode cX6_control 133 = .ok (.goto 129, 3) := by decide +kernel
theorem dX6_control_136 : decode cX6_control 136 = .ok (.aload_n 0, 1) := by decide +kernel
theorem dX6_control_137 : decode cX6_control 137 = .ok (.iload_n 1, 1) := by decide +kernel
theorem dX6_control_138 : decode cX6_control 138 = .ok (.bipush 8, 2) := by decide +kernel
theorem dX6_control_140 : decode cX6_control 140 = .ok (.invokevirtual 178, 3) := by decide +kernel
theorem dX6_control_143 : decode cX6_control 143 = .ok (.goto 119, 3) := by decide +kernel
theorem dX6_control_146 : decode cX6_control 146 = .ok (.aload_n 0, 1) := by decide +kernel
theorem dX6_control_147 : decode cX6_control 147 = .ok (.iload_n 1, 1) := by decide +kernel
theorem dX6_control_148 : decode cX6_control 148 = .ok (.iload_n 2, 1) := by decide +kernel
theorem dX6_control_149 : decode cX6_control 149 = .ok (.invokevirtual 181, 3) := by decide +kernel
theorem dX6_control_152 : decode cX6_control 152 = .ok (.aload_n 0, 1) := by decide +kernel
theorem dX6_control_153 : decode cX6_control 153 = .ok (.iload_n 1, 1) := by decide +kernel
theorem dX6_control_154 : decode cX6_control 154 = .ok (.bipush 9, 2) := by decide +kernel
theorem dX6_control_156 : decode cX6_control 156 = .ok (.invokevirtual 178, 3) := by decide +kernel
theorem dX6_control_159 : decode cX6_control 159 = .ok (.goto 103, 3) := by decide +kernel
theorem dX6_control_162 : decode cX6_control 162 = .ok (.aload_n 0, 1) := by decide +kernel
theorem dX6_control_163 : decode cX6_control 163 = .ok (.iload_n 1, 1) := by decide +kernel
theorem dX6_control_164 : decode cX6_control 164 = .ok (.bipush 10, 2) := by decide +kernel
theorem dX6_control_166 : decode cX6_control 166 = .ok (.invokevirtual 178, 3) := by decide +kernel
theorem dX6_control_169 : decode cX6_control 169 = .ok (.goto 93, 3) := by decide +kernel
theorem dX6_control_172 : decode cX6_control 172 = .ok (.aload_n 0, 1) := by decide +kernel
theorem dX6_control_173 : decode cX6_control 173 = .ok (.iload_n 1, 1) := by decide +kernel
theorem dX6_control_174 : decode cX6_control 174 = .ok (.bipush 11, 2) := by decide +kernel
theorem dX6_control_176 : decode cX6_control 176 = .ok (.invokevirtual 178, 3) := by decide +kernel
theorem dX6_control_179 : decode cX6_control 179 = .ok (.goto 83, 3) := by decide +kernel
theorem dX6_control_182 : decode cX6_control 182 = .ok (.aload_n 0, 1) := by decide +kernel
theorem dX6_control_183 : decode cX6_control 183 = .ok (.iload_n 1, 1) := by decide +kernel
theorem dX6_control_184 : decode cX6_control 184 = .ok (.aload_n 0, 1) := by decide +kernel
theorem dX6_control_185 : decode cX6_control 185 = .ok (.iload_n 1, 1) := by decide +kernel
theorem dX6_control_186 : decode cX6_control 186 = .ok (.iconst 3, 1) := by decide +kernel
theorem dX6_control_187 : decode cX6_control 187 = .ok (.invokevirtual 149, 3) := by decide +kernel
theorem dX6_control_190 : decode cX6_control 190 = .ok (.iconst 1, 1) := by decide +kernel
theorem dX6_control_191 : decode cX6_control 191 = .ok (.bipush 6, 2) := by decide +kernel
theorem dX6_control_193 : decode cX6_control 193 = .ok (.invokestatic 87, 3) := by decide +kernel
theorem dX6_control_196 : decode cX6_control 196 = .ok (.ifCond .eq 8, 3) := by decide +kernel
theorem dX6_control_199 : decode cX6_control 199 = .ok (.bipush 13, 2) := by decide +kernel
theorem dX6_control_201 : decode cX6_control 201 = .ok (.goto 5, 3) := by decide +kernel
theorem dX6_control_204 : decode cX6_control 204 = .ok (.bipush 14, 2) := by decide +kernel
theorem dX6_control_206 : decode cX6_control 206 = .ok (.invokevirtual 178, 3) := by decide +kernel
theorem dX6_control_209 : decode cX6_control 209 = .ok (.goto 53, 3) := by decide +kernel
theorem dX6_control_212 : decode cX6_control 212 = .ok (.aload_n 0, 1) := by decide +kernel
theorem dX6_control_213 : decode cX6_control 213 = .ok (.iload_n 1, 1) := by decide +kernel
theorem dX6_control_214 : decode cX6_control 214 = .ok (.iconst 3, 1) := by decide +kernel
theorem dX6_control_215 : decode cX6_control 215 = .ok (.invokevirtual 159, 3) := by decide +kernel
theorem dX6_control_218 : decode cX6_control 218 = .ok (.aload_n 0, 1) := by decide +kernel
theorem dX6_control_219 : decode cX6_control 219 = .ok (.getfield 22, 3) := by decide +kernel
theorem dX6_control_222 : decode cX6_control 222 = .ok (.iload_n 1, 1) := by decide +kernel
theorem dX6_control_223 : decode cX6_control 223 = .ok (.iaload, 1) := by decide +kernel
theorem dX6_control_224 : decode cX6_control 224 = .ok (.if_icmp .ne 18, 3) := by decide +kernel
theorem dX6_control_227 : decode cX6_control 227 = .ok (.aload_n 0, 1) := by decide +kernel
theorem dX6_control_228 : decode cX6_control 228 = .ok (.getfield 22, 3) := by decide +kernel
theorem dX6_control_231 : decode cX6_control 231 = .ok (.iload_n 1, 1) := by decide +kernel
theorem dX6_control_232 : decode cX6_control 232 = .ok (.iaload, 1) := by decide +kernel
theorem dX6_control_233 : decode cX6_control 233 = .ok (.ifCond .eq 9, 3) := by decide +kernel
theorem dX6_control_236 : decode cX6_control 236 = .ok (.aload_n 0, 1) := by decide +kernel
theorem dX6_control_237 : decode cX6_control 237 = .ok (.iload_n 1, 1) := by decide +kernel
theorem dX6_control_238 : decode cX6_control 238 = .ok (.iconst 3, 1) := by decide +kernel
theorem dX6_control_239 : decode cX6_control 239 = .ok (.invokevirtual 108, 3) := by decide +kernel
theorem dX6_control_242 : decode cX6_control 242 = .ok (.aload_n 0, 1) := by decide +kernel
theorem dX6_control_243 : decode cX6_control 243 = .ok (.iload_n 1, 1) := by decide +kernel
theorem dX6_control_244 : decode cX6_control 244 = .ok (.bipush 15, 2) := by decide +kernel
theorem dX6_control_246 : decode cX6_control 246 = .ok (.invokevirtual 178, 3) := by decide +kernel
theorem dX6_control_249 : decode cX6_control 249 = .ok (.goto 13, 3) := by decide +kernel
theorem dX6_control_252 : decode cX6_control 252 = .ok (.goto 10, 3) := by decide +kernel
theorem dX6_control_255 : decode cX6_control 255 = .ok (.aload_n 0, 1) := by decide +kernel
theorem dX6_control_256 : decode cX6_control 256 = .ok (.iload_n 1, 1) := by decide +kernel
theorem dX6_control_257 : decode cX6_control 257 = .ok (.bipush 12, 2) := by decide +kernel
theorem dX6_control_259 : decode cX6_control 259 = .ok (.invokevirtual 178, 3) := by decide +kernel
theorem dX6_control_262 : decode cX6_control 262 = .ok (.return_, 1) := by decide +kernel
theorem dX6_keepData_0 : decode cX6_keepData 0 = .ok (.aload_n 0, 1) := by decide +kernel
theorem dX6_keepData_1 : decode cX6_keepData 1 = .ok (.iload_n 1, 1) := by decide +kernel
theorem dX6_keepData_2 : decode cX6_keepData 2 = .ok (.iconst 0, 1) := by decide +kernel
theorem dX6_keepData_3 : decode cX6_keepData 3 = .ok (.invokevirtual 108, 3) := by decide +kernel
theorem dX6_keepData_6 : decode cX6_keepData 6 = .ok (.aload_n 0, 1) := by decide +kernel
theorem dX6_keepData_7 : decode cX6_keepData 7 = .ok (.getfield 13, 3) := by decide +kernel
theorem dX6_keepData_10 : decode cX6_keepData 10 = .ok (.iload_n 1, 1) := by decide +kernel
theorem dX6_keepData_11 : decode cX6_keepData 11 = .ok (.iaload, 1) := by decide +kernel
theorem dX6_keepData_12 : decode cX6_keepData 12 = .ok (.bipush 9, 2) := by decide +kernel
theorem dX6_keepData_14 : decode cX6_keepData 14 = .ok (.if_icmp .ne 50, 3) := by decide +kernel
theorem dX6_keepData_17 : decode cX6_keepData 17 = .ok (.aload_n 0, 1) := by decide +kernel
theorem dX6_keepData_18 : decode cX6_keepData 18 = .ok (.iload_n 1, 1) := by decide +kernel
theorem dX6_keepData_19 : decode cX6_keepData 19 = .ok (.iconst 5, 1) := by decide +kernel
theorem dX6_keepData_20 : decode cX6_keepData 20 = .ok (.invokevirtual 108, 3) := by decide +kernel
theorem dX6_keepData_23 : decode cX6_keepData 23 = .ok (.aload_n 0, 1) := by decide +kernel
theorem dX6_keepData_24 : decode cX6_keepData 24 = .ok (.getfield 68, 3) := by decide +kernel
theorem dX6_keepData_27 : decode cX6_keepData 27 = .ok (.iload_n 1, 1) := by decide +kernel
theorem dX6_keepData_28 : decode cX6_keepData 28 = .ok (.iload_n 2, 1) := by decide +kernel
theorem dX6_keepData_29 : decode cX6_keepData 29 = .ok (.iconst 1, 1) := by decide +kernel
theorem dX6_keepData_30 : decode cX6_keepData 30 = .ok (.isub, 1) := by decide +kernel
theorem dX6_keepData_31 : decode cX6_keepData 31 = .ok (.iastore, 1) := by decide +kernel
theorem dX6_keepData_32 : decode cX6_keepData 32 = .ok (.iconst 1, 1) := by decide +kernel
theorem dX6_keepData_33 : decode cX6_keepData 33 = .ok (.istore_n 3, 1) := by decide +kernel
theorem dX6_keepData_34 : decode cX6_keepData 34 = .ok (.iload_n 3, 1) := by decide +kernel
theorem dX6_keepData_35 : decode cX6_keepData 35 = .ok (.iload_n 2, 1) := by decide +kernel
theorem dX6_keepData_36 : decode cX6_keepData 36 = .ok (.if_icmp .ge 28, 3) := by decide +kernel
theorem dX6_keepData_39 : decode cX6_keepData 39 = .ok (.aload_n 0, 1) := by decide +kernel
theorem dX6_keepData_40 : decode cX6_keepData 40 = .ok (.getfield 71, 3) := by decide +kernel
theorem dX6_keepData_43 : decode cX6_keepData 43 = .ok (.bipush 40, 2) := by decide +kernel
theorem dX6_keepData_45 : decode cX6_keepData 45 = .ok (.iload_n 1, 1) := by decide +kernel
theorem dX6_keepData_46 : decode cX6_keepData 46 = .ok (.imul, 1) := by decide +kernel
theorem dX6_keepData_47 : decode cX6_keepData 47 = .ok (.iload_n 3, 1) := by decide +kernel
theorem dX6_keepData_48 : decode cX6_keepData 48 = .ok (.iadd, 1) := by decide +kernel
theorem dX6_keepData_49 : decode cX6_keepData 49 = .ok (.iconst 1, 1) := by decide +kernel
theorem dX6_keepData_50 : decode cX6_keepData 50 = .ok (.isub, 1) := by decide +kernel
theorem dX6_keepData_51 : decode cX6_keepData 51 = .ok (.aload_n 0, 1) := by decide +kernel
theorem dX6_keepData_52 : decode cX6_keepData 52 = .ok (.iload_n 1, 1) := by decide +kernel
theorem dX6_keepData_53 : decode cX6_keepData 53 = .ok (.iload_n 3, 1) := by decide +kernel
theorem dX6_keepData_54 : decode cX6_keepData 54 = .ok (.invokevirtual 149, 3) := by decide +kernel
theorem dX6_keepData_57 : decode cX6_keepData 57 = .ok (.iastore, 1) := by decide +kernel
theorem dX6_keepData_58 : decode cX6_keepData 58 = .ok (.iinc 3 1, 3) := by decide +kernel
theorem dX6_keepData_61 : decode cX6_keepData 61 = .ok (.goto (-27), 3) := by decide +kernel
theorem dX6_keepData_64 : decode cX6_keepData 64 = .ok (.return_, 1) := by decide +kernel
theorem dX6_whole_0 : decode cX6_whole 0 = .ok (.aload_n 0, 1) := by decide +kernel
theorem dX6_whole_1 : decode cX6_whole 1 = .ok (.getfield 59, 3) := by decide +kernel
theorem dX6_whole_4 : decode cX6_whole 4 = .ok (.iload_n 1, 1) := by decide +kernel
theorem dX6_whole_5 : decode cX6_whole 5 = .ok (.iaload, 1) := by decide +kernel
theorem dX6_whole_6 : decode cX6_whole 6 = .ok (.istore_n 2, 1) := by decide +kernel
theorem dX6_whole_7 : decode cX6_whole 7 = .ok (.aload_n 0, 1) := by decide +kernel
theorem dX6_whole_8 : decode cX6_whole 8 = .ok (.getfield 65, 3) := by decide +kernel
theorem dX6_whole_11 : decode cX6_whole 11 = .ok (.iload_n 1, 1) := by decide +kernel
theorem dX6_whole_12 : decode cX6_whole 12 = .ok (.baload, 1) := by decide +kernel
theorem dX6_whole_13 : decode cX6_whole 13 = .ok (.istore_n 3, 1) := by decide +kernel
theorem dX6_whole_14 : decode cX6_whole 14 = .ok (.aload_n 0, 1) := by decide +kernel
theorem dX6_whole_15 : decode cX6_whole 15 = .ok (.getfield 59, 3) := by decide +kernel
theorem dX6_whole_18 : decode cX6_whole 18 = .ok (.iload_n 1, 1) := by decide +kernel
theorem dX6_whole_19 : decode cX6_whole 19 = .ok (.iconst 0, 1) := by decide +kernel
theorem dX6_whole_20 : decode cX6_whole 20 = .ok (.iastore, 1) := by decide +kernel
theorem dX6_whole_21 : decode cX6_whole 21 = .ok (.aload_n 0, 1) := by decide +kernel
theorem dX6_whole_22 : decode cX6_whole 22 = .ok (.getfield 65, 3) := by decide +kernel
theorem dX6_whole_25 : decode cX6_whole 25 = .ok (.iload_n 1, 1) := by decide +kernel
theorem dX6_whole_26 : decode cX6_whole 26 = .ok (.iconst 0, 1) := by decide +kernel
theorem dX6_whole_27 : decode cX6_whole 27 = .ok (.bastore, 1) := by decide +kernel
theorem dX6_whole_28 : decode cX6_whole 28 = .ok (.iload_n 2, 1) := by decide +kernel
theorem dX6_whole_29 : decode cX6_whole 29 = .ok (.ifCond .ne 8, 3) := by decide +kernel
theorem dX6_whole_32 : decode cX6_whole 32 = .ok (.iload_n 3, 1) := by decide +kernel
theorem dX6_whole_33 : decode cX6_whole 33 = .ok (.ifCond .ne 4, 3) := by decide +kernel
theorem dX6_whole_36 : decode cX6_whole 36 = .ok (.return_, 1) := by decide +kernel
theorem dX6_whole_37 : decode cX6_whole 37 = .ok (.iload_n 2, 1) := by decide +kernel
theorem dX6_whole_38 : decode cX6_whole 38 = .ok (.iconst 5, 1) := by decide +kernel
theorem dX6_whole_39 : decode cX6_whole 39 = .ok (.bipush 40, 2) := by decide +kernel
theorem dX6_whole_41 : decode cX6_whole 41 = .ok (.invokestatic 87, 3) := by decide +kernel
theorem dX6_whole_44 : decode cX6_whole 44 = .ok (.ifCond .eq 11, 3) := by decide +kernel
theorem dX6_whole_47 : decode cX6_whole 47 = .ok (.iload_n 3, 1) := by decide +kernel
theorem dX6_whole_48 : decode cX6_whole 48 = .ok (.ifCond .ne 7, 3) := by decide +kernel
theorem dX6_whole_51 : decode cX6_whole 51 = .ok (.iconst 1, 1) := by decide +kernel
theorem dX6_whole_52 : decode cX6_whole 52 = .ok (.goto 4, 3) := by decide +kernel
theorem dX6_whole_55 : decode cX6_whole 55 = .ok (.iconst 0, 1) := by decide +kernel
theorem dX6_whole_56 : decode cX6_whole 56 = .ok (.istore 4, 2) := by decide +kernel
theorem dX6_whole_58 : decode cX6_whole 58 = .ok (.ldc 99, 2) := by decide +kernel
theorem dX6_whole_60 : decode cX6_whole 60 = .ok (.istore 5, 2) := by decide +kernel
theorem dX6_whole_62 : decode cX6_whole 62 = .ok (.iconst 0, 1) := by decide +kernel
theorem dX6_whole_63 : decode cX6_whole 63 = .ok (.istore 6, 2) := by decide +kernel
theorem dX6_whole_65 : decode cX6_whole 65 = .ok (.iload 6, 2) := by decide +kernel
theorem dX6_whole_67 : decode cX6_whole 67 = .ok (.iload_n 2, 1) := by decide +kernel
theorem dX6_whole_68 : decode cX6_whole 68 = .ok (.iconst 2, 1) := by decide +kernel
theorem dX6_whole_69 : decode cX6_whole 69 = .ok (.isub, 1) := by decide +kernel
theorem dX6_whole_70 : decode cX6_whole 70 = .ok (.if_icmp .ge 28, 3) := by decide +kernel
theorem dX6_whole_73 : decode cX6_whole 73 = .ok (.iload 4, 2) := by decide +kernel
theorem dX6_whole_75 : decode cX6_whole 75 = .ok (.ifCond .eq 23, 3) := by decide +kernel
theorem dX6_whole_78 : decode cX6_whole 78 = .ok (.iload 5, 2) := by decide +kernel
theorem dX6_whole_80 : decode cX6_whole 80 = .ok (.aload_n 0, 1) := by decide +kernel
theorem dX6_whole_81 : decode cX6_whole 81 = .ok (.iload_n 1, 1) := by decide +kernel
theorem dX6_whole_82 : decode cX6_whole 82 = .ok (.iload 6, 2) := by decide +kernel
theorem dX6_whole_84 : decode cX6_whole 84 = .ok (.invokevirtual 149, 3) := by decide +kernel
theorem dX6_whole_87 : decode cX6_whole 87 = .ok (.invokestatic 100, 3) := by decide +kernel
theorem dX6_whole_90 : decode cX6_whole 90 = .ok (.istore 5, 2) := by decide +kernel
theorem dX6_whole_92 : decode cX6_whole 92 = .ok (.iinc 6 1, 3) := by decide +kernel
theorem dX6_whole_95 : decode cX6_whole 95 = .ok (.goto (-30), 3) := by decide +kernel
theorem dX6_whole_98 : decode cX6_whole 98 = .ok (.iload 5, 2) := by decide +kernel
theorem dX6_whole_100 : decode cX6_whole 100 = .ok (.ldc 99, 2) := by decide +kernel
theorem dX6_whole_102 : decode cX6_whole 102 = .ok (.ixor, 1) := by decide +kernel
theorem dX6_whole_103 : decode cX6_whole 103 = .ok (.istore 5, 2) := by decide +kernel
theorem dX6_whole_105 : decode cX6_whole 105 = .ok (.iload 4, 2) := by decide +kernel
theorem dX6_whole_107 : decode cX6_whole 107 = .ok (.ifCond .eq 40, 3) := by decide +kernel
theorem dX6_whole_110 : decode cX6_whole 110 = .ok (.aload_n 0, 1) := by decide +kernel
theorem dX6_whole_111 : decode cX6_whole 111 = .ok (.iload_n 1, 1) := by decide +kernel
theorem dX6_whole_112 : decode cX6_whole 112 = .ok (.iload_n 2, 1) := by decide +kernel
theorem dX6_whole_113 : decode cX6_whole 113 = .ok (.iconst 2, 1) := by decide +kernel
theorem dX6_whole_114 : decode cX6_whole 114 = .ok (.isub, 1) := by decide +kernel
theorem dX6_whole_115 : decode cX6_whole 115 = .ok (.invokevirtual 149, 3) := by decide +kernel
theorem dX6_whole_118 : decode cX6_whole 118 = .ok (.iload 5, 2) := by decide +kernel
theorem dX6_whole_120 : decode cX6_whole 120 = .ok (.sipush 255, 3) := by decide +kernel
theorem dX6_whole_123 : decode cX6_whole 123 = .ok (.iand, 1) := by decide +kernel
theorem dX6_whole_124 : decode cX6_whole 124 = .ok (.if_icmp .ne 23, 3) := by decide +kernel
theorem dX6_whole_127 : decode cX6_whole 127 = .ok (.aload_n 0, 1) := by decide +kernel
theorem dX6_whole_128 : decode cX6_whole 128 = .ok (.iload_n 1, 1) := by decide +kernel
theorem dX6_whole_129 : decode cX6_whole 129 = .ok (.iload_n 2, 1) := by decide +kernel
theorem dX6_whole_130 : decode cX6_whole 130 = .ok (.iconst 1, 1) := by decide +kernel
theorem dX6_whole_131 : decode cX6_whole 131 = .ok (.isub, 1) := by decide +kernel
theorem dX6_whole_132 : decode cX6_whole 132 = .ok (.invokevirtual 149, 3) := by decide +kernel
theorem dX6_whole_135 : decode cX6_whole 135 = .ok (.iload 5, 2) := by decide +kernel
theorem dX6_whole_137 : decode cX6_whole 137 = .ok (.bipush 8, 2) := by decide +kernel
theorem dX6_whole_139 : decode cX6_whole 139 = .ok (.ishr, 1) := by decide +kernel
theorem dX6_whole_140 : decode cX6_whole 140 = .ok (.if_icmp .ne 7, 3) := by decide +kernel
theorem dX6_whole_143 : decode cX6_whole 143 = .ok (.iconst 1, 1) := by decide +kernel
theorem dX6_whole_144 : decode cX6_whole 144 = .ok (.goto 4, 3) := by decide +kernel
theorem dX6_whole_147 : decode cX6_whole 147 = .ok (.iconst 0, 1) := by decide +kernel
theorem dX6_whole_148 : decode cX6_whole 148 = .ok (.istore 4, 2) := by decide +kernel
theorem dX6_whole_150 : decode cX6_whole 150 = .ok (.iload 4, 2) := by decide +kernel
theorem dX6_whole_152 : decode cX6_whole 152 = .ok (.ifCond .eq 24, 3) := by decide +kernel

theorem dX6_whole_155 : decode cX6_whole 155 = .ok (.aload_n 0, 1) := by decide +kernel
theorem dX6_whole_156 : decode cX6_whole 156 = .ok (.iload_n 1, 1) := by decide +kernel
theorem dX6_whole_157 : decode cX6_whole 157 = .ok (.iconst 0, 1) := by decide +kernel
theorem dX6_whole_158 : decode cX6_whole 158 = .ok (.invokevirtual 149, 3) := by decide +kernel
theorem dX6_whole_161 : decode cX6_whole 161 = .ok (.iconst 2, 1) := by decide +kernel
theorem dX6_whole_162 : decode cX6_whole 162 = .ok (.if_icmp .ne 14, 3) := by decide +kernel
theorem dX6_whole_165 : decode cX6_whole 165 = .ok (.aload_n 0, 1) := by decide +kernel
theorem dX6_whole_166 : decode cX6_whole 166 = .ok (.iload_n 1, 1) := by decide +kernel
theorem dX6_whole_167 : decode cX6_whole 167 = .ok (.iload_n 2, 1) := by decide +kernel
theorem dX6_whole_168 : decode cX6_whole 168 = .ok (.iconst 2, 1) := by decide +kernel
theorem dX6_whole_169 : decode cX6_whole 169 = .ok (.isub, 1) := by decide +kernel
theorem dX6_whole_170 : decode cX6_whole 170 = .ok (.invokevirtual 184, 3) := by decide +kernel
theorem dX6_whole_173 : decode cX6_whole 173 = .ok (.goto 65, 3) := by decide +kernel
theorem dX6_whole_176 : decode cX6_whole 176 = .ok (.iload 4, 2) := by decide +kernel
theorem dX6_whole_178 : decode cX6_whole 178 = .ok (.ifCond .eq 24, 3) := by decide +kernel
theorem dX6_whole_181 : decode cX6_whole 181 = .ok (.aload_n 0, 1) := by decide +kernel
theorem dX6_whole_182 : decode cX6_whole 182 = .ok (.iload_n 1, 1) := by decide +kernel
theorem dX6_whole_183 : decode cX6_whole 183 = .ok (.iconst 0, 1) := by decide +kernel
theorem dX6_whole_184 : decode cX6_whole 184 = .ok (.invokevirtual 149, 3) := by decide +kernel
theorem dX6_whole_187 : decode cX6_whole 187 = .ok (.iconst 1, 1) := by decide +kernel
theorem dX6_whole_188 : decode cX6_whole 188 = .ok (.if_icmp .ne 14, 3) := by decide +kernel
theorem dX6_whole_191 : decode cX6_whole 191 = .ok (.aload_n 0, 1) := by decide +kernel
theorem dX6_whole_192 : decode cX6_whole 192 = .ok (.iload_n 1, 1) := by decide +kernel
theorem dX6_whole_193 : decode cX6_whole 193 = .ok (.iload_n 2, 1) := by decide +kernel
theorem dX6_whole_194 : decode cX6_whole 194 = .ok (.iconst 2, 1) := by decide +kernel
theorem dX6_whole_195 : decode cX6_whole 195 = .ok (.isub, 1) := by decide +kernel
theorem dX6_whole_196 : decode cX6_whole 196 = .ok (.invokevirtual 187, 3) := by decide +kernel
theorem dX6_whole_199 : decode cX6_whole 199 = .ok (.ifCond .ne 12, 3) := by decide +kernel
theorem dX6_whole_202 : decode cX6_whole 202 = .ok (.aload_n 0, 1) := by decide +kernel
theorem dX6_whole_203 : decode cX6_whole 203 = .ok (.iload_n 1, 1) := by decide +kernel
theorem dX6_whole_204 : decode cX6_whole 204 = .ok (.iconst 1, 1) := by decide +kernel
theorem dX6_whole_205 : decode cX6_whole 205 = .ok (.invokevirtual 108, 3) := by decide +kernel
theorem dX6_whole_208 : decode cX6_whole 208 = .ok (.goto 30, 3) := by decide +kernel
theorem dX6_whole_211 : decode cX6_whole 211 = .ok (.aload_n 0, 1) := by decide +kernel
theorem dX6_whole_212 : decode cX6_whole 212 = .ok (.getfield 13, 3) := by decide +kernel
theorem dX6_whole_215 : decode cX6_whole 215 = .ok (.iload_n 1, 1) := by decide +kernel
theorem dX6_whole_216 : decode cX6_whole 216 = .ok (.iaload, 1) := by decide +kernel
theorem dX6_whole_217 : decode cX6_whole 217 = .ok (.iconst 2, 1) := by decide +kernel
theorem dX6_whole_218 : decode cX6_whole 218 = .ok (.if_icmp .ge 12, 3) := by decide +kernel
theorem dX6_whole_221 : decode cX6_whole 221 = .ok (.aload_n 0, 1) := by decide +kernel
theorem dX6_whole_222 : decode cX6_whole 222 = .ok (.iload_n 1, 1) := by decide +kernel
theorem dX6_whole_223 : decode cX6_whole 223 = .ok (.iconst 0, 1) := by decide +kernel
theorem dX6_whole_224 : decode cX6_whole 224 = .ok (.invokevirtual 108, 3) := by decide +kernel
theorem dX6_whole_227 : decode cX6_whole 227 = .ok (.goto 11, 3) := by decide +kernel
theorem dX6_whole_230 : decode cX6_whole 230 = .ok (.aload_n 0, 1) := by decide +kernel
theorem dX6_whole_231 : decode cX6_whole 231 = .ok (.iload_n 1, 1) := by decide +kernel
theorem dX6_whole_232 : decode cX6_whole 232 = .ok (.iload_n 2, 1) := by decide +kernel
theorem dX6_whole_233 : decode cX6_whole 233 = .ok (.iconst 2, 1) := by decide +kernel
theorem dX6_whole_234 : decode cX6_whole 234 = .ok (.isub, 1) := by decide +kernel
theorem dX6_whole_235 : decode cX6_whole 235 = .ok (.invokevirtual 190, 3) := by decide +kernel
theorem dX6_whole_238 : decode cX6_whole 238 = .ok (.return_, 1) := by decide +kernel
theorem dX6_receive_0 : decode cX6_receive 0 = .ok (.iload_n 2, 1) := by decide +kernel
theorem dX6_receive_1 : decode cX6_receive 1 = .ok (.bipush 126, 2) := by decide +kernel
theorem dX6_receive_3 : decode cX6_receive 3 = .ok (.if_icmp .ne 11, 3) := by decide +kernel
theorem dX6_receive_6 : decode cX6_receive 6 = .ok (.aload_n 0, 1) := by decide +kernel
theorem dX6_receive_7 : decode cX6_receive 7 = .ok (.iload_n 1, 1) := by decide +kernel
theorem dX6_receive_8 : decode cX6_receive 8 = .ok (.invokevirtual 193, 3) := by decide +kernel
theorem dX6_receive_11 : decode cX6_receive 11 = .ok (.goto 111, 3) := by decide +kernel
theorem dX6_receive_14 : decode cX6_receive 14 = .ok (.iload_n 2, 1) := by decide +kernel
theorem dX6_receive_15 : decode cX6_receive 15 = .ok (.bipush 125, 2) := by decide +kernel
theorem dX6_receive_17 : decode cX6_receive 17 = .ok (.if_icmp .ne 22, 3) := by decide +kernel
theorem dX6_receive_20 : decode cX6_receive 20 = .ok (.aload_n 0, 1) := by decide +kernel
theorem dX6_receive_21 : decode cX6_receive 21 = .ok (.getfield 65, 3) := by decide +kernel
theorem dX6_receive_24 : decode cX6_receive 24 = .ok (.iload_n 1, 1) := by decide +kernel
theorem dX6_receive_25 : decode cX6_receive 25 = .ok (.baload, 1) := by decide +kernel
theorem dX6_receive_26 : decode cX6_receive 26 = .ok (.ifCond .ne 13, 3) := by decide +kernel
theorem dX6_receive_29 : decode cX6_receive 29 = .ok (.aload_n 0, 1) := by decide +kernel
theorem dX6_receive_30 : decode cX6_receive 30 = .ok (.getfield 65, 3) := by decide +kernel
theorem dX6_receive_33 : decode cX6_receive 33 = .ok (.iload_n 1, 1) := by decide +kernel
theorem dX6_receive_34 : decode cX6_receive 34 = .ok (.iconst 1, 1) := by decide +kernel
theorem dX6_receive_35 : decode cX6_receive 35 = .ok (.bastore, 1) := by decide +kernel
theorem dX6_receive_36 : decode cX6_receive 36 = .ok (.goto 86, 3) := by decide +kernel
theorem dX6_receive_39 : decode cX6_receive 39 = .ok (.aload_n 0, 1) := by decide +kernel
theorem dX6_receive_40 : decode cX6_receive 40 = .ok (.getfield 65, 3) := by decide +kernel
theorem dX6_receive_43 : decode cX6_receive 43 = .ok (.iload_n 1, 1) := by decide +kernel
theorem dX6_receive_44 : decode cX6_receive 44 = .ok (.baload, 1) := by decide +kernel
theorem dX6_receive_45 : decode cX6_receive 45 = .ok (.ifCond .eq 10, 3) := by decide +kernel
theorem dX6_receive_48 : decode cX6_receive 48 = .ok (.iload_n 2, 1) := by decide +kernel
theorem dX6_receive_49 : decode cX6_receive 49 = .ok (.bipush 32, 2) := by decide +kernel
theorem dX6_receive_51 : decode cX6_receive 51 = .ok (.ixor, 1) := by decide +kernel
theorem dX6_receive_52 : decode cX6_receive 52 = .ok (.goto 4, 3) := by decide +kernel
theorem dX6_receive_55 : decode cX6_receive 55 = .ok (.iload_n 2, 1) := by decide +kernel
theorem dX6_receive_56 : decode cX6_receive 56 = .ok (.istore_n 3, 1) := by decide +kernel
theorem dX6_receive_57 : decode cX6_receive 57 = .ok (.aload_n 0, 1) := by decide +kernel
theorem dX6_receive_58 : decode cX6_receive 58 = .ok (.getfield 65, 3) := by decide +kernel
theorem dX6_receive_61 : decode cX6_receive 61 = .ok (.iload_n 1, 1) := by decide +kernel
theorem dX6_receive_62 : decode cX6_receive 62 = .ok (.iconst 0, 1) := by decide +kernel
theorem dX6_receive_63 : decode cX6_receive 63 = .ok (.bastore, 1) := by decide +kernel
theorem dX6_receive_64 : decode cX6_receive 64 = .ok (.aload_n 0, 1) := by decide +kernel
theorem dX6_receive_65 : decode cX6_receive 65 = .ok (.getfield 59, 3) := by decide +kernel
theorem dX6_receive_68 : decode cX6_receive 68 = .ok (.iload_n 1, 1) := by decide +kernel
theorem dX6_receive_69 : decode cX6_receive 69 = .ok (.iaload, 1) := by decide +kernel
theorem dX6_receive_70 : decode cX6_receive 70 = .ok (.bipush 40, 2) := by decide +kernel
theorem dX6_receive_72 : decode cX6_receive 72 = .ok (.if_icmp .ge 20, 3) := by decide +kernel
theorem dX6_receive_75 : decode cX6_receive 75 = .ok (.aload_n 0, 1) := by decide +kernel
theorem dX6_receive_76 : decode cX6_receive 76 = .ok (.getfield 62, 3) := by decide +kernel
theorem dX6_receive_79 : decode cX6_receive 79 = .ok (.bipush 40, 2) := by decide +kernel
theorem dX6_receive_81 : decode cX6_receive 81 = .ok (.iload_n 1, 1) := by decide +kernel
theorem dX6_receive_82 : decode cX6_receive 82 = .ok (.imul, 1) := by decide +kernel
theorem dX6_receive_83 : decode cX6_receive 83 = .ok (.aload_n 0, 1) := by decide +kernel
theorem dX6_receive_84 : decode cX6_receive 84 = .ok (.getfield 59, 3) := by decide +kernel
theorem dX6_receive_87 : decode cX6_receive 87 = .ok (.iload_n 1, 1) := by decide +kernel
theorem dX6_receive_88 : decode cX6_receive 88 = .ok (.iaload, 1) := by decide +kernel
theorem dX6_receive_89 : decode cX6_receive 89 = .ok (.iadd, 1) := by decide +kernel
theorem dX6_receive_90 : decode cX6_receive 90 = .ok (.iload_n 3, 1) := by decide +kernel
theorem dX6_receive_91 : decode cX6_receive 91 = .ok (.iastore, 1) := by decide +kernel
theorem dX6_receive_92 : decode cX6_receive 92 = .ok (.aload_n 0, 1) := by decide +kernel
theorem dX6_receive_93 : decode cX6_receive 93 = .ok (.getfield 59, 3) := by decide +kernel
theorem dX6_receive_96 : decode cX6_receive 96 = .ok (.iload_n 1, 1) := by decide +kernel
theorem dX6_receive_97 : decode cX6_receive 97 = .ok (.aload_n 0, 1) := by decide +kernel
theorem dX6_receive_98 : decode cX6_receive 98 = .ok (.getfield 59, 3) := by decide +kernel
theorem dX6_receive_101 : decode cX6_receive 101 = .ok (.iload_n 1, 1) := by decide +kernel
theorem dX6_receive_102 : decode cX6_receive 102 = .ok (.iaload, 1) := by decide +kernel
theorem dX6_receive_103 : decode cX6_receive 103 = .ok (.bipush 41, 2) := by decide +kernel
theorem dX6_receive_105 : decode cX6_receive 105 = .ok (.if_icmp .ge 14, 3) := by decide +kernel
theorem dX6_receive_108 : decode cX6_receive 108 = .ok (.aload_n 0, 1) := by decide +kernel
theorem dX6_receive_109 : decode cX6_receive 109 = .ok (.getfield 59, 3) := by decide +kernel
theorem dX6_receive_112 : decode cX6_receive 112 = .ok (.iload_n 1, 1) := by decide +kernel
theorem dX6_receive_113 : decode cX6_receive 113 = .ok (.iaload, 1) := by decide +kernel
theorem dX6_receive_114 : decode cX6_receive 114 = .ok (.iconst 1, 1) := by decide +kernel
theorem dX6_receive_115 : decode cX6_receive 115 = .ok (.iadd, 1) := by decide +kernel
theorem dX6_receive_116 : decode cX6_receive 116 = .ok (.goto 5, 3) := by decide +kernel
theorem dX6_receive_119 : decode cX6_receive 119 = .ok (.bipush 41, 2) := by decide +kernel
theorem dX6_receive_121 : decode cX6_receive 121 = .ok (.iastore, 1) := by decide +kernel
theorem dX6_receive_122 : decode cX6_receive 122 = .ok (.return_, 1) := by decide +kernel
theorem dX6_set_0 : decode cX6_set 0 = .ok (.aload_n 0, 1) := by decide +kernel
theorem dX6_set_1 : decode cX6_set 1 = .ok (.iload_n 1, 1) := by decide +kernel
theorem dX6_set_2 : decode cX6_set 2 = .ok (.invokestatic 196, 3) := by decide +kernel
theorem dX6_set_5 : decode cX6_set 5 = .ok (.ifCond .ne 7, 3) := by decide +kernel
theorem dX6_set_8 : decode cX6_set 8 = .ok (.iconst 1, 1) := by decide +kernel
theorem dX6_set_9 : decode cX6_set 9 = .ok (.goto 55, 3) := by decide +kernel
theorem dX6_set_12 : decode cX6_set 12 = .ok (.iload_n 2, 1) := by decide +kernel
theorem dX6_set_13 : decode cX6_set 13 = .ok (.bipush 64, 2) := by decide +kernel
theorem dX6_set_15 : decode cX6_set 15 = .ok (.sipush 1500, 3) := by decide +kernel
theorem dX6_set_18 : decode cX6_set 18 = .ok (.invokestatic 87, 3) := by decide +kernel
theorem dX6_set_21 : decode cX6_set 21 = .ok (.ifCond .eq 15, 3) := by decide +kernel
theorem dX6_set_24 : decode cX6_set 24 = .ok (.iload_n 3, 1) := by decide +kernel
theorem dX6_set_25 : decode cX6_set 25 = .ok (.bipush 64, 2) := by decide +kernel
theorem dX6_set_27 : decode cX6_set 27 = .ok (.sipush 1500, 3) := by decide +kernel
theorem dX6_set_30 : decode cX6_set 30 = .ok (.invokestatic 87, 3) := by decide +kernel
theorem dX6_set_33 : decode cX6_set 33 = .ok (.ifCond .ne 7, 3) := by decide +kernel
theorem dX6_set_36 : decode cX6_set 36 = .ok (.iconst 2, 1) := by decide +kernel
theorem dX6_set_37 : decode cX6_set 37 = .ok (.goto 27, 3) := by decide +kernel
theorem dX6_set_40 : decode cX6_set 40 = .ok (.aload_n 0, 1) := by decide +kernel
theorem dX6_set_41 : decode cX6_set 41 = .ok (.getfield 13, 3) := by decide +kernel
theorem dX6_set_44 : decode cX6_set 44 = .ok (.iload_n 1, 1) := by decide +kernel
theorem dX6_set_45 : decode cX6_set 45 = .ok (.iaload, 1) := by decide +kernel
theorem dX6_set_46 : decode cX6_set 46 = .ok (.ifCond .eq 17, 3) := by decide +kernel
theorem dX6_set_49 : decode cX6_set 49 = .ok (.aload_n 0, 1) := by decide +kernel
theorem dX6_set_50 : decode cX6_set 50 = .ok (.getfield 13, 3) := by decide +kernel
theorem dX6_set_53 : decode cX6_set 53 = .ok (.iload_n 1, 1) := by decide +kernel
theorem dX6_set_54 : decode cX6_set 54 = .ok (.iaload, 1) := by decide +kernel
theorem dX6_set_55 : decode cX6_set 55 = .ok (.iconst 2, 1) := by decide +kernel
theorem dX6_set_56 : decode cX6_set 56 = .ok (.if_icmp .eq 7, 3) := by decide +kernel
theorem dX6_set_59 : decode cX6_set 59 = .ok (.iconst 3, 1) := by decide +kernel
theorem dX6_set_60 : decode cX6_set 60 = .ok (.goto 4, 3) := by decide +kernel
theorem dX6_set_63 : decode cX6_set 63 = .ok (.iconst 0, 1) := by decide +kernel
theorem dX6_set_64 : decode cX6_set 64 = .ok (.putfield 83, 3) := by decide +kernel
theorem dX6_set_67 : decode cX6_set 67 = .ok (.aload_n 0, 1) := by decide +kernel
theorem dX6_set_68 : decode cX6_set 68 = .ok (.getfield 83, 3) := by decide +kernel
theorem dX6_set_71 : decode cX6_set 71 = .ok (.ifCond .ne 25, 3) := by decide +kernel
theorem dX6_set_74 : decode cX6_set 74 = .ok (.aload_n 0, 1) := by decide +kernel
theorem dX6_set_75 : decode cX6_set 75 = .ok (.getfield 16, 3) := by decide +kernel
theorem dX6_set_78 : decode cX6_set 78 = .ok (.iload_n 1, 1) := by decide +kernel
theorem dX6_set_79 : decode cX6_set 79 = .ok (.iload_n 2, 1) := by decide +kernel
theorem dX6_set_80 : decode cX6_set 80 = .ok (.iastore, 1) := by decide +kernel
theorem dX6_set_81 : decode cX6_set 81 = .ok (.aload_n 0, 1) := by decide +kernel
theorem dX6_set_82 : decode cX6_set 82 = .ok (.getfield 19, 3) := by decide +kernel
theorem dX6_set_85 : decode cX6_set 85 = .ok (.iload_n 1, 1) := by decide +kernel
theorem dX6_set_86 : decode cX6_set 86 = .ok (.iload_n 3, 1) := by decide +kernel
theorem dX6_set_87 : decode cX6_set 87 = .ok (.iastore, 1) := by decide +kernel
theorem dX6_set_88 : decode cX6_set 88 = .ok (.aload_n 0, 1) := by decide +kernel
theorem dX6_set_89 : decode cX6_set 89 = .ok (.getfield 22, 3) := by decide +kernel
theorem dX6_set_92 : decode cX6_set 92 = .ok (.iload_n 1, 1) := by decide +kernel
theorem dX6_set_93 : decode cX6_set 93 = .ok (.iload 4, 2) := by decide +kernel
theorem dX6_set_95 : decode cX6_set 95 = .ok (.iastore, 1) := by decide +kernel
theorem dX6_set_96 : decode cX6_set 96 = .ok (.return_, 1) := by decide +kernel
theorem dX6_event_0 : decode cX6_event 0 = .ok (.aload_n 0, 1) := by decide +kernel
theorem dX6_event_1 : decode cX6_event 1 = .ok (.iload_n 1, 1) := by decide +kernel
theorem dX6_event_2 : decode cX6_event 2 = .ok (.invokestatic 196, 3) := by decide +kernel
theorem dX6_event_5 : decode cX6_event 5 = .ok (.ifCond .ne 7, 3) := by decide +kernel
theorem dX6_event_8 : decode cX6_event 8 = .ok (.iconst 1, 1) := by decide +kernel
theorem dX6_event_9 : decode cX6_event 9 = .ok (.goto 17, 3) := by decide +kernel
theorem dX6_event_12 : decode cX6_event 12 = .ok (.iload_n 2, 1) := by decide +kernel
theorem dX6_event_13 : decode cX6_event 13 = .ok (.iconst 0, 1) := by decide +kernel
theorem dX6_event_14 : decode cX6_event 14 = .ok (.iconst 3, 1) := by decide +kernel
theorem dX6_event_15 : decode cX6_event 15 = .ok (.invokestatic 87, 3) := by decide +kernel
theorem dX6_event_18 : decode cX6_event 18 = .ok (.ifCond .ne 7, 3) := by decide +kernel
theorem dX6_event_21 : decode cX6_event 21 = .ok (.iconst 2, 1) := by decide +kernel
theorem dX6_event_22 : decode cX6_event 22 = .ok (.goto 4, 3) := by decide +kernel
theorem dX6_event_25 : decode cX6_event 25 = .ok (.iconst 0, 1) := by decide +kernel
theorem dX6_event_26 : decode cX6_event 26 = .ok (.putfield 83, 3) := by decide +kernel
theorem dX6_event_29 : decode cX6_event 29 = .ok (.aload_n 0, 1) := by decide +kernel
theorem dX6_event_30 : decode cX6_event 30 = .ok (.getfield 83, 3) := by decide +kernel
theorem dX6_event_33 : decode cX6_event 33 = .ok (.ifCond .le 5, 3) := by decide +kernel
theorem dX6_event_36 : decode cX6_event 36 = .ok (.iconst 0, 1) := by decide +kernel
theorem dX6_event_37 : decode cX6_event 37 = .ok (.ireturn, 1) := by decide +kernel
theorem dX6_event_38 : decode cX6_event 38 = .ok (.aload_n 0, 1) := by decide +kernel
theorem dX6_event_39 : decode cX6_event 39 = .ok (.iload_n 1, 1) := by decide +kernel
theorem dX6_event_40 : decode cX6_event 40 = .ok (.iload_n 2, 1) := by decide +kernel
theorem dX6_event_41 : decode cX6_event 41 = .ok (.invokevirtual 178, 3) := by decide +kernel
theorem dX6_event_44 : decode cX6_event 44 = .ok (.aload_n 0, 1) := by decide +kernel
theorem dX6_event_45 : decode cX6_event 45 = .ok (.getfield 13, 3) := by decide +kernel
theorem dX6_event_48 : decode cX6_event 48 = .ok (.iload_n 1, 1) := by decide +kernel
theorem dX6_event_49 : decode cX6_event 49 = .ok (.iaload, 1) := by decide +kernel
theorem dX6_event_50 : decode cX6_event 50 = .ok (.ireturn, 1) := by decide +kernel
theorem dX6_take_0 : decode cX6_take 0 = .ok (.aload_n 0, 1) := by decide +kernel
theorem dX6_take_1 : decode cX6_take 1 = .ok (.getfield 53, 3) := by decide +kernel
theorem dX6_take_4 : decode cX6_take 4 = .ok (.sipush 300, 3) := by decide +kernel
theorem dX6_take_7 : decode cX6_take 7 = .ok (.iload_n 1, 1) := by decide +kernel
theorem dX6_take_8 : decode cX6_take 8 = .ok (.imul, 1) := by decide +kernel
theorem dX6_take_9 : decode cX6_take 9 = .ok (.iaload, 1) := by decide +kernel
theorem dX6_take_10 : decode cX6_take 10 = .ok (.istore_n 2, 1) := by decide +kernel
theorem dX6_take_11 : decode cX6_take 11 = .ok (.aload_n 0, 1) := by decide +kernel
theorem dX6_take_12 : decode cX6_take 12 = .ok (.getfield 50, 3) := by decide +kernel
theorem dX6_take_15 : decode cX6_take 15 = .ok (.iload_n 1, 1) := by decide +kernel
theorem dX6_take_16 : decode cX6_take 16 = .ok (.dup2, 1) := by decide +kernel
theorem dX6_take_17 : decode cX6_take 17 = .ok (.iaload, 1) := by decide +kernel
theorem dX6_take_18 : decode cX6_take 18 = .ok (.iconst 1, 1) := by decide +kernel
theorem dX6_take_19 : decode cX6_take 19 = .ok (.isub, 1) := by decide +kernel
theorem dX6_take_20 : decode cX6_take 20 = .ok (.iastore, 1) := by decide +kernel
theorem dX6_take_21 : decode cX6_take 21 = .ok (.iconst 0, 1) := by decide +kernel
theorem dX6_take_22 : decode cX6_take 22 = .ok (.istore_n 3, 1) := by decide +kernel
theorem dX6_take_23 : decode cX6_take 23 = .ok (.iload_n 3, 1) := by decide +kernel
theorem dX6_take_24 : decode cX6_take 24 = .ok (.aload_n 0, 1) := by decide +kernel
theorem dX6_take_25 : decode cX6_take 25 = .ok (.getfield 50, 3) := by decide +kernel
theorem dX6_take_28 : decode cX6_take 28 = .ok (.iload_n 1, 1) := by decide +kernel
theorem dX6_take_29 : decode cX6_take 29 = .ok (.iaload, 1) := by decide +kernel
theorem dX6_take_30 : decode cX6_take 30 = .ok (.if_icmp .ge 35, 3) := by decide +kernel
theorem dX6_take_33 : decode cX6_take 33 = .ok (.aload_n 0, 1) := by decide +kernel
theorem dX6_take_34 : decode cX6_take 34 = .ok (.getfield 53, 3) := by decide +kernel
theorem dX6_take_37 : decode cX6_take 37 = .ok (.sipush 300, 3) := by decide +kernel
theorem dX6_take_40 : decode cX6_take 40 = .ok (.iload_n 1, 1) := by decide +kernel
theorem dX6_take_41 : decode cX6_take 41 = .ok (.imul, 1) := by decide +kernel
theorem dX6_take_42 : decode cX6_take 42 = .ok (.iload_n 3, 1) := by decide +kernel
theorem dX6_take_43 : decode cX6_take 43 = .ok (.iadd, 1) := by decide +kernel
theorem dX6_take_44 : decode cX6_take 44 = .ok (.aload_n 0, 1) := by decide +kernel
theorem dX6_take_45 : decode cX6_take 45 = .ok (.getfield 53, 3) := by decide +kernel
theorem dX6_take_48 : decode cX6_take 48 = .ok (.sipush 300, 3) := by decide +kernel
theorem dX6_take_51 : decode cX6_take 51 = .ok (.iload_n 1, 1) := by decide +kernel
theorem dX6_take_52 : decode cX6_take 52 = .ok (.imul, 1) := by decide +kernel
theorem dX6_take_53 : decode cX6_take 53 = .ok (.iload_n 3, 1) := by decide +kernel
theorem dX6_take_54 : decode cX6_take 54 = .ok (.iadd, 1) := by decide +kernel
theorem dX6_take_55 : decode cX6_take 55 = .ok (.iconst 1, 1) := by decide +kernel
theorem dX6_take_56 : decode cX6_take 56 = .ok (.iadd, 1) := by decide +kernel
theorem dX6_take_57 : decode cX6_take 57 = .ok (.iaload, 1) := by decide +kernel
theorem dX6_take_58 : decode cX6_take 58 = .ok (.iastore, 1) := by decide +kernel
theorem dX6_take_59 : decode cX6_take 59 = .ok (.iinc 3 1, 3) := by decide +kernel
theorem dX6_take_62 : decode cX6_take 62 = .ok (.goto (-39), 3) := by decide +kernel
theorem dX6_take_65 : decode cX6_take 65 = .ok (.iload_n 2, 1) := by decide +kernel
theorem dX6_take_66 : decode cX6_take 66 = .ok (.ireturn, 1) := by decide +kernel
theorem dX6_pass_0 : decode cX6_pass 0 = .ok (.aload_n 0, 1) := by decide +kernel
theorem dX6_pass_1 : decode cX6_pass 1 = .ok (.iload_n 1, 1) := by decide +kernel
theorem dX6_pass_2 : decode cX6_pass 2 = .ok (.invokestatic 196, 3) := by decide +kernel
theorem dX6_pass_5 : decode cX6_pass 5 = .ok (.ifCond .ne 7, 3) := by decide +kernel
theorem dX6_pass_8 : decode cX6_pass 8 = .ok (.iconst 1, 1) := by decide +kernel
theorem dX6_pass_9 : decode cX6_pass 9 = .ok (.goto 19, 3) := by decide +kernel
theorem dX6_pass_12 : decode cX6_pass 12 = .ok (.iload_n 2, 1) := by decide +kernel
theorem dX6_pass_13 : decode cX6_pass 13 = .ok (.iconst 1, 1) := by decide +kernel
theorem dX6_pass_14 : decode cX6_pass 14 = .ok (.sipush 300, 3) := by decide +kernel
theorem dX6_pass_17 : decode cX6_pass 17 = .ok (.invokestatic 87, 3) := by decide +kernel
theorem dX6_pass_20 : decode cX6_pass 20 = .ok (.ifCond .ne 7, 3) := by decide +kernel
theorem dX6_pass_23 : decode cX6_pass 23 = .ok (.iconst 2, 1) := by decide +kernel
theorem dX6_pass_24 : decode cX6_pass 24 = .ok (.goto 4, 3) := by decide +kernel
theorem dX6_pass_27 : decode cX6_pass 27 = .ok (.iconst 0, 1) := by decide +kernel
theorem dX6_pass_28 : decode cX6_pass 28 = .ok (.putfield 83, 3) := by decide +kernel
theorem dX6_pass_31 : decode cX6_pass 31 = .ok (.aload_n 0, 1) := by decide +kernel
theorem dX6_pass_32 : decode cX6_pass 32 = .ok (.getfield 83, 3) := by decide +kernel
theorem dX6_pass_35 : decode cX6_pass 35 = .ok (.ifCond .le 5, 3) := by decide +kernel
theorem dX6_pass_38 : decode cX6_pass 38 = .ok (.iconst 0, 1) := by decide +kernel
theorem dX6_pass_39 : decode cX6_pass 39 = .ok (.ireturn, 1) := by decide +kernel
theorem dX6_pass_40 : decode cX6_pass 40 = .ok (.aload_n 0, 1) := by decide +kernel
theorem dX6_pass_41 : decode cX6_pass 41 = .ok (.getfield 56, 3) := by decide +kernel
theorem dX6_pass_44 : decode cX6_pass 44 = .ok (.iload_n 1, 1) := by decide +kernel
theorem dX6_pass_45 : decode cX6_pass 45 = .ok (.baload, 1) := by decide +kernel
theorem dX6_pass_46 : decode cX6_pass 46 = .ok (.ifCond .eq 7, 3) := by decide +kernel
theorem dX6_pass_49 : decode cX6_pass 49 = .ok (.iload_n 1, 1) := by decide +kernel
theorem dX6_pass_50 : decode cX6_pass 50 = .ok (.goto 6, 3) := by decide +kernel
theorem dX6_pass_53 : decode cX6_pass 53 = .ok (.iconst 1, 1) := by decide +kernel
theorem dX6_pass_54 : decode cX6_pass 54 = .ok (.iload_n 1, 1) := by decide +kernel
theorem dX6_pass_55 : decode cX6_pass 55 = .ok (.isub, 1) := by decide +kernel
theorem dX6_pass_56 : decode cX6_pass 56 = .ok (.istore_n 3, 1) := by decide +kernel
theorem dX6_pass_57 : decode cX6_pass 57 = .ok (.aload_n 0, 1) := by decide +kernel
theorem dX6_pass_58 : decode cX6_pass 58 = .ok (.getfield 74, 3) := by decide +kernel
theorem dX6_pass_61 : decode cX6_pass 61 = .ok (.bipush 6, 2) := by decide +kernel
theorem dX6_pass_63 : decode cX6_pass 63 = .ok (.iload_n 3, 1) := by decide +kernel
theorem dX6_pass_64 : decode cX6_pass 64 = .ok (.imul, 1) := by decide +kernel
theorem dX6_pass_65 : decode cX6_pass 65 = .ok (.iaload, 1) := by decide +kernel
theorem dX6_pass_66 : decode cX6_pass 66 = .ok (.istore 4, 2) := by decide +kernel
theorem dX6_pass_68 : decode cX6_pass 68 = .ok (.iconst 0, 1) := by decide +kernel
theorem dX6_pass_69 : decode cX6_pass 69 = .ok (.istore 5, 2) := by decide +kernel
theorem dX6_pass_71 : decode cX6_pass 71 = .ok (.iload 5, 2) := by decide +kernel
theorem dX6_pass_73 : decode cX6_pass 73 = .ok (.iload_n 2, 1) := by decide +kernel
theorem dX6_pass_74 : decode cX6_pass 74 = .ok (.if_icmp .ge 28, 3) := by decide +kernel
theorem dX6_pass_77 : decode cX6_pass 77 = .ok (.aload_n 0, 1) := by decide +kernel
theorem dX6_pass_78 : decode cX6_pass 78 = .ok (.getfield 50, 3) := by decide +kernel
theorem dX6_pass_81 : decode cX6_pass 81 = .ok (.iload_n 1, 1) := by decide +kernel
theorem dX6_pass_82 : decode cX6_pass 82 = .ok (.iaload, 1) := by decide +kernel
theorem dX6_pass_83 : decode cX6_pass 83 = .ok (.ifCond .le 19, 3) := by decide +kernel
theorem dX6_pass_86 : decode cX6_pass 86 = .ok (.aload_n 0, 1) := by decide +kernel
theorem dX6_pass_87 : decode cX6_pass 87 = .ok (.iload_n 3, 1) := by decide +kernel
theorem dX6_pass_88 : decode cX6_pass 88 = .ok (.aload_n 0, 1) := by decide +kernel
theorem dX6_pass_89 : decode cX6_pass 89 = .ok (.iload_n 1, 1) := by decide +kernel
theorem dX6_pass_90 : decode cX6_pass 90 = .ok (.invokevirtual 199, 3) := by decide +kernel
theorem dX6_pass_93 : decode cX6_pass 93 = .ok (.invokevirtual 202, 3) := by decide +kernel
theorem dX6_pass_96 : decode cX6_pass 96 = .ok (.iinc 5 1, 3) := by decide +kernel
theorem dX6_pass_99 : decode cX6_pass 99 = .ok (.goto (-28), 3) := by decide +kernel
theorem dX6_pass_102 : decode cX6_pass 102 = .ok (.aload_n 0, 1) := by decide +kernel
theorem dX6_pass_103 : decode cX6_pass 103 = .ok (.getfield 74, 3) := by decide +kernel
theorem dX6_pass_106 : decode cX6_pass 106 = .ok (.bipush 6, 2) := by decide +kernel
theorem dX6_pass_108 : decode cX6_pass 108 = .ok (.iload_n 3, 1) := by decide +kernel
theorem dX6_pass_109 : decode cX6_pass 109 = .ok (.imul, 1) := by decide +kernel
theorem dX6_pass_110 : decode cX6_pass 110 = .ok (.iaload, 1) := by decide +kernel
theorem dX6_pass_111 : decode cX6_pass 111 = .ok (.iload 4, 2) := by decide +kernel
theorem dX6_pass_113 : decode cX6_pass 113 = .ok (.isub, 1) := by decide +kernel
theorem dX6_pass_114 : decode cX6_pass 114 = .ok (.ireturn, 1) := by decide +kernel
theorem dX6_tick_0 : decode cX6_tick 0 = .ok (.aload_n 0, 1) := by decide +kernel
theorem dX6_tick_1 : decode cX6_tick 1 = .ok (.iload_n 1, 1) := by decide +kernel
theorem dX6_tick_2 : decode cX6_tick 2 = .ok (.iconst 1, 1) := by decide +kernel
theorem dX6_tick_3 : decode cX6_tick 3 = .ok (.bipush 20, 2) := by decide +kernel
theorem dX6_tick_5 : decode cX6_tick 5 = .ok (.invokestatic 87, 3) := by decide +kernel
theorem dX6_tick_8 : decode cX6_tick 8 = .ok (.ifCond .eq 7, 3) := by decide +kernel
theorem dX6_tick_11 : decode cX6_tick 11 = .ok (.iconst 0, 1) := by decide +kernel
theorem dX6_tick_12 : decode cX6_tick 12 = .ok (.goto 4, 3) := by decide +kernel
theorem dX6_tick_15 : decode cX6_tick 15 = .ok (.iconst 1, 1) := by decide +kernel
theorem dX6_tick_16 : decode cX6_tick 16 = .ok (.putfield 83, 3) := by decide +kernel
theorem dX6_tick_19 : decode cX6_tick 19 = .ok (.iconst 0, 1) := by decide +kernel
theorem dX6_tick_20 : decode cX6_tick 20 = .ok (.istore_n 2, 1) := by decide +kernel
theorem dX6_tick_21 : decode cX6_tick 21 = .ok (.iconst 0, 1) := by decide +kernel
theorem dX6_tick_22 : decode cX6_tick 22 = .ok (.istore_n 3, 1) := by decide +kernel
theorem dX6_tick_23 : decode cX6_tick 23 = .ok (.iload_n 3, 1) := by decide +kernel
theorem dX6_tick_24 : decode cX6_tick 24 = .ok (.iload_n 1, 1) := by decide +kernel
theorem dX6_tick_25 : decode cX6_tick 25 = .ok (.if_icmp .ge 116, 3) := by decide +kernel
theorem dX6_tick_28 : decode cX6_tick 28 = .ok (.aload_n 0, 1) := by decide +kernel
theorem dX6_tick_29 : decode cX6_tick 29 = .ok (.getfield 83, 3) := by decide +kernel
theorem dX6_tick_32 : decode cX6_tick 32 = .ok (.ifCond .ne 109, 3) := by decide +kernel
theorem dX6_tick_35 : decode cX6_tick 35 = .ok (.iconst 0, 1) := by decide +kernel
theorem dX6_tick_36 : decode cX6_tick 36 = .ok (.istore 4, 2) := by decide +kernel
theorem dX6_tick_38 : decode cX6_tick 38 = .ok (.iload 4, 2) := by decide +kernel
theorem dX6_tick_40 : decode cX6_tick 40 = .ok (.iconst 2, 1) := by decide +kernel
theorem dX6_tick_41 : decode cX6_tick 41 = .ok (.if_icmp .ge 94, 3) := by decide +kernel
theorem dX6_tick_44 : decode cX6_tick 44 = .ok (.aload_n 0, 1) := by decide +kernel
theorem dX6_tick_45 : decode cX6_tick 45 = .ok (.getfield 13, 3) := by decide +kernel
theorem dX6_tick_48 : decode cX6_tick 48 = .ok (.iload 4, 2) := by decide +kernel
theorem dX6_tick_50 : decode cX6_tick 50 = .ok (.iaload, 1) := by decide +kernel
theorem dX6_tick_51 : decode cX6_tick 51 = .ok (.iconst 4, 1) := by decide +kernel
theorem dX6_tick_52 : decode cX6_tick 52 = .ok (.bipush 8, 2) := by decide +kernel
theorem dX6_tick_54 : decode cX6_tick 54 = .ok (.invokestatic 87, 3) := by decide +kernel
theorem dX6_tick_57 : decode cX6_tick 57 = .ok (.istore 5, 2) := by decide +kernel
theorem dX6_tick_59 : decode cX6_tick 59 = .ok (.aload_n 0, 1) := by decide +kernel
theorem dX6_tick_60 : decode cX6_tick 60 = .ok (.getfield 31, 3) := by decide +kernel
theorem dX6_tick_63 : decode cX6_tick 63 = .ok (.iload 4, 2) := by decide +kernel
theorem dX6_tick_65 : decode cX6_tick 65 = .ok (.iload 5, 2) := by decide +kernel
theorem dX6_tick_67 : decode cX6_tick 67 = .ok (.ifCond .eq 15, 3) := by decide +kernel
theorem dX6_tick_70 : decode cX6_tick 70 = .ok (.aload_n 0, 1) := by decide +kernel
theorem dX6_tick_71 : decode cX6_tick 71 = .ok (.getfield 31, 3) := by decide +kernel
theorem dX6_tick_74 : decode cX6_tick 74 = .ok (.iload 4, 2) := by decide +kernel
theorem dX6_tick_76 : decode cX6_tick 76 = .ok (.iaload, 1) := by decide +kernel
theorem dX6_tick_77 : decode cX6_tick 77 = .ok (.iconst 1, 1) := by decide +kernel
theorem dX6_tick_78 : decode cX6_tick 78 = .ok (.isub, 1) := by decide +kernel
theorem dX6_tick_79 : decode cX6_tick 79 = .ok (.goto 10, 3) := by decide +kernel
theorem dX6_tick_82 : decode cX6_tick 82 = .ok (.aload_n 0, 1) := by decide +kernel
theorem dX6_tick_83 : decode cX6_tick 83 = .ok (.getfield 31, 3) := by decide +kernel
theorem dX6_tick_86 : decode cX6_tick 86 = .ok (.iload 4, 2) := by decide +kernel
theorem dX6_tick_88 : decode cX6_tick 88 = .ok (.iaload, 1) := by decide +kernel
theorem dX6_tick_89 : decode cX6_tick 89 = .ok (.iastore, 1) := by decide +kernel
theorem dX6_tick_90 : decode cX6_tick 90 = .ok (.iload 5, 2) := by decide +kernel
theorem dX6_tick_92 : decode cX6_tick 92 = .ok (.ifCond .eq 37, 3) := by decide +kernel
theorem dX6_tick_95 : decode cX6_tick 95 = .ok (.aload_n 0, 1) := by decide +kernel
theorem dX6_tick_96 : decode cX6_tick 96 = .ok (.getfield 31, 3) := by decide +kernel
theorem dX6_tick_99 : decode cX6_tick 99 = .ok (.iload 4, 2) := by decide +kernel
theorem dX6_tick_101 : decode cX6_tick 101 = .ok (.iaload, 1) := by decide +kernel
theorem dX6_tick_102 : decode cX6_tick 102 = .ok (.ifCond .ne 27, 3) := by decide +kernel
theorem dX6_tick_105 : decode cX6_tick 105 = .ok (.iinc 2 1, 3) := by decide +kernel
theorem dX6_tick_108 : decode cX6_tick 108 = .ok (.aload_n 0, 1) := by decide +kernel
theorem dX6_tick_109 : decode cX6_tick 109 = .ok (.iload 4, 2) := by decide +kernel
theorem dX6_tick_111 : decode cX6_tick 111 = .ok (.aload_n 0, 1) := by decide +kernel
theorem dX6_tick_112 : decode cX6_tick 112 = .ok (.getfield 28, 3) := by decide +kernel
theorem dX6_tick_115 : decode cX6_tick 115 = .ok (.iload 4, 2) := by decide +kernel
theorem dX6_tick_117 : decode cX6_tick 117 = .ok (.iaload, 1) := by decide +kernel
theorem dX6_tick_118 : decode cX6_tick 118 = .ok (.ifCond .le 7, 3) := by decide +kernel
theorem dX6_tick_121 : decode cX6_tick 121 = .ok (.iconst 4, 1) := by decide +kernel
theorem dX6_tick_122 : decode cX6_tick 122 = .ok (.goto 4, 3) := by decide +kernel
theorem dX6_tick_125 : decode cX6_tick 125 = .ok (.iconst 5, 1) := by decide +kernel
theorem dX6_tick_126 : decode cX6_tick 126 = .ok (.invokevirtual 178, 3) := by decide +kernel
theorem dX6_tick_129 : decode cX6_tick 129 = .ok (.iinc 4 1, 3) := by decide +kernel
theorem dX6_tick_132 : decode cX6_tick 132 = .ok (.goto (-94), 3) := by decide +kernel
theorem dX6_tick_135 : decode cX6_tick 135 = .ok (.iinc 3 1, 3) := by decide +kernel
theorem dX6_tick_138 : decode cX6_tick 138 = .ok (.goto (-115), 3) := by decide +kernel
theorem dX6_tick_141 : decode cX6_tick 141 = .ok (.iload_n 2, 1) := by decide +kernel
theorem dX6_tick_142 : decode cX6_tick 142 = .ok (.ireturn, 1) := by decide +kernel
theorem dX6_put_0 : decode cX6_put 0 = .ok (.aload_n 0, 1) := by decide +kernel
theorem dX6_put_1 : decode cX6_put 1 = .ok (.iload_n 1, 1) := by decide +kernel
theorem dX6_put_2 : decode cX6_put 2 = .ok (.invokestatic 196, 3) := by decide +kernel
theorem dX6_put_5 : decode cX6_put 5 = .ok (.ifCond .ne 7, 3) := by decide +kernel
theorem dX6_put_8 : decode cX6_put 8 = .ok (.iconst 1, 1) := by decide +kernel
theorem dX6_put_9 : decode cX6_put 9 = .ok (.goto 35, 3) := by decide +kernel
theorem dX6_put_12 : decode cX6_put 12 = .ok (.iload_n 2, 1) := by decide +kernel
theorem dX6_put_13 : decode cX6_put 13 = .ok (.iconst 0, 1) := by decide +kernel
theorem dX6_put_14 : decode cX6_put 14 = .ok (.sipush 255, 3) := by decide +kernel
theorem dX6_put_17 : decode cX6_put 17 = .ok (.invokestatic 87, 3) := by decide +kernel
theorem dX6_put_20 : decode cX6_put 20 = .ok (.ifCond .ne 7, 3) := by decide +kernel
theorem dX6_put_23 : decode cX6_put 23 = .ok (.iconst 2, 1) := by decide +kernel
theorem dX6_put_24 : decode cX6_put 24 = .ok (.goto 20, 3) := by decide +kernel
theorem dX6_put_27 : decode cX6_put 27 = .ok (.aload_n 0, 1) := by decide +kernel
theorem dX6_put_28 : decode cX6_put 28 = .ok (.getfield 50, 3) := by decide +kernel
theorem dX6_put_31 : decode cX6_put 31 = .ok (.iload_n 1, 1) := by decide +kernel
theorem dX6_put_32 : decode cX6_put 32 = .ok (.iaload, 1) := by decide +kernel
theorem dX6_put_33 : decode cX6_put 33 = .ok (.sipush 300, 3) := by decide +kernel
theorem dX6_put_36 : decode cX6_put 36 = .ok (.if_icmp .ne 7, 3) := by decide +kernel
theorem dX6_put_39 : decode cX6_put 39 = .ok (.iconst 3, 1) := by decide +kernel
theorem dX6_put_40 : decode cX6_put 40 = .ok (.goto 4, 3) := by decide +kernel
theorem dX6_put_43 : decode cX6_put 43 = .ok (.iconst 0, 1) := by decide +kernel
theorem dX6_put_44 : decode cX6_put 44 = .ok (.putfield 83, 3) := by decide +kernel
theorem dX6_put_47 : decode cX6_put 47 = .ok (.aload_n 0, 1) := by decide +kernel
theorem dX6_put_48 : decode cX6_put 48 = .ok (.getfield 83, 3) := by decide +kernel
theorem dX6_put_51 : decode cX6_put 51 = .ok (.ifCond .le 5, 3) := by decide +kernel
theorem dX6_put_54 : decode cX6_put 54 = .ok (.iconst 0, 1) := by decide +kernel
theorem dX6_put_55 : decode cX6_put 55 = .ok (.ireturn, 1) := by decide +kernel
theorem dX6_put_56 : decode cX6_put 56 = .ok (.aload_n 0, 1) := by decide +kernel
theorem dX6_put_57 : decode cX6_put 57 = .ok (.iload_n 1, 1) := by decide +kernel
theorem dX6_put_58 : decode cX6_put 58 = .ok (.iload_n 2, 1) := by decide +kernel
theorem dX6_put_59 : decode cX6_put 59 = .ok (.invokevirtual 112, 3) := by decide +kernel
theorem dX6_put_62 : decode cX6_put 62 = .ok (.aload_n 0, 1) := by decide +kernel
theorem dX6_put_63 : decode cX6_put 63 = .ok (.getfield 50, 3) := by decide +kernel
theorem dX6_put_66 : decode cX6_put 66 = .ok (.iload_n 1, 1) := by decide +kernel
theorem dX6_put_67 : decode cX6_put 67 = .ok (.iaload, 1) := by decide +kernel
theorem dX6_put_68 : decode cX6_put 68 = .ok (.ireturn, 1) := by decide +kernel
theorem dX6_isByte_0 : decode cX6_isByte 0 = .ok (.iload_n 1, 1) := by decide +kernel
theorem dX6_isByte_1 : decode cX6_isByte 1 = .ok (.invokestatic 196, 3) := by decide +kernel
theorem dX6_isByte_4 : decode cX6_isByte 4 = .ok (.ifCond .eq 34, 3) := by decide +kernel
theorem dX6_isByte_7 : decode cX6_isByte 7 = .ok (.iload_n 2, 1) := by decide +kernel
theorem dX6_isByte_8 : decode cX6_isByte 8 = .ok (.iconst 0, 1) := by decide +kernel
theorem dX6_isByte_9 : decode cX6_isByte 9 = .ok (.aload_n 0, 1) := by decide +kernel
theorem dX6_isByte_10 : decode cX6_isByte 10 = .ok (.getfield 50, 3) := by decide +kernel
theorem dX6_isByte_13 : decode cX6_isByte 13 = .ok (.iload_n 1, 1) := by decide +kernel
theorem dX6_isByte_14 : decode cX6_isByte 14 = .ok (.invokestatic 196, 3) := by decide +kernel
theorem dX6_isByte_17 : decode cX6_isByte 17 = .ok (.ifCond .eq 7, 3) := by decide +kernel
theorem dX6_isByte_20 : decode cX6_isByte 20 = .ok (.iload_n 1, 1) := by decide +kernel
theorem dX6_isByte_21 : decode cX6_isByte 21 = .ok (.goto 4, 3) := by decide +kernel
theorem dX6_isByte_24 : decode cX6_isByte 24 = .ok (.iconst 0, 1) := by decide +kernel
theorem dX6_isByte_25 : decode cX6_isByte 25 = .ok (.iaload, 1) := by decide +kernel
theorem dX6_isByte_26 : decode cX6_isByte 26 = .ok (.iconst 1, 1) := by decide +kernel
theorem dX6_isByte_27 : decode cX6_isByte 27 = .ok (.isub, 1) := by decide +kernel
theorem dX6_isByte_28 : decode cX6_isByte 28 = .ok (.invokestatic 87, 3) := by decide +kernel
theorem dX6_isByte_31 : decode cX6_isByte 31 = .ok (.ifCond .eq 7, 3) := by decide +kernel
theorem dX6_isByte_34 : decode cX6_isByte 34 = .ok (.iconst 1, 1) := by decide +kernel
theorem dX6_isByte_35 : decode cX6_isByte 35 = .ok (.goto 4, 3) := by decide +kernel
theorem dX6_isByte_38 : decode cX6_isByte 38 = .ok (.iconst 0, 1) := by decide +kernel
theorem dX6_isByte_39 : decode cX6_isByte 39 = .ok (.ireturn, 1) := by decide +kernel

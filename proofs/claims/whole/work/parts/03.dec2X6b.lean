theorem dX6_act_137 : decode cX6_act 137 = .ok (.invokevirtual 119, 3) := by decide +kernel
theorem dX6_act_140 : decode cX6_act 140 = .ok (.aload_n 0, 1) := by decide +kernel
theorem dX6_act_141 : decode cX6_act 141 = .ok (.iload_n 1, 1) := by decide +kernel
theorem dX6_act_142 : decode cX6_act 142 = .ok (.invokevirtual 125, 3) := by decide +kernel
theorem dX6_act_145 : decode cX6_act 145 = .ok (.goto 67, 3) := by decide +kernel
theorem dX6_act_148 : decode cX6_act 148 = .ok (.aload_n 0, 1) := by decide +kernel
theorem dX6_act_149 : decode cX6_act 149 = .ok (.bipush 7, 2) := by decide +kernel
theorem dX6_act_151 : decode cX6_act 151 = .ok (.aload_n 0, 1) := by decide +kernel
theorem dX6_act_152 : decode cX6_act 152 = .ok (.iload_n 1, 1) := by decide +kernel
theorem dX6_act_153 : decode cX6_act 153 = .ok (.invokevirtual 115, 3) := by decide +kernel
theorem dX6_act_156 : decode cX6_act 156 = .ok (.invokevirtual 119, 3) := by decide +kernel
theorem dX6_act_159 : decode cX6_act 159 = .ok (.aload_n 0, 1) := by decide +kernel
theorem dX6_act_160 : decode cX6_act 160 = .ok (.aload_n 0, 1) := by decide +kernel
theorem dX6_act_161 : decode cX6_act 161 = .ok (.getfield 143, 3) := by decide +kernel
theorem dX6_act_164 : decode cX6_act 164 = .ok (.invokevirtual 95, 3) := by decide +kernel
theorem dX6_act_167 : decode cX6_act 167 = .ok (.aload_n 0, 1) := by decide +kernel
theorem dX6_act_168 : decode cX6_act 168 = .ok (.iload_n 1, 1) := by decide +kernel
theorem dX6_act_169 : decode cX6_act 169 = .ok (.invokevirtual 125, 3) := by decide +kernel
theorem dX6_act_172 : decode cX6_act 172 = .ok (.goto 40, 3) := by decide +kernel
theorem dX6_act_175 : decode cX6_act 175 = .ok (.aload_n 0, 1) := by decide +kernel
theorem dX6_act_176 : decode cX6_act 176 = .ok (.bipush 10, 2) := by decide +kernel
theorem dX6_act_178 : decode cX6_act 178 = .ok (.aload_n 0, 1) := by decide +kernel
theorem dX6_act_179 : decode cX6_act 179 = .ok (.getfield 131, 3) := by decide +kernel
theorem dX6_act_182 : decode cX6_act 182 = .ok (.invokevirtual 119, 3) := by decide +kernel
theorem dX6_act_185 : decode cX6_act 185 = .ok (.aload_n 0, 1) := by decide +kernel
theorem dX6_act_186 : decode cX6_act 186 = .ok (.aload_n 0, 1) := by decide +kernel
theorem dX6_act_187 : decode cX6_act 187 = .ok (.getfield 22, 3) := by decide +kernel
theorem dX6_act_190 : decode cX6_act 190 = .ok (.iload_n 1, 1) := by decide +kernel
theorem dX6_act_191 : decode cX6_act 191 = .ok (.iaload, 1) := by decide +kernel
theorem dX6_act_192 : decode cX6_act 192 = .ok (.invokevirtual 122, 3) := by decide +kernel
theorem dX6_act_195 : decode cX6_act 195 = .ok (.aload_n 0, 1) := by decide +kernel
theorem dX6_act_196 : decode cX6_act 196 = .ok (.iload_n 1, 1) := by decide +kernel
theorem dX6_act_197 : decode cX6_act 197 = .ok (.invokevirtual 125, 3) := by decide +kernel
theorem dX6_act_200 : decode cX6_act 200 = .ok (.goto 12, 3) := by decide +kernel
theorem dX6_act_203 : decode cX6_act 203 = .ok (.aload_n 0, 1) := by decide +kernel
theorem dX6_act_204 : decode cX6_act 204 = .ok (.iload_n 1, 1) := by decide +kernel
theorem dX6_act_205 : decode cX6_act 205 = .ok (.iconst 4, 1) := by decide +kernel
theorem dX6_act_206 : decode cX6_act 206 = .ok (.invokevirtual 108, 3) := by decide +kernel
theorem dX6_act_209 : decode cX6_act 209 = .ok (.goto 3, 3) := by decide +kernel
theorem dX6_act_212 : decode cX6_act 212 = .ok (.return_, 1) := by decide +kernel
theorem dX6_happen_0 : decode cX6_happen 0 = .ok (.aload_n 0, 1) := by decide +kernel
theorem dX6_happen_1 : decode cX6_happen 1 = .ok (.getfield 7, 3) := by decide +kernel
theorem dX6_happen_4 : decode cX6_happen 4 = .ok (.bipush 10, 2) := by decide +kernel
theorem dX6_happen_6 : decode cX6_happen 6 = .ok (.iload_n 2, 1) := by decide +kernel
theorem dX6_happen_7 : decode cX6_happen 7 = .ok (.imul, 1) := by decide +kernel
theorem dX6_happen_8 : decode cX6_happen 8 = .ok (.aload_n 0, 1) := by decide +kernel
theorem dX6_happen_9 : decode cX6_happen 9 = .ok (.getfield 13, 3) := by decide +kernel
theorem dX6_happen_12 : decode cX6_happen 12 = .ok (.iload_n 1, 1) := by decide +kernel
theorem dX6_happen_13 : decode cX6_happen 13 = .ok (.iaload, 1) := by decide +kernel
theorem dX6_happen_14 : decode cX6_happen 14 = .ok (.iadd, 1) := by decide +kernel
theorem dX6_happen_15 : decode cX6_happen 15 = .ok (.iaload, 1) := by decide +kernel
theorem dX6_happen_16 : decode cX6_happen 16 = .ok (.istore_n 3, 1) := by decide +kernel
theorem dX6_happen_17 : decode cX6_happen 17 = .ok (.iload_n 3, 1) := by decide +kernel
theorem dX6_happen_18 : decode cX6_happen 18 = .ok (.ifCond .ge 4, 3) := by decide +kernel
theorem dX6_happen_21 : decode cX6_happen 21 = .ok (.return_, 1) := by decide +kernel
theorem dX6_happen_22 : decode cX6_happen 22 = .ok (.iload_n 3, 1) := by decide +kernel
theorem dX6_happen_23 : decode cX6_happen 23 = .ok (.bipush 16, 2) := by decide +kernel
theorem dX6_happen_25 : decode cX6_happen 25 = .ok (.idiv, 1) := by decide +kernel
theorem dX6_happen_26 : decode cX6_happen 26 = .ok (.istore 4, 2) := by decide +kernel
theorem dX6_happen_28 : decode cX6_happen 28 = .ok (.iload 4, 2) := by decide +kernel
theorem dX6_happen_30 : decode cX6_happen 30 = .ok (.ifCond .le 23, 3) := by decide +kernel
theorem dX6_happen_33 : decode cX6_happen 33 = .ok (.aload_n 0, 1) := by decide +kernel
theorem dX6_happen_34 : decode cX6_happen 34 = .ok (.iload_n 1, 1) := by decide +kernel
theorem dX6_happen_35 : decode cX6_happen 35 = .ok (.iload 4, 2) := by decide +kernel
theorem dX6_happen_37 : decode cX6_happen 37 = .ok (.bipush 16, 2) := by decide +kernel
theorem dX6_happen_39 : decode cX6_happen 39 = .ok (.irem, 1) := by decide +kernel
theorem dX6_happen_40 : decode cX6_happen 40 = .ok (.invokevirtual 146, 3) := by decide +kernel
theorem dX6_happen_43 : decode cX6_happen 43 = .ok (.iload 4, 2) := by decide +kernel
theorem dX6_happen_45 : decode cX6_happen 45 = .ok (.bipush 16, 2) := by decide +kernel
theorem dX6_happen_47 : decode cX6_happen 47 = .ok (.idiv, 1) := by decide +kernel
theorem dX6_happen_48 : decode cX6_happen 48 = .ok (.istore 4, 2) := by decide +kernel
theorem dX6_happen_50 : decode cX6_happen 50 = .ok (.goto (-22), 3) := by decide +kernel
theorem dX6_happen_53 : decode cX6_happen 53 = .ok (.aload_n 0, 1) := by decide +kernel
theorem dX6_happen_54 : decode cX6_happen 54 = .ok (.getfield 13, 3) := by decide +kernel
theorem dX6_happen_57 : decode cX6_happen 57 = .ok (.iload_n 1, 1) := by decide +kernel
theorem dX6_happen_58 : decode cX6_happen 58 = .ok (.iload_n 3, 1) := by decide +kernel
theorem dX6_happen_59 : decode cX6_happen 59 = .ok (.bipush 16, 2) := by decide +kernel
theorem dX6_happen_61 : decode cX6_happen 61 = .ok (.irem, 1) := by decide +kernel
theorem dX6_happen_62 : decode cX6_happen 62 = .ok (.iastore, 1) := by decide +kernel
theorem dX6_happen_63 : decode cX6_happen 63 = .ok (.return_, 1) := by decide +kernel
theorem dX6_at_0 : decode cX6_at 0 = .ok (.aload_n 0, 1) := by decide +kernel
theorem dX6_at_1 : decode cX6_at 1 = .ok (.getfield 62, 3) := by decide +kernel
theorem dX6_at_4 : decode cX6_at 4 = .ok (.bipush 40, 2) := by decide +kernel
theorem dX6_at_6 : decode cX6_at 6 = .ok (.iload_n 1, 1) := by decide +kernel
theorem dX6_at_7 : decode cX6_at 7 = .ok (.imul, 1) := by decide +kernel
theorem dX6_at_8 : decode cX6_at 8 = .ok (.iload_n 2, 1) := by decide +kernel
theorem dX6_at_9 : decode cX6_at 9 = .ok (.iadd, 1) := by decide +kernel
theorem dX6_at_10 : decode cX6_at 10 = .ok (.iaload, 1) := by decide +kernel
theorem dX6_at_11 : decode cX6_at 11 = .ok (.ireturn, 1) := by decide +kernel
theorem dX6_intAt_0 : decode cX6_intAt 0 = .ok (.aload_n 0, 1) := by decide +kernel
theorem dX6_intAt_1 : decode cX6_intAt 1 = .ok (.iload_n 1, 1) := by decide +kernel
theorem dX6_intAt_2 : decode cX6_intAt 2 = .ok (.iload_n 2, 1) := by decide +kernel
theorem dX6_intAt_3 : decode cX6_intAt 3 = .ok (.invokevirtual 149, 3) := by decide +kernel
theorem dX6_intAt_6 : decode cX6_intAt 6 = .ok (.bipush 24, 2) := by decide +kernel
theorem dX6_intAt_8 : decode cX6_intAt 8 = .ok (.ishl, 1) := by decide +kernel
theorem dX6_intAt_9 : decode cX6_intAt 9 = .ok (.aload_n 0, 1) := by decide +kernel
theorem dX6_intAt_10 : decode cX6_intAt 10 = .ok (.iload_n 1, 1) := by decide +kernel
theorem dX6_intAt_11 : decode cX6_intAt 11 = .ok (.iload_n 2, 1) := by decide +kernel
theorem dX6_intAt_12 : decode cX6_intAt 12 = .ok (.iconst 1, 1) := by decide +kernel
theorem dX6_intAt_13 : decode cX6_intAt 13 = .ok (.iadd, 1) := by decide +kernel
theorem dX6_intAt_14 : decode cX6_intAt 14 = .ok (.invokevirtual 149, 3) := by decide +kernel
theorem dX6_intAt_17 : decode cX6_intAt 17 = .ok (.bipush 16, 2) := by decide +kernel
theorem dX6_intAt_19 : decode cX6_intAt 19 = .ok (.ishl, 1) := by decide +kernel
theorem dX6_intAt_20 : decode cX6_intAt 20 = .ok (.ior, 1) := by decide +kernel
theorem dX6_intAt_21 : decode cX6_intAt 21 = .ok (.aload_n 0, 1) := by decide +kernel
theorem dX6_intAt_22 : decode cX6_intAt 22 = .ok (.iload_n 1, 1) := by decide +kernel
theorem dX6_intAt_23 : decode cX6_intAt 23 = .ok (.iload_n 2, 1) := by decide +kernel
theorem dX6_intAt_24 : decode cX6_intAt 24 = .ok (.iconst 2, 1) := by decide +kernel
theorem dX6_intAt_25 : decode cX6_intAt 25 = .ok (.iadd, 1) := by decide +kernel
theorem dX6_intAt_26 : decode cX6_intAt 26 = .ok (.invokevirtual 149, 3) := by decide +kernel
theorem dX6_intAt_29 : decode cX6_intAt 29 = .ok (.bipush 8, 2) := by decide +kernel
theorem dX6_intAt_31 : decode cX6_intAt 31 = .ok (.ishl, 1) := by decide +kernel
theorem dX6_intAt_32 : decode cX6_intAt 32 = .ok (.ior, 1) := by decide +kernel
theorem dX6_intAt_33 : decode cX6_intAt 33 = .ok (.aload_n 0, 1) := by decide +kernel
theorem dX6_intAt_34 : decode cX6_intAt 34 = .ok (.iload_n 1, 1) := by decide +kernel
theorem dX6_intAt_35 : decode cX6_intAt 35 = .ok (.iload_n 2, 1) := by decide +kernel
theorem dX6_intAt_36 : decode cX6_intAt 36 = .ok (.iconst 3, 1) := by decide +kernel
theorem dX6_intAt_37 : decode cX6_intAt 37 = .ok (.iadd, 1) := by decide +kernel
theorem dX6_intAt_38 : decode cX6_intAt 38 = .ok (.invokevirtual 149, 3) := by decide +kernel
theorem dX6_intAt_41 : decode cX6_intAt 41 = .ok (.ior, 1) := by decide +kernel
theorem dX6_intAt_42 : decode cX6_intAt 42 = .ok (.ireturn, 1) := by decide +kernel
theorem dX6_sizeOf_0 : decode cX6_sizeOf 0 = .ok (.iload_n 0, 1) := by decide +kernel
theorem dX6_sizeOf_1 : decode cX6_sizeOf 1 = .ok (.iconst 1, 1) := by decide +kernel
theorem dX6_sizeOf_2 : decode cX6_sizeOf 2 = .ok (.if_icmp .ne 7, 3) := by decide +kernel
theorem dX6_sizeOf_5 : decode cX6_sizeOf 5 = .ok (.iconst 2, 1) := by decide +kernel
theorem dX6_sizeOf_6 : decode cX6_sizeOf 6 = .ok (.goto 13, 3) := by decide +kernel
theorem dX6_sizeOf_9 : decode cX6_sizeOf 9 = .ok (.iload_n 0, 1) := by decide +kernel
theorem dX6_sizeOf_10 : decode cX6_sizeOf 10 = .ok (.iconst 5, 1) := by decide +kernel
theorem dX6_sizeOf_11 : decode cX6_sizeOf 11 = .ok (.if_icmp .ne 7, 3) := by decide +kernel
theorem dX6_sizeOf_14 : decode cX6_sizeOf 14 = .ok (.iconst 4, 1) := by decide +kernel
theorem dX6_sizeOf_15 : decode cX6_sizeOf 15 = .ok (.goto 4, 3) := by decide +kernel
theorem dX6_sizeOf_18 : decode cX6_sizeOf 18 = .ok (.iconst 1, 1) := by decide +kernel
theorem dX6_sizeOf_19 : decode cX6_sizeOf 19 = .ok (.ireturn, 1) := by decide +kernel
theorem dX6_areOptions_0 : decode cX6_areOptions 0 = .ok (.iconst 3, 1) := by decide +kernel
theorem dX6_areOptions_1 : decode cX6_areOptions 1 = .ok (.istore_n 3, 1) := by decide +kernel
theorem dX6_areOptions_2 : decode cX6_areOptions 2 = .ok (.iconst 1, 1) := by decide +kernel
theorem dX6_areOptions_3 : decode cX6_areOptions 3 = .ok (.istore 4, 2) := by decide +kernel
theorem dX6_areOptions_5 : decode cX6_areOptions 5 = .ok (.iload_n 3, 1) := by decide +kernel
theorem dX6_areOptions_6 : decode cX6_areOptions 6 = .ok (.iload_n 2, 1) := by decide +kernel
theorem dX6_areOptions_7 : decode cX6_areOptions 7 = .ok (.if_icmp .ge 99, 3) := by decide +kernel
theorem dX6_areOptions_10 : decode cX6_areOptions 10 = .ok (.iload 4, 2) := by decide +kernel
theorem dX6_areOptions_12 : decode cX6_areOptions 12 = .ok (.ifCond .eq 94, 3) := by decide +kernel
theorem dX6_areOptions_15 : decode cX6_areOptions 15 = .ok (.aload_n 0, 1) := by decide +kernel
theorem dX6_areOptions_16 : decode cX6_areOptions 16 = .ok (.iload_n 1, 1) := by decide +kernel
theorem dX6_areOptions_17 : decode cX6_areOptions 17 = .ok (.iload_n 3, 1) := by decide +kernel
theorem dX6_areOptions_18 : decode cX6_areOptions 18 = .ok (.invokevirtual 149, 3) := by decide +kernel
theorem dX6_areOptions_21 : decode cX6_areOptions 21 = .ok (.istore 5, 2) := by decide +kernel
theorem dX6_areOptions_23 : decode cX6_areOptions 23 = .ok (.iconst 3, 1) := by decide +kernel
theorem dX6_areOptions_24 : decode cX6_areOptions 24 = .ok (.istore 6, 2) := by decide +kernel
theorem dX6_areOptions_26 : decode cX6_areOptions 26 = .ok (.iload 6, 2) := by decide +kernel
theorem dX6_areOptions_28 : decode cX6_areOptions 28 = .ok (.iload_n 3, 1) := by decide +kernel
theorem dX6_areOptions_29 : decode cX6_areOptions 29 = .ok (.if_icmp .ge 47, 3) := by decide +kernel
theorem dX6_areOptions_32 : decode cX6_areOptions 32 = .ok (.iload 4, 2) := by decide +kernel
theorem dX6_areOptions_34 : decode cX6_areOptions 34 = .ok (.ifCond .eq 19, 3) := by decide +kernel
theorem dX6_areOptions_37 : decode cX6_areOptions 37 = .ok (.aload_n 0, 1) := by decide +kernel
theorem dX6_areOptions_38 : decode cX6_areOptions 38 = .ok (.iload_n 1, 1) := by decide +kernel
theorem dX6_areOptions_39 : decode cX6_areOptions 39 = .ok (.iload 6, 2) := by decide +kernel
theorem dX6_areOptions_41 : decode cX6_areOptions 41 = .ok (.invokevirtual 149, 3) := by decide +kernel
theorem dX6_areOptions_44 : decode cX6_areOptions 44 = .ok (.iload 5, 2) := by decide +kernel
theorem dX6_areOptions_46 : decode cX6_areOptions 46 = .ok (.if_icmp .eq 7, 3) := by decide +kernel
theorem dX6_areOptions_49 : decode cX6_areOptions 49 = .ok (.iconst 1, 1) := by decide +kernel
theorem dX6_areOptions_50 : decode cX6_areOptions 50 = .ok (.goto 4, 3) := by decide +kernel
theorem dX6_areOptions_53 : decode cX6_areOptions 53 = .ok (.iconst 0, 1) := by decide +kernel
theorem dX6_areOptions_54 : decode cX6_areOptions 54 = .ok (.istore 4, 2) := by decide +kernel
theorem dX6_areOptions_56 : decode cX6_areOptions 56 = .ok (.iload 6, 2) := by decide +kernel
theorem dX6_areOptions_58 : decode cX6_areOptions 58 = .ok (.iconst 1, 1) := by decide +kernel
theorem dX6_areOptions_59 : decode cX6_areOptions 59 = .ok (.aload_n 0, 1) := by decide +kernel
theorem dX6_areOptions_60 : decode cX6_areOptions 60 = .ok (.iload_n 1, 1) := by decide +kernel
theorem dX6_areOptions_61 : decode cX6_areOptions 61 = .ok (.iload 6, 2) := by decide +kernel
theorem dX6_areOptions_63 : decode cX6_areOptions 63 = .ok (.invokevirtual 149, 3) := by decide +kernel
theorem dX6_areOptions_66 : decode cX6_areOptions 66 = .ok (.invokestatic 152, 3) := by decide +kernel
theorem dX6_areOptions_69 : decode cX6_areOptions 69 = .ok (.iadd, 1) := by decide +kernel
theorem dX6_areOptions_70 : decode cX6_areOptions 70 = .ok (.iadd, 1) := by decide +kernel
theorem dX6_areOptions_71 : decode cX6_areOptions 71 = .ok (.istore 6, 2) := by decide +kernel
theorem dX6_areOptions_73 : decode cX6_areOptions 73 = .ok (.goto (-47), 3) := by decide +kernel
theorem dX6_areOptions_76 : decode cX6_areOptions 76 = .ok (.iload_n 3, 1) := by decide +kernel
theorem dX6_areOptions_77 : decode cX6_areOptions 77 = .ok (.iconst 1, 1) := by decide +kernel
theorem dX6_areOptions_78 : decode cX6_areOptions 78 = .ok (.iadd, 1) := by decide +kernel
theorem dX6_areOptions_79 : decode cX6_areOptions 79 = .ok (.iload 5, 2) := by decide +kernel
theorem dX6_areOptions_81 : decode cX6_areOptions 81 = .ok (.invokestatic 152, 3) := by decide +kernel
theorem dX6_areOptions_84 : decode cX6_areOptions 84 = .ok (.iadd, 1) := by decide +kernel
theorem dX6_areOptions_85 : decode cX6_areOptions 85 = .ok (.istore_n 3, 1) := by decide +kernel
theorem dX6_areOptions_86 : decode cX6_areOptions 86 = .ok (.iload 4, 2) := by decide +kernel
theorem dX6_areOptions_88 : decode cX6_areOptions 88 = .ok (.ifCond .eq 12, 3) := by decide +kernel
theorem dX6_areOptions_91 : decode cX6_areOptions 91 = .ok (.iload_n 3, 1) := by decide +kernel
theorem dX6_areOptions_92 : decode cX6_areOptions 92 = .ok (.iload_n 2, 1) := by decide +kernel
theorem dX6_areOptions_93 : decode cX6_areOptions 93 = .ok (.if_icmp .gt 7, 3) := by decide +kernel
theorem dX6_areOptions_96 : decode cX6_areOptions 96 = .ok (.iconst 1, 1) := by decide +kernel
theorem dX6_areOptions_97 : decode cX6_areOptions 97 = .ok (.goto 4, 3) := by decide +kernel
theorem dX6_areOptions_100 : decode cX6_areOptions 100 = .ok (.iconst 0, 1) := by decide +kernel
theorem dX6_areOptions_101 : decode cX6_areOptions 101 = .ok (.istore 4, 2) := by decide +kernel
theorem dX6_areOptions_103 : decode cX6_areOptions 103 = .ok (.goto (-98), 3) := by decide +kernel
theorem dX6_areOptions_106 : decode cX6_areOptions 106 = .ok (.iload 4, 2) := by decide +kernel
theorem dX6_areOptions_108 : decode cX6_areOptions 108 = .ok (.ireturn, 1) := by decide +kernel
theorem dX6_isControl_0 : decode cX6_isControl 0 = .ok (.iload_n 2, 1) := by decide +kernel
theorem dX6_isControl_1 : decode cX6_isControl 1 = .ok (.iconst 3, 1) := by decide +kernel
theorem dX6_isControl_2 : decode cX6_isControl 2 = .ok (.isub, 1) := by decide +kernel
theorem dX6_isControl_3 : decode cX6_isControl 3 = .ok (.istore_n 3, 1) := by decide +kernel
theorem dX6_isControl_4 : decode cX6_isControl 4 = .ok (.aload_n 0, 1) := by decide +kernel
theorem dX6_isControl_5 : decode cX6_isControl 5 = .ok (.iload_n 1, 1) := by decide +kernel
theorem dX6_isControl_6 : decode cX6_isControl 6 = .ok (.iconst 1, 1) := by decide +kernel
theorem dX6_isControl_7 : decode cX6_isControl 7 = .ok (.invokevirtual 149, 3) := by decide +kernel
theorem dX6_isControl_10 : decode cX6_isControl 10 = .ok (.tableswitch 93 1 10 #[54, 54, 54, 54, 61, 61, 71, 93, 82, 82], 54) := by decide +kernel
theorem dX6_isControl_64 : decode cX6_isControl 64 = .ok (.aload_n 0, 1) := by decide +kernel
theorem dX6_isControl_65 : decode cX6_isControl 65 = .ok (.iload_n 1, 1) := by decide +kernel
theorem dX6_isControl_66 : decode cX6_isControl 66 = .ok (.iload_n 2, 1) := by decide +kernel
theorem dX6_isControl_67 : decode cX6_isControl 67 = .ok (.invokevirtual 155, 3) := by decide +kernel
theorem dX6_isControl_70 : decode cX6_isControl 70 = .ok (.ireturn, 1) := by decide +kernel
theorem dX6_isControl_71 : decode cX6_isControl 71 = .ok (.iload_n 3, 1) := by decide +kernel
theorem dX6_isControl_72 : decode cX6_isControl 72 = .ok (.ifCond .ne 7, 3) := by decide +kernel
theorem dX6_isControl_75 : decode cX6_isControl 75 = .ok (.iconst 1, 1) := by decide +kernel
theorem dX6_isControl_76 : decode cX6_isControl 76 = .ok (.goto 4, 3) := by decide +kernel
theorem dX6_isControl_79 : decode cX6_isControl 79 = .ok (.iconst 0, 1) := by decide +kernel
theorem dX6_isControl_80 : decode cX6_isControl 80 = .ok (.ireturn, 1) := by decide +kernel
theorem dX6_isControl_81 : decode cX6_isControl 81 = .ok (.iload_n 3, 1) := by decide +kernel
theorem dX6_isControl_82 : decode cX6_isControl 82 = .ok (.iconst 1, 1) := by decide +kernel
theorem dX6_isControl_83 : decode cX6_isControl 83 = .ok (.if_icmp .ne 7, 3) := by decide +kernel
theorem dX6_isControl_86 : decode cX6_isControl 86 = .ok (.iconst 1, 1) := by decide +kernel
theorem dX6_isControl_87 : decode cX6_isControl 87 = .ok (.goto 4, 3) := by decide +kernel
theorem dX6_isControl_90 : decode cX6_isControl 90 = .ok (.iconst 0, 1) := by decide +kernel
theorem dX6_isControl_91 : decode cX6_isControl 91 = .ok (.ireturn, 1) := by decide +kernel
theorem dX6_isControl_92 : decode cX6_isControl 92 = .ok (.iload_n 3, 1) := by decide +kernel
theorem dX6_isControl_93 : decode cX6_isControl 93 = .ok (.iconst 4, 1) := by decide +kernel
theorem dX6_isControl_94 : decode cX6_isControl 94 = .ok (.if_icmp .ne 7, 3) := by decide +kernel
theorem dX6_isControl_97 : decode cX6_isControl 97 = .ok (.iconst 1, 1) := by decide +kernel
theorem dX6_isControl_98 : decode cX6_isControl 98 = .ok (.goto 4, 3) := by decide +kernel
theorem dX6_isControl_101 : decode cX6_isControl 101 = .ok (.iconst 0, 1) := by decide +kernel
theorem dX6_isControl_102 : decode cX6_isControl 102 = .ok (.ireturn, 1) := by decide +kernel
theorem dX6_isControl_103 : decode cX6_isControl 103 = .ok (.iconst 1, 1) := by decide +kernel
theorem dX6_isControl_104 : decode cX6_isControl 104 = .ok (.ireturn, 1) := by decide +kernel
theorem dX6_judge_0 : decode cX6_judge 0 = .ok (.aload_n 0, 1) := by decide +kernel
theorem dX6_judge_1 : decode cX6_judge 1 = .ok (.iload_n 1, 1) := by decide +kernel
theorem dX6_judge_2 : decode cX6_judge 2 = .ok (.iload_n 2, 1) := by decide +kernel
theorem dX6_judge_3 : decode cX6_judge 3 = .ok (.invokevirtual 149, 3) := by decide +kernel
theorem dX6_judge_6 : decode cX6_judge 6 = .ok (.istore_n 3, 1) := by decide +kernel
theorem dX6_judge_7 : decode cX6_judge 7 = .ok (.iload_n 3, 1) := by decide +kernel
theorem dX6_judge_8 : decode cX6_judge 8 = .ok (.iconst 1, 1) := by decide +kernel
theorem dX6_judge_9 : decode cX6_judge 9 = .ok (.if_icmp .ne 39, 3) := by decide +kernel
theorem dX6_judge_12 : decode cX6_judge 12 = .ok (.aload_n 0, 1) := by decide +kernel
theorem dX6_judge_13 : decode cX6_judge 13 = .ok (.iload_n 1, 1) := by decide +kernel
theorem dX6_judge_14 : decode cX6_judge 14 = .ok (.iload_n 2, 1) := by decide +kernel
theorem dX6_judge_15 : decode cX6_judge 15 = .ok (.iconst 1, 1) := by decide +kernel
theorem dX6_judge_16 : decode cX6_judge 16 = .ok (.iadd, 1) := by decide +kernel
theorem dX6_judge_17 : decode cX6_judge 17 = .ok (.invokevirtual 149, 3) := by decide +kernel
theorem dX6_judge_20 : decode cX6_judge 20 = .ok (.sipush 256, 3) := by decide +kernel
theorem dX6_judge_23 : decode cX6_judge 23 = .ok (.imul, 1) := by decide +kernel
theorem dX6_judge_24 : decode cX6_judge 24 = .ok (.aload_n 0, 1) := by decide +kernel
theorem dX6_judge_25 : decode cX6_judge 25 = .ok (.iload_n 1, 1) := by decide +kernel
theorem dX6_judge_26 : decode cX6_judge 26 = .ok (.iload_n 2, 1) := by decide +kernel
theorem dX6_judge_27 : decode cX6_judge 27 = .ok (.iconst 2, 1) := by decide +kernel
theorem dX6_judge_28 : decode cX6_judge 28 = .ok (.iadd, 1) := by decide +kernel
theorem dX6_judge_29 : decode cX6_judge 29 = .ok (.invokevirtual 149, 3) := by decide +kernel
theorem dX6_judge_32 : decode cX6_judge 32 = .ok (.iadd, 1) := by decide +kernel
theorem dX6_judge_33 : decode cX6_judge 33 = .ok (.aload_n 0, 1) := by decide +kernel
theorem dX6_judge_34 : decode cX6_judge 34 = .ok (.getfield 19, 3) := by decide +kernel
theorem dX6_judge_37 : decode cX6_judge 37 = .ok (.iload_n 1, 1) := by decide +kernel
theorem dX6_judge_38 : decode cX6_judge 38 = .ok (.iaload, 1) := by decide +kernel
theorem dX6_judge_39 : decode cX6_judge 39 = .ok (.if_icmp .ge 7, 3) := by decide +kernel
theorem dX6_judge_42 : decode cX6_judge 42 = .ok (.iconst 3, 1) := by decide +kernel
theorem dX6_judge_43 : decode cX6_judge 43 = .ok (.goto 4, 3) := by decide +kernel
theorem dX6_judge_46 : decode cX6_judge 46 = .ok (.iconst 0, 1) := by decide +kernel
theorem dX6_judge_47 : decode cX6_judge 47 = .ok (.ireturn, 1) := by decide +kernel
theorem dX6_judge_48 : decode cX6_judge 48 = .ok (.iload_n 3, 1) := by decide +kernel
theorem dX6_judge_49 : decode cX6_judge 49 = .ok (.iconst 5, 1) := by decide +kernel
theorem dX6_judge_50 : decode cX6_judge 50 = .ok (.if_icmp .ne 35, 3) := by decide +kernel
theorem dX6_judge_53 : decode cX6_judge 53 = .ok (.aload_n 0, 1) := by decide +kernel
theorem dX6_judge_54 : decode cX6_judge 54 = .ok (.iload_n 1, 1) := by decide +kernel
theorem dX6_judge_55 : decode cX6_judge 55 = .ok (.iload_n 2, 1) := by decide +kernel
theorem dX6_judge_56 : decode cX6_judge 56 = .ok (.iconst 1, 1) := by decide +kernel
theorem dX6_judge_57 : decode cX6_judge 57 = .ok (.iadd, 1) := by decide +kernel
theorem dX6_judge_58 : decode cX6_judge 58 = .ok (.invokevirtual 159, 3) := by decide +kernel
theorem dX6_judge_61 : decode cX6_judge 61 = .ok (.istore 4, 2) := by decide +kernel
theorem dX6_judge_63 : decode cX6_judge 63 = .ok (.iload 4, 2) := by decide +kernel
theorem dX6_judge_65 : decode cX6_judge 65 = .ok (.ifCond .eq 14, 3) := by decide +kernel
theorem dX6_judge_68 : decode cX6_judge 68 = .ok (.iload 4, 2) := by decide +kernel
theorem dX6_judge_70 : decode cX6_judge 70 = .ok (.aload_n 0, 1) := by decide +kernel
theorem dX6_judge_71 : decode cX6_judge 71 = .ok (.getfield 22, 3) := by decide +kernel
theorem dX6_judge_74 : decode cX6_judge 74 = .ok (.iload_n 1, 1) := by decide +kernel
theorem dX6_judge_75 : decode cX6_judge 75 = .ok (.iaload, 1) := by decide +kernel
theorem dX6_judge_76 : decode cX6_judge 76 = .ok (.if_icmp .ne 7, 3) := by decide +kernel
theorem dX6_judge_79 : decode cX6_judge 79 = .ok (.iconst 3, 1) := by decide +kernel
theorem dX6_judge_80 : decode cX6_judge 80 = .ok (.goto 4, 3) := by decide +kernel
theorem dX6_judge_83 : decode cX6_judge 83 = .ok (.iconst 0, 1) := by decide +kernel
theorem dX6_judge_84 : decode cX6_judge 84 = .ok (.ireturn, 1) := by decide +kernel
theorem dX6_judge_85 : decode cX6_judge 85 = .ok (.iconst 4, 1) := by decide +kernel
theorem dX6_judge_86 : decode cX6_judge 86 = .ok (.ireturn, 1) := by decide +kernel
theorem dX6_answerWith_0 : decode cX6_answerWith 0 = .ok (.aload_n 0, 1) := by decide +kernel
theorem dX6_answerWith_1 : decode cX6_answerWith 1 = .ok (.getfield 80, 3) := by decide +kernel
theorem dX6_answerWith_4 : decode cX6_answerWith 4 = .ok (.aload_n 0, 1) := by decide +kernel
theorem dX6_answerWith_5 : decode cX6_answerWith 5 = .ok (.getfield 134, 3) := by decide +kernel
theorem dX6_answerWith_8 : decode cX6_answerWith 8 = .ok (.iload_n 1, 1) := by decide +kernel
theorem dX6_answerWith_9 : decode cX6_answerWith 9 = .ok (.iastore, 1) := by decide +kernel
theorem dX6_answerWith_10 : decode cX6_answerWith 10 = .ok (.aload_n 0, 1) := by decide +kernel
theorem dX6_answerWith_11 : decode cX6_answerWith 11 = .ok (.dup, 1) := by decide +kernel
theorem dX6_answerWith_12 : decode cX6_answerWith 12 = .ok (.getfield 134, 3) := by decide +kernel
theorem dX6_answerWith_15 : decode cX6_answerWith 15 = .ok (.iconst 1, 1) := by decide +kernel
theorem dX6_answerWith_16 : decode cX6_answerWith 16 = .ok (.iadd, 1) := by decide +kernel
theorem dX6_answerWith_17 : decode cX6_answerWith 17 = .ok (.putfield 134, 3) := by decide +kernel
theorem dX6_answerWith_20 : decode cX6_answerWith 20 = .ok (.return_, 1) := by decide +kernel
theorem dX6_answerInt_0 : decode cX6_answerInt 0 = .ok (.bipush 24, 2) := by decide +kernel
theorem dX6_answerInt_2 : decode cX6_answerInt 2 = .ok (.istore_n 2, 1) := by decide +kernel
theorem dX6_answerInt_3 : decode cX6_answerInt 3 = .ok (.iload_n 2, 1) := by decide +kernel
theorem dX6_answerInt_4 : decode cX6_answerInt 4 = .ok (.ifCond .lt 20, 3) := by decide +kernel
theorem dX6_answerInt_7 : decode cX6_answerInt 7 = .ok (.aload_n 0, 1) := by decide +kernel
theorem dX6_answerInt_8 : decode cX6_answerInt 8 = .ok (.iload_n 1, 1) := by decide +kernel
theorem dX6_answerInt_9 : decode cX6_answerInt 9 = .ok (.iload_n 2, 1) := by decide +kernel
theorem dX6_answerInt_10 : decode cX6_answerInt 10 = .ok (.ishr, 1) := by decide +kernel
theorem dX6_answerInt_11 : decode cX6_answerInt 11 = .ok (.sipush 255, 3) := by decide +kernel
theorem dX6_answerInt_14 : decode cX6_answerInt 14 = .ok (.iand, 1) := by decide +kernel
theorem dX6_answerInt_15 : decode cX6_answerInt 15 = .ok (.invokevirtual 162, 3) := by decide +kernel
theorem dX6_answerInt_18 : decode cX6_answerInt 18 = .ok (.iinc 2 (-8), 3) := by decide +kernel
theorem dX6_answerInt_21 : decode cX6_answerInt 21 = .ok (.goto (-18), 3) := by decide +kernel
theorem dX6_answerInt_24 : decode cX6_answerInt 24 = .ok (.return_, 1) := by decide +kernel
theorem dX6_weigh_0 : decode cX6_weigh 0 = .ok (.aload_n 0, 1) := by decide +kernel
theorem dX6_weigh_1 : decode cX6_weigh 1 = .ok (.iconst 2, 1) := by decide +kernel
theorem dX6_weigh_2 : decode cX6_weigh 2 = .ok (.putfield 128, 3) := by decide +kernel
theorem dX6_weigh_5 : decode cX6_weigh 5 = .ok (.iconst 3, 1) := by decide +kernel
theorem dX6_weigh_6 : decode cX6_weigh 6 = .ok (.istore_n 3, 1) := by decide +kernel
theorem dX6_weigh_7 : decode cX6_weigh 7 = .ok (.iload_n 3, 1) := by decide +kernel
theorem dX6_weigh_8 : decode cX6_weigh 8 = .ok (.iload_n 2, 1) := by decide +kernel
theorem dX6_weigh_9 : decode cX6_weigh 9 = .ok (.if_icmp .ge 92, 3) := by decide +kernel
theorem dX6_weigh_12 : decode cX6_weigh 12 = .ok (.aload_n 0, 1) := by decide +kernel
theorem dX6_weigh_13 : decode cX6_weigh 13 = .ok (.iload_n 1, 1) := by decide +kernel
theorem dX6_weigh_14 : decode cX6_weigh 14 = .ok (.iload_n 3, 1) := by decide +kernel
theorem dX6_weigh_15 : decode cX6_weigh 15 = .ok (.invokevirtual 165, 3) := by decide +kernel
theorem dX6_weigh_18 : decode cX6_weigh 18 = .ok (.istore 4, 2) := by decide +kernel
theorem dX6_weigh_20 : decode cX6_weigh 20 = .ok (.aload_n 0, 1) := by decide +kernel
theorem dX6_weigh_21 : decode cX6_weigh 21 = .ok (.iload 4, 2) := by decide +kernel
theorem dX6_weigh_23 : decode cX6_weigh 23 = .ok (.aload_n 0, 1) := by decide +kernel
theorem dX6_weigh_24 : decode cX6_weigh 24 = .ok (.getfield 128, 3) := by decide +kernel
theorem dX6_weigh_27 : decode cX6_weigh 27 = .ok (.if_icmp .le 8, 3) := by decide +kernel
theorem dX6_weigh_30 : decode cX6_weigh 30 = .ok (.iload 4, 2) := by decide +kernel
theorem dX6_weigh_32 : decode cX6_weigh 32 = .ok (.goto 7, 3) := by decide +kernel
theorem dX6_weigh_35 : decode cX6_weigh 35 = .ok (.aload_n 0, 1) := by decide +kernel
theorem dX6_weigh_36 : decode cX6_weigh 36 = .ok (.getfield 128, 3) := by decide +kernel
theorem dX6_weigh_39 : decode cX6_weigh 39 = .ok (.putfield 128, 3) := by decide +kernel
theorem dX6_weigh_42 : decode cX6_weigh 42 = .ok (.aload_n 0, 1) := by decide +kernel
theorem dX6_weigh_43 : decode cX6_weigh 43 = .ok (.iload_n 1, 1) := by decide +kernel
theorem dX6_weigh_44 : decode cX6_weigh 44 = .ok (.iload_n 3, 1) := by decide +kernel
theorem dX6_weigh_45 : decode cX6_weigh 45 = .ok (.invokevirtual 149, 3) := by decide +kernel
theorem dX6_weigh_48 : decode cX6_weigh 48 = .ok (.iconst 5, 1) := by decide +kernel
theorem dX6_weigh_49 : decode cX6_weigh 49 = .ok (.if_icmp .ne 35, 3) := by decide +kernel
theorem dX6_weigh_52 : decode cX6_weigh 52 = .ok (.aload_n 0, 1) := by decide +kernel
theorem dX6_weigh_53 : decode cX6_weigh 53 = .ok (.iload_n 1, 1) := by decide +kernel
theorem dX6_weigh_54 : decode cX6_weigh 54 = .ok (.iload_n 3, 1) := by decide +kernel
theorem dX6_weigh_55 : decode cX6_weigh 55 = .ok (.iconst 1, 1) := by decide +kernel
theorem dX6_weigh_56 : decode cX6_weigh 56 = .ok (.iadd, 1) := by decide +kernel
theorem dX6_weigh_57 : decode cX6_weigh 57 = .ok (.invokevirtual 159, 3) := by decide +kernel
theorem dX6_weigh_60 : decode cX6_weigh 60 = .ok (.aload_n 0, 1) := by decide +kernel
theorem dX6_weigh_61 : decode cX6_weigh 61 = .ok (.getfield 22, 3) := by decide +kernel
theorem dX6_weigh_64 : decode cX6_weigh 64 = .ok (.iload_n 1, 1) := by decide +kernel
theorem dX6_weigh_65 : decode cX6_weigh 65 = .ok (.iaload, 1) := by decide +kernel
theorem dX6_weigh_66 : decode cX6_weigh 66 = .ok (.if_icmp .ne 18, 3) := by decide +kernel
theorem dX6_weigh_69 : decode cX6_weigh 69 = .ok (.aload_n 0, 1) := by decide +kernel
theorem dX6_weigh_70 : decode cX6_weigh 70 = .ok (.getfield 22, 3) := by decide +kernel
theorem dX6_weigh_73 : decode cX6_weigh 73 = .ok (.iload_n 1, 1) := by decide +kernel
theorem dX6_weigh_74 : decode cX6_weigh 74 = .ok (.iaload, 1) := by decide +kernel
theorem dX6_weigh_75 : decode cX6_weigh 75 = .ok (.ifCond .eq 9, 3) := by decide +kernel
theorem dX6_weigh_78 : decode cX6_weigh 78 = .ok (.aload_n 0, 1) := by decide +kernel
theorem dX6_weigh_79 : decode cX6_weigh 79 = .ok (.iload_n 1, 1) := by decide +kernel
theorem dX6_weigh_80 : decode cX6_weigh 80 = .ok (.iconst 3, 1) := by decide +kernel
theorem dX6_weigh_81 : decode cX6_weigh 81 = .ok (.invokevirtual 108, 3) := by decide +kernel
theorem dX6_weigh_84 : decode cX6_weigh 84 = .ok (.iload_n 3, 1) := by decide +kernel
theorem dX6_weigh_85 : decode cX6_weigh 85 = .ok (.iconst 1, 1) := by decide +kernel
theorem dX6_weigh_86 : decode cX6_weigh 86 = .ok (.aload_n 0, 1) := by decide +kernel
theorem dX6_weigh_87 : decode cX6_weigh 87 = .ok (.iload_n 1, 1) := by decide +kernel
theorem dX6_weigh_88 : decode cX6_weigh 88 = .ok (.iload_n 3, 1) := by decide +kernel
theorem dX6_weigh_89 : decode cX6_weigh 89 = .ok (.invokevirtual 149, 3) := by decide +kernel
theorem dX6_weigh_92 : decode cX6_weigh 92 = .ok (.invokestatic 152, 3) := by decide +kernel
theorem dX6_weigh_95 : decode cX6_weigh 95 = .ok (.iadd, 1) := by decide +kernel
theorem dX6_weigh_96 : decode cX6_weigh 96 = .ok (.iadd, 1) := by decide +kernel
theorem dX6_weigh_97 : decode cX6_weigh 97 = .ok (.istore_n 3, 1) := by decide +kernel
theorem dX6_weigh_98 : decode cX6_weigh 98 = .ok (.goto (-91), 3) := by decide +kernel
theorem dX6_weigh_101 : decode cX6_weigh 101 = .ok (.aload_n 0, 1) := by decide +kernel
theorem dX6_weigh_102 : decode cX6_weigh 102 = .ok (.iconst 0, 1) := by decide +kernel
theorem dX6_weigh_103 : decode cX6_weigh 103 = .ok (.putfield 134, 3) := by decide +kernel
theorem dX6_weigh_106 : decode cX6_weigh 106 = .ok (.iconst 3, 1) := by decide +kernel
theorem dX6_weigh_107 : decode cX6_weigh 107 = .ok (.istore_n 3, 1) := by decide +kernel
theorem dX6_weigh_108 : decode cX6_weigh 108 = .ok (.iload_n 3, 1) := by decide +kernel
theorem dX6_weigh_109 : decode cX6_weigh 109 = .ok (.iload_n 2, 1) := by decide +kernel
theorem dX6_weigh_110 : decode cX6_weigh 110 = .ok (.if_icmp .ge 170, 3) := by decide +kernel
theorem dX6_weigh_113 : decode cX6_weigh 113 = .ok (.aload_n 0, 1) := by decide +kernel
theorem dX6_weigh_114 : decode cX6_weigh 114 = .ok (.iload_n 1, 1) := by decide +kernel
theorem dX6_weigh_115 : decode cX6_weigh 115 = .ok (.iload_n 3, 1) := by decide +kernel
theorem dX6_weigh_116 : decode cX6_weigh 116 = .ok (.invokevirtual 165, 3) := by decide +kernel
theorem dX6_weigh_119 : decode cX6_weigh 119 = .ok (.istore 4, 2) := by decide +kernel
theorem dX6_weigh_121 : decode cX6_weigh 121 = .ok (.aload_n 0, 1) := by decide +kernel
theorem dX6_weigh_122 : decode cX6_weigh 122 = .ok (.getfield 128, 3) := by decide +kernel
theorem dX6_weigh_125 : decode cX6_weigh 125 = .ok (.iconst 3, 1) := by decide +kernel
theorem dX6_weigh_126 : decode cX6_weigh 126 = .ok (.if_icmp .ne 79, 3) := by decide +kernel
theorem dX6_weigh_129 : decode cX6_weigh 129 = .ok (.iload 4, 2) := by decide +kernel
theorem dX6_weigh_131 : decode cX6_weigh 131 = .ok (.iconst 3, 1) := by decide +kernel
theorem dX6_weigh_132 : decode cX6_weigh 132 = .ok (.if_icmp .ne 73, 3) := by decide +kernel
theorem dX6_weigh_135 : decode cX6_weigh 135 = .ok (.aload_n 0, 1) := by decide +kernel
theorem dX6_weigh_136 : decode cX6_weigh 136 = .ok (.aload_n 0, 1) := by decide +kernel
theorem dX6_weigh_137 : decode cX6_weigh 137 = .ok (.iload_n 1, 1) := by decide +kernel
theorem dX6_weigh_138 : decode cX6_weigh 138 = .ok (.iload_n 3, 1) := by decide +kernel
theorem dX6_weigh_139 : decode cX6_weigh 139 = .ok (.invokevirtual 149, 3) := by decide +kernel
theorem dX6_weigh_142 : decode cX6_weigh 142 = .ok (.invokevirtual 162, 3) := by decide +kernel
theorem dX6_weigh_145 : decode cX6_weigh 145 = .ok (.aload_n 0, 1) := by decide +kernel
theorem dX6_weigh_146 : decode cX6_weigh 146 = .ok (.iload_n 1, 1) := by decide +kernel
theorem dX6_weigh_147 : decode cX6_weigh 147 = .ok (.iload_n 3, 1) := by decide +kernel
theorem dX6_weigh_148 : decode cX6_weigh 148 = .ok (.invokevirtual 149, 3) := by decide +kernel
theorem dX6_weigh_151 : decode cX6_weigh 151 = .ok (.iconst 1, 1) := by decide +kernel
theorem dX6_weigh_152 : decode cX6_weigh 152 = .ok (.if_icmp .ne 33, 3) := by decide +kernel
theorem dX6_weigh_155 : decode cX6_weigh 155 = .ok (.aload_n 0, 1) := by decide +kernel
theorem dX6_weigh_156 : decode cX6_weigh 156 = .ok (.aload_n 0, 1) := by decide +kernel
theorem dX6_weigh_157 : decode cX6_weigh 157 = .ok (.getfield 19, 3) := by decide +kernel
theorem dX6_weigh_160 : decode cX6_weigh 160 = .ok (.iload_n 1, 1) := by decide +kernel
theorem dX6_weigh_161 : decode cX6_weigh 161 = .ok (.iaload, 1) := by decide +kernel
theorem dX6_weigh_162 : decode cX6_weigh 162 = .ok (.bipush 8, 2) := by decide +kernel
theorem dX6_weigh_164 : decode cX6_weigh 164 = .ok (.ishr, 1) := by decide +kernel
theorem dX6_weigh_165 : decode cX6_weigh 165 = .ok (.invokevirtual 162, 3) := by decide +kernel
theorem dX6_weigh_168 : decode cX6_weigh 168 = .ok (.aload_n 0, 1) := by decide +kernel
theorem dX6_weigh_169 : decode cX6_weigh 169 = .ok (.aload_n 0, 1) := by decide +kernel
theorem dX6_weigh_170 : decode cX6_weigh 170 = .ok (.getfield 19, 3) := by decide +kernel
theorem dX6_weigh_173 : decode cX6_weigh 173 = .ok (.iload_n 1, 1) := by decide +kernel
theorem dX6_weigh_174 : decode cX6_weigh 174 = .ok (.iaload, 1) := by decide +kernel
theorem dX6_weigh_175 : decode cX6_weigh 175 = .ok (.sipush 255, 3) := by decide +kernel
theorem dX6_weigh_178 : decode cX6_weigh 178 = .ok (.iand, 1) := by decide +kernel
theorem dX6_weigh_179 : decode cX6_weigh 179 = .ok (.invokevirtual 162, 3) := by decide +kernel
theorem dX6_weigh_182 : decode cX6_weigh 182 = .ok (.goto 81, 3) := by decide +kernel
theorem dX6_weigh_185 : decode cX6_weigh 185 = .ok (.aload_n 0, 1) := by decide +kernel
theorem dX6_weigh_186 : decode cX6_weigh 186 = .ok (.aload_n 0, 1) := by decide +kernel
theorem dX6_weigh_187 : decode cX6_weigh 187 = .ok (.getfield 22, 3) := by decide +kernel
theorem dX6_weigh_190 : decode cX6_weigh 190 = .ok (.iload_n 1, 1) := by decide +kernel
theorem dX6_weigh_191 : decode cX6_weigh 191 = .ok (.iaload, 1) := by decide +kernel
theorem dX6_weigh_192 : decode cX6_weigh 192 = .ok (.ldc 168, 2) := by decide +kernel
theorem dX6_weigh_194 : decode cX6_weigh 194 = .ok (.imul, 1) := by decide +kernel
theorem dX6_weigh_195 : decode cX6_weigh 195 = .ok (.sipush 12345, 3) := by decide +kernel
theorem dX6_weigh_198 : decode cX6_weigh 198 = .ok (.iadd, 1) := by decide +kernel
theorem dX6_weigh_199 : decode cX6_weigh 199 = .ok (.invokevirtual 169, 3) := by decide +kernel
theorem dX6_weigh_202 : decode cX6_weigh 202 = .ok (.goto 61, 3) := by decide +kernel
theorem dX6_weigh_205 : decode cX6_weigh 205 = .ok (.aload_n 0, 1) := by decide +kernel
theorem dX6_weigh_206 : decode cX6_weigh 206 = .ok (.getfield 128, 3) := by decide +kernel
theorem dX6_weigh_209 : decode cX6_weigh 209 = .ok (.iconst 2, 1) := by decide +kernel
theorem dX6_weigh_210 : decode cX6_weigh 210 = .ok (.if_icmp .eq 17, 3) := by decide +kernel
theorem dX6_weigh_213 : decode cX6_weigh 213 = .ok (.aload_n 0, 1) := by decide +kernel
theorem dX6_weigh_214 : decode cX6_weigh 214 = .ok (.getfield 128, 3) := by decide +kernel
theorem dX6_weigh_217 : decode cX6_weigh 217 = .ok (.iconst 4, 1) := by decide +kernel
theorem dX6_weigh_218 : decode cX6_weigh 218 = .ok (.if_icmp .ne 45, 3) := by decide +kernel
theorem dX6_weigh_221 : decode cX6_weigh 221 = .ok (.iload 4, 2) := by decide +kernel
theorem dX6_weigh_223 : decode cX6_weigh 223 = .ok (.iconst 4, 1) := by decide +kernel
theorem dX6_weigh_224 : decode cX6_weigh 224 = .ok (.if_icmp .ne 39, 3) := by decide +kernel
theorem dX6_weigh_227 : decode cX6_weigh 227 = .ok (.iconst 0, 1) := by decide +kernel
theorem dX6_weigh_228 : decode cX6_weigh 228 = .ok (.istore 5, 2) := by decide +kernel
theorem dX6_weigh_230 : decode cX6_weigh 230 = .ok (.iload 5, 2) := by decide +kernel
theorem dX6_weigh_232 : decode cX6_weigh 232 = .ok (.aload_n 0, 1) := by decide +kernel
theorem dX6_weigh_233 : decode cX6_weigh 233 = .ok (.iload_n 1, 1) := by decide +kernel
theorem dX6_weigh_234 : decode cX6_weigh 234 = .ok (.iload_n 3, 1) := by decide +kernel

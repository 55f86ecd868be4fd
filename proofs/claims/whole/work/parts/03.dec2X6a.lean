theorem dX6_thrown_0 : decode cX6_thrown 0 = .ok (.aload_n 0, 1) := by decide +kernel
theorem dX6_thrown_1 : decode cX6_thrown 1 = .ok (.getfield 83, 3) := by decide +kernel
theorem dX6_thrown_4 : decode cX6_thrown 4 = .ok (.ireturn, 1) := by decide +kernel
theorem dX6_in_0 : decode cX6_in 0 = .ok (.iload_n 0, 1) := by decide +kernel
theorem dX6_in_1 : decode cX6_in 1 = .ok (.iload_n 1, 1) := by decide +kernel
theorem dX6_in_2 : decode cX6_in 2 = .ok (.if_icmp .lt 12, 3) := by decide +kernel
theorem dX6_in_5 : decode cX6_in 5 = .ok (.iload_n 0, 1) := by decide +kernel
theorem dX6_in_6 : decode cX6_in 6 = .ok (.iload_n 2, 1) := by decide +kernel
theorem dX6_in_7 : decode cX6_in 7 = .ok (.if_icmp .gt 7, 3) := by decide +kernel
theorem dX6_in_10 : decode cX6_in 10 = .ok (.iconst 1, 1) := by decide +kernel
theorem dX6_in_11 : decode cX6_in 11 = .ok (.goto 4, 3) := by decide +kernel
theorem dX6_in_14 : decode cX6_in 14 = .ok (.iconst 0, 1) := by decide +kernel
theorem dX6_in_15 : decode cX6_in 15 = .ok (.ireturn, 1) := by decide +kernel
theorem dX6_isEnd_0 : decode cX6_isEnd 0 = .ok (.iload_n 0, 1) := by decide +kernel
theorem dX6_isEnd_1 : decode cX6_isEnd 1 = .ok (.iconst 0, 1) := by decide +kernel
theorem dX6_isEnd_2 : decode cX6_isEnd 2 = .ok (.iconst 1, 1) := by decide +kernel
theorem dX6_isEnd_3 : decode cX6_isEnd 3 = .ok (.invokestatic 87, 3) := by decide +kernel
theorem dX6_isEnd_6 : decode cX6_isEnd 6 = .ok (.ireturn, 1) := by decide +kernel
theorem dX6_tally_0 : decode cX6_tally 0 = .ok (.aload_n 0, 1) := by decide +kernel
theorem dX6_tally_1 : decode cX6_tally 1 = .ok (.getfield 74, 3) := by decide +kernel
theorem dX6_tally_4 : decode cX6_tally 4 = .ok (.bipush 6, 2) := by decide +kernel
theorem dX6_tally_6 : decode cX6_tally 6 = .ok (.iload_n 1, 1) := by decide +kernel
theorem dX6_tally_7 : decode cX6_tally 7 = .ok (.imul, 1) := by decide +kernel
theorem dX6_tally_8 : decode cX6_tally 8 = .ok (.iload_n 2, 1) := by decide +kernel
theorem dX6_tally_9 : decode cX6_tally 9 = .ok (.iadd, 1) := by decide +kernel
theorem dX6_tally_10 : decode cX6_tally 10 = .ok (.dup2, 1) := by decide +kernel
theorem dX6_tally_11 : decode cX6_tally 11 = .ok (.iaload, 1) := by decide +kernel
theorem dX6_tally_12 : decode cX6_tally 12 = .ok (.iconst 1, 1) := by decide +kernel
theorem dX6_tally_13 : decode cX6_tally 13 = .ok (.iadd, 1) := by decide +kernel
theorem dX6_tally_14 : decode cX6_tally 14 = .ok (.iastore, 1) := by decide +kernel
theorem dX6_tally_15 : decode cX6_tally 15 = .ok (.return_, 1) := by decide +kernel
theorem dX6_check_0 : decode cX6_check 0 = .ok (.iload_n 0, 1) := by decide +kernel
theorem dX6_check_1 : decode cX6_check 1 = .ok (.iload_n 1, 1) := by decide +kernel
theorem dX6_check_2 : decode cX6_check 2 = .ok (.ixor, 1) := by decide +kernel
theorem dX6_check_3 : decode cX6_check 3 = .ok (.istore_n 2, 1) := by decide +kernel
theorem dX6_check_4 : decode cX6_check 4 = .ok (.iconst 0, 1) := by decide +kernel
theorem dX6_check_5 : decode cX6_check 5 = .ok (.istore_n 3, 1) := by decide +kernel
theorem dX6_check_6 : decode cX6_check 6 = .ok (.iload_n 3, 1) := by decide +kernel
theorem dX6_check_7 : decode cX6_check 7 = .ok (.bipush 8, 2) := by decide +kernel
theorem dX6_check_9 : decode cX6_check 9 = .ok (.if_icmp .ge 29, 3) := by decide +kernel
theorem dX6_check_12 : decode cX6_check 12 = .ok (.iload_n 2, 1) := by decide +kernel
theorem dX6_check_13 : decode cX6_check 13 = .ok (.iconst 2, 1) := by decide +kernel
theorem dX6_check_14 : decode cX6_check 14 = .ok (.irem, 1) := by decide +kernel
theorem dX6_check_15 : decode cX6_check 15 = .ok (.iconst 1, 1) := by decide +kernel
theorem dX6_check_16 : decode cX6_check 16 = .ok (.if_icmp .ne 12, 3) := by decide +kernel
theorem dX6_check_19 : decode cX6_check 19 = .ok (.iload_n 2, 1) := by decide +kernel
theorem dX6_check_20 : decode cX6_check 20 = .ok (.iconst 2, 1) := by decide +kernel
theorem dX6_check_21 : decode cX6_check 21 = .ok (.idiv, 1) := by decide +kernel
theorem dX6_check_22 : decode cX6_check 22 = .ok (.ldc 91, 2) := by decide +kernel
theorem dX6_check_24 : decode cX6_check 24 = .ok (.ixor, 1) := by decide +kernel
theorem dX6_check_25 : decode cX6_check 25 = .ok (.goto 6, 3) := by decide +kernel
theorem dX6_check_28 : decode cX6_check 28 = .ok (.iload_n 2, 1) := by decide +kernel
theorem dX6_check_29 : decode cX6_check 29 = .ok (.iconst 2, 1) := by decide +kernel
theorem dX6_check_30 : decode cX6_check 30 = .ok (.idiv, 1) := by decide +kernel
theorem dX6_check_31 : decode cX6_check 31 = .ok (.istore_n 2, 1) := by decide +kernel
theorem dX6_check_32 : decode cX6_check 32 = .ok (.iinc 3 1, 3) := by decide +kernel
theorem dX6_check_35 : decode cX6_check 35 = .ok (.goto (-29), 3) := by decide +kernel
theorem dX6_check_38 : decode cX6_check 38 = .ok (.iload_n 2, 1) := by decide +kernel
theorem dX6_check_39 : decode cX6_check 39 = .ok (.ireturn, 1) := by decide +kernel
theorem dX6_add_0 : decode cX6_add 0 = .ok (.aload_n 0, 1) := by decide +kernel
theorem dX6_add_1 : decode cX6_add 1 = .ok (.getfield 77, 3) := by decide +kernel
theorem dX6_add_4 : decode cX6_add 4 = .ok (.aload_n 0, 1) := by decide +kernel
theorem dX6_add_5 : decode cX6_add 5 = .ok (.getfield 92, 3) := by decide +kernel
theorem dX6_add_8 : decode cX6_add 8 = .ok (.iload_n 1, 1) := by decide +kernel
theorem dX6_add_9 : decode cX6_add 9 = .ok (.iastore, 1) := by decide +kernel
theorem dX6_add_10 : decode cX6_add 10 = .ok (.aload_n 0, 1) := by decide +kernel
theorem dX6_add_11 : decode cX6_add 11 = .ok (.dup, 1) := by decide +kernel
theorem dX6_add_12 : decode cX6_add 12 = .ok (.getfield 92, 3) := by decide +kernel
theorem dX6_add_15 : decode cX6_add 15 = .ok (.iconst 1, 1) := by decide +kernel
theorem dX6_add_16 : decode cX6_add 16 = .ok (.iadd, 1) := by decide +kernel
theorem dX6_add_17 : decode cX6_add 17 = .ok (.putfield 92, 3) := by decide +kernel
theorem dX6_add_20 : decode cX6_add 20 = .ok (.return_, 1) := by decide +kernel
theorem dX6_addInt_0 : decode cX6_addInt 0 = .ok (.bipush 24, 2) := by decide +kernel
theorem dX6_addInt_2 : decode cX6_addInt 2 = .ok (.istore_n 2, 1) := by decide +kernel
theorem dX6_addInt_3 : decode cX6_addInt 3 = .ok (.iload_n 2, 1) := by decide +kernel
theorem dX6_addInt_4 : decode cX6_addInt 4 = .ok (.ifCond .lt 20, 3) := by decide +kernel
theorem dX6_addInt_7 : decode cX6_addInt 7 = .ok (.aload_n 0, 1) := by decide +kernel
theorem dX6_addInt_8 : decode cX6_addInt 8 = .ok (.iload_n 1, 1) := by decide +kernel
theorem dX6_addInt_9 : decode cX6_addInt 9 = .ok (.iload_n 2, 1) := by decide +kernel
theorem dX6_addInt_10 : decode cX6_addInt 10 = .ok (.ishr, 1) := by decide +kernel
theorem dX6_addInt_11 : decode cX6_addInt 11 = .ok (.sipush 255, 3) := by decide +kernel
theorem dX6_addInt_14 : decode cX6_addInt 14 = .ok (.iand, 1) := by decide +kernel
theorem dX6_addInt_15 : decode cX6_addInt 15 = .ok (.invokevirtual 95, 3) := by decide +kernel
theorem dX6_addInt_18 : decode cX6_addInt 18 = .ok (.iinc 2 (-8), 3) := by decide +kernel
theorem dX6_addInt_21 : decode cX6_addInt 21 = .ok (.goto (-18), 3) := by decide +kernel
theorem dX6_addInt_24 : decode cX6_addInt 24 = .ok (.return_, 1) := by decide +kernel
theorem dX6_begin_0 : decode cX6_begin 0 = .ok (.aload_n 0, 1) := by decide +kernel
theorem dX6_begin_1 : decode cX6_begin 1 = .ok (.iconst 0, 1) := by decide +kernel
theorem dX6_begin_2 : decode cX6_begin 2 = .ok (.putfield 92, 3) := by decide +kernel
theorem dX6_begin_5 : decode cX6_begin 5 = .ok (.aload_n 0, 1) := by decide +kernel
theorem dX6_begin_6 : decode cX6_begin 6 = .ok (.iconst 1, 1) := by decide +kernel
theorem dX6_begin_7 : decode cX6_begin 7 = .ok (.invokevirtual 95, 3) := by decide +kernel
theorem dX6_begin_10 : decode cX6_begin 10 = .ok (.aload_n 0, 1) := by decide +kernel
theorem dX6_begin_11 : decode cX6_begin 11 = .ok (.iload_n 1, 1) := by decide +kernel
theorem dX6_begin_12 : decode cX6_begin 12 = .ok (.invokevirtual 95, 3) := by decide +kernel
theorem dX6_begin_15 : decode cX6_begin 15 = .ok (.aload_n 0, 1) := by decide +kernel
theorem dX6_begin_16 : decode cX6_begin 16 = .ok (.iload_n 2, 1) := by decide +kernel
theorem dX6_begin_17 : decode cX6_begin 17 = .ok (.invokevirtual 95, 3) := by decide +kernel
theorem dX6_begin_20 : decode cX6_begin 20 = .ok (.return_, 1) := by decide +kernel
theorem dX6_special_0 : decode cX6_special 0 = .ok (.iload_n 0, 1) := by decide +kernel
theorem dX6_special_1 : decode cX6_special 1 = .ok (.bipush 125, 2) := by decide +kernel
theorem dX6_special_3 : decode cX6_special 3 = .ok (.if_icmp .eq 9, 3) := by decide +kernel
theorem dX6_special_6 : decode cX6_special 6 = .ok (.iload_n 0, 1) := by decide +kernel
theorem dX6_special_7 : decode cX6_special 7 = .ok (.bipush 126, 2) := by decide +kernel
theorem dX6_special_9 : decode cX6_special 9 = .ok (.if_icmp .ne 7, 3) := by decide +kernel
theorem dX6_special_12 : decode cX6_special 12 = .ok (.iconst 1, 1) := by decide +kernel
theorem dX6_special_13 : decode cX6_special 13 = .ok (.goto 4, 3) := by decide +kernel
theorem dX6_special_16 : decode cX6_special 16 = .ok (.iconst 0, 1) := by decide +kernel
theorem dX6_special_17 : decode cX6_special 17 = .ok (.ireturn, 1) := by decide +kernel
theorem dX6_lay_0 : decode cX6_lay 0 = .ok (.aload_n 0, 1) := by decide +kernel
theorem dX6_lay_1 : decode cX6_lay 1 = .ok (.getfield 53, 3) := by decide +kernel
theorem dX6_lay_4 : decode cX6_lay 4 = .ok (.sipush 300, 3) := by decide +kernel
theorem dX6_lay_7 : decode cX6_lay 7 = .ok (.iload_n 1, 1) := by decide +kernel
theorem dX6_lay_8 : decode cX6_lay 8 = .ok (.imul, 1) := by decide +kernel
theorem dX6_lay_9 : decode cX6_lay 9 = .ok (.aload_n 0, 1) := by decide +kernel
theorem dX6_lay_10 : decode cX6_lay 10 = .ok (.getfield 50, 3) := by decide +kernel
theorem dX6_lay_13 : decode cX6_lay 13 = .ok (.iload_n 1, 1) := by decide +kernel
theorem dX6_lay_14 : decode cX6_lay 14 = .ok (.iaload, 1) := by decide +kernel
theorem dX6_lay_15 : decode cX6_lay 15 = .ok (.iadd, 1) := by decide +kernel
theorem dX6_lay_16 : decode cX6_lay 16 = .ok (.iload_n 2, 1) := by decide +kernel
theorem dX6_lay_17 : decode cX6_lay 17 = .ok (.iastore, 1) := by decide +kernel
theorem dX6_lay_18 : decode cX6_lay 18 = .ok (.aload_n 0, 1) := by decide +kernel
theorem dX6_lay_19 : decode cX6_lay 19 = .ok (.getfield 50, 3) := by decide +kernel
theorem dX6_lay_22 : decode cX6_lay 22 = .ok (.iload_n 1, 1) := by decide +kernel
theorem dX6_lay_23 : decode cX6_lay 23 = .ok (.dup2, 1) := by decide +kernel
theorem dX6_lay_24 : decode cX6_lay 24 = .ok (.iaload, 1) := by decide +kernel
theorem dX6_lay_25 : decode cX6_lay 25 = .ok (.iconst 1, 1) := by decide +kernel
theorem dX6_lay_26 : decode cX6_lay 26 = .ok (.iadd, 1) := by decide +kernel
theorem dX6_lay_27 : decode cX6_lay 27 = .ok (.iastore, 1) := by decide +kernel
theorem dX6_lay_28 : decode cX6_lay 28 = .ok (.return_, 1) := by decide +kernel
theorem dX6_ship_0 : decode cX6_ship 0 = .ok (.ldc 99, 2) := by decide +kernel
theorem dX6_ship_2 : decode cX6_ship 2 = .ok (.istore_n 2, 1) := by decide +kernel
theorem dX6_ship_3 : decode cX6_ship 3 = .ok (.iconst 0, 1) := by decide +kernel
theorem dX6_ship_4 : decode cX6_ship 4 = .ok (.istore_n 3, 1) := by decide +kernel
theorem dX6_ship_5 : decode cX6_ship 5 = .ok (.iload_n 3, 1) := by decide +kernel
theorem dX6_ship_6 : decode cX6_ship 6 = .ok (.aload_n 0, 1) := by decide +kernel
theorem dX6_ship_7 : decode cX6_ship 7 = .ok (.getfield 92, 3) := by decide +kernel
theorem dX6_ship_10 : decode cX6_ship 10 = .ok (.if_icmp .ge 20, 3) := by decide +kernel
theorem dX6_ship_13 : decode cX6_ship 13 = .ok (.iload_n 2, 1) := by decide +kernel
theorem dX6_ship_14 : decode cX6_ship 14 = .ok (.aload_n 0, 1) := by decide +kernel
theorem dX6_ship_15 : decode cX6_ship 15 = .ok (.getfield 77, 3) := by decide +kernel
theorem dX6_ship_18 : decode cX6_ship 18 = .ok (.iload_n 3, 1) := by decide +kernel
theorem dX6_ship_19 : decode cX6_ship 19 = .ok (.iaload, 1) := by decide +kernel
theorem dX6_ship_20 : decode cX6_ship 20 = .ok (.invokestatic 100, 3) := by decide +kernel
theorem dX6_ship_23 : decode cX6_ship 23 = .ok (.istore_n 2, 1) := by decide +kernel
theorem dX6_ship_24 : decode cX6_ship 24 = .ok (.iinc 3 1, 3) := by decide +kernel
theorem dX6_ship_27 : decode cX6_ship 27 = .ok (.goto (-22), 3) := by decide +kernel
theorem dX6_ship_30 : decode cX6_ship 30 = .ok (.iload_n 2, 1) := by decide +kernel
theorem dX6_ship_31 : decode cX6_ship 31 = .ok (.ldc 99, 2) := by decide +kernel
theorem dX6_ship_33 : decode cX6_ship 33 = .ok (.ixor, 1) := by decide +kernel
theorem dX6_ship_34 : decode cX6_ship 34 = .ok (.istore_n 2, 1) := by decide +kernel
theorem dX6_ship_35 : decode cX6_ship 35 = .ok (.aload_n 0, 1) := by decide +kernel
theorem dX6_ship_36 : decode cX6_ship 36 = .ok (.iload_n 2, 1) := by decide +kernel
theorem dX6_ship_37 : decode cX6_ship 37 = .ok (.sipush 255, 3) := by decide +kernel
theorem dX6_ship_40 : decode cX6_ship 40 = .ok (.iand, 1) := by decide +kernel
theorem dX6_ship_41 : decode cX6_ship 41 = .ok (.invokevirtual 95, 3) := by decide +kernel
theorem dX6_ship_44 : decode cX6_ship 44 = .ok (.aload_n 0, 1) := by decide +kernel
theorem dX6_ship_45 : decode cX6_ship 45 = .ok (.iload_n 2, 1) := by decide +kernel
theorem dX6_ship_46 : decode cX6_ship 46 = .ok (.bipush 8, 2) := by decide +kernel
theorem dX6_ship_48 : decode cX6_ship 48 = .ok (.ishr, 1) := by decide +kernel
theorem dX6_ship_49 : decode cX6_ship 49 = .ok (.invokevirtual 95, 3) := by decide +kernel
theorem dX6_ship_52 : decode cX6_ship 52 = .ok (.iconst 2, 1) := by decide +kernel
theorem dX6_ship_53 : decode cX6_ship 53 = .ok (.istore_n 3, 1) := by decide +kernel
theorem dX6_ship_54 : decode cX6_ship 54 = .ok (.iconst 0, 1) := by decide +kernel
theorem dX6_ship_55 : decode cX6_ship 55 = .ok (.istore 4, 2) := by decide +kernel
theorem dX6_ship_57 : decode cX6_ship 57 = .ok (.iload 4, 2) := by decide +kernel
theorem dX6_ship_59 : decode cX6_ship 59 = .ok (.aload_n 0, 1) := by decide +kernel
theorem dX6_ship_60 : decode cX6_ship 60 = .ok (.getfield 92, 3) := by decide +kernel
theorem dX6_ship_63 : decode cX6_ship 63 = .ok (.if_icmp .ge 32, 3) := by decide +kernel
theorem dX6_ship_66 : decode cX6_ship 66 = .ok (.aload_n 0, 1) := by decide +kernel
theorem dX6_ship_67 : decode cX6_ship 67 = .ok (.getfield 77, 3) := by decide +kernel
theorem dX6_ship_70 : decode cX6_ship 70 = .ok (.iload 4, 2) := by decide +kernel
theorem dX6_ship_72 : decode cX6_ship 72 = .ok (.iaload, 1) := by decide +kernel
theorem dX6_ship_73 : decode cX6_ship 73 = .ok (.invokestatic 104, 3) := by decide +kernel
theorem dX6_ship_76 : decode cX6_ship 76 = .ok (.ifCond .eq 9, 3) := by decide +kernel
theorem dX6_ship_79 : decode cX6_ship 79 = .ok (.iload_n 3, 1) := by decide +kernel
theorem dX6_ship_80 : decode cX6_ship 80 = .ok (.iconst 2, 1) := by decide +kernel
theorem dX6_ship_81 : decode cX6_ship 81 = .ok (.iadd, 1) := by decide +kernel
theorem dX6_ship_82 : decode cX6_ship 82 = .ok (.goto 6, 3) := by decide +kernel
theorem dX6_ship_85 : decode cX6_ship 85 = .ok (.iload_n 3, 1) := by decide +kernel
theorem dX6_ship_86 : decode cX6_ship 86 = .ok (.iconst 1, 1) := by decide +kernel
theorem dX6_ship_87 : decode cX6_ship 87 = .ok (.iadd, 1) := by decide +kernel
theorem dX6_ship_88 : decode cX6_ship 88 = .ok (.istore_n 3, 1) := by decide +kernel
theorem dX6_ship_89 : decode cX6_ship 89 = .ok (.iinc 4 1, 3) := by decide +kernel
theorem dX6_ship_92 : decode cX6_ship 92 = .ok (.goto (-35), 3) := by decide +kernel
theorem dX6_ship_95 : decode cX6_ship 95 = .ok (.aload_n 0, 1) := by decide +kernel
theorem dX6_ship_96 : decode cX6_ship 96 = .ok (.getfield 50, 3) := by decide +kernel
theorem dX6_ship_99 : decode cX6_ship 99 = .ok (.iload_n 1, 1) := by decide +kernel
theorem dX6_ship_100 : decode cX6_ship 100 = .ok (.iaload, 1) := by decide +kernel
theorem dX6_ship_101 : decode cX6_ship 101 = .ok (.iload_n 3, 1) := by decide +kernel
theorem dX6_ship_102 : decode cX6_ship 102 = .ok (.iadd, 1) := by decide +kernel
theorem dX6_ship_103 : decode cX6_ship 103 = .ok (.sipush 300, 3) := by decide +kernel
theorem dX6_ship_106 : decode cX6_ship 106 = .ok (.if_icmp .le 10, 3) := by decide +kernel
theorem dX6_ship_109 : decode cX6_ship 109 = .ok (.aload_n 0, 1) := by decide +kernel
theorem dX6_ship_110 : decode cX6_ship 110 = .ok (.iload_n 1, 1) := by decide +kernel
theorem dX6_ship_111 : decode cX6_ship 111 = .ok (.iconst 2, 1) := by decide +kernel
theorem dX6_ship_112 : decode cX6_ship 112 = .ok (.invokevirtual 108, 3) := by decide +kernel
theorem dX6_ship_115 : decode cX6_ship 115 = .ok (.return_, 1) := by decide +kernel
theorem dX6_ship_116 : decode cX6_ship 116 = .ok (.aload_n 0, 1) := by decide +kernel
theorem dX6_ship_117 : decode cX6_ship 117 = .ok (.iload_n 1, 1) := by decide +kernel
theorem dX6_ship_118 : decode cX6_ship 118 = .ok (.bipush 126, 2) := by decide +kernel
theorem dX6_ship_120 : decode cX6_ship 120 = .ok (.invokevirtual 112, 3) := by decide +kernel
theorem dX6_ship_123 : decode cX6_ship 123 = .ok (.iconst 0, 1) := by decide +kernel
theorem dX6_ship_124 : decode cX6_ship 124 = .ok (.istore 4, 2) := by decide +kernel
theorem dX6_ship_126 : decode cX6_ship 126 = .ok (.iload 4, 2) := by decide +kernel
theorem dX6_ship_128 : decode cX6_ship 128 = .ok (.aload_n 0, 1) := by decide +kernel
theorem dX6_ship_129 : decode cX6_ship 129 = .ok (.getfield 92, 3) := by decide +kernel
theorem dX6_ship_132 : decode cX6_ship 132 = .ok (.if_icmp .ge 67, 3) := by decide +kernel
theorem dX6_ship_135 : decode cX6_ship 135 = .ok (.aload_n 0, 1) := by decide +kernel
theorem dX6_ship_136 : decode cX6_ship 136 = .ok (.getfield 77, 3) := by decide +kernel
theorem dX6_ship_139 : decode cX6_ship 139 = .ok (.iload 4, 2) := by decide +kernel
theorem dX6_ship_141 : decode cX6_ship 141 = .ok (.iaload, 1) := by decide +kernel
theorem dX6_ship_142 : decode cX6_ship 142 = .ok (.invokestatic 104, 3) := by decide +kernel
theorem dX6_ship_145 : decode cX6_ship 145 = .ok (.ifCond .eq 10, 3) := by decide +kernel
theorem dX6_ship_148 : decode cX6_ship 148 = .ok (.aload_n 0, 1) := by decide +kernel
theorem dX6_ship_149 : decode cX6_ship 149 = .ok (.iload_n 1, 1) := by decide +kernel
theorem dX6_ship_150 : decode cX6_ship 150 = .ok (.bipush 125, 2) := by decide +kernel
theorem dX6_ship_152 : decode cX6_ship 152 = .ok (.invokevirtual 112, 3) := by decide +kernel
theorem dX6_ship_155 : decode cX6_ship 155 = .ok (.aload_n 0, 1) := by decide +kernel
theorem dX6_ship_156 : decode cX6_ship 156 = .ok (.iload_n 1, 1) := by decide +kernel
theorem dX6_ship_157 : decode cX6_ship 157 = .ok (.aload_n 0, 1) := by decide +kernel
theorem dX6_ship_158 : decode cX6_ship 158 = .ok (.getfield 77, 3) := by decide +kernel
theorem dX6_ship_161 : decode cX6_ship 161 = .ok (.iload 4, 2) := by decide +kernel
theorem dX6_ship_163 : decode cX6_ship 163 = .ok (.iaload, 1) := by decide +kernel
theorem dX6_ship_164 : decode cX6_ship 164 = .ok (.invokestatic 104, 3) := by decide +kernel
theorem dX6_ship_167 : decode cX6_ship 167 = .ok (.ifCond .eq 16, 3) := by decide +kernel
theorem dX6_ship_170 : decode cX6_ship 170 = .ok (.aload_n 0, 1) := by decide +kernel
theorem dX6_ship_171 : decode cX6_ship 171 = .ok (.getfield 77, 3) := by decide +kernel
theorem dX6_ship_174 : decode cX6_ship 174 = .ok (.iload 4, 2) := by decide +kernel
theorem dX6_ship_176 : decode cX6_ship 176 = .ok (.iaload, 1) := by decide +kernel
theorem dX6_ship_177 : decode cX6_ship 177 = .ok (.bipush 32, 2) := by decide +kernel
theorem dX6_ship_179 : decode cX6_ship 179 = .ok (.ixor, 1) := by decide +kernel
theorem dX6_ship_180 : decode cX6_ship 180 = .ok (.goto 10, 3) := by decide +kernel
theorem dX6_ship_183 : decode cX6_ship 183 = .ok (.aload_n 0, 1) := by decide +kernel
theorem dX6_ship_184 : decode cX6_ship 184 = .ok (.getfield 77, 3) := by decide +kernel
theorem dX6_ship_187 : decode cX6_ship 187 = .ok (.iload 4, 2) := by decide +kernel
theorem dX6_ship_189 : decode cX6_ship 189 = .ok (.iaload, 1) := by decide +kernel
theorem dX6_ship_190 : decode cX6_ship 190 = .ok (.invokevirtual 112, 3) := by decide +kernel
theorem dX6_ship_193 : decode cX6_ship 193 = .ok (.iinc 4 1, 3) := by decide +kernel
theorem dX6_ship_196 : decode cX6_ship 196 = .ok (.goto (-70), 3) := by decide +kernel
theorem dX6_ship_199 : decode cX6_ship 199 = .ok (.aload_n 0, 1) := by decide +kernel
theorem dX6_ship_200 : decode cX6_ship 200 = .ok (.iload_n 1, 1) := by decide +kernel
theorem dX6_ship_201 : decode cX6_ship 201 = .ok (.bipush 126, 2) := by decide +kernel
theorem dX6_ship_203 : decode cX6_ship 203 = .ok (.invokevirtual 112, 3) := by decide +kernel
theorem dX6_ship_206 : decode cX6_ship 206 = .ok (.return_, 1) := by decide +kernel
theorem dX6_nextId_0 : decode cX6_nextId 0 = .ok (.aload_n 0, 1) := by decide +kernel
theorem dX6_nextId_1 : decode cX6_nextId 1 = .ok (.getfield 25, 3) := by decide +kernel
theorem dX6_nextId_4 : decode cX6_nextId 4 = .ok (.iload_n 1, 1) := by decide +kernel
theorem dX6_nextId_5 : decode cX6_nextId 5 = .ok (.aload_n 0, 1) := by decide +kernel
theorem dX6_nextId_6 : decode cX6_nextId 6 = .ok (.getfield 25, 3) := by decide +kernel
theorem dX6_nextId_9 : decode cX6_nextId 9 = .ok (.iload_n 1, 1) := by decide +kernel
theorem dX6_nextId_10 : decode cX6_nextId 10 = .ok (.iaload, 1) := by decide +kernel
theorem dX6_nextId_11 : decode cX6_nextId 11 = .ok (.iconst 1, 1) := by decide +kernel
theorem dX6_nextId_12 : decode cX6_nextId 12 = .ok (.iadd, 1) := by decide +kernel
theorem dX6_nextId_13 : decode cX6_nextId 13 = .ok (.sipush 255, 3) := by decide +kernel
theorem dX6_nextId_16 : decode cX6_nextId 16 = .ok (.iand, 1) := by decide +kernel
theorem dX6_nextId_17 : decode cX6_nextId 17 = .ok (.iastore, 1) := by decide +kernel
theorem dX6_nextId_18 : decode cX6_nextId 18 = .ok (.aload_n 0, 1) := by decide +kernel
theorem dX6_nextId_19 : decode cX6_nextId 19 = .ok (.getfield 25, 3) := by decide +kernel
theorem dX6_nextId_22 : decode cX6_nextId 22 = .ok (.iload_n 1, 1) := by decide +kernel
theorem dX6_nextId_23 : decode cX6_nextId 23 = .ok (.iaload, 1) := by decide +kernel
theorem dX6_nextId_24 : decode cX6_nextId 24 = .ok (.ireturn, 1) := by decide +kernel
theorem dX6_request_0 : decode cX6_request 0 = .ok (.aload_n 0, 1) := by decide +kernel
theorem dX6_request_1 : decode cX6_request 1 = .ok (.getfield 28, 3) := by decide +kernel
theorem dX6_request_4 : decode cX6_request 4 = .ok (.iload_n 1, 1) := by decide +kernel
theorem dX6_request_5 : decode cX6_request 5 = .ok (.dup2, 1) := by decide +kernel
theorem dX6_request_6 : decode cX6_request 6 = .ok (.iaload, 1) := by decide +kernel
theorem dX6_request_7 : decode cX6_request 7 = .ok (.iconst 1, 1) := by decide +kernel
theorem dX6_request_8 : decode cX6_request 8 = .ok (.isub, 1) := by decide +kernel
theorem dX6_request_9 : decode cX6_request 9 = .ok (.iastore, 1) := by decide +kernel
theorem dX6_request_10 : decode cX6_request 10 = .ok (.aload_n 0, 1) := by decide +kernel
theorem dX6_request_11 : decode cX6_request 11 = .ok (.getfield 31, 3) := by decide +kernel
theorem dX6_request_14 : decode cX6_request 14 = .ok (.iload_n 1, 1) := by decide +kernel
theorem dX6_request_15 : decode cX6_request 15 = .ok (.iconst 3, 1) := by decide +kernel
theorem dX6_request_16 : decode cX6_request 16 = .ok (.iastore, 1) := by decide +kernel
theorem dX6_request_17 : decode cX6_request 17 = .ok (.aload_n 0, 1) := by decide +kernel
theorem dX6_request_18 : decode cX6_request 18 = .ok (.iconst 1, 1) := by decide +kernel
theorem dX6_request_19 : decode cX6_request 19 = .ok (.aload_n 0, 1) := by decide +kernel
theorem dX6_request_20 : decode cX6_request 20 = .ok (.iload_n 1, 1) := by decide +kernel
theorem dX6_request_21 : decode cX6_request 21 = .ok (.invokevirtual 115, 3) := by decide +kernel
theorem dX6_request_24 : decode cX6_request 24 = .ok (.invokevirtual 119, 3) := by decide +kernel
theorem dX6_request_27 : decode cX6_request 27 = .ok (.aload_n 0, 1) := by decide +kernel
theorem dX6_request_28 : decode cX6_request 28 = .ok (.getfield 34, 3) := by decide +kernel
theorem dX6_request_31 : decode cX6_request 31 = .ok (.iload_n 1, 1) := by decide +kernel
theorem dX6_request_32 : decode cX6_request 32 = .ok (.baload, 1) := by decide +kernel
theorem dX6_request_33 : decode cX6_request 33 = .ok (.ifCond .eq 47, 3) := by decide +kernel
theorem dX6_request_36 : decode cX6_request 36 = .ok (.aload_n 0, 1) := by decide +kernel
theorem dX6_request_37 : decode cX6_request 37 = .ok (.getfield 16, 3) := by decide +kernel
theorem dX6_request_40 : decode cX6_request 40 = .ok (.iload_n 1, 1) := by decide +kernel
theorem dX6_request_41 : decode cX6_request 41 = .ok (.iaload, 1) := by decide +kernel
theorem dX6_request_42 : decode cX6_request 42 = .ok (.sipush 1500, 3) := by decide +kernel
theorem dX6_request_45 : decode cX6_request 45 = .ok (.if_icmp .eq 35, 3) := by decide +kernel
theorem dX6_request_48 : decode cX6_request 48 = .ok (.aload_n 0, 1) := by decide +kernel
theorem dX6_request_49 : decode cX6_request 49 = .ok (.iconst 1, 1) := by decide +kernel
theorem dX6_request_50 : decode cX6_request 50 = .ok (.invokevirtual 95, 3) := by decide +kernel
theorem dX6_request_53 : decode cX6_request 53 = .ok (.aload_n 0, 1) := by decide +kernel
theorem dX6_request_54 : decode cX6_request 54 = .ok (.aload_n 0, 1) := by decide +kernel
theorem dX6_request_55 : decode cX6_request 55 = .ok (.getfield 16, 3) := by decide +kernel
theorem dX6_request_58 : decode cX6_request 58 = .ok (.iload_n 1, 1) := by decide +kernel
theorem dX6_request_59 : decode cX6_request 59 = .ok (.iaload, 1) := by decide +kernel
theorem dX6_request_60 : decode cX6_request 60 = .ok (.bipush 8, 2) := by decide +kernel
theorem dX6_request_62 : decode cX6_request 62 = .ok (.ishr, 1) := by decide +kernel
theorem dX6_request_63 : decode cX6_request 63 = .ok (.invokevirtual 95, 3) := by decide +kernel
theorem dX6_request_66 : decode cX6_request 66 = .ok (.aload_n 0, 1) := by decide +kernel
theorem dX6_request_67 : decode cX6_request 67 = .ok (.aload_n 0, 1) := by decide +kernel
theorem dX6_request_68 : decode cX6_request 68 = .ok (.getfield 16, 3) := by decide +kernel
theorem dX6_request_71 : decode cX6_request 71 = .ok (.iload_n 1, 1) := by decide +kernel
theorem dX6_request_72 : decode cX6_request 72 = .ok (.iaload, 1) := by decide +kernel
theorem dX6_request_73 : decode cX6_request 73 = .ok (.sipush 255, 3) := by decide +kernel
theorem dX6_request_76 : decode cX6_request 76 = .ok (.iand, 1) := by decide +kernel
theorem dX6_request_77 : decode cX6_request 77 = .ok (.invokevirtual 95, 3) := by decide +kernel
theorem dX6_request_80 : decode cX6_request 80 = .ok (.aload_n 0, 1) := by decide +kernel
theorem dX6_request_81 : decode cX6_request 81 = .ok (.getfield 38, 3) := by decide +kernel
theorem dX6_request_84 : decode cX6_request 84 = .ok (.iload_n 1, 1) := by decide +kernel
theorem dX6_request_85 : decode cX6_request 85 = .ok (.baload, 1) := by decide +kernel
theorem dX6_request_86 : decode cX6_request 86 = .ok (.ifCond .eq 27, 3) := by decide +kernel
theorem dX6_request_89 : decode cX6_request 89 = .ok (.aload_n 0, 1) := by decide +kernel
theorem dX6_request_90 : decode cX6_request 90 = .ok (.getfield 22, 3) := by decide +kernel
theorem dX6_request_93 : decode cX6_request 93 = .ok (.iload_n 1, 1) := by decide +kernel
theorem dX6_request_94 : decode cX6_request 94 = .ok (.iaload, 1) := by decide +kernel
theorem dX6_request_95 : decode cX6_request 95 = .ok (.ifCond .eq 18, 3) := by decide +kernel
theorem dX6_request_98 : decode cX6_request 98 = .ok (.aload_n 0, 1) := by decide +kernel
theorem dX6_request_99 : decode cX6_request 99 = .ok (.iconst 5, 1) := by decide +kernel
theorem dX6_request_100 : decode cX6_request 100 = .ok (.invokevirtual 95, 3) := by decide +kernel
theorem dX6_request_103 : decode cX6_request 103 = .ok (.aload_n 0, 1) := by decide +kernel
theorem dX6_request_104 : decode cX6_request 104 = .ok (.aload_n 0, 1) := by decide +kernel
theorem dX6_request_105 : decode cX6_request 105 = .ok (.getfield 22, 3) := by decide +kernel
theorem dX6_request_108 : decode cX6_request 108 = .ok (.iload_n 1, 1) := by decide +kernel
theorem dX6_request_109 : decode cX6_request 109 = .ok (.iaload, 1) := by decide +kernel
theorem dX6_request_110 : decode cX6_request 110 = .ok (.invokevirtual 122, 3) := by decide +kernel
theorem dX6_request_113 : decode cX6_request 113 = .ok (.aload_n 0, 1) := by decide +kernel
theorem dX6_request_114 : decode cX6_request 114 = .ok (.getfield 41, 3) := by decide +kernel
theorem dX6_request_117 : decode cX6_request 117 = .ok (.iload_n 1, 1) := by decide +kernel
theorem dX6_request_118 : decode cX6_request 118 = .ok (.aload_n 0, 1) := by decide +kernel
theorem dX6_request_119 : decode cX6_request 119 = .ok (.getfield 25, 3) := by decide +kernel
theorem dX6_request_122 : decode cX6_request 122 = .ok (.iload_n 1, 1) := by decide +kernel
theorem dX6_request_123 : decode cX6_request 123 = .ok (.iaload, 1) := by decide +kernel
theorem dX6_request_124 : decode cX6_request 124 = .ok (.iastore, 1) := by decide +kernel
theorem dX6_request_125 : decode cX6_request 125 = .ok (.aload_n 0, 1) := by decide +kernel
theorem dX6_request_126 : decode cX6_request 126 = .ok (.getfield 44, 3) := by decide +kernel
theorem dX6_request_129 : decode cX6_request 129 = .ok (.iload_n 1, 1) := by decide +kernel
theorem dX6_request_130 : decode cX6_request 130 = .ok (.aload_n 0, 1) := by decide +kernel
theorem dX6_request_131 : decode cX6_request 131 = .ok (.getfield 92, 3) := by decide +kernel
theorem dX6_request_134 : decode cX6_request 134 = .ok (.iconst 3, 1) := by decide +kernel
theorem dX6_request_135 : decode cX6_request 135 = .ok (.isub, 1) := by decide +kernel
theorem dX6_request_136 : decode cX6_request 136 = .ok (.iastore, 1) := by decide +kernel
theorem dX6_request_137 : decode cX6_request 137 = .ok (.iconst 3, 1) := by decide +kernel
theorem dX6_request_138 : decode cX6_request 138 = .ok (.istore_n 2, 1) := by decide +kernel
theorem dX6_request_139 : decode cX6_request 139 = .ok (.iload_n 2, 1) := by decide +kernel
theorem dX6_request_140 : decode cX6_request 140 = .ok (.aload_n 0, 1) := by decide +kernel
theorem dX6_request_141 : decode cX6_request 141 = .ok (.getfield 92, 3) := by decide +kernel
theorem dX6_request_144 : decode cX6_request 144 = .ok (.if_icmp .ge 28, 3) := by decide +kernel
theorem dX6_request_147 : decode cX6_request 147 = .ok (.aload_n 0, 1) := by decide +kernel
theorem dX6_request_148 : decode cX6_request 148 = .ok (.getfield 47, 3) := by decide +kernel
theorem dX6_request_151 : decode cX6_request 151 = .ok (.bipush 8, 2) := by decide +kernel
theorem dX6_request_153 : decode cX6_request 153 = .ok (.iload_n 1, 1) := by decide +kernel
theorem dX6_request_154 : decode cX6_request 154 = .ok (.imul, 1) := by decide +kernel
theorem dX6_request_155 : decode cX6_request 155 = .ok (.iload_n 2, 1) := by decide +kernel
theorem dX6_request_156 : decode cX6_request 156 = .ok (.iadd, 1) := by decide +kernel
theorem dX6_request_157 : decode cX6_request 157 = .ok (.iconst 3, 1) := by decide +kernel
theorem dX6_request_158 : decode cX6_request 158 = .ok (.isub, 1) := by decide +kernel
theorem dX6_request_159 : decode cX6_request 159 = .ok (.aload_n 0, 1) := by decide +kernel
theorem dX6_request_160 : decode cX6_request 160 = .ok (.getfield 77, 3) := by decide +kernel
theorem dX6_request_163 : decode cX6_request 163 = .ok (.iload_n 2, 1) := by decide +kernel
theorem dX6_request_164 : decode cX6_request 164 = .ok (.iaload, 1) := by decide +kernel
theorem dX6_request_165 : decode cX6_request 165 = .ok (.iastore, 1) := by decide +kernel
theorem dX6_request_166 : decode cX6_request 166 = .ok (.iinc 2 1, 3) := by decide +kernel
theorem dX6_request_169 : decode cX6_request 169 = .ok (.goto (-30), 3) := by decide +kernel
theorem dX6_request_172 : decode cX6_request 172 = .ok (.aload_n 0, 1) := by decide +kernel
theorem dX6_request_173 : decode cX6_request 173 = .ok (.iload_n 1, 1) := by decide +kernel
theorem dX6_request_174 : decode cX6_request 174 = .ok (.invokevirtual 125, 3) := by decide +kernel
theorem dX6_request_177 : decode cX6_request 177 = .ok (.return_, 1) := by decide +kernel
theorem dX6_reply_0 : decode cX6_reply 0 = .ok (.aload_n 0, 1) := by decide +kernel
theorem dX6_reply_1 : decode cX6_reply 1 = .ok (.aload_n 0, 1) := by decide +kernel
theorem dX6_reply_2 : decode cX6_reply 2 = .ok (.getfield 128, 3) := by decide +kernel
theorem dX6_reply_5 : decode cX6_reply 5 = .ok (.aload_n 0, 1) := by decide +kernel
theorem dX6_reply_6 : decode cX6_reply 6 = .ok (.getfield 131, 3) := by decide +kernel
theorem dX6_reply_9 : decode cX6_reply 9 = .ok (.invokevirtual 119, 3) := by decide +kernel
theorem dX6_reply_12 : decode cX6_reply 12 = .ok (.iconst 0, 1) := by decide +kernel
theorem dX6_reply_13 : decode cX6_reply 13 = .ok (.istore_n 2, 1) := by decide +kernel
theorem dX6_reply_14 : decode cX6_reply 14 = .ok (.iload_n 2, 1) := by decide +kernel
theorem dX6_reply_15 : decode cX6_reply 15 = .ok (.aload_n 0, 1) := by decide +kernel
theorem dX6_reply_16 : decode cX6_reply 16 = .ok (.getfield 134, 3) := by decide +kernel
theorem dX6_reply_19 : decode cX6_reply 19 = .ok (.if_icmp .ge 19, 3) := by decide +kernel
theorem dX6_reply_22 : decode cX6_reply 22 = .ok (.aload_n 0, 1) := by decide +kernel
theorem dX6_reply_23 : decode cX6_reply 23 = .ok (.aload_n 0, 1) := by decide +kernel
theorem dX6_reply_24 : decode cX6_reply 24 = .ok (.getfield 80, 3) := by decide +kernel
theorem dX6_reply_27 : decode cX6_reply 27 = .ok (.iload_n 2, 1) := by decide +kernel
theorem dX6_reply_28 : decode cX6_reply 28 = .ok (.iaload, 1) := by decide +kernel
theorem dX6_reply_29 : decode cX6_reply 29 = .ok (.invokevirtual 95, 3) := by decide +kernel
theorem dX6_reply_32 : decode cX6_reply 32 = .ok (.iinc 2 1, 3) := by decide +kernel
theorem dX6_reply_35 : decode cX6_reply 35 = .ok (.goto (-21), 3) := by decide +kernel
theorem dX6_reply_38 : decode cX6_reply 38 = .ok (.aload_n 0, 1) := by decide +kernel
theorem dX6_reply_39 : decode cX6_reply 39 = .ok (.iload_n 1, 1) := by decide +kernel
theorem dX6_reply_40 : decode cX6_reply 40 = .ok (.invokevirtual 125, 3) := by decide +kernel
theorem dX6_reply_43 : decode cX6_reply 43 = .ok (.return_, 1) := by decide +kernel
theorem dX6_act_0 : decode cX6_act 0 = .ok (.iload_n 2, 1) := by decide +kernel
theorem dX6_act_1 : decode cX6_act 1 = .ok (.tableswitch 211 1 9 #[51, 61, 78, 86, 121, 129, 147, 174, 202], 51) := by decide +kernel
theorem dX6_act_52 : decode cX6_act 52 = .ok (.aload_n 0, 1) := by decide +kernel
theorem dX6_act_53 : decode cX6_act 53 = .ok (.getfield 28, 3) := by decide +kernel
theorem dX6_act_56 : decode cX6_act 56 = .ok (.iload_n 1, 1) := by decide +kernel
theorem dX6_act_57 : decode cX6_act 57 = .ok (.iconst 5, 1) := by decide +kernel
theorem dX6_act_58 : decode cX6_act 58 = .ok (.iastore, 1) := by decide +kernel
theorem dX6_act_59 : decode cX6_act 59 = .ok (.goto 153, 3) := by decide +kernel
theorem dX6_act_62 : decode cX6_act 62 = .ok (.aload_n 0, 1) := by decide +kernel
theorem dX6_act_63 : decode cX6_act 63 = .ok (.getfield 28, 3) := by decide +kernel
theorem dX6_act_66 : decode cX6_act 66 = .ok (.iload_n 1, 1) := by decide +kernel
theorem dX6_act_67 : decode cX6_act 67 = .ok (.iconst 0, 1) := by decide +kernel
theorem dX6_act_68 : decode cX6_act 68 = .ok (.iastore, 1) := by decide +kernel
theorem dX6_act_69 : decode cX6_act 69 = .ok (.aload_n 0, 1) := by decide +kernel
theorem dX6_act_70 : decode cX6_act 70 = .ok (.getfield 31, 3) := by decide +kernel
theorem dX6_act_73 : decode cX6_act 73 = .ok (.iload_n 1, 1) := by decide +kernel
theorem dX6_act_74 : decode cX6_act 74 = .ok (.iconst 3, 1) := by decide +kernel
theorem dX6_act_75 : decode cX6_act 75 = .ok (.iastore, 1) := by decide +kernel
theorem dX6_act_76 : decode cX6_act 76 = .ok (.goto 136, 3) := by decide +kernel
theorem dX6_act_79 : decode cX6_act 79 = .ok (.aload_n 0, 1) := by decide +kernel
theorem dX6_act_80 : decode cX6_act 80 = .ok (.iload_n 1, 1) := by decide +kernel
theorem dX6_act_81 : decode cX6_act 81 = .ok (.invokevirtual 137, 3) := by decide +kernel
theorem dX6_act_84 : decode cX6_act 84 = .ok (.goto 128, 3) := by decide +kernel
theorem dX6_act_87 : decode cX6_act 87 = .ok (.aload_n 0, 1) := by decide +kernel
theorem dX6_act_88 : decode cX6_act 88 = .ok (.getfield 28, 3) := by decide +kernel
theorem dX6_act_91 : decode cX6_act 91 = .ok (.iload_n 1, 1) := by decide +kernel
theorem dX6_act_92 : decode cX6_act 92 = .ok (.dup2, 1) := by decide +kernel
theorem dX6_act_93 : decode cX6_act 93 = .ok (.iaload, 1) := by decide +kernel
theorem dX6_act_94 : decode cX6_act 94 = .ok (.iconst 1, 1) := by decide +kernel
theorem dX6_act_95 : decode cX6_act 95 = .ok (.isub, 1) := by decide +kernel
theorem dX6_act_96 : decode cX6_act 96 = .ok (.iastore, 1) := by decide +kernel
theorem dX6_act_97 : decode cX6_act 97 = .ok (.aload_n 0, 1) := by decide +kernel
theorem dX6_act_98 : decode cX6_act 98 = .ok (.getfield 31, 3) := by decide +kernel
theorem dX6_act_101 : decode cX6_act 101 = .ok (.iload_n 1, 1) := by decide +kernel
theorem dX6_act_102 : decode cX6_act 102 = .ok (.iconst 3, 1) := by decide +kernel
theorem dX6_act_103 : decode cX6_act 103 = .ok (.iastore, 1) := by decide +kernel
theorem dX6_act_104 : decode cX6_act 104 = .ok (.aload_n 0, 1) := by decide +kernel
theorem dX6_act_105 : decode cX6_act 105 = .ok (.iconst 5, 1) := by decide +kernel
theorem dX6_act_106 : decode cX6_act 106 = .ok (.aload_n 0, 1) := by decide +kernel
theorem dX6_act_107 : decode cX6_act 107 = .ok (.iload_n 1, 1) := by decide +kernel
theorem dX6_act_108 : decode cX6_act 108 = .ok (.invokevirtual 115, 3) := by decide +kernel
theorem dX6_act_111 : decode cX6_act 111 = .ok (.invokevirtual 119, 3) := by decide +kernel
theorem dX6_act_114 : decode cX6_act 114 = .ok (.aload_n 0, 1) := by decide +kernel
theorem dX6_act_115 : decode cX6_act 115 = .ok (.iload_n 1, 1) := by decide +kernel
theorem dX6_act_116 : decode cX6_act 116 = .ok (.invokevirtual 125, 3) := by decide +kernel
theorem dX6_act_119 : decode cX6_act 119 = .ok (.goto 93, 3) := by decide +kernel
theorem dX6_act_122 : decode cX6_act 122 = .ok (.aload_n 0, 1) := by decide +kernel
theorem dX6_act_123 : decode cX6_act 123 = .ok (.iload_n 1, 1) := by decide +kernel
theorem dX6_act_124 : decode cX6_act 124 = .ok (.invokevirtual 140, 3) := by decide +kernel
theorem dX6_act_127 : decode cX6_act 127 = .ok (.goto 85, 3) := by decide +kernel
theorem dX6_act_130 : decode cX6_act 130 = .ok (.aload_n 0, 1) := by decide +kernel
theorem dX6_act_131 : decode cX6_act 131 = .ok (.bipush 6, 2) := by decide +kernel
theorem dX6_act_133 : decode cX6_act 133 = .ok (.aload_n 0, 1) := by decide +kernel
theorem dX6_act_134 : decode cX6_act 134 = .ok (.getfield 131, 3) := by decide +kernel

theorem dX3_isWellFormed_18 : decode cX3_isWellFormed 18 = .ok (.iconst 1, 1) := by decide +kernel
theorem dX3_isWellFormed_19 : decode cX3_isWellFormed 19 = .ok (.goto 4, 3) := by decide +kernel
theorem dX3_isWellFormed_22 : decode cX3_isWellFormed 22 = .ok (.iconst 0, 1) := by decide +kernel
theorem dX3_isWellFormed_23 : decode cX3_isWellFormed 23 = .ok (.ireturn, 1) := by decide +kernel
theorem dX3_isWellFormed_24 : decode cX3_isWellFormed 24 = .ok (.aload_n 0, 1) := by decide +kernel
theorem dX3_isWellFormed_25 : decode cX3_isWellFormed 25 = .ok (.invokevirtual 30, 3) := by decide +kernel
theorem dX3_isWellFormed_28 : decode cX3_isWellFormed 28 = .ok (.iconst 3, 1) := by decide +kernel
theorem dX3_isWellFormed_29 : decode cX3_isWellFormed 29 = .ok (.isub, 1) := by decide +kernel
theorem dX3_isWellFormed_30 : decode cX3_isWellFormed 30 = .ok (.istore_n 1, 1) := by decide +kernel
theorem dX3_isWellFormed_31 : decode cX3_isWellFormed 31 = .ok (.aload_n 0, 1) := by decide +kernel
theorem dX3_isWellFormed_32 : decode cX3_isWellFormed 32 = .ok (.iconst 1, 1) := by decide +kernel
theorem dX3_isWellFormed_33 : decode cX3_isWellFormed 33 = .ok (.invokevirtual 23, 3) := by decide +kernel
theorem dX3_isWellFormed_36 : decode cX3_isWellFormed 36 = .ok (.tableswitch 93 1 10 #[56, 56, 56, 56, 61, 61, 71, 93, 82, 82], 56) := by decide +kernel
theorem dX3_isWellFormed_92 : decode cX3_isWellFormed 92 = .ok (.aload_n 0, 1) := by decide +kernel
theorem dX3_isWellFormed_93 : decode cX3_isWellFormed 93 = .ok (.invokevirtual 40, 3) := by decide +kernel
theorem dX3_isWellFormed_96 : decode cX3_isWellFormed 96 = .ok (.ireturn, 1) := by decide +kernel
theorem dX3_isWellFormed_97 : decode cX3_isWellFormed 97 = .ok (.iload_n 1, 1) := by decide +kernel
theorem dX3_isWellFormed_98 : decode cX3_isWellFormed 98 = .ok (.ifCond .ne 7, 3) := by decide +kernel
theorem dX3_isWellFormed_101 : decode cX3_isWellFormed 101 = .ok (.iconst 1, 1) := by decide +kernel
theorem dX3_isWellFormed_102 : decode cX3_isWellFormed 102 = .ok (.goto 4, 3) := by decide +kernel
theorem dX3_isWellFormed_105 : decode cX3_isWellFormed 105 = .ok (.iconst 0, 1) := by decide +kernel
theorem dX3_isWellFormed_106 : decode cX3_isWellFormed 106 = .ok (.ireturn, 1) := by decide +kernel
theorem dX3_isWellFormed_107 : decode cX3_isWellFormed 107 = .ok (.iload_n 1, 1) := by decide +kernel
theorem dX3_isWellFormed_108 : decode cX3_isWellFormed 108 = .ok (.iconst 1, 1) := by decide +kernel
theorem dX3_isWellFormed_109 : decode cX3_isWellFormed 109 = .ok (.if_icmp .ne 7, 3) := by decide +kernel
theorem dX3_isWellFormed_112 : decode cX3_isWellFormed 112 = .ok (.iconst 1, 1) := by decide +kernel
theorem dX3_isWellFormed_113 : decode cX3_isWellFormed 113 = .ok (.goto 4, 3) := by decide +kernel
theorem dX3_isWellFormed_116 : decode cX3_isWellFormed 116 = .ok (.iconst 0, 1) := by decide +kernel
theorem dX3_isWellFormed_117 : decode cX3_isWellFormed 117 = .ok (.ireturn, 1) := by decide +kernel
theorem dX3_isWellFormed_118 : decode cX3_isWellFormed 118 = .ok (.iload_n 1, 1) := by decide +kernel
theorem dX3_isWellFormed_119 : decode cX3_isWellFormed 119 = .ok (.iconst 4, 1) := by decide +kernel
theorem dX3_isWellFormed_120 : decode cX3_isWellFormed 120 = .ok (.if_icmp .ne 7, 3) := by decide +kernel
theorem dX3_isWellFormed_123 : decode cX3_isWellFormed 123 = .ok (.iconst 1, 1) := by decide +kernel
theorem dX3_isWellFormed_124 : decode cX3_isWellFormed 124 = .ok (.goto 4, 3) := by decide +kernel
theorem dX3_isWellFormed_127 : decode cX3_isWellFormed 127 = .ok (.iconst 0, 1) := by decide +kernel
theorem dX3_isWellFormed_128 : decode cX3_isWellFormed 128 = .ok (.ireturn, 1) := by decide +kernel
theorem dX3_isWellFormed_129 : decode cX3_isWellFormed 129 = .ok (.iconst 1, 1) := by decide +kernel
theorem dX3_isWellFormed_130 : decode cX3_isWellFormed 130 = .ok (.ireturn, 1) := by decide +kernel
theorem dX3_hasWholeOptions_0 : decode cX3_hasWholeOptions 0 = .ok (.iconst 3, 1) := by decide +kernel
theorem dX3_hasWholeOptions_1 : decode cX3_hasWholeOptions 1 = .ok (.istore_n 1, 1) := by decide +kernel
theorem dX3_hasWholeOptions_2 : decode cX3_hasWholeOptions 2 = .ok (.iload_n 1, 1) := by decide +kernel
theorem dX3_hasWholeOptions_3 : decode cX3_hasWholeOptions 3 = .ok (.aload_n 0, 1) := by decide +kernel
theorem dX3_hasWholeOptions_4 : decode cX3_hasWholeOptions 4 = .ok (.invokevirtual 30, 3) := by decide +kernel
theorem dX3_hasWholeOptions_7 : decode cX3_hasWholeOptions 7 = .ok (.if_icmp .ge 27, 3) := by decide +kernel
theorem dX3_hasWholeOptions_10 : decode cX3_hasWholeOptions 10 = .ok (.aload_n 0, 1) := by decide +kernel
theorem dX3_hasWholeOptions_11 : decode cX3_hasWholeOptions 11 = .ok (.iload_n 1, 1) := by decide +kernel
theorem dX3_hasWholeOptions_12 : decode cX3_hasWholeOptions 12 = .ok (.invokevirtual 44, 3) := by decide +kernel
theorem dX3_hasWholeOptions_15 : decode cX3_hasWholeOptions 15 = .ok (.ifCond .eq 5, 3) := by decide +kernel
theorem dX3_hasWholeOptions_18 : decode cX3_hasWholeOptions 18 = .ok (.iconst 0, 1) := by decide +kernel
theorem dX3_hasWholeOptions_19 : decode cX3_hasWholeOptions 19 = .ok (.ireturn, 1) := by decide +kernel
theorem dX3_hasWholeOptions_20 : decode cX3_hasWholeOptions 20 = .ok (.iload_n 1, 1) := by decide +kernel
theorem dX3_hasWholeOptions_21 : decode cX3_hasWholeOptions 21 = .ok (.aload_n 0, 1) := by decide +kernel
theorem dX3_hasWholeOptions_22 : decode cX3_hasWholeOptions 22 = .ok (.iload_n 1, 1) := by decide +kernel
theorem dX3_hasWholeOptions_23 : decode cX3_hasWholeOptions 23 = .ok (.invokevirtual 23, 3) := by decide +kernel
theorem dX3_hasWholeOptions_26 : decode cX3_hasWholeOptions 26 = .ok (.invokestatic 47, 3) := by decide +kernel
theorem dX3_hasWholeOptions_29 : decode cX3_hasWholeOptions 29 = .ok (.iadd, 1) := by decide +kernel
theorem dX3_hasWholeOptions_30 : decode cX3_hasWholeOptions 30 = .ok (.istore_n 1, 1) := by decide +kernel
theorem dX3_hasWholeOptions_31 : decode cX3_hasWholeOptions 31 = .ok (.goto (-29), 3) := by decide +kernel
theorem dX3_hasWholeOptions_34 : decode cX3_hasWholeOptions 34 = .ok (.iload_n 1, 1) := by decide +kernel
theorem dX3_hasWholeOptions_35 : decode cX3_hasWholeOptions 35 = .ok (.aload_n 0, 1) := by decide +kernel
theorem dX3_hasWholeOptions_36 : decode cX3_hasWholeOptions 36 = .ok (.invokevirtual 30, 3) := by decide +kernel
theorem dX3_hasWholeOptions_39 : decode cX3_hasWholeOptions 39 = .ok (.if_icmp .ne 7, 3) := by decide +kernel
theorem dX3_hasWholeOptions_42 : decode cX3_hasWholeOptions 42 = .ok (.iconst 1, 1) := by decide +kernel
theorem dX3_hasWholeOptions_43 : decode cX3_hasWholeOptions 43 = .ok (.goto 4, 3) := by decide +kernel
theorem dX3_hasWholeOptions_46 : decode cX3_hasWholeOptions 46 = .ok (.iconst 0, 1) := by decide +kernel
theorem dX3_hasWholeOptions_47 : decode cX3_hasWholeOptions 47 = .ok (.ireturn, 1) := by decide +kernel
theorem dX3_hasTypeAhead_0 : decode cX3_hasTypeAhead 0 = .ok (.iconst 3, 1) := by decide +kernel
theorem dX3_hasTypeAhead_1 : decode cX3_hasTypeAhead 1 = .ok (.istore_n 2, 1) := by decide +kernel
theorem dX3_hasTypeAhead_2 : decode cX3_hasTypeAhead 2 = .ok (.iload_n 2, 1) := by decide +kernel
theorem dX3_hasTypeAhead_3 : decode cX3_hasTypeAhead 3 = .ok (.iload_n 1, 1) := by decide +kernel
theorem dX3_hasTypeAhead_4 : decode cX3_hasTypeAhead 4 = .ok (.if_icmp .ge 32, 3) := by decide +kernel
theorem dX3_hasTypeAhead_7 : decode cX3_hasTypeAhead 7 = .ok (.aload_n 0, 1) := by decide +kernel
theorem dX3_hasTypeAhead_8 : decode cX3_hasTypeAhead 8 = .ok (.iload_n 2, 1) := by decide +kernel
theorem dX3_hasTypeAhead_9 : decode cX3_hasTypeAhead 9 = .ok (.invokevirtual 23, 3) := by decide +kernel
theorem dX3_hasTypeAhead_12 : decode cX3_hasTypeAhead 12 = .ok (.aload_n 0, 1) := by decide +kernel
theorem dX3_hasTypeAhead_13 : decode cX3_hasTypeAhead 13 = .ok (.iload_n 1, 1) := by decide +kernel
theorem dX3_hasTypeAhead_14 : decode cX3_hasTypeAhead 14 = .ok (.invokevirtual 23, 3) := by decide +kernel
theorem dX3_hasTypeAhead_17 : decode cX3_hasTypeAhead 17 = .ok (.if_icmp .ne 5, 3) := by decide +kernel
theorem dX3_hasTypeAhead_20 : decode cX3_hasTypeAhead 20 = .ok (.iconst 1, 1) := by decide +kernel
theorem dX3_hasTypeAhead_21 : decode cX3_hasTypeAhead 21 = .ok (.ireturn, 1) := by decide +kernel
theorem dX3_hasTypeAhead_22 : decode cX3_hasTypeAhead 22 = .ok (.iload_n 2, 1) := by decide +kernel
theorem dX3_hasTypeAhead_23 : decode cX3_hasTypeAhead 23 = .ok (.aload_n 0, 1) := by decide +kernel
theorem dX3_hasTypeAhead_24 : decode cX3_hasTypeAhead 24 = .ok (.iload_n 2, 1) := by decide +kernel
theorem dX3_hasTypeAhead_25 : decode cX3_hasTypeAhead 25 = .ok (.invokevirtual 23, 3) := by decide +kernel
theorem dX3_hasTypeAhead_28 : decode cX3_hasTypeAhead 28 = .ok (.invokestatic 47, 3) := by decide +kernel
theorem dX3_hasTypeAhead_31 : decode cX3_hasTypeAhead 31 = .ok (.iadd, 1) := by decide +kernel
theorem dX3_hasTypeAhead_32 : decode cX3_hasTypeAhead 32 = .ok (.istore_n 2, 1) := by decide +kernel
theorem dX3_hasTypeAhead_33 : decode cX3_hasTypeAhead 33 = .ok (.goto (-31), 3) := by decide +kernel
theorem dX3_hasTypeAhead_36 : decode cX3_hasTypeAhead 36 = .ok (.iconst 0, 1) := by decide +kernel
theorem dX3_hasTypeAhead_37 : decode cX3_hasTypeAhead 37 = .ok (.ireturn, 1) := by decide +kernel
theorem dX3_hasIdAndContentsOf_0 : decode cX3_hasIdAndContentsOf 0 = .ok (.aload_n 0, 1) := by decide +kernel
theorem dX3_hasIdAndContentsOf_1 : decode cX3_hasIdAndContentsOf 1 = .ok (.getfield 15, 3) := by decide +kernel
theorem dX3_hasIdAndContentsOf_4 : decode cX3_hasIdAndContentsOf 4 = .ok (.aload_n 1, 1) := by decide +kernel
theorem dX3_hasIdAndContentsOf_5 : decode cX3_hasIdAndContentsOf 5 = .ok (.getfield 15, 3) := by decide +kernel
theorem dX3_hasIdAndContentsOf_8 : decode cX3_hasIdAndContentsOf 8 = .ok (.if_icmp .eq 5, 3) := by decide +kernel
theorem dX3_hasIdAndContentsOf_11 : decode cX3_hasIdAndContentsOf 11 = .ok (.iconst 0, 1) := by decide +kernel
theorem dX3_hasIdAndContentsOf_12 : decode cX3_hasIdAndContentsOf 12 = .ok (.ireturn, 1) := by decide +kernel
theorem dX3_hasIdAndContentsOf_13 : decode cX3_hasIdAndContentsOf 13 = .ok (.iconst 2, 1) := by decide +kernel
theorem dX3_hasIdAndContentsOf_14 : decode cX3_hasIdAndContentsOf 14 = .ok (.istore_n 2, 1) := by decide +kernel
theorem dX3_hasIdAndContentsOf_15 : decode cX3_hasIdAndContentsOf 15 = .ok (.iload_n 2, 1) := by decide +kernel
theorem dX3_hasIdAndContentsOf_16 : decode cX3_hasIdAndContentsOf 16 = .ok (.aload_n 0, 1) := by decide +kernel
theorem dX3_hasIdAndContentsOf_17 : decode cX3_hasIdAndContentsOf 17 = .ok (.invokevirtual 30, 3) := by decide +kernel
theorem dX3_hasIdAndContentsOf_20 : decode cX3_hasIdAndContentsOf 20 = .ok (.if_icmp .ge 25, 3) := by decide +kernel
theorem dX3_hasIdAndContentsOf_23 : decode cX3_hasIdAndContentsOf 23 = .ok (.aload_n 0, 1) := by decide +kernel
theorem dX3_hasIdAndContentsOf_24 : decode cX3_hasIdAndContentsOf 24 = .ok (.getfield 9, 3) := by decide +kernel
theorem dX3_hasIdAndContentsOf_27 : decode cX3_hasIdAndContentsOf 27 = .ok (.iload_n 2, 1) := by decide +kernel
theorem dX3_hasIdAndContentsOf_28 : decode cX3_hasIdAndContentsOf 28 = .ok (.iaload, 1) := by decide +kernel
theorem dX3_hasIdAndContentsOf_29 : decode cX3_hasIdAndContentsOf 29 = .ok (.aload_n 1, 1) := by decide +kernel
theorem dX3_hasIdAndContentsOf_30 : decode cX3_hasIdAndContentsOf 30 = .ok (.iload_n 2, 1) := by decide +kernel
theorem dX3_hasIdAndContentsOf_31 : decode cX3_hasIdAndContentsOf 31 = .ok (.invokevirtual 23, 3) := by decide +kernel
theorem dX3_hasIdAndContentsOf_34 : decode cX3_hasIdAndContentsOf 34 = .ok (.if_icmp .eq 5, 3) := by decide +kernel
theorem dX3_hasIdAndContentsOf_37 : decode cX3_hasIdAndContentsOf 37 = .ok (.iconst 0, 1) := by decide +kernel
theorem dX3_hasIdAndContentsOf_38 : decode cX3_hasIdAndContentsOf 38 = .ok (.ireturn, 1) := by decide +kernel
theorem dX3_hasIdAndContentsOf_39 : decode cX3_hasIdAndContentsOf 39 = .ok (.iinc 2 1, 3) := by decide +kernel
theorem dX3_hasIdAndContentsOf_42 : decode cX3_hasIdAndContentsOf 42 = .ok (.goto (-27), 3) := by decide +kernel
theorem dX3_hasIdAndContentsOf_45 : decode cX3_hasIdAndContentsOf 45 = .ok (.iconst 1, 1) := by decide +kernel
theorem dX3_hasIdAndContentsOf_46 : decode cX3_hasIdAndContentsOf 46 = .ok (.ireturn, 1) := by decide +kernel
theorem dX4_init_0 : decode cX4_init 0 = .ok (.aload_n 0, 1) := by decide +kernel
theorem dX4_init_1 : decode cX4_init 1 = .ok (.invokespecial 3, 3) := by decide +kernel
theorem dX4_init_4 : decode cX4_init 4 = .ok (.aload_n 0, 1) := by decide +kernel
theorem dX4_init_5 : decode cX4_init 5 = .ok (.new 9, 3) := by decide +kernel
theorem dX4_init_8 : decode cX4_init 8 = .ok (.dup, 1) := by decide +kernel
theorem dX4_init_9 : decode cX4_init 9 = .ok (.bipush 40, 2) := by decide +kernel
theorem dX4_init_11 : decode cX4_init 11 = .ok (.invokespecial 11, 3) := by decide +kernel
theorem dX4_init_14 : decode cX4_init 14 = .ok (.putfield 14, 3) := by decide +kernel
theorem dX4_init_17 : decode cX4_init 17 = .ok (.return_, 1) := by decide +kernel
theorem dX4_gather_0 : decode cX4_gather 0 = .ok (.iload_n 1, 1) := by decide +kernel
theorem dX4_gather_1 : decode cX4_gather 1 = .ok (.bipush 125, 2) := by decide +kernel
theorem dX4_gather_3 : decode cX4_gather 3 = .ok (.if_icmp .ne 16, 3) := by decide +kernel
theorem dX4_gather_6 : decode cX4_gather 6 = .ok (.aload_n 0, 1) := by decide +kernel
theorem dX4_gather_7 : decode cX4_gather 7 = .ok (.getfield 20, 3) := by decide +kernel
theorem dX4_gather_10 : decode cX4_gather 10 = .ok (.ifCond .ne 9, 3) := by decide +kernel
theorem dX4_gather_13 : decode cX4_gather 13 = .ok (.aload_n 0, 1) := by decide +kernel
theorem dX4_gather_14 : decode cX4_gather 14 = .ok (.iconst 1, 1) := by decide +kernel
theorem dX4_gather_15 : decode cX4_gather 15 = .ok (.putfield 20, 3) := by decide +kernel
theorem dX4_gather_18 : decode cX4_gather 18 = .ok (.return_, 1) := by decide +kernel
theorem dX4_gather_19 : decode cX4_gather 19 = .ok (.aload_n 0, 1) := by decide +kernel
theorem dX4_gather_20 : decode cX4_gather 20 = .ok (.getfield 14, 3) := by decide +kernel
theorem dX4_gather_23 : decode cX4_gather 23 = .ok (.getfield 24, 3) := by decide +kernel
theorem dX4_gather_26 : decode cX4_gather 26 = .ok (.bipush 40, 2) := by decide +kernel
theorem dX4_gather_28 : decode cX4_gather 28 = .ok (.if_icmp .lt 8, 3) := by decide +kernel
theorem dX4_gather_31 : decode cX4_gather 31 = .ok (.aload_n 0, 1) := by decide +kernel
theorem dX4_gather_32 : decode cX4_gather 32 = .ok (.iconst 1, 1) := by decide +kernel
theorem dX4_gather_33 : decode cX4_gather 33 = .ok (.putfield 28, 3) := by decide +kernel
theorem dX4_gather_36 : decode cX4_gather 36 = .ok (.aload_n 0, 1) := by decide +kernel
theorem dX4_gather_37 : decode cX4_gather 37 = .ok (.getfield 14, 3) := by decide +kernel
theorem dX4_gather_40 : decode cX4_gather 40 = .ok (.aload_n 0, 1) := by decide +kernel
theorem dX4_gather_41 : decode cX4_gather 41 = .ok (.getfield 20, 3) := by decide +kernel
theorem dX4_gather_44 : decode cX4_gather 44 = .ok (.ifCond .eq 10, 3) := by decide +kernel
theorem dX4_gather_47 : decode cX4_gather 47 = .ok (.iload_n 1, 1) := by decide +kernel
theorem dX4_gather_48 : decode cX4_gather 48 = .ok (.bipush 32, 2) := by decide +kernel
theorem dX4_gather_50 : decode cX4_gather 50 = .ok (.ixor, 1) := by decide +kernel
theorem dX4_gather_51 : decode cX4_gather 51 = .ok (.goto 4, 3) := by decide +kernel
theorem dX4_gather_54 : decode cX4_gather 54 = .ok (.iload_n 1, 1) := by decide +kernel
theorem dX4_gather_55 : decode cX4_gather 55 = .ok (.invokevirtual 31, 3) := by decide +kernel
theorem dX4_gather_58 : decode cX4_gather 58 = .ok (.aload_n 0, 1) := by decide +kernel
theorem dX4_gather_59 : decode cX4_gather 59 = .ok (.iconst 0, 1) := by decide +kernel
theorem dX4_gather_60 : decode cX4_gather 60 = .ok (.putfield 20, 3) := by decide +kernel
theorem dX4_gather_63 : decode cX4_gather 63 = .ok (.return_, 1) := by decide +kernel
theorem dX4_isEmpty_0 : decode cX4_isEmpty 0 = .ok (.aload_n 0, 1) := by decide +kernel
theorem dX4_isEmpty_1 : decode cX4_isEmpty 1 = .ok (.getfield 14, 3) := by decide +kernel
theorem dX4_isEmpty_4 : decode cX4_isEmpty 4 = .ok (.getfield 24, 3) := by decide +kernel
theorem dX4_isEmpty_7 : decode cX4_isEmpty 7 = .ok (.ifCond .ne 14, 3) := by decide +kernel
theorem dX4_isEmpty_10 : decode cX4_isEmpty 10 = .ok (.aload_n 0, 1) := by decide +kernel
theorem dX4_isEmpty_11 : decode cX4_isEmpty 11 = .ok (.getfield 20, 3) := by decide +kernel
theorem dX4_isEmpty_14 : decode cX4_isEmpty 14 = .ok (.ifCond .ne 7, 3) := by decide +kernel
theorem dX4_isEmpty_17 : decode cX4_isEmpty 17 = .ok (.iconst 1, 1) := by decide +kernel
theorem dX4_isEmpty_18 : decode cX4_isEmpty 18 = .ok (.goto 4, 3) := by decide +kernel
theorem dX4_isEmpty_21 : decode cX4_isEmpty 21 = .ok (.iconst 0, 1) := by decide +kernel
theorem dX4_isEmpty_22 : decode cX4_isEmpty 22 = .ok (.ireturn, 1) := by decide +kernel
theorem dX4_holdsPacket_0 : decode cX4_holdsPacket 0 = .ok (.aload_n 0, 1) := by decide +kernel
theorem dX4_holdsPacket_1 : decode cX4_holdsPacket 1 = .ok (.getfield 28, 3) := by decide +kernel
theorem dX4_holdsPacket_4 : decode cX4_holdsPacket 4 = .ok (.ifCond .ne 24, 3) := by decide +kernel
theorem dX4_holdsPacket_7 : decode cX4_holdsPacket 7 = .ok (.aload_n 0, 1) := by decide +kernel
theorem dX4_holdsPacket_8 : decode cX4_holdsPacket 8 = .ok (.getfield 20, 3) := by decide +kernel
theorem dX4_holdsPacket_11 : decode cX4_holdsPacket 11 = .ok (.ifCond .ne 17, 3) := by decide +kernel
theorem dX4_holdsPacket_14 : decode cX4_holdsPacket 14 = .ok (.aload_n 0, 1) := by decide +kernel
theorem dX4_holdsPacket_15 : decode cX4_holdsPacket 15 = .ok (.getfield 14, 3) := by decide +kernel
theorem dX4_holdsPacket_18 : decode cX4_holdsPacket 18 = .ok (.invokevirtual 34, 3) := by decide +kernel
theorem dX4_holdsPacket_21 : decode cX4_holdsPacket 21 = .ok (.ifCond .eq 7, 3) := by decide +kernel
theorem dX4_holdsPacket_24 : decode cX4_holdsPacket 24 = .ok (.iconst 1, 1) := by decide +kernel
theorem dX4_holdsPacket_25 : decode cX4_holdsPacket 25 = .ok (.goto 4, 3) := by decide +kernel
theorem dX4_holdsPacket_28 : decode cX4_holdsPacket 28 = .ok (.iconst 0, 1) := by decide +kernel
theorem dX4_holdsPacket_29 : decode cX4_holdsPacket 29 = .ok (.ireturn, 1) := by decide +kernel
theorem dX4_clear_0 : decode cX4_clear 0 = .ok (.aload_n 0, 1) := by decide +kernel
theorem dX4_clear_1 : decode cX4_clear 1 = .ok (.getfield 14, 3) := by decide +kernel
theorem dX4_clear_4 : decode cX4_clear 4 = .ok (.iconst 0, 1) := by decide +kernel
theorem dX4_clear_5 : decode cX4_clear 5 = .ok (.putfield 24, 3) := by decide +kernel
theorem dX4_clear_8 : decode cX4_clear 8 = .ok (.aload_n 0, 1) := by decide +kernel
theorem dX4_clear_9 : decode cX4_clear 9 = .ok (.iconst 0, 1) := by decide +kernel
theorem dX4_clear_10 : decode cX4_clear 10 = .ok (.putfield 20, 3) := by decide +kernel
theorem dX4_clear_13 : decode cX4_clear 13 = .ok (.aload_n 0, 1) := by decide +kernel
theorem dX4_clear_14 : decode cX4_clear 14 = .ok (.iconst 0, 1) := by decide +kernel
theorem dX4_clear_15 : decode cX4_clear 15 = .ok (.putfield 28, 3) := by decide +kernel
theorem dX4_clear_18 : decode cX4_clear 18 = .ok (.return_, 1) := by decide +kernel
theorem dX5_init_0 : decode cX5_init 0 = .ok (.aload_n 0, 1) := by decide +kernel
theorem dX5_init_1 : decode cX5_init 1 = .ok (.invokespecial 1, 3) := by decide +kernel
theorem dX5_init_4 : decode cX5_init 4 = .ok (.aload_n 0, 1) := by decide +kernel
theorem dX5_init_5 : decode cX5_init 5 = .ok (.new 7, 3) := by decide +kernel
theorem dX5_init_8 : decode cX5_init 8 = .ok (.dup, 1) := by decide +kernel
theorem dX5_init_9 : decode cX5_init 9 = .ok (.invokespecial 9, 3) := by decide +kernel
theorem dX5_init_12 : decode cX5_init 12 = .ok (.putfield 10, 3) := by decide +kernel
theorem dX5_init_15 : decode cX5_init 15 = .ok (.aload_n 0, 1) := by decide +kernel
theorem dX5_init_16 : decode cX5_init 16 = .ok (.new 7, 3) := by decide +kernel
theorem dX5_init_19 : decode cX5_init 19 = .ok (.dup, 1) := by decide +kernel
theorem dX5_init_20 : decode cX5_init 20 = .ok (.invokespecial 9, 3) := by decide +kernel
theorem dX5_init_23 : decode cX5_init 23 = .ok (.putfield 16, 3) := by decide +kernel
theorem dX5_init_26 : decode cX5_init 26 = .ok (.aload_n 0, 1) := by decide +kernel
theorem dX5_init_27 : decode cX5_init 27 = .ok (.new 19, 3) := by decide +kernel
theorem dX5_init_30 : decode cX5_init 30 = .ok (.dup, 1) := by decide +kernel
theorem dX5_init_31 : decode cX5_init 31 = .ok (.aload_n 0, 1) := by decide +kernel
theorem dX5_init_32 : decode cX5_init 32 = .ok (.getfield 10, 3) := by decide +kernel
theorem dX5_init_35 : decode cX5_init 35 = .ok (.invokespecial 21, 3) := by decide +kernel
theorem dX5_init_38 : decode cX5_init 38 = .ok (.putfield 24, 3) := by decide +kernel
theorem dX5_init_41 : decode cX5_init 41 = .ok (.aload_n 0, 1) := by decide +kernel
theorem dX5_init_42 : decode cX5_init 42 = .ok (.new 19, 3) := by decide +kernel
theorem dX5_init_45 : decode cX5_init 45 = .ok (.dup, 1) := by decide +kernel
theorem dX5_init_46 : decode cX5_init 46 = .ok (.aload_n 0, 1) := by decide +kernel
theorem dX5_init_47 : decode cX5_init 47 = .ok (.getfield 16, 3) := by decide +kernel
theorem dX5_init_50 : decode cX5_init 50 = .ok (.invokespecial 21, 3) := by decide +kernel
theorem dX5_init_53 : decode cX5_init 53 = .ok (.putfield 28, 3) := by decide +kernel
theorem dX5_init_56 : decode cX5_init 56 = .ok (.return_, 1) := by decide +kernel
theorem dX5_set_0 : decode cX5_set 0 = .ok (.aload_n 0, 1) := by decide +kernel
theorem dX5_set_1 : decode cX5_set 1 = .ok (.iload_n 1, 1) := by decide +kernel
theorem dX5_set_2 : decode cX5_set 2 = .ok (.invokevirtual 31, 3) := by decide +kernel
theorem dX5_set_5 : decode cX5_set 5 = .ok (.astore 5, 2) := by decide +kernel
theorem dX5_set_7 : decode cX5_set 7 = .ok (.iload_n 2, 1) := by decide +kernel
theorem dX5_set_8 : decode cX5_set 8 = .ok (.invokestatic 35, 3) := by decide +kernel
theorem dX5_set_11 : decode cX5_set 11 = .ok (.ifCond .eq 10, 3) := by decide +kernel
theorem dX5_set_14 : decode cX5_set 14 = .ok (.iload_n 3, 1) := by decide +kernel
theorem dX5_set_15 : decode cX5_set 15 = .ok (.invokestatic 35, 3) := by decide +kernel
theorem dX5_set_18 : decode cX5_set 18 = .ok (.ifCond .ne 11, 3) := by decide +kernel
theorem dX5_set_21 : decode cX5_set 21 = .ok (.new 39, 3) := by decide +kernel
theorem dX5_set_24 : decode cX5_set 24 = .ok (.dup, 1) := by decide +kernel
theorem dX5_set_25 : decode cX5_set 25 = .ok (.invokespecial 41, 3) := by decide +kernel
theorem dX5_set_28 : decode cX5_set 28 = .ok (.athrow, 1) := by decide +kernel
theorem dX5_set_29 : decode cX5_set 29 = .ok (.aload 5, 2) := by decide +kernel
theorem dX5_set_31 : decode cX5_set 31 = .ok (.getfield 42, 3) := by decide +kernel
theorem dX5_set_34 : decode cX5_set 34 = .ok (.ifCond .eq 20, 3) := by decide +kernel
theorem dX5_set_37 : decode cX5_set 37 = .ok (.aload 5, 2) := by decide +kernel
theorem dX5_set_39 : decode cX5_set 39 = .ok (.getfield 42, 3) := by decide +kernel
theorem dX5_set_42 : decode cX5_set 42 = .ok (.iconst 2, 1) := by decide +kernel
theorem dX5_set_43 : decode cX5_set 43 = .ok (.if_icmp .eq 11, 3) := by decide +kernel
theorem dX5_set_46 : decode cX5_set 46 = .ok (.new 46, 3) := by decide +kernel
theorem dX5_set_49 : decode cX5_set 49 = .ok (.dup, 1) := by decide +kernel
theorem dX5_set_50 : decode cX5_set 50 = .ok (.invokespecial 48, 3) := by decide +kernel
theorem dX5_set_53 : decode cX5_set 53 = .ok (.athrow, 1) := by decide +kernel
theorem dX5_set_54 : decode cX5_set 54 = .ok (.aload 5, 2) := by decide +kernel
theorem dX5_set_56 : decode cX5_set 56 = .ok (.iload_n 2, 1) := by decide +kernel
theorem dX5_set_57 : decode cX5_set 57 = .ok (.putfield 49, 3) := by decide +kernel
theorem dX5_set_60 : decode cX5_set 60 = .ok (.aload 5, 2) := by decide +kernel
theorem dX5_set_62 : decode cX5_set 62 = .ok (.iload_n 3, 1) := by decide +kernel
theorem dX5_set_63 : decode cX5_set 63 = .ok (.putfield 52, 3) := by decide +kernel
theorem dX5_set_66 : decode cX5_set 66 = .ok (.aload 5, 2) := by decide +kernel
theorem dX5_set_68 : decode cX5_set 68 = .ok (.iload 4, 2) := by decide +kernel
theorem dX5_set_70 : decode cX5_set 70 = .ok (.putfield 55, 3) := by decide +kernel
theorem dX5_set_73 : decode cX5_set 73 = .ok (.return_, 1) := by decide +kernel
theorem dX5_event_0 : decode cX5_event 0 = .ok (.aload_n 0, 1) := by decide +kernel
theorem dX5_event_1 : decode cX5_event 1 = .ok (.iload_n 1, 1) := by decide +kernel
theorem dX5_event_2 : decode cX5_event 2 = .ok (.invokevirtual 31, 3) := by decide +kernel
theorem dX5_event_5 : decode cX5_event 5 = .ok (.astore_n 3, 1) := by decide +kernel
theorem dX5_event_6 : decode cX5_event 6 = .ok (.iload_n 2, 1) := by decide +kernel
theorem dX5_event_7 : decode cX5_event 7 = .ok (.tableswitch 69 0 3 #[29, 39, 49, 59], 29) := by decide +kernel
theorem dX5_event_36 : decode cX5_event 36 = .ok (.aload_n 3, 1) := by decide +kernel
theorem dX5_event_37 : decode cX5_event 37 = .ok (.getstatic 58, 3) := by decide +kernel
theorem dX5_event_40 : decode cX5_event 40 = .ok (.invokevirtual 64, 3) := by decide +kernel
theorem dX5_event_43 : decode cX5_event 43 = .ok (.goto 41, 3) := by decide +kernel
theorem dX5_event_46 : decode cX5_event 46 = .ok (.aload_n 3, 1) := by decide +kernel
theorem dX5_event_47 : decode cX5_event 47 = .ok (.getstatic 68, 3) := by decide +kernel
theorem dX5_event_50 : decode cX5_event 50 = .ok (.invokevirtual 64, 3) := by decide +kernel
theorem dX5_event_53 : decode cX5_event 53 = .ok (.goto 31, 3) := by decide +kernel
theorem dX5_event_56 : decode cX5_event 56 = .ok (.aload_n 3, 1) := by decide +kernel
theorem dX5_event_57 : decode cX5_event 57 = .ok (.getstatic 71, 3) := by decide +kernel
theorem dX5_event_60 : decode cX5_event 60 = .ok (.invokevirtual 64, 3) := by decide +kernel
theorem dX5_event_63 : decode cX5_event 63 = .ok (.goto 21, 3) := by decide +kernel
theorem dX5_event_66 : decode cX5_event 66 = .ok (.aload_n 3, 1) := by decide +kernel
theorem dX5_event_67 : decode cX5_event 67 = .ok (.getstatic 74, 3) := by decide +kernel
theorem dX5_event_70 : decode cX5_event 70 = .ok (.invokevirtual 64, 3) := by decide +kernel
theorem dX5_event_73 : decode cX5_event 73 = .ok (.goto 11, 3) := by decide +kernel
theorem dX5_event_76 : decode cX5_event 76 = .ok (.new 39, 3) := by decide +kernel
theorem dX5_event_79 : decode cX5_event 79 = .ok (.dup, 1) := by decide +kernel
theorem dX5_event_80 : decode cX5_event 80 = .ok (.invokespecial 41, 3) := by decide +kernel
theorem dX5_event_83 : decode cX5_event 83 = .ok (.athrow, 1) := by decide +kernel
theorem dX5_event_84 : decode cX5_event 84 = .ok (.aload_n 3, 1) := by decide +kernel
theorem dX5_event_85 : decode cX5_event 85 = .ok (.getfield 42, 3) := by decide +kernel
theorem dX5_event_88 : decode cX5_event 88 = .ok (.ireturn, 1) := by decide +kernel
theorem dX5_pass_0 : decode cX5_pass 0 = .ok (.aload_n 0, 1) := by decide +kernel
theorem dX5_pass_1 : decode cX5_pass 1 = .ok (.iload_n 1, 1) := by decide +kernel
theorem dX5_pass_2 : decode cX5_pass 2 = .ok (.invokevirtual 77, 3) := by decide +kernel
theorem dX5_pass_5 : decode cX5_pass 5 = .ok (.astore_n 3, 1) := by decide +kernel
theorem dX5_pass_6 : decode cX5_pass 6 = .ok (.iload_n 2, 1) := by decide +kernel
theorem dX5_pass_7 : decode cX5_pass 7 = .ok (.iconst 1, 1) := by decide +kernel
theorem dX5_pass_8 : decode cX5_pass 8 = .ok (.if_icmp .lt 10, 3) := by decide +kernel
theorem dX5_pass_11 : decode cX5_pass 11 = .ok (.iload_n 2, 1) := by decide +kernel
theorem dX5_pass_12 : decode cX5_pass 12 = .ok (.sipush 300, 3) := by decide +kernel
theorem dX5_pass_15 : decode cX5_pass 15 = .ok (.if_icmp .le 11, 3) := by decide +kernel
theorem dX5_pass_18 : decode cX5_pass 18 = .ok (.new 39, 3) := by decide +kernel
theorem dX5_pass_21 : decode cX5_pass 21 = .ok (.dup, 1) := by decide +kernel
theorem dX5_pass_22 : decode cX5_pass 22 = .ok (.invokespecial 41, 3) := by decide +kernel
theorem dX5_pass_25 : decode cX5_pass 25 = .ok (.athrow, 1) := by decide +kernel
theorem dX5_pass_26 : decode cX5_pass 26 = .ok (.aload_n 0, 1) := by decide +kernel
theorem dX5_pass_27 : decode cX5_pass 27 = .ok (.aload_n 3, 1) := by decide +kernel
theorem dX5_pass_28 : decode cX5_pass 28 = .ok (.getfield 81, 3) := by decide +kernel
theorem dX5_pass_31 : decode cX5_pass 31 = .ok (.ifCond .eq 7, 3) := by decide +kernel
theorem dX5_pass_34 : decode cX5_pass 34 = .ok (.iload_n 1, 1) := by decide +kernel
theorem dX5_pass_35 : decode cX5_pass 35 = .ok (.goto 6, 3) := by decide +kernel
theorem dX5_pass_38 : decode cX5_pass 38 = .ok (.iconst 1, 1) := by decide +kernel
theorem dX5_pass_39 : decode cX5_pass 39 = .ok (.iload_n 1, 1) := by decide +kernel
theorem dX5_pass_40 : decode cX5_pass 40 = .ok (.isub, 1) := by decide +kernel
theorem dX5_pass_41 : decode cX5_pass 41 = .ok (.invokevirtual 31, 3) := by decide +kernel
theorem dX5_pass_44 : decode cX5_pass 44 = .ok (.astore 4, 2) := by decide +kernel
theorem dX5_pass_46 : decode cX5_pass 46 = .ok (.iconst 0, 1) := by decide +kernel
theorem dX5_pass_47 : decode cX5_pass 47 = .ok (.istore 5, 2) := by decide +kernel
theorem dX5_pass_49 : decode cX5_pass 49 = .ok (.iconst 0, 1) := by decide +kernel
theorem dX5_pass_50 : decode cX5_pass 50 = .ok (.istore 6, 2) := by decide +kernel
theorem dX5_pass_52 : decode cX5_pass 52 = .ok (.iload 6, 2) := by decide +kernel
theorem dX5_pass_54 : decode cX5_pass 54 = .ok (.iload_n 2, 1) := by decide +kernel
theorem dX5_pass_55 : decode cX5_pass 55 = .ok (.if_icmp .ge 53, 3) := by decide +kernel
theorem dX5_pass_58 : decode cX5_pass 58 = .ok (.aload_n 3, 1) := by decide +kernel
theorem dX5_pass_59 : decode cX5_pass 59 = .ok (.getfield 85, 3) := by decide +kernel
theorem dX5_pass_62 : decode cX5_pass 62 = .ok (.ifCond .le 46, 3) := by decide +kernel
theorem dX5_pass_65 : decode cX5_pass 65 = .ok (.aload_n 3, 1) := by decide +kernel
theorem dX5_pass_66 : decode cX5_pass 66 = .ok (.invokevirtual 88, 3) := by decide +kernel
theorem dX5_pass_69 : decode cX5_pass 69 = .ok (.istore 7, 2) := by decide +kernel
theorem dX5_pass_71 : decode cX5_pass 71 = .ok (.iload 7, 2) := by decide +kernel
theorem dX5_pass_73 : decode cX5_pass 73 = .ok (.bipush 126, 2) := by decide +kernel
theorem dX5_pass_75 : decode cX5_pass 75 = .ok (.if_icmp .eq 16, 3) := by decide +kernel
theorem dX5_pass_78 : decode cX5_pass 78 = .ok (.aload 4, 2) := by decide +kernel
theorem dX5_pass_80 : decode cX5_pass 80 = .ok (.getfield 92, 3) := by decide +kernel
theorem dX5_pass_83 : decode cX5_pass 83 = .ok (.iload 7, 2) := by decide +kernel
theorem dX5_pass_85 : decode cX5_pass 85 = .ok (.invokevirtual 96, 3) := by decide +kernel
theorem dX5_pass_88 : decode cX5_pass 88 = .ok (.goto 14, 3) := by decide +kernel
theorem dX5_pass_91 : decode cX5_pass 91 = .ok (.aload 4, 2) := by decide +kernel
theorem dX5_pass_93 : decode cX5_pass 93 = .ok (.invokevirtual 102, 3) := by decide +kernel
theorem dX5_pass_96 : decode cX5_pass 96 = .ok (.ifCond .eq 6, 3) := by decide +kernel
theorem dX5_pass_99 : decode cX5_pass 99 = .ok (.iinc 5 1, 3) := by decide +kernel
theorem dX5_pass_102 : decode cX5_pass 102 = .ok (.iinc 6 1, 3) := by decide +kernel
theorem dX5_pass_105 : decode cX5_pass 105 = .ok (.goto (-53), 3) := by decide +kernel
theorem dX5_pass_108 : decode cX5_pass 108 = .ok (.iload 5, 2) := by decide +kernel
theorem dX5_pass_110 : decode cX5_pass 110 = .ok (.ireturn, 1) := by decide +kernel
theorem dX5_tick_0 : decode cX5_tick 0 = .ok (.iload_n 1, 1) := by decide +kernel
theorem dX5_tick_1 : decode cX5_tick 1 = .ok (.iconst 1, 1) := by decide +kernel
theorem dX5_tick_2 : decode cX5_tick 2 = .ok (.if_icmp .lt 9, 3) := by decide +kernel
theorem dX5_tick_5 : decode cX5_tick 5 = .ok (.iload_n 1, 1) := by decide +kernel
theorem dX5_tick_6 : decode cX5_tick 6 = .ok (.bipush 20, 2) := by decide +kernel
theorem dX5_tick_8 : decode cX5_tick 8 = .ok (.if_icmp .le 11, 3) := by decide +kernel
theorem dX5_tick_11 : decode cX5_tick 11 = .ok (.new 39, 3) := by decide +kernel
theorem dX5_tick_14 : decode cX5_tick 14 = .ok (.dup, 1) := by decide +kernel
theorem dX5_tick_15 : decode cX5_tick 15 = .ok (.invokespecial 41, 3) := by decide +kernel
theorem dX5_tick_18 : decode cX5_tick 18 = .ok (.athrow, 1) := by decide +kernel
theorem dX5_tick_19 : decode cX5_tick 19 = .ok (.iconst 0, 1) := by decide +kernel
theorem dX5_tick_20 : decode cX5_tick 20 = .ok (.istore_n 2, 1) := by decide +kernel
theorem dX5_tick_21 : decode cX5_tick 21 = .ok (.iconst 0, 1) := by decide +kernel
theorem dX5_tick_22 : decode cX5_tick 22 = .ok (.istore_n 3, 1) := by decide +kernel
theorem dX5_tick_23 : decode cX5_tick 23 = .ok (.iload_n 3, 1) := by decide +kernel
theorem dX5_tick_24 : decode cX5_tick 24 = .ok (.iload_n 1, 1) := by decide +kernel
theorem dX5_tick_25 : decode cX5_tick 25 = .ok (.if_icmp .ge 35, 3) := by decide +kernel
theorem dX5_tick_28 : decode cX5_tick 28 = .ok (.aload_n 0, 1) := by decide +kernel
theorem dX5_tick_29 : decode cX5_tick 29 = .ok (.getfield 24, 3) := by decide +kernel
theorem dX5_tick_32 : decode cX5_tick 32 = .ok (.invokevirtual 106, 3) := by decide +kernel
theorem dX5_tick_35 : decode cX5_tick 35 = .ok (.ifCond .eq 6, 3) := by decide +kernel
theorem dX5_tick_38 : decode cX5_tick 38 = .ok (.iinc 2 1, 3) := by decide +kernel
theorem dX5_tick_41 : decode cX5_tick 41 = .ok (.aload_n 0, 1) := by decide +kernel
theorem dX5_tick_42 : decode cX5_tick 42 = .ok (.getfield 28, 3) := by decide +kernel
theorem dX5_tick_45 : decode cX5_tick 45 = .ok (.invokevirtual 106, 3) := by decide +kernel
theorem dX5_tick_48 : decode cX5_tick 48 = .ok (.ifCond .eq 6, 3) := by decide +kernel
theorem dX5_tick_51 : decode cX5_tick 51 = .ok (.iinc 2 1, 3) := by decide +kernel
theorem dX5_tick_54 : decode cX5_tick 54 = .ok (.iinc 3 1, 3) := by decide +kernel
theorem dX5_tick_57 : decode cX5_tick 57 = .ok (.goto (-34), 3) := by decide +kernel
theorem dX5_tick_60 : decode cX5_tick 60 = .ok (.iload_n 2, 1) := by decide +kernel
theorem dX5_tick_61 : decode cX5_tick 61 = .ok (.ireturn, 1) := by decide +kernel
theorem dX5_put_0 : decode cX5_put 0 = .ok (.aload_n 0, 1) := by decide +kernel
theorem dX5_put_1 : decode cX5_put 1 = .ok (.iload_n 1, 1) := by decide +kernel
theorem dX5_put_2 : decode cX5_put 2 = .ok (.invokevirtual 77, 3) := by decide +kernel
theorem dX5_put_5 : decode cX5_put 5 = .ok (.astore_n 3, 1) := by decide +kernel
theorem dX5_put_6 : decode cX5_put 6 = .ok (.iload_n 2, 1) := by decide +kernel
theorem dX5_put_7 : decode cX5_put 7 = .ok (.invokestatic 109, 3) := by decide +kernel
theorem dX5_put_10 : decode cX5_put 10 = .ok (.ifCond .ne 11, 3) := by decide +kernel
theorem dX5_put_13 : decode cX5_put 13 = .ok (.new 39, 3) := by decide +kernel
theorem dX5_put_16 : decode cX5_put 16 = .ok (.dup, 1) := by decide +kernel
theorem dX5_put_17 : decode cX5_put 17 = .ok (.invokespecial 41, 3) := by decide +kernel
theorem dX5_put_20 : decode cX5_put 20 = .ok (.athrow, 1) := by decide +kernel
theorem dX5_put_21 : decode cX5_put 21 = .ok (.aload_n 3, 1) := by decide +kernel
theorem dX5_put_22 : decode cX5_put 22 = .ok (.getfield 85, 3) := by decide +kernel
theorem dX5_put_25 : decode cX5_put 25 = .ok (.sipush 300, 3) := by decide +kernel
theorem dX5_put_28 : decode cX5_put 28 = .ok (.if_icmp .lt 11, 3) := by decide +kernel
theorem dX5_put_31 : decode cX5_put 31 = .ok (.new 46, 3) := by decide +kernel
theorem dX5_put_34 : decode cX5_put 34 = .ok (.dup, 1) := by decide +kernel
theorem dX5_put_35 : decode cX5_put 35 = .ok (.invokespecial 48, 3) := by decide +kernel
theorem dX5_put_38 : decode cX5_put 38 = .ok (.athrow, 1) := by decide +kernel
theorem dX5_put_39 : decode cX5_put 39 = .ok (.aload_n 3, 1) := by decide +kernel
theorem dX5_put_40 : decode cX5_put 40 = .ok (.iload_n 2, 1) := by decide +kernel
theorem dX5_put_41 : decode cX5_put 41 = .ok (.invokevirtual 112, 3) := by decide +kernel
theorem dX5_put_44 : decode cX5_put 44 = .ok (.aload_n 3, 1) := by decide +kernel
theorem dX5_put_45 : decode cX5_put 45 = .ok (.getfield 85, 3) := by decide +kernel
theorem dX5_put_48 : decode cX5_put 48 = .ok (.ireturn, 1) := by decide +kernel
theorem dX5_damage_0 : decode cX5_damage 0 = .ok (.aload_n 0, 1) := by decide +kernel
theorem dX5_damage_1 : decode cX5_damage 1 = .ok (.iload_n 1, 1) := by decide +kernel
theorem dX5_damage_2 : decode cX5_damage 2 = .ok (.invokevirtual 77, 3) := by decide +kernel
theorem dX5_damage_5 : decode cX5_damage 5 = .ok (.astore 4, 2) := by decide +kernel
theorem dX5_damage_7 : decode cX5_damage 7 = .ok (.aload 4, 2) := by decide +kernel
theorem dX5_damage_9 : decode cX5_damage 9 = .ok (.iload_n 2, 1) := by decide +kernel
theorem dX5_damage_10 : decode cX5_damage 10 = .ok (.invokevirtual 115, 3) := by decide +kernel
theorem dX5_damage_13 : decode cX5_damage 13 = .ok (.ifCond .ne 11, 3) := by decide +kernel
theorem dX5_damage_16 : decode cX5_damage 16 = .ok (.new 118, 3) := by decide +kernel
theorem dX5_damage_19 : decode cX5_damage 19 = .ok (.dup, 1) := by decide +kernel
theorem dX5_damage_20 : decode cX5_damage 20 = .ok (.invokespecial 120, 3) := by decide +kernel
theorem dX5_damage_23 : decode cX5_damage 23 = .ok (.athrow, 1) := by decide +kernel
theorem dX5_damage_24 : decode cX5_damage 24 = .ok (.iload_n 3, 1) := by decide +kernel
theorem dX5_damage_25 : decode cX5_damage 25 = .ok (.invokestatic 109, 3) := by decide +kernel
theorem dX5_damage_28 : decode cX5_damage 28 = .ok (.ifCond .ne 11, 3) := by decide +kernel
theorem dX5_damage_31 : decode cX5_damage 31 = .ok (.new 39, 3) := by decide +kernel
theorem dX5_damage_34 : decode cX5_damage 34 = .ok (.dup, 1) := by decide +kernel
theorem dX5_damage_35 : decode cX5_damage 35 = .ok (.invokespecial 41, 3) := by decide +kernel
theorem dX5_damage_38 : decode cX5_damage 38 = .ok (.athrow, 1) := by decide +kernel
theorem dX5_damage_39 : decode cX5_damage 39 = .ok (.aload 4, 2) := by decide +kernel
theorem dX5_damage_41 : decode cX5_damage 41 = .ok (.iload_n 2, 1) := by decide +kernel
theorem dX5_damage_42 : decode cX5_damage 42 = .ok (.iload_n 3, 1) := by decide +kernel
theorem dX5_damage_43 : decode cX5_damage 43 = .ok (.invokevirtual 121, 3) := by decide +kernel
theorem dX5_damage_46 : decode cX5_damage 46 = .ok (.ireturn, 1) := by decide +kernel
theorem dX5_lose_0 : decode cX5_lose 0 = .ok (.aload_n 0, 1) := by decide +kernel
theorem dX5_lose_1 : decode cX5_lose 1 = .ok (.iload_n 1, 1) := by decide +kernel
theorem dX5_lose_2 : decode cX5_lose 2 = .ok (.invokevirtual 77, 3) := by decide +kernel
theorem dX5_lose_5 : decode cX5_lose 5 = .ok (.astore_n 3, 1) := by decide +kernel
theorem dX5_lose_6 : decode cX5_lose 6 = .ok (.iload_n 2, 1) := by decide +kernel
theorem dX5_lose_7 : decode cX5_lose 7 = .ok (.ifCond .ge 11, 3) := by decide +kernel
theorem dX5_lose_10 : decode cX5_lose 10 = .ok (.new 39, 3) := by decide +kernel
theorem dX5_lose_13 : decode cX5_lose 13 = .ok (.dup, 1) := by decide +kernel
theorem dX5_lose_14 : decode cX5_lose 14 = .ok (.invokespecial 41, 3) := by decide +kernel
theorem dX5_lose_17 : decode cX5_lose 17 = .ok (.athrow, 1) := by decide +kernel
theorem dX5_lose_18 : decode cX5_lose 18 = .ok (.iload_n 2, 1) := by decide +kernel
theorem dX5_lose_19 : decode cX5_lose 19 = .ok (.aload_n 3, 1) := by decide +kernel
theorem dX5_lose_20 : decode cX5_lose 20 = .ok (.getfield 85, 3) := by decide +kernel
theorem dX5_lose_23 : decode cX5_lose 23 = .ok (.invokestatic 125, 3) := by decide +kernel
theorem dX5_lose_26 : decode cX5_lose 26 = .ok (.istore 4, 2) := by decide +kernel
theorem dX5_lose_28 : decode cX5_lose 28 = .ok (.aload_n 3, 1) := by decide +kernel
theorem dX5_lose_29 : decode cX5_lose 29 = .ok (.iload 4, 2) := by decide +kernel
theorem dX5_lose_31 : decode cX5_lose 31 = .ok (.invokevirtual 130, 3) := by decide +kernel
theorem dX5_lose_34 : decode cX5_lose 34 = .ok (.iload 4, 2) := by decide +kernel
theorem dX5_lose_36 : decode cX5_lose 36 = .ok (.ireturn, 1) := by decide +kernel
theorem dX5_loop_0 : decode cX5_loop 0 = .ok (.aload_n 0, 1) := by decide +kernel
theorem dX5_loop_1 : decode cX5_loop 1 = .ok (.iload_n 1, 1) := by decide +kernel
theorem dX5_loop_2 : decode cX5_loop 2 = .ok (.invokevirtual 77, 3) := by decide +kernel
theorem dX5_loop_5 : decode cX5_loop 5 = .ok (.astore_n 3, 1) := by decide +kernel
theorem dX5_loop_6 : decode cX5_loop 6 = .ok (.aload_n 3, 1) := by decide +kernel
theorem dX5_loop_7 : decode cX5_loop 7 = .ok (.getfield 81, 3) := by decide +kernel
theorem dX5_loop_10 : decode cX5_loop 10 = .ok (.istore 4, 2) := by decide +kernel
theorem dX5_loop_12 : decode cX5_loop 12 = .ok (.aload_n 3, 1) := by decide +kernel
theorem dX5_loop_13 : decode cX5_loop 13 = .ok (.iload_n 2, 1) := by decide +kernel
theorem dX5_loop_14 : decode cX5_loop 14 = .ok (.putfield 81, 3) := by decide +kernel

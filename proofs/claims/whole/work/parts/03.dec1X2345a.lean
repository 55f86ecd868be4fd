theorem dX2_init_0 : decode cX2_init 0 = .ok (.aload_n 0, 1) := by decide +kernel
theorem dX2_init_1 : decode cX2_init 1 = .ok (.invokespecial 3, 3) := by decide +kernel
theorem dX2_init_4 : decode cX2_init 4 = .ok (.aload_n 0, 1) := by decide +kernel
theorem dX2_init_5 : decode cX2_init 5 = .ok (.sipush 300, 3) := by decide +kernel
theorem dX2_init_8 : decode cX2_init 8 = .ok (.newarray .int, 2) := by decide +kernel
theorem dX2_init_10 : decode cX2_init 10 = .ok (.putfield 9, 3) := by decide +kernel
theorem dX2_init_13 : decode cX2_init 13 = .ok (.return_, 1) := by decide +kernel
theorem dX2_has_0 : decode cX2_has 0 = .ok (.iload_n 1, 1) := by decide +kernel
theorem dX2_has_1 : decode cX2_has 1 = .ok (.ifCond .lt 15, 3) := by decide +kernel
theorem dX2_has_4 : decode cX2_has 4 = .ok (.iload_n 1, 1) := by decide +kernel
theorem dX2_has_5 : decode cX2_has 5 = .ok (.aload_n 0, 1) := by decide +kernel
theorem dX2_has_6 : decode cX2_has 6 = .ok (.getfield 15, 3) := by decide +kernel
theorem dX2_has_9 : decode cX2_has 9 = .ok (.if_icmp .ge 7, 3) := by decide +kernel
theorem dX2_has_12 : decode cX2_has 12 = .ok (.iconst 1, 1) := by decide +kernel
theorem dX2_has_13 : decode cX2_has 13 = .ok (.goto 4, 3) := by decide +kernel
theorem dX2_has_16 : decode cX2_has 16 = .ok (.iconst 0, 1) := by decide +kernel
theorem dX2_has_17 : decode cX2_has 17 = .ok (.ireturn, 1) := by decide +kernel
theorem dX2_append_0 : decode cX2_append 0 = .ok (.aload_n 0, 1) := by decide +kernel
theorem dX2_append_1 : decode cX2_append 1 = .ok (.getfield 15, 3) := by decide +kernel
theorem dX2_append_4 : decode cX2_append 4 = .ok (.sipush 300, 3) := by decide +kernel
theorem dX2_append_7 : decode cX2_append 7 = .ok (.if_icmp .ge 32, 3) := by decide +kernel
theorem dX2_append_10 : decode cX2_append 10 = .ok (.aload_n 0, 1) := by decide +kernel
theorem dX2_append_11 : decode cX2_append 11 = .ok (.getfield 9, 3) := by decide +kernel
theorem dX2_append_14 : decode cX2_append 14 = .ok (.aload_n 0, 1) := by decide +kernel
theorem dX2_append_15 : decode cX2_append 15 = .ok (.getfield 19, 3) := by decide +kernel
theorem dX2_append_18 : decode cX2_append 18 = .ok (.aload_n 0, 1) := by decide +kernel
theorem dX2_append_19 : decode cX2_append 19 = .ok (.getfield 15, 3) := by decide +kernel
theorem dX2_append_22 : decode cX2_append 22 = .ok (.iadd, 1) := by decide +kernel
theorem dX2_append_23 : decode cX2_append 23 = .ok (.sipush 300, 3) := by decide +kernel
theorem dX2_append_26 : decode cX2_append 26 = .ok (.irem, 1) := by decide +kernel
theorem dX2_append_27 : decode cX2_append 27 = .ok (.iload_n 1, 1) := by decide +kernel
theorem dX2_append_28 : decode cX2_append 28 = .ok (.iastore, 1) := by decide +kernel
theorem dX2_append_29 : decode cX2_append 29 = .ok (.aload_n 0, 1) := by decide +kernel
theorem dX2_append_30 : decode cX2_append 30 = .ok (.dup, 1) := by decide +kernel
theorem dX2_append_31 : decode cX2_append 31 = .ok (.getfield 15, 3) := by decide +kernel
theorem dX2_append_34 : decode cX2_append 34 = .ok (.iconst 1, 1) := by decide +kernel
theorem dX2_append_35 : decode cX2_append 35 = .ok (.iadd, 1) := by decide +kernel
theorem dX2_append_36 : decode cX2_append 36 = .ok (.putfield 15, 3) := by decide +kernel
theorem dX2_append_39 : decode cX2_append 39 = .ok (.return_, 1) := by decide +kernel
theorem dX2_takeFirst_0 : decode cX2_takeFirst 0 = .ok (.aload_n 0, 1) := by decide +kernel
theorem dX2_takeFirst_1 : decode cX2_takeFirst 1 = .ok (.getfield 9, 3) := by decide +kernel
theorem dX2_takeFirst_4 : decode cX2_takeFirst 4 = .ok (.aload_n 0, 1) := by decide +kernel
theorem dX2_takeFirst_5 : decode cX2_takeFirst 5 = .ok (.getfield 19, 3) := by decide +kernel
theorem dX2_takeFirst_8 : decode cX2_takeFirst 8 = .ok (.iaload, 1) := by decide +kernel
theorem dX2_takeFirst_9 : decode cX2_takeFirst 9 = .ok (.istore_n 1, 1) := by decide +kernel
theorem dX2_takeFirst_10 : decode cX2_takeFirst 10 = .ok (.aload_n 0, 1) := by decide +kernel
theorem dX2_takeFirst_11 : decode cX2_takeFirst 11 = .ok (.iconst 1, 1) := by decide +kernel
theorem dX2_takeFirst_12 : decode cX2_takeFirst 12 = .ok (.invokevirtual 22, 3) := by decide +kernel
theorem dX2_takeFirst_15 : decode cX2_takeFirst 15 = .ok (.iload_n 1, 1) := by decide +kernel
theorem dX2_takeFirst_16 : decode cX2_takeFirst 16 = .ok (.ireturn, 1) := by decide +kernel
theorem dX2_drop_0 : decode cX2_drop 0 = .ok (.aload_n 0, 1) := by decide +kernel
theorem dX2_drop_1 : decode cX2_drop 1 = .ok (.aload_n 0, 1) := by decide +kernel
theorem dX2_drop_2 : decode cX2_drop 2 = .ok (.getfield 19, 3) := by decide +kernel
theorem dX2_drop_5 : decode cX2_drop 5 = .ok (.iload_n 1, 1) := by decide +kernel
theorem dX2_drop_6 : decode cX2_drop 6 = .ok (.iadd, 1) := by decide +kernel
theorem dX2_drop_7 : decode cX2_drop 7 = .ok (.sipush 300, 3) := by decide +kernel
theorem dX2_drop_10 : decode cX2_drop 10 = .ok (.irem, 1) := by decide +kernel
theorem dX2_drop_11 : decode cX2_drop 11 = .ok (.putfield 19, 3) := by decide +kernel
theorem dX2_drop_14 : decode cX2_drop 14 = .ok (.aload_n 0, 1) := by decide +kernel
theorem dX2_drop_15 : decode cX2_drop 15 = .ok (.dup, 1) := by decide +kernel
theorem dX2_drop_16 : decode cX2_drop 16 = .ok (.getfield 15, 3) := by decide +kernel
theorem dX2_drop_19 : decode cX2_drop 19 = .ok (.iload_n 1, 1) := by decide +kernel
theorem dX2_drop_20 : decode cX2_drop 20 = .ok (.isub, 1) := by decide +kernel
theorem dX2_drop_21 : decode cX2_drop 21 = .ok (.putfield 15, 3) := by decide +kernel
theorem dX2_drop_24 : decode cX2_drop 24 = .ok (.return_, 1) := by decide +kernel
theorem dX2_flip_0 : decode cX2_flip 0 = .ok (.aload_n 0, 1) := by decide +kernel
theorem dX2_flip_1 : decode cX2_flip 1 = .ok (.getfield 19, 3) := by decide +kernel
theorem dX2_flip_4 : decode cX2_flip 4 = .ok (.iload_n 1, 1) := by decide +kernel
theorem dX2_flip_5 : decode cX2_flip 5 = .ok (.iadd, 1) := by decide +kernel
theorem dX2_flip_6 : decode cX2_flip 6 = .ok (.sipush 300, 3) := by decide +kernel
theorem dX2_flip_9 : decode cX2_flip 9 = .ok (.irem, 1) := by decide +kernel
theorem dX2_flip_10 : decode cX2_flip 10 = .ok (.istore_n 3, 1) := by decide +kernel
theorem dX2_flip_11 : decode cX2_flip 11 = .ok (.aload_n 0, 1) := by decide +kernel
theorem dX2_flip_12 : decode cX2_flip 12 = .ok (.getfield 9, 3) := by decide +kernel
theorem dX2_flip_15 : decode cX2_flip 15 = .ok (.iload_n 3, 1) := by decide +kernel
theorem dX2_flip_16 : decode cX2_flip 16 = .ok (.iaload, 1) := by decide +kernel
theorem dX2_flip_17 : decode cX2_flip 17 = .ok (.istore 4, 2) := by decide +kernel
theorem dX2_flip_19 : decode cX2_flip 19 = .ok (.aload_n 0, 1) := by decide +kernel
theorem dX2_flip_20 : decode cX2_flip 20 = .ok (.getfield 9, 3) := by decide +kernel
theorem dX2_flip_23 : decode cX2_flip 23 = .ok (.iload_n 3, 1) := by decide +kernel
theorem dX2_flip_24 : decode cX2_flip 24 = .ok (.iload 4, 2) := by decide +kernel
theorem dX2_flip_26 : decode cX2_flip 26 = .ok (.iload_n 2, 1) := by decide +kernel
theorem dX2_flip_27 : decode cX2_flip 27 = .ok (.ixor, 1) := by decide +kernel
theorem dX2_flip_28 : decode cX2_flip 28 = .ok (.iastore, 1) := by decide +kernel
theorem dX2_flip_29 : decode cX2_flip 29 = .ok (.iload 4, 2) := by decide +kernel
theorem dX2_flip_31 : decode cX2_flip 31 = .ok (.ireturn, 1) := by decide +kernel
theorem dX2_carry_0 : decode cX2_carry 0 = .ok (.aload_n 0, 1) := by decide +kernel
theorem dX2_carry_1 : decode cX2_carry 1 = .ok (.bipush 126, 2) := by decide +kernel
theorem dX2_carry_3 : decode cX2_carry 3 = .ok (.invokevirtual 26, 3) := by decide +kernel
theorem dX2_carry_6 : decode cX2_carry 6 = .ok (.iconst 0, 1) := by decide +kernel
theorem dX2_carry_7 : decode cX2_carry 7 = .ok (.istore_n 2, 1) := by decide +kernel
theorem dX2_carry_8 : decode cX2_carry 8 = .ok (.iload_n 2, 1) := by decide +kernel
theorem dX2_carry_9 : decode cX2_carry 9 = .ok (.aload_n 1, 1) := by decide +kernel
theorem dX2_carry_10 : decode cX2_carry 10 = .ok (.getfield 29, 3) := by decide +kernel
theorem dX2_carry_13 : decode cX2_carry 13 = .ok (.if_icmp .ge 45, 3) := by decide +kernel
theorem dX2_carry_16 : decode cX2_carry 16 = .ok (.aload_n 1, 1) := by decide +kernel
theorem dX2_carry_17 : decode cX2_carry 17 = .ok (.getfield 32, 3) := by decide +kernel
theorem dX2_carry_20 : decode cX2_carry 20 = .ok (.iload_n 2, 1) := by decide +kernel
theorem dX2_carry_21 : decode cX2_carry 21 = .ok (.iaload, 1) := by decide +kernel
theorem dX2_carry_22 : decode cX2_carry 22 = .ok (.istore_n 3, 1) := by decide +kernel
theorem dX2_carry_23 : decode cX2_carry 23 = .ok (.iload_n 3, 1) := by decide +kernel
theorem dX2_carry_24 : decode cX2_carry 24 = .ok (.invokestatic 33, 3) := by decide +kernel
theorem dX2_carry_27 : decode cX2_carry 27 = .ok (.ifCond .eq 20, 3) := by decide +kernel
theorem dX2_carry_30 : decode cX2_carry 30 = .ok (.aload_n 0, 1) := by decide +kernel
theorem dX2_carry_31 : decode cX2_carry 31 = .ok (.bipush 125, 2) := by decide +kernel
theorem dX2_carry_33 : decode cX2_carry 33 = .ok (.invokevirtual 26, 3) := by decide +kernel
theorem dX2_carry_36 : decode cX2_carry 36 = .ok (.aload_n 0, 1) := by decide +kernel
theorem dX2_carry_37 : decode cX2_carry 37 = .ok (.iload_n 3, 1) := by decide +kernel
theorem dX2_carry_38 : decode cX2_carry 38 = .ok (.bipush 32, 2) := by decide +kernel
theorem dX2_carry_40 : decode cX2_carry 40 = .ok (.ixor, 1) := by decide +kernel
theorem dX2_carry_41 : decode cX2_carry 41 = .ok (.invokevirtual 26, 3) := by decide +kernel
theorem dX2_carry_44 : decode cX2_carry 44 = .ok (.goto 8, 3) := by decide +kernel
theorem dX2_carry_47 : decode cX2_carry 47 = .ok (.aload_n 0, 1) := by decide +kernel
theorem dX2_carry_48 : decode cX2_carry 48 = .ok (.iload_n 3, 1) := by decide +kernel
theorem dX2_carry_49 : decode cX2_carry 49 = .ok (.invokevirtual 26, 3) := by decide +kernel
theorem dX2_carry_52 : decode cX2_carry 52 = .ok (.iinc 2 1, 3) := by decide +kernel
theorem dX2_carry_55 : decode cX2_carry 55 = .ok (.goto (-47), 3) := by decide +kernel
theorem dX2_carry_58 : decode cX2_carry 58 = .ok (.aload_n 0, 1) := by decide +kernel
theorem dX2_carry_59 : decode cX2_carry 59 = .ok (.bipush 126, 2) := by decide +kernel
theorem dX2_carry_61 : decode cX2_carry 61 = .ok (.invokevirtual 26, 3) := by decide +kernel
theorem dX2_carry_64 : decode cX2_carry 64 = .ok (.return_, 1) := by decide +kernel
theorem dX3_init_0 : decode cX3_init 0 = .ok (.aload_n 0, 1) := by decide +kernel
theorem dX3_init_1 : decode cX3_init 1 = .ok (.invokespecial 3, 3) := by decide +kernel
theorem dX3_init_4 : decode cX3_init 4 = .ok (.aload_n 0, 1) := by decide +kernel
theorem dX3_init_5 : decode cX3_init 5 = .ok (.iload_n 1, 1) := by decide +kernel
theorem dX3_init_6 : decode cX3_init 6 = .ok (.newarray .int, 2) := by decide +kernel
theorem dX3_init_8 : decode cX3_init 8 = .ok (.putfield 9, 3) := by decide +kernel
theorem dX3_init_11 : decode cX3_init 11 = .ok (.return_, 1) := by decide +kernel
theorem dX3_needsEscape_0 : decode cX3_needsEscape 0 = .ok (.iload_n 0, 1) := by decide +kernel
theorem dX3_needsEscape_1 : decode cX3_needsEscape 1 = .ok (.bipush 125, 2) := by decide +kernel
theorem dX3_needsEscape_3 : decode cX3_needsEscape 3 = .ok (.if_icmp .eq 9, 3) := by decide +kernel
theorem dX3_needsEscape_6 : decode cX3_needsEscape 6 = .ok (.iload_n 0, 1) := by decide +kernel
theorem dX3_needsEscape_7 : decode cX3_needsEscape 7 = .ok (.bipush 126, 2) := by decide +kernel
theorem dX3_needsEscape_9 : decode cX3_needsEscape 9 = .ok (.if_icmp .ne 7, 3) := by decide +kernel
theorem dX3_needsEscape_12 : decode cX3_needsEscape 12 = .ok (.iconst 1, 1) := by decide +kernel
theorem dX3_needsEscape_13 : decode cX3_needsEscape 13 = .ok (.goto 4, 3) := by decide +kernel
theorem dX3_needsEscape_16 : decode cX3_needsEscape 16 = .ok (.iconst 0, 1) := by decide +kernel
theorem dX3_needsEscape_17 : decode cX3_needsEscape 17 = .ok (.ireturn, 1) := by decide +kernel
theorem dX3_optionLength_0 : decode cX3_optionLength 0 = .ok (.iload_n 0, 1) := by decide +kernel
theorem dX3_optionLength_1 : decode cX3_optionLength 1 = .ok (.iconst 1, 1) := by decide +kernel
theorem dX3_optionLength_2 : decode cX3_optionLength 2 = .ok (.if_icmp .ne 5, 3) := by decide +kernel
theorem dX3_optionLength_5 : decode cX3_optionLength 5 = .ok (.iconst 3, 1) := by decide +kernel
theorem dX3_optionLength_6 : decode cX3_optionLength 6 = .ok (.ireturn, 1) := by decide +kernel
theorem dX3_optionLength_7 : decode cX3_optionLength 7 = .ok (.iload_n 0, 1) := by decide +kernel
theorem dX3_optionLength_8 : decode cX3_optionLength 8 = .ok (.iconst 5, 1) := by decide +kernel
theorem dX3_optionLength_9 : decode cX3_optionLength 9 = .ok (.if_icmp .ne 7, 3) := by decide +kernel
theorem dX3_optionLength_12 : decode cX3_optionLength 12 = .ok (.iconst 5, 1) := by decide +kernel
theorem dX3_optionLength_13 : decode cX3_optionLength 13 = .ok (.goto 4, 3) := by decide +kernel
theorem dX3_optionLength_16 : decode cX3_optionLength 16 = .ok (.iconst 2, 1) := by decide +kernel
theorem dX3_optionLength_17 : decode cX3_optionLength 17 = .ok (.ireturn, 1) := by decide +kernel
theorem dX3_start_0 : decode cX3_start 0 = .ok (.aload_n 0, 1) := by decide +kernel
theorem dX3_start_1 : decode cX3_start 1 = .ok (.iconst 0, 1) := by decide +kernel
theorem dX3_start_2 : decode cX3_start 2 = .ok (.putfield 15, 3) := by decide +kernel
theorem dX3_start_5 : decode cX3_start 5 = .ok (.aload_n 0, 1) := by decide +kernel
theorem dX3_start_6 : decode cX3_start 6 = .ok (.iconst 1, 1) := by decide +kernel
theorem dX3_start_7 : decode cX3_start 7 = .ok (.invokevirtual 19, 3) := by decide +kernel
theorem dX3_start_10 : decode cX3_start 10 = .ok (.aload_n 0, 1) := by decide +kernel
theorem dX3_start_11 : decode cX3_start 11 = .ok (.iload_n 1, 1) := by decide +kernel
theorem dX3_start_12 : decode cX3_start 12 = .ok (.invokevirtual 19, 3) := by decide +kernel
theorem dX3_start_15 : decode cX3_start 15 = .ok (.aload_n 0, 1) := by decide +kernel
theorem dX3_start_16 : decode cX3_start 16 = .ok (.iload_n 2, 1) := by decide +kernel
theorem dX3_start_17 : decode cX3_start 17 = .ok (.invokevirtual 19, 3) := by decide +kernel
theorem dX3_start_20 : decode cX3_start 20 = .ok (.return_, 1) := by decide +kernel
theorem dX3_add_0 : decode cX3_add 0 = .ok (.aload_n 0, 1) := by decide +kernel
theorem dX3_add_1 : decode cX3_add 1 = .ok (.getfield 15, 3) := by decide +kernel
theorem dX3_add_4 : decode cX3_add 4 = .ok (.aload_n 0, 1) := by decide +kernel
theorem dX3_add_5 : decode cX3_add 5 = .ok (.getfield 9, 3) := by decide +kernel
theorem dX3_add_8 : decode cX3_add 8 = .ok (.arraylength, 1) := by decide +kernel
theorem dX3_add_9 : decode cX3_add 9 = .ok (.if_icmp .ge 27, 3) := by decide +kernel
theorem dX3_add_12 : decode cX3_add 12 = .ok (.aload_n 0, 1) := by decide +kernel
theorem dX3_add_13 : decode cX3_add 13 = .ok (.getfield 9, 3) := by decide +kernel
theorem dX3_add_16 : decode cX3_add 16 = .ok (.aload_n 0, 1) := by decide +kernel
theorem dX3_add_17 : decode cX3_add 17 = .ok (.getfield 15, 3) := by decide +kernel
theorem dX3_add_20 : decode cX3_add 20 = .ok (.iload_n 1, 1) := by decide +kernel
theorem dX3_add_21 : decode cX3_add 21 = .ok (.sipush 255, 3) := by decide +kernel
theorem dX3_add_24 : decode cX3_add 24 = .ok (.iand, 1) := by decide +kernel
theorem dX3_add_25 : decode cX3_add 25 = .ok (.iastore, 1) := by decide +kernel
theorem dX3_add_26 : decode cX3_add 26 = .ok (.aload_n 0, 1) := by decide +kernel
theorem dX3_add_27 : decode cX3_add 27 = .ok (.dup, 1) := by decide +kernel
theorem dX3_add_28 : decode cX3_add 28 = .ok (.getfield 15, 3) := by decide +kernel
theorem dX3_add_31 : decode cX3_add 31 = .ok (.iconst 1, 1) := by decide +kernel
theorem dX3_add_32 : decode cX3_add 32 = .ok (.iadd, 1) := by decide +kernel
theorem dX3_add_33 : decode cX3_add 33 = .ok (.putfield 15, 3) := by decide +kernel
theorem dX3_add_36 : decode cX3_add 36 = .ok (.return_, 1) := by decide +kernel
theorem dX3_addSizeOption_0 : decode cX3_addSizeOption 0 = .ok (.aload_n 0, 1) := by decide +kernel
theorem dX3_addSizeOption_1 : decode cX3_addSizeOption 1 = .ok (.iconst 1, 1) := by decide +kernel
theorem dX3_addSizeOption_2 : decode cX3_addSizeOption 2 = .ok (.invokevirtual 19, 3) := by decide +kernel
theorem dX3_addSizeOption_5 : decode cX3_addSizeOption 5 = .ok (.aload_n 0, 1) := by decide +kernel
theorem dX3_addSizeOption_6 : decode cX3_addSizeOption 6 = .ok (.iload_n 1, 1) := by decide +kernel
theorem dX3_addSizeOption_7 : decode cX3_addSizeOption 7 = .ok (.bipush 8, 2) := by decide +kernel
theorem dX3_addSizeOption_9 : decode cX3_addSizeOption 9 = .ok (.ishr, 1) := by decide +kernel
theorem dX3_addSizeOption_10 : decode cX3_addSizeOption 10 = .ok (.invokevirtual 19, 3) := by decide +kernel
theorem dX3_addSizeOption_13 : decode cX3_addSizeOption 13 = .ok (.aload_n 0, 1) := by decide +kernel
theorem dX3_addSizeOption_14 : decode cX3_addSizeOption 14 = .ok (.iload_n 1, 1) := by decide +kernel
theorem dX3_addSizeOption_15 : decode cX3_addSizeOption 15 = .ok (.invokevirtual 19, 3) := by decide +kernel
theorem dX3_addSizeOption_18 : decode cX3_addSizeOption 18 = .ok (.return_, 1) := by decide +kernel
theorem dX3_addNumber_0 : decode cX3_addNumber 0 = .ok (.aload_n 0, 1) := by decide +kernel
theorem dX3_addNumber_1 : decode cX3_addNumber 1 = .ok (.iload_n 1, 1) := by decide +kernel
theorem dX3_addNumber_2 : decode cX3_addNumber 2 = .ok (.bipush 24, 2) := by decide +kernel
theorem dX3_addNumber_4 : decode cX3_addNumber 4 = .ok (.ishr, 1) := by decide +kernel
theorem dX3_addNumber_5 : decode cX3_addNumber 5 = .ok (.invokevirtual 19, 3) := by decide +kernel
theorem dX3_addNumber_8 : decode cX3_addNumber 8 = .ok (.aload_n 0, 1) := by decide +kernel
theorem dX3_addNumber_9 : decode cX3_addNumber 9 = .ok (.iload_n 1, 1) := by decide +kernel
theorem dX3_addNumber_10 : decode cX3_addNumber 10 = .ok (.bipush 16, 2) := by decide +kernel
theorem dX3_addNumber_12 : decode cX3_addNumber 12 = .ok (.ishr, 1) := by decide +kernel
theorem dX3_addNumber_13 : decode cX3_addNumber 13 = .ok (.invokevirtual 19, 3) := by decide +kernel
theorem dX3_addNumber_16 : decode cX3_addNumber 16 = .ok (.aload_n 0, 1) := by decide +kernel
theorem dX3_addNumber_17 : decode cX3_addNumber 17 = .ok (.iload_n 1, 1) := by decide +kernel
theorem dX3_addNumber_18 : decode cX3_addNumber 18 = .ok (.bipush 8, 2) := by decide +kernel
theorem dX3_addNumber_20 : decode cX3_addNumber 20 = .ok (.ishr, 1) := by decide +kernel
theorem dX3_addNumber_21 : decode cX3_addNumber 21 = .ok (.invokevirtual 19, 3) := by decide +kernel
theorem dX3_addNumber_24 : decode cX3_addNumber 24 = .ok (.aload_n 0, 1) := by decide +kernel
theorem dX3_addNumber_25 : decode cX3_addNumber 25 = .ok (.iload_n 1, 1) := by decide +kernel
theorem dX3_addNumber_26 : decode cX3_addNumber 26 = .ok (.invokevirtual 19, 3) := by decide +kernel
theorem dX3_addNumber_29 : decode cX3_addNumber 29 = .ok (.return_, 1) := by decide +kernel
theorem dX3_copyFrom_0 : decode cX3_copyFrom 0 = .ok (.aload_n 0, 1) := by decide +kernel
theorem dX3_copyFrom_1 : decode cX3_copyFrom 1 = .ok (.iconst 0, 1) := by decide +kernel
theorem dX3_copyFrom_2 : decode cX3_copyFrom 2 = .ok (.putfield 15, 3) := by decide +kernel
theorem dX3_copyFrom_5 : decode cX3_copyFrom 5 = .ok (.iconst 0, 1) := by decide +kernel
theorem dX3_copyFrom_6 : decode cX3_copyFrom 6 = .ok (.istore_n 2, 1) := by decide +kernel
theorem dX3_copyFrom_7 : decode cX3_copyFrom 7 = .ok (.iload_n 2, 1) := by decide +kernel
theorem dX3_copyFrom_8 : decode cX3_copyFrom 8 = .ok (.aload_n 1, 1) := by decide +kernel
theorem dX3_copyFrom_9 : decode cX3_copyFrom 9 = .ok (.getfield 15, 3) := by decide +kernel
theorem dX3_copyFrom_12 : decode cX3_copyFrom 12 = .ok (.if_icmp .ge 19, 3) := by decide +kernel
theorem dX3_copyFrom_15 : decode cX3_copyFrom 15 = .ok (.aload_n 0, 1) := by decide +kernel
theorem dX3_copyFrom_16 : decode cX3_copyFrom 16 = .ok (.aload_n 1, 1) := by decide +kernel
theorem dX3_copyFrom_17 : decode cX3_copyFrom 17 = .ok (.getfield 9, 3) := by decide +kernel
theorem dX3_copyFrom_20 : decode cX3_copyFrom 20 = .ok (.iload_n 2, 1) := by decide +kernel
theorem dX3_copyFrom_21 : decode cX3_copyFrom 21 = .ok (.iaload, 1) := by decide +kernel
theorem dX3_copyFrom_22 : decode cX3_copyFrom 22 = .ok (.invokevirtual 19, 3) := by decide +kernel
theorem dX3_copyFrom_25 : decode cX3_copyFrom 25 = .ok (.iinc 2 1, 3) := by decide +kernel
theorem dX3_copyFrom_28 : decode cX3_copyFrom 28 = .ok (.goto (-21), 3) := by decide +kernel
theorem dX3_copyFrom_31 : decode cX3_copyFrom 31 = .ok (.return_, 1) := by decide +kernel
theorem dX3_at_0 : decode cX3_at 0 = .ok (.iload_n 1, 1) := by decide +kernel
theorem dX3_at_1 : decode cX3_at 1 = .ok (.ifCond .lt 20, 3) := by decide +kernel
theorem dX3_at_4 : decode cX3_at 4 = .ok (.iload_n 1, 1) := by decide +kernel
theorem dX3_at_5 : decode cX3_at 5 = .ok (.aload_n 0, 1) := by decide +kernel
theorem dX3_at_6 : decode cX3_at 6 = .ok (.getfield 15, 3) := by decide +kernel
theorem dX3_at_9 : decode cX3_at 9 = .ok (.if_icmp .ge 12, 3) := by decide +kernel
theorem dX3_at_12 : decode cX3_at 12 = .ok (.aload_n 0, 1) := by decide +kernel
theorem dX3_at_13 : decode cX3_at 13 = .ok (.getfield 9, 3) := by decide +kernel
theorem dX3_at_16 : decode cX3_at 16 = .ok (.iload_n 1, 1) := by decide +kernel
theorem dX3_at_17 : decode cX3_at 17 = .ok (.iaload, 1) := by decide +kernel
theorem dX3_at_18 : decode cX3_at 18 = .ok (.goto 4, 3) := by decide +kernel
theorem dX3_at_21 : decode cX3_at 21 = .ok (.iconst (-1), 1) := by decide +kernel
theorem dX3_at_22 : decode cX3_at 22 = .ok (.ireturn, 1) := by decide +kernel
theorem dX3_pairAt_0 : decode cX3_pairAt 0 = .ok (.iload_n 1, 1) := by decide +kernel
theorem dX3_pairAt_1 : decode cX3_pairAt 1 = .ok (.ifCond .lt 35, 3) := by decide +kernel
theorem dX3_pairAt_4 : decode cX3_pairAt 4 = .ok (.iload_n 1, 1) := by decide +kernel
theorem dX3_pairAt_5 : decode cX3_pairAt 5 = .ok (.iconst 1, 1) := by decide +kernel
theorem dX3_pairAt_6 : decode cX3_pairAt 6 = .ok (.iadd, 1) := by decide +kernel
theorem dX3_pairAt_7 : decode cX3_pairAt 7 = .ok (.aload_n 0, 1) := by decide +kernel
theorem dX3_pairAt_8 : decode cX3_pairAt 8 = .ok (.getfield 15, 3) := by decide +kernel
theorem dX3_pairAt_11 : decode cX3_pairAt 11 = .ok (.if_icmp .ge 25, 3) := by decide +kernel
theorem dX3_pairAt_14 : decode cX3_pairAt 14 = .ok (.aload_n 0, 1) := by decide +kernel
theorem dX3_pairAt_15 : decode cX3_pairAt 15 = .ok (.getfield 9, 3) := by decide +kernel
theorem dX3_pairAt_18 : decode cX3_pairAt 18 = .ok (.iload_n 1, 1) := by decide +kernel
theorem dX3_pairAt_19 : decode cX3_pairAt 19 = .ok (.iaload, 1) := by decide +kernel
theorem dX3_pairAt_20 : decode cX3_pairAt 20 = .ok (.sipush 256, 3) := by decide +kernel
theorem dX3_pairAt_23 : decode cX3_pairAt 23 = .ok (.imul, 1) := by decide +kernel
theorem dX3_pairAt_24 : decode cX3_pairAt 24 = .ok (.aload_n 0, 1) := by decide +kernel
theorem dX3_pairAt_25 : decode cX3_pairAt 25 = .ok (.getfield 9, 3) := by decide +kernel
theorem dX3_pairAt_28 : decode cX3_pairAt 28 = .ok (.iload_n 1, 1) := by decide +kernel
theorem dX3_pairAt_29 : decode cX3_pairAt 29 = .ok (.iconst 1, 1) := by decide +kernel
theorem dX3_pairAt_30 : decode cX3_pairAt 30 = .ok (.iadd, 1) := by decide +kernel
theorem dX3_pairAt_31 : decode cX3_pairAt 31 = .ok (.iaload, 1) := by decide +kernel
theorem dX3_pairAt_32 : decode cX3_pairAt 32 = .ok (.iadd, 1) := by decide +kernel
theorem dX3_pairAt_33 : decode cX3_pairAt 33 = .ok (.goto 4, 3) := by decide +kernel
theorem dX3_pairAt_36 : decode cX3_pairAt 36 = .ok (.iconst (-1), 1) := by decide +kernel
theorem dX3_pairAt_37 : decode cX3_pairAt 37 = .ok (.ireturn, 1) := by decide +kernel
theorem dX3_numberAt_0 : decode cX3_numberAt 0 = .ok (.iload_n 1, 1) := by decide +kernel
theorem dX3_numberAt_1 : decode cX3_numberAt 1 = .ok (.ifCond .lt 13, 3) := by decide +kernel
theorem dX3_numberAt_4 : decode cX3_numberAt 4 = .ok (.iload_n 1, 1) := by decide +kernel
theorem dX3_numberAt_5 : decode cX3_numberAt 5 = .ok (.iconst 3, 1) := by decide +kernel
theorem dX3_numberAt_6 : decode cX3_numberAt 6 = .ok (.iadd, 1) := by decide +kernel
theorem dX3_numberAt_7 : decode cX3_numberAt 7 = .ok (.aload_n 0, 1) := by decide +kernel
theorem dX3_numberAt_8 : decode cX3_numberAt 8 = .ok (.getfield 15, 3) := by decide +kernel
theorem dX3_numberAt_11 : decode cX3_numberAt 11 = .ok (.if_icmp .lt 5, 3) := by decide +kernel
theorem dX3_numberAt_14 : decode cX3_numberAt 14 = .ok (.iconst 0, 1) := by decide +kernel
theorem dX3_numberAt_15 : decode cX3_numberAt 15 = .ok (.ireturn, 1) := by decide +kernel
theorem dX3_numberAt_16 : decode cX3_numberAt 16 = .ok (.aload_n 0, 1) := by decide +kernel
theorem dX3_numberAt_17 : decode cX3_numberAt 17 = .ok (.getfield 9, 3) := by decide +kernel
theorem dX3_numberAt_20 : decode cX3_numberAt 20 = .ok (.iload_n 1, 1) := by decide +kernel
theorem dX3_numberAt_21 : decode cX3_numberAt 21 = .ok (.iaload, 1) := by decide +kernel
theorem dX3_numberAt_22 : decode cX3_numberAt 22 = .ok (.bipush 24, 2) := by decide +kernel
theorem dX3_numberAt_24 : decode cX3_numberAt 24 = .ok (.ishl, 1) := by decide +kernel
theorem dX3_numberAt_25 : decode cX3_numberAt 25 = .ok (.aload_n 0, 1) := by decide +kernel
theorem dX3_numberAt_26 : decode cX3_numberAt 26 = .ok (.getfield 9, 3) := by decide +kernel
theorem dX3_numberAt_29 : decode cX3_numberAt 29 = .ok (.iload_n 1, 1) := by decide +kernel
theorem dX3_numberAt_30 : decode cX3_numberAt 30 = .ok (.iconst 1, 1) := by decide +kernel
theorem dX3_numberAt_31 : decode cX3_numberAt 31 = .ok (.iadd, 1) := by decide +kernel
theorem dX3_numberAt_32 : decode cX3_numberAt 32 = .ok (.iaload, 1) := by decide +kernel
theorem dX3_numberAt_33 : decode cX3_numberAt 33 = .ok (.bipush 16, 2) := by decide +kernel
theorem dX3_numberAt_35 : decode cX3_numberAt 35 = .ok (.ishl, 1) := by decide +kernel
theorem dX3_numberAt_36 : decode cX3_numberAt 36 = .ok (.ior, 1) := by decide +kernel
theorem dX3_numberAt_37 : decode cX3_numberAt 37 = .ok (.aload_n 0, 1) := by decide +kernel
theorem dX3_numberAt_38 : decode cX3_numberAt 38 = .ok (.getfield 9, 3) := by decide +kernel
theorem dX3_numberAt_41 : decode cX3_numberAt 41 = .ok (.iload_n 1, 1) := by decide +kernel
theorem dX3_numberAt_42 : decode cX3_numberAt 42 = .ok (.iconst 2, 1) := by decide +kernel
theorem dX3_numberAt_43 : decode cX3_numberAt 43 = .ok (.iadd, 1) := by decide +kernel
theorem dX3_numberAt_44 : decode cX3_numberAt 44 = .ok (.iaload, 1) := by decide +kernel
theorem dX3_numberAt_45 : decode cX3_numberAt 45 = .ok (.bipush 8, 2) := by decide +kernel
theorem dX3_numberAt_47 : decode cX3_numberAt 47 = .ok (.ishl, 1) := by decide +kernel
theorem dX3_numberAt_48 : decode cX3_numberAt 48 = .ok (.ior, 1) := by decide +kernel
theorem dX3_numberAt_49 : decode cX3_numberAt 49 = .ok (.aload_n 0, 1) := by decide +kernel
theorem dX3_numberAt_50 : decode cX3_numberAt 50 = .ok (.getfield 9, 3) := by decide +kernel
theorem dX3_numberAt_53 : decode cX3_numberAt 53 = .ok (.iload_n 1, 1) := by decide +kernel
theorem dX3_numberAt_54 : decode cX3_numberAt 54 = .ok (.iconst 3, 1) := by decide +kernel
theorem dX3_numberAt_55 : decode cX3_numberAt 55 = .ok (.iadd, 1) := by decide +kernel
theorem dX3_numberAt_56 : decode cX3_numberAt 56 = .ok (.iaload, 1) := by decide +kernel
theorem dX3_numberAt_57 : decode cX3_numberAt 57 = .ok (.ior, 1) := by decide +kernel
theorem dX3_numberAt_58 : decode cX3_numberAt 58 = .ok (.ireturn, 1) := by decide +kernel
theorem dX3_end_0 : decode cX3_end 0 = .ok (.aload_n 0, 1) := by decide +kernel
theorem dX3_end_1 : decode cX3_end 1 = .ok (.getfield 15, 3) := by decide +kernel
theorem dX3_end_4 : decode cX3_end 4 = .ok (.iconst 2, 1) := by decide +kernel
theorem dX3_end_5 : decode cX3_end 5 = .ok (.isub, 1) := by decide +kernel
theorem dX3_end_6 : decode cX3_end 6 = .ok (.ireturn, 1) := by decide +kernel
theorem dX3_code_0 : decode cX3_code 0 = .ok (.aload_n 0, 1) := by decide +kernel
theorem dX3_code_1 : decode cX3_code 1 = .ok (.iconst 0, 1) := by decide +kernel
theorem dX3_code_2 : decode cX3_code 2 = .ok (.invokevirtual 23, 3) := by decide +kernel
theorem dX3_code_5 : decode cX3_code 5 = .ok (.iconst 1, 1) := by decide +kernel
theorem dX3_code_6 : decode cX3_code 6 = .ok (.if_icmp .ne 11, 3) := by decide +kernel
theorem dX3_code_9 : decode cX3_code 9 = .ok (.aload_n 0, 1) := by decide +kernel
theorem dX3_code_10 : decode cX3_code 10 = .ok (.iconst 1, 1) := by decide +kernel
theorem dX3_code_11 : decode cX3_code 11 = .ok (.invokevirtual 23, 3) := by decide +kernel
theorem dX3_code_14 : decode cX3_code 14 = .ok (.goto 4, 3) := by decide +kernel
theorem dX3_code_17 : decode cX3_code 17 = .ok (.iconst (-1), 1) := by decide +kernel
theorem dX3_code_18 : decode cX3_code 18 = .ok (.ireturn, 1) := by decide +kernel
theorem dX3_id_0 : decode cX3_id 0 = .ok (.aload_n 0, 1) := by decide +kernel
theorem dX3_id_1 : decode cX3_id 1 = .ok (.iconst 2, 1) := by decide +kernel
theorem dX3_id_2 : decode cX3_id 2 = .ok (.invokevirtual 23, 3) := by decide +kernel
theorem dX3_id_5 : decode cX3_id 5 = .ok (.ireturn, 1) := by decide +kernel
theorem dX3_seal_0 : decode cX3_seal 0 = .ok (.aload_n 0, 1) := by decide +kernel
theorem dX3_seal_1 : decode cX3_seal 1 = .ok (.aload_n 0, 1) := by decide +kernel
theorem dX3_seal_2 : decode cX3_seal 2 = .ok (.getfield 15, 3) := by decide +kernel
theorem dX3_seal_5 : decode cX3_seal 5 = .ok (.invokevirtual 27, 3) := by decide +kernel
theorem dX3_seal_8 : decode cX3_seal 8 = .ok (.istore_n 1, 1) := by decide +kernel
theorem dX3_seal_9 : decode cX3_seal 9 = .ok (.aload_n 0, 1) := by decide +kernel
theorem dX3_seal_10 : decode cX3_seal 10 = .ok (.iload_n 1, 1) := by decide +kernel
theorem dX3_seal_11 : decode cX3_seal 11 = .ok (.invokevirtual 19, 3) := by decide +kernel
theorem dX3_seal_14 : decode cX3_seal 14 = .ok (.aload_n 0, 1) := by decide +kernel
theorem dX3_seal_15 : decode cX3_seal 15 = .ok (.iload_n 1, 1) := by decide +kernel
theorem dX3_seal_16 : decode cX3_seal 16 = .ok (.bipush 8, 2) := by decide +kernel
theorem dX3_seal_18 : decode cX3_seal 18 = .ok (.ishr, 1) := by decide +kernel
theorem dX3_seal_19 : decode cX3_seal 19 = .ok (.invokevirtual 19, 3) := by decide +kernel
theorem dX3_seal_22 : decode cX3_seal 22 = .ok (.return_, 1) := by decide +kernel
theorem dX3_isSealed_0 : decode cX3_isSealed 0 = .ok (.aload_n 0, 1) := by decide +kernel
theorem dX3_isSealed_1 : decode cX3_isSealed 1 = .ok (.getfield 15, 3) := by decide +kernel
theorem dX3_isSealed_4 : decode cX3_isSealed 4 = .ok (.iconst 5, 1) := by decide +kernel
theorem dX3_isSealed_5 : decode cX3_isSealed 5 = .ok (.if_icmp .lt 45, 3) := by decide +kernel
theorem dX3_isSealed_8 : decode cX3_isSealed 8 = .ok (.aload_n 0, 1) := by decide +kernel
theorem dX3_isSealed_9 : decode cX3_isSealed 9 = .ok (.aload_n 0, 1) := by decide +kernel
theorem dX3_isSealed_10 : decode cX3_isSealed 10 = .ok (.invokevirtual 30, 3) := by decide +kernel
theorem dX3_isSealed_13 : decode cX3_isSealed 13 = .ok (.invokevirtual 27, 3) := by decide +kernel
theorem dX3_isSealed_16 : decode cX3_isSealed 16 = .ok (.aload_n 0, 1) := by decide +kernel
theorem dX3_isSealed_17 : decode cX3_isSealed 17 = .ok (.getfield 9, 3) := by decide +kernel
theorem dX3_isSealed_20 : decode cX3_isSealed 20 = .ok (.aload_n 0, 1) := by decide +kernel
theorem dX3_isSealed_21 : decode cX3_isSealed 21 = .ok (.getfield 15, 3) := by decide +kernel
theorem dX3_isSealed_24 : decode cX3_isSealed 24 = .ok (.iconst 2, 1) := by decide +kernel
theorem dX3_isSealed_25 : decode cX3_isSealed 25 = .ok (.isub, 1) := by decide +kernel
theorem dX3_isSealed_26 : decode cX3_isSealed 26 = .ok (.iaload, 1) := by decide +kernel
theorem dX3_isSealed_27 : decode cX3_isSealed 27 = .ok (.aload_n 0, 1) := by decide +kernel
theorem dX3_isSealed_28 : decode cX3_isSealed 28 = .ok (.getfield 9, 3) := by decide +kernel
theorem dX3_isSealed_31 : decode cX3_isSealed 31 = .ok (.aload_n 0, 1) := by decide +kernel
theorem dX3_isSealed_32 : decode cX3_isSealed 32 = .ok (.getfield 15, 3) := by decide +kernel
theorem dX3_isSealed_35 : decode cX3_isSealed 35 = .ok (.iconst 1, 1) := by decide +kernel
theorem dX3_isSealed_36 : decode cX3_isSealed 36 = .ok (.isub, 1) := by decide +kernel
theorem dX3_isSealed_37 : decode cX3_isSealed 37 = .ok (.iaload, 1) := by decide +kernel
theorem dX3_isSealed_38 : decode cX3_isSealed 38 = .ok (.sipush 256, 3) := by decide +kernel
theorem dX3_isSealed_41 : decode cX3_isSealed 41 = .ok (.imul, 1) := by decide +kernel
theorem dX3_isSealed_42 : decode cX3_isSealed 42 = .ok (.iadd, 1) := by decide +kernel
theorem dX3_isSealed_43 : decode cX3_isSealed 43 = .ok (.if_icmp .ne 7, 3) := by decide +kernel
theorem dX3_isSealed_46 : decode cX3_isSealed 46 = .ok (.iconst 1, 1) := by decide +kernel
theorem dX3_isSealed_47 : decode cX3_isSealed 47 = .ok (.goto 4, 3) := by decide +kernel
theorem dX3_isSealed_50 : decode cX3_isSealed 50 = .ok (.iconst 0, 1) := by decide +kernel
theorem dX3_isSealed_51 : decode cX3_isSealed 51 = .ok (.ireturn, 1) := by decide +kernel
theorem dX3_checkOf_0 : decode cX3_checkOf 0 = .ok (.ldc 34, 2) := by decide +kernel
theorem dX3_checkOf_2 : decode cX3_checkOf 2 = .ok (.istore_n 2, 1) := by decide +kernel
theorem dX3_checkOf_3 : decode cX3_checkOf 3 = .ok (.iconst 0, 1) := by decide +kernel
theorem dX3_checkOf_4 : decode cX3_checkOf 4 = .ok (.istore_n 3, 1) := by decide +kernel
theorem dX3_checkOf_5 : decode cX3_checkOf 5 = .ok (.iload_n 3, 1) := by decide +kernel
theorem dX3_checkOf_6 : decode cX3_checkOf 6 = .ok (.iload_n 1, 1) := by decide +kernel
theorem dX3_checkOf_7 : decode cX3_checkOf 7 = .ok (.if_icmp .ge 54, 3) := by decide +kernel
theorem dX3_checkOf_10 : decode cX3_checkOf 10 = .ok (.iload_n 2, 1) := by decide +kernel
theorem dX3_checkOf_11 : decode cX3_checkOf 11 = .ok (.aload_n 0, 1) := by decide +kernel
theorem dX3_checkOf_12 : decode cX3_checkOf 12 = .ok (.getfield 9, 3) := by decide +kernel
theorem dX3_checkOf_15 : decode cX3_checkOf 15 = .ok (.iload_n 3, 1) := by decide +kernel
theorem dX3_checkOf_16 : decode cX3_checkOf 16 = .ok (.iaload, 1) := by decide +kernel
theorem dX3_checkOf_17 : decode cX3_checkOf 17 = .ok (.ixor, 1) := by decide +kernel
theorem dX3_checkOf_18 : decode cX3_checkOf 18 = .ok (.istore_n 2, 1) := by decide +kernel
theorem dX3_checkOf_19 : decode cX3_checkOf 19 = .ok (.iconst 0, 1) := by decide +kernel
theorem dX3_checkOf_20 : decode cX3_checkOf 20 = .ok (.istore 4, 2) := by decide +kernel
theorem dX3_checkOf_22 : decode cX3_checkOf 22 = .ok (.iload 4, 2) := by decide +kernel
theorem dX3_checkOf_24 : decode cX3_checkOf 24 = .ok (.bipush 8, 2) := by decide +kernel
theorem dX3_checkOf_26 : decode cX3_checkOf 26 = .ok (.if_icmp .ge 29, 3) := by decide +kernel
theorem dX3_checkOf_29 : decode cX3_checkOf 29 = .ok (.iload_n 2, 1) := by decide +kernel
theorem dX3_checkOf_30 : decode cX3_checkOf 30 = .ok (.iconst 1, 1) := by decide +kernel
theorem dX3_checkOf_31 : decode cX3_checkOf 31 = .ok (.iand, 1) := by decide +kernel
theorem dX3_checkOf_32 : decode cX3_checkOf 32 = .ok (.iconst 1, 1) := by decide +kernel
theorem dX3_checkOf_33 : decode cX3_checkOf 33 = .ok (.if_icmp .ne 12, 3) := by decide +kernel
theorem dX3_checkOf_36 : decode cX3_checkOf 36 = .ok (.iload_n 2, 1) := by decide +kernel
theorem dX3_checkOf_37 : decode cX3_checkOf 37 = .ok (.iconst 1, 1) := by decide +kernel
theorem dX3_checkOf_38 : decode cX3_checkOf 38 = .ok (.ishr, 1) := by decide +kernel
theorem dX3_checkOf_39 : decode cX3_checkOf 39 = .ok (.ldc 35, 2) := by decide +kernel
theorem dX3_checkOf_41 : decode cX3_checkOf 41 = .ok (.ixor, 1) := by decide +kernel
theorem dX3_checkOf_42 : decode cX3_checkOf 42 = .ok (.goto 6, 3) := by decide +kernel
theorem dX3_checkOf_45 : decode cX3_checkOf 45 = .ok (.iload_n 2, 1) := by decide +kernel
theorem dX3_checkOf_46 : decode cX3_checkOf 46 = .ok (.iconst 1, 1) := by decide +kernel
theorem dX3_checkOf_47 : decode cX3_checkOf 47 = .ok (.ishr, 1) := by decide +kernel
theorem dX3_checkOf_48 : decode cX3_checkOf 48 = .ok (.istore_n 2, 1) := by decide +kernel
theorem dX3_checkOf_49 : decode cX3_checkOf 49 = .ok (.iinc 4 1, 3) := by decide +kernel
theorem dX3_checkOf_52 : decode cX3_checkOf 52 = .ok (.goto (-30), 3) := by decide +kernel
theorem dX3_checkOf_55 : decode cX3_checkOf 55 = .ok (.iinc 3 1, 3) := by decide +kernel
theorem dX3_checkOf_58 : decode cX3_checkOf 58 = .ok (.goto (-53), 3) := by decide +kernel
theorem dX3_checkOf_61 : decode cX3_checkOf 61 = .ok (.iload_n 2, 1) := by decide +kernel
theorem dX3_checkOf_62 : decode cX3_checkOf 62 = .ok (.ldc 34, 2) := by decide +kernel
theorem dX3_checkOf_64 : decode cX3_checkOf 64 = .ok (.ixor, 1) := by decide +kernel
theorem dX3_checkOf_65 : decode cX3_checkOf 65 = .ok (.ireturn, 1) := by decide +kernel
theorem dX3_frameLength_0 : decode cX3_frameLength 0 = .ok (.aload_n 0, 1) := by decide +kernel
theorem dX3_frameLength_1 : decode cX3_frameLength 1 = .ok (.getfield 15, 3) := by decide +kernel
theorem dX3_frameLength_4 : decode cX3_frameLength 4 = .ok (.iconst 2, 1) := by decide +kernel
theorem dX3_frameLength_5 : decode cX3_frameLength 5 = .ok (.iadd, 1) := by decide +kernel
theorem dX3_frameLength_6 : decode cX3_frameLength 6 = .ok (.istore_n 1, 1) := by decide +kernel
theorem dX3_frameLength_7 : decode cX3_frameLength 7 = .ok (.iconst 0, 1) := by decide +kernel
theorem dX3_frameLength_8 : decode cX3_frameLength 8 = .ok (.istore_n 2, 1) := by decide +kernel
theorem dX3_frameLength_9 : decode cX3_frameLength 9 = .ok (.iload_n 2, 1) := by decide +kernel
theorem dX3_frameLength_10 : decode cX3_frameLength 10 = .ok (.aload_n 0, 1) := by decide +kernel
theorem dX3_frameLength_11 : decode cX3_frameLength 11 = .ok (.getfield 15, 3) := by decide +kernel
theorem dX3_frameLength_14 : decode cX3_frameLength 14 = .ok (.if_icmp .ge 24, 3) := by decide +kernel
theorem dX3_frameLength_17 : decode cX3_frameLength 17 = .ok (.aload_n 0, 1) := by decide +kernel
theorem dX3_frameLength_18 : decode cX3_frameLength 18 = .ok (.getfield 9, 3) := by decide +kernel
theorem dX3_frameLength_21 : decode cX3_frameLength 21 = .ok (.iload_n 2, 1) := by decide +kernel
theorem dX3_frameLength_22 : decode cX3_frameLength 22 = .ok (.iaload, 1) := by decide +kernel
theorem dX3_frameLength_23 : decode cX3_frameLength 23 = .ok (.invokestatic 36, 3) := by decide +kernel
theorem dX3_frameLength_26 : decode cX3_frameLength 26 = .ok (.ifCond .eq 6, 3) := by decide +kernel
theorem dX3_frameLength_29 : decode cX3_frameLength 29 = .ok (.iinc 1 1, 3) := by decide +kernel
theorem dX3_frameLength_32 : decode cX3_frameLength 32 = .ok (.iinc 2 1, 3) := by decide +kernel
theorem dX3_frameLength_35 : decode cX3_frameLength 35 = .ok (.goto (-26), 3) := by decide +kernel
theorem dX3_frameLength_38 : decode cX3_frameLength 38 = .ok (.iload_n 1, 1) := by decide +kernel
theorem dX3_frameLength_39 : decode cX3_frameLength 39 = .ok (.ireturn, 1) := by decide +kernel
theorem dX3_isWellFormed_0 : decode cX3_isWellFormed 0 = .ok (.aload_n 0, 1) := by decide +kernel
theorem dX3_isWellFormed_1 : decode cX3_isWellFormed 1 = .ok (.iconst 0, 1) := by decide +kernel
theorem dX3_isWellFormed_2 : decode cX3_isWellFormed 2 = .ok (.invokevirtual 23, 3) := by decide +kernel
theorem dX3_isWellFormed_5 : decode cX3_isWellFormed 5 = .ok (.iconst 1, 1) := by decide +kernel
theorem dX3_isWellFormed_6 : decode cX3_isWellFormed 6 = .ok (.if_icmp .eq 18, 3) := by decide +kernel
theorem dX3_isWellFormed_9 : decode cX3_isWellFormed 9 = .ok (.aload_n 0, 1) := by decide +kernel
theorem dX3_isWellFormed_10 : decode cX3_isWellFormed 10 = .ok (.iconst 0, 1) := by decide +kernel
theorem dX3_isWellFormed_11 : decode cX3_isWellFormed 11 = .ok (.invokevirtual 23, 3) := by decide +kernel
theorem dX3_isWellFormed_14 : decode cX3_isWellFormed 14 = .ok (.iconst 2, 1) := by decide +kernel
theorem dX3_isWellFormed_15 : decode cX3_isWellFormed 15 = .ok (.if_icmp .ne 7, 3) := by decide +kernel

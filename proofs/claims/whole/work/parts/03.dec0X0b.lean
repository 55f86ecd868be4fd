theorem dX0_composeAnswer_48 : decode cX0_composeAnswer 48 = .ok (.iload_n 2, 1) := by decide +kernel
theorem dX0_composeAnswer_49 : decode cX0_composeAnswer 49 = .ok (.aload_n 0, 1) := by decide +kernel
theorem dX0_composeAnswer_50 : decode cX0_composeAnswer 50 = .ok (.getfield 22, 3) := by decide +kernel
theorem dX0_composeAnswer_53 : decode cX0_composeAnswer 53 = .ok (.iload_n 2, 1) := by decide +kernel
theorem dX0_composeAnswer_54 : decode cX0_composeAnswer 54 = .ok (.invokevirtual 171, 3) := by decide +kernel
theorem dX0_composeAnswer_57 : decode cX0_composeAnswer 57 = .ok (.invokestatic 174, 3) := by decide +kernel
theorem dX0_composeAnswer_60 : decode cX0_composeAnswer 60 = .ok (.iadd, 1) := by decide +kernel
theorem dX0_composeAnswer_61 : decode cX0_composeAnswer 61 = .ok (.istore_n 2, 1) := by decide +kernel
theorem dX0_composeAnswer_62 : decode cX0_composeAnswer 62 = .ok (.goto (-40), 3) := by decide +kernel
theorem dX0_composeAnswer_65 : decode cX0_composeAnswer 65 = .ok (.return_, 1) := by decide +kernel
theorem dX0_answerCode_0 : decode cX0_answerCode 0 = .ok (.iconst 2, 1) := by decide +kernel
theorem dX0_answerCode_1 : decode cX0_answerCode 1 = .ok (.istore_n 1, 1) := by decide +kernel
theorem dX0_answerCode_2 : decode cX0_answerCode 2 = .ok (.iconst 3, 1) := by decide +kernel
theorem dX0_answerCode_3 : decode cX0_answerCode 3 = .ok (.istore_n 2, 1) := by decide +kernel
theorem dX0_answerCode_4 : decode cX0_answerCode 4 = .ok (.iload_n 2, 1) := by decide +kernel
theorem dX0_answerCode_5 : decode cX0_answerCode 5 = .ok (.aload_n 0, 1) := by decide +kernel
theorem dX0_answerCode_6 : decode cX0_answerCode 6 = .ok (.getfield 22, 3) := by decide +kernel
theorem dX0_answerCode_9 : decode cX0_answerCode 9 = .ok (.invokevirtual 165, 3) := by decide +kernel
theorem dX0_answerCode_12 : decode cX0_answerCode 12 = .ok (.if_icmp .ge 30, 3) := by decide +kernel
theorem dX0_answerCode_15 : decode cX0_answerCode 15 = .ok (.iload_n 1, 1) := by decide +kernel
theorem dX0_answerCode_16 : decode cX0_answerCode 16 = .ok (.aload_n 0, 1) := by decide +kernel
theorem dX0_answerCode_17 : decode cX0_answerCode 17 = .ok (.iload_n 2, 1) := by decide +kernel
theorem dX0_answerCode_18 : decode cX0_answerCode 18 = .ok (.invokevirtual 235, 3) := by decide +kernel
theorem dX0_answerCode_21 : decode cX0_answerCode 21 = .ok (.invokestatic 241, 3) := by decide +kernel
theorem dX0_answerCode_24 : decode cX0_answerCode 24 = .ok (.istore_n 1, 1) := by decide +kernel
theorem dX0_answerCode_25 : decode cX0_answerCode 25 = .ok (.iload_n 2, 1) := by decide +kernel
theorem dX0_answerCode_26 : decode cX0_answerCode 26 = .ok (.aload_n 0, 1) := by decide +kernel
theorem dX0_answerCode_27 : decode cX0_answerCode 27 = .ok (.getfield 22, 3) := by decide +kernel
theorem dX0_answerCode_30 : decode cX0_answerCode 30 = .ok (.iload_n 2, 1) := by decide +kernel
theorem dX0_answerCode_31 : decode cX0_answerCode 31 = .ok (.invokevirtual 171, 3) := by decide +kernel
theorem dX0_answerCode_34 : decode cX0_answerCode 34 = .ok (.invokestatic 174, 3) := by decide +kernel
theorem dX0_answerCode_37 : decode cX0_answerCode 37 = .ok (.iadd, 1) := by decide +kernel
theorem dX0_answerCode_38 : decode cX0_answerCode 38 = .ok (.istore_n 2, 1) := by decide +kernel
theorem dX0_answerCode_39 : decode cX0_answerCode 39 = .ok (.goto (-35), 3) := by decide +kernel
theorem dX0_answerCode_42 : decode cX0_answerCode 42 = .ok (.iload_n 1, 1) := by decide +kernel
theorem dX0_answerCode_43 : decode cX0_answerCode 43 = .ok (.ireturn, 1) := by decide +kernel
theorem dX0_optionAnswer_0 : decode cX0_optionAnswer 0 = .ok (.aload_n 0, 1) := by decide +kernel
theorem dX0_optionAnswer_1 : decode cX0_optionAnswer 1 = .ok (.getfield 22, 3) := by decide +kernel
theorem dX0_optionAnswer_4 : decode cX0_optionAnswer 4 = .ok (.iload_n 1, 1) := by decide +kernel
theorem dX0_optionAnswer_5 : decode cX0_optionAnswer 5 = .ok (.invokevirtual 171, 3) := by decide +kernel
theorem dX0_optionAnswer_8 : decode cX0_optionAnswer 8 = .ok (.istore_n 2, 1) := by decide +kernel
theorem dX0_optionAnswer_9 : decode cX0_optionAnswer 9 = .ok (.iload_n 2, 1) := by decide +kernel
theorem dX0_optionAnswer_10 : decode cX0_optionAnswer 10 = .ok (.iconst 1, 1) := by decide +kernel
theorem dX0_optionAnswer_11 : decode cX0_optionAnswer 11 = .ok (.if_icmp .ne 26, 3) := by decide +kernel
theorem dX0_optionAnswer_14 : decode cX0_optionAnswer 14 = .ok (.aload_n 0, 1) := by decide +kernel
theorem dX0_optionAnswer_15 : decode cX0_optionAnswer 15 = .ok (.getfield 22, 3) := by decide +kernel
theorem dX0_optionAnswer_18 : decode cX0_optionAnswer 18 = .ok (.iload_n 1, 1) := by decide +kernel
theorem dX0_optionAnswer_19 : decode cX0_optionAnswer 19 = .ok (.iconst 1, 1) := by decide +kernel
theorem dX0_optionAnswer_20 : decode cX0_optionAnswer 20 = .ok (.iadd, 1) := by decide +kernel
theorem dX0_optionAnswer_21 : decode cX0_optionAnswer 21 = .ok (.invokevirtual 177, 3) := by decide +kernel
theorem dX0_optionAnswer_24 : decode cX0_optionAnswer 24 = .ok (.aload_n 0, 1) := by decide +kernel
theorem dX0_optionAnswer_25 : decode cX0_optionAnswer 25 = .ok (.getfield 50, 3) := by decide +kernel
theorem dX0_optionAnswer_28 : decode cX0_optionAnswer 28 = .ok (.if_icmp .lt 7, 3) := by decide +kernel
theorem dX0_optionAnswer_31 : decode cX0_optionAnswer 31 = .ok (.iconst 2, 1) := by decide +kernel
theorem dX0_optionAnswer_32 : decode cX0_optionAnswer 32 = .ok (.goto 4, 3) := by decide +kernel
theorem dX0_optionAnswer_35 : decode cX0_optionAnswer 35 = .ok (.iconst 3, 1) := by decide +kernel
theorem dX0_optionAnswer_36 : decode cX0_optionAnswer 36 = .ok (.ireturn, 1) := by decide +kernel
theorem dX0_optionAnswer_37 : decode cX0_optionAnswer 37 = .ok (.iload_n 2, 1) := by decide +kernel
theorem dX0_optionAnswer_38 : decode cX0_optionAnswer 38 = .ok (.iconst 5, 1) := by decide +kernel
theorem dX0_optionAnswer_39 : decode cX0_optionAnswer 39 = .ok (.if_icmp .ne 32, 3) := by decide +kernel
theorem dX0_optionAnswer_42 : decode cX0_optionAnswer 42 = .ok (.aload_n 0, 1) := by decide +kernel
theorem dX0_optionAnswer_43 : decode cX0_optionAnswer 43 = .ok (.getfield 22, 3) := by decide +kernel
theorem dX0_optionAnswer_46 : decode cX0_optionAnswer 46 = .ok (.iload_n 1, 1) := by decide +kernel
theorem dX0_optionAnswer_47 : decode cX0_optionAnswer 47 = .ok (.iconst 1, 1) := by decide +kernel
theorem dX0_optionAnswer_48 : decode cX0_optionAnswer 48 = .ok (.iadd, 1) := by decide +kernel
theorem dX0_optionAnswer_49 : decode cX0_optionAnswer 49 = .ok (.invokevirtual 158, 3) := by decide +kernel
theorem dX0_optionAnswer_52 : decode cX0_optionAnswer 52 = .ok (.istore_n 3, 1) := by decide +kernel
theorem dX0_optionAnswer_53 : decode cX0_optionAnswer 53 = .ok (.iload_n 3, 1) := by decide +kernel
theorem dX0_optionAnswer_54 : decode cX0_optionAnswer 54 = .ok (.ifCond .eq 15, 3) := by decide +kernel
theorem dX0_optionAnswer_57 : decode cX0_optionAnswer 57 = .ok (.iload_n 3, 1) := by decide +kernel
theorem dX0_optionAnswer_58 : decode cX0_optionAnswer 58 = .ok (.aload_n 0, 1) := by decide +kernel
theorem dX0_optionAnswer_59 : decode cX0_optionAnswer 59 = .ok (.getfield 88, 3) := by decide +kernel
theorem dX0_optionAnswer_62 : decode cX0_optionAnswer 62 = .ok (.if_icmp .eq 7, 3) := by decide +kernel
theorem dX0_optionAnswer_65 : decode cX0_optionAnswer 65 = .ok (.iconst 2, 1) := by decide +kernel
theorem dX0_optionAnswer_66 : decode cX0_optionAnswer 66 = .ok (.goto 4, 3) := by decide +kernel
theorem dX0_optionAnswer_69 : decode cX0_optionAnswer 69 = .ok (.iconst 3, 1) := by decide +kernel
theorem dX0_optionAnswer_70 : decode cX0_optionAnswer 70 = .ok (.ireturn, 1) := by decide +kernel
theorem dX0_optionAnswer_71 : decode cX0_optionAnswer 71 = .ok (.iconst 4, 1) := by decide +kernel
theorem dX0_optionAnswer_72 : decode cX0_optionAnswer 72 = .ok (.ireturn, 1) := by decide +kernel
theorem dX0_answerOption_0 : decode cX0_answerOption 0 = .ok (.aload_n 0, 1) := by decide +kernel
theorem dX0_answerOption_1 : decode cX0_answerOption 1 = .ok (.getfield 22, 3) := by decide +kernel
theorem dX0_answerOption_4 : decode cX0_answerOption 4 = .ok (.iload_n 2, 1) := by decide +kernel
theorem dX0_answerOption_5 : decode cX0_answerOption 5 = .ok (.invokevirtual 171, 3) := by decide +kernel
theorem dX0_answerOption_8 : decode cX0_answerOption 8 = .ok (.istore_n 3, 1) := by decide +kernel
theorem dX0_answerOption_9 : decode cX0_answerOption 9 = .ok (.iload_n 1, 1) := by decide +kernel
theorem dX0_answerOption_10 : decode cX0_answerOption 10 = .ok (.iconst 3, 1) := by decide +kernel
theorem dX0_answerOption_11 : decode cX0_answerOption 11 = .ok (.if_icmp .ne 22, 3) := by decide +kernel
theorem dX0_answerOption_14 : decode cX0_answerOption 14 = .ok (.iload_n 3, 1) := by decide +kernel
theorem dX0_answerOption_15 : decode cX0_answerOption 15 = .ok (.iconst 1, 1) := by decide +kernel
theorem dX0_answerOption_16 : decode cX0_answerOption 16 = .ok (.if_icmp .ne 17, 3) := by decide +kernel
theorem dX0_answerOption_19 : decode cX0_answerOption 19 = .ok (.aload_n 0, 1) := by decide +kernel
theorem dX0_answerOption_20 : decode cX0_answerOption 20 = .ok (.getfield 36, 3) := by decide +kernel
theorem dX0_answerOption_23 : decode cX0_answerOption 23 = .ok (.aload_n 0, 1) := by decide +kernel
theorem dX0_answerOption_24 : decode cX0_answerOption 24 = .ok (.getfield 50, 3) := by decide +kernel
theorem dX0_answerOption_27 : decode cX0_answerOption 27 = .ok (.invokevirtual 247, 3) := by decide +kernel
theorem dX0_answerOption_30 : decode cX0_answerOption 30 = .ok (.goto 73, 3) := by decide +kernel
theorem dX0_answerOption_33 : decode cX0_answerOption 33 = .ok (.iload_n 1, 1) := by decide +kernel
theorem dX0_answerOption_34 : decode cX0_answerOption 34 = .ok (.iconst 3, 1) := by decide +kernel
theorem dX0_answerOption_35 : decode cX0_answerOption 35 = .ok (.if_icmp .ne 32, 3) := by decide +kernel
theorem dX0_answerOption_38 : decode cX0_answerOption 38 = .ok (.aload_n 0, 1) := by decide +kernel
theorem dX0_answerOption_39 : decode cX0_answerOption 39 = .ok (.getfield 36, 3) := by decide +kernel
theorem dX0_answerOption_42 : decode cX0_answerOption 42 = .ok (.iconst 5, 1) := by decide +kernel
theorem dX0_answerOption_43 : decode cX0_answerOption 43 = .ok (.invokevirtual 73, 3) := by decide +kernel
theorem dX0_answerOption_46 : decode cX0_answerOption 46 = .ok (.aload_n 0, 1) := by decide +kernel
theorem dX0_answerOption_47 : decode cX0_answerOption 47 = .ok (.getfield 36, 3) := by decide +kernel
theorem dX0_answerOption_50 : decode cX0_answerOption 50 = .ok (.aload_n 0, 1) := by decide +kernel
theorem dX0_answerOption_51 : decode cX0_answerOption 51 = .ok (.getfield 88, 3) := by decide +kernel
theorem dX0_answerOption_54 : decode cX0_answerOption 54 = .ok (.ldc 250, 2) := by decide +kernel
theorem dX0_answerOption_56 : decode cX0_answerOption 56 = .ok (.imul, 1) := by decide +kernel
theorem dX0_answerOption_57 : decode cX0_answerOption 57 = .ok (.sipush 12345, 3) := by decide +kernel
theorem dX0_answerOption_60 : decode cX0_answerOption 60 = .ok (.iadd, 1) := by decide +kernel
theorem dX0_answerOption_61 : decode cX0_answerOption 61 = .ok (.invokevirtual 91, 3) := by decide +kernel
theorem dX0_answerOption_64 : decode cX0_answerOption 64 = .ok (.goto 39, 3) := by decide +kernel
theorem dX0_answerOption_67 : decode cX0_answerOption 67 = .ok (.iconst 0, 1) := by decide +kernel
theorem dX0_answerOption_68 : decode cX0_answerOption 68 = .ok (.istore 4, 2) := by decide +kernel
theorem dX0_answerOption_70 : decode cX0_answerOption 70 = .ok (.iload 4, 2) := by decide +kernel
theorem dX0_answerOption_72 : decode cX0_answerOption 72 = .ok (.iload_n 3, 1) := by decide +kernel
theorem dX0_answerOption_73 : decode cX0_answerOption 73 = .ok (.invokestatic 174, 3) := by decide +kernel
theorem dX0_answerOption_76 : decode cX0_answerOption 76 = .ok (.if_icmp .ge 27, 3) := by decide +kernel
theorem dX0_answerOption_79 : decode cX0_answerOption 79 = .ok (.aload_n 0, 1) := by decide +kernel
theorem dX0_answerOption_80 : decode cX0_answerOption 80 = .ok (.getfield 36, 3) := by decide +kernel
theorem dX0_answerOption_83 : decode cX0_answerOption 83 = .ok (.aload_n 0, 1) := by decide +kernel
theorem dX0_answerOption_84 : decode cX0_answerOption 84 = .ok (.getfield 22, 3) := by decide +kernel
theorem dX0_answerOption_87 : decode cX0_answerOption 87 = .ok (.iload_n 2, 1) := by decide +kernel
theorem dX0_answerOption_88 : decode cX0_answerOption 88 = .ok (.iload 4, 2) := by decide +kernel
theorem dX0_answerOption_90 : decode cX0_answerOption 90 = .ok (.iadd, 1) := by decide +kernel
theorem dX0_answerOption_91 : decode cX0_answerOption 91 = .ok (.invokevirtual 171, 3) := by decide +kernel
theorem dX0_answerOption_94 : decode cX0_answerOption 94 = .ok (.invokevirtual 73, 3) := by decide +kernel
theorem dX0_answerOption_97 : decode cX0_answerOption 97 = .ok (.iinc 4 1, 3) := by decide +kernel
theorem dX0_answerOption_100 : decode cX0_answerOption 100 = .ok (.goto (-30), 3) := by decide +kernel
theorem dX0_answerOption_103 : decode cX0_answerOption 103 = .ok (.return_, 1) := by decide +kernel
theorem dX0_happen_0 : decode cX0_happen 0 = .ok (.aload_n 1, 1) := by decide +kernel
theorem dX0_happen_1 : decode cX0_happen 1 = .ok (.getfield 251, 3) := by decide +kernel
theorem dX0_happen_4 : decode cX0_happen 4 = .ok (.astore_n 2, 1) := by decide +kernel
theorem dX0_happen_5 : decode cX0_happen 5 = .ok (.aload_n 0, 1) := by decide +kernel
theorem dX0_happen_6 : decode cX0_happen 6 = .ok (.getfield 60, 3) := by decide +kernel
theorem dX0_happen_9 : decode cX0_happen 9 = .ok (.istore_n 3, 1) := by decide +kernel
theorem dX0_happen_10 : decode cX0_happen 10 = .ok (.iconst 0, 1) := by decide +kernel
theorem dX0_happen_11 : decode cX0_happen 11 = .ok (.istore 4, 2) := by decide +kernel
theorem dX0_happen_13 : decode cX0_happen 13 = .ok (.iconst 0, 1) := by decide +kernel
theorem dX0_happen_14 : decode cX0_happen 14 = .ok (.istore 5, 2) := by decide +kernel
theorem dX0_happen_16 : decode cX0_happen 16 = .ok (.iload 5, 2) := by decide +kernel
theorem dX0_happen_18 : decode cX0_happen 18 = .ok (.aload_n 2, 1) := by decide +kernel
theorem dX0_happen_19 : decode cX0_happen 19 = .ok (.invokevirtual 255, 3) := by decide +kernel
theorem dX0_happen_22 : decode cX0_happen 22 = .ok (.if_icmp .ge 54, 3) := by decide +kernel
theorem dX0_happen_25 : decode cX0_happen 25 = .ok (.iload 4, 2) := by decide +kernel
theorem dX0_happen_27 : decode cX0_happen 27 = .ok (.iload_n 3, 1) := by decide +kernel
theorem dX0_happen_28 : decode cX0_happen 28 = .ok (.if_icmp .gt 48, 3) := by decide +kernel
theorem dX0_happen_31 : decode cX0_happen 31 = .ok (.aload_n 2, 1) := by decide +kernel
theorem dX0_happen_32 : decode cX0_happen 32 = .ok (.iload 5, 2) := by decide +kernel
theorem dX0_happen_34 : decode cX0_happen 34 = .ok (.invokevirtual 260, 3) := by decide +kernel
theorem dX0_happen_37 : decode cX0_happen 37 = .ok (.istore 6, 2) := by decide +kernel
theorem dX0_happen_39 : decode cX0_happen 39 = .ok (.iload 6, 2) := by decide +kernel
theorem dX0_happen_41 : decode cX0_happen 41 = .ok (.bipush 124, 2) := by decide +kernel
theorem dX0_happen_43 : decode cX0_happen 43 = .ok (.if_icmp .ne 9, 3) := by decide +kernel
theorem dX0_happen_46 : decode cX0_happen 46 = .ok (.iinc 4 1, 3) := by decide +kernel
theorem dX0_happen_49 : decode cX0_happen 49 = .ok (.goto 21, 3) := by decide +kernel
theorem dX0_happen_52 : decode cX0_happen 52 = .ok (.iload 4, 2) := by decide +kernel
theorem dX0_happen_54 : decode cX0_happen 54 = .ok (.iload_n 3, 1) := by decide +kernel
theorem dX0_happen_55 : decode cX0_happen 55 = .ok (.if_icmp .ne 15, 3) := by decide +kernel
theorem dX0_happen_58 : decode cX0_happen 58 = .ok (.aload_n 0, 1) := by decide +kernel
theorem dX0_happen_59 : decode cX0_happen 59 = .ok (.iload 6, 2) := by decide +kernel
theorem dX0_happen_61 : decode cX0_happen 61 = .ok (.invokevirtual 264, 3) := by decide +kernel
theorem dX0_happen_64 : decode cX0_happen 64 = .ok (.aload_n 0, 1) := by decide +kernel
theorem dX0_happen_65 : decode cX0_happen 65 = .ok (.iload 6, 2) := by decide +kernel
theorem dX0_happen_67 : decode cX0_happen 67 = .ok (.invokevirtual 267, 3) := by decide +kernel
theorem dX0_happen_70 : decode cX0_happen 70 = .ok (.iinc 5 1, 3) := by decide +kernel
theorem dX0_happen_73 : decode cX0_happen 73 = .ok (.goto (-57), 3) := by decide +kernel
theorem dX0_happen_76 : decode cX0_happen 76 = .ok (.return_, 1) := by decide +kernel
theorem dX0_change_0 : decode cX0_change 0 = .ok (.iload_n 1, 1) := by decide +kernel
theorem dX0_change_1 : decode cX0_change 1 = .ok (.lookupswitch 101 #[(105, 43), (107, 77), (117, 64), (122, 51)], 43) := by decide +kernel
theorem dX0_change_44 : decode cX0_change 44 = .ok (.aload_n 0, 1) := by decide +kernel
theorem dX0_change_45 : decode cX0_change 45 = .ok (.iconst 5, 1) := by decide +kernel
theorem dX0_change_46 : decode cX0_change 46 = .ok (.putfield 109, 3) := by decide +kernel
theorem dX0_change_49 : decode cX0_change 49 = .ok (.goto 73, 3) := by decide +kernel
theorem dX0_change_52 : decode cX0_change 52 = .ok (.aload_n 0, 1) := by decide +kernel
theorem dX0_change_53 : decode cX0_change 53 = .ok (.iconst 0, 1) := by decide +kernel
theorem dX0_change_54 : decode cX0_change 54 = .ok (.putfield 109, 3) := by decide +kernel
theorem dX0_change_57 : decode cX0_change 57 = .ok (.aload_n 0, 1) := by decide +kernel
theorem dX0_change_58 : decode cX0_change 58 = .ok (.iconst 3, 1) := by decide +kernel
theorem dX0_change_59 : decode cX0_change 59 = .ok (.putfield 106, 3) := by decide +kernel
theorem dX0_change_62 : decode cX0_change 62 = .ok (.goto 60, 3) := by decide +kernel
theorem dX0_change_65 : decode cX0_change 65 = .ok (.aload_n 0, 1) := by decide +kernel
theorem dX0_change_66 : decode cX0_change 66 = .ok (.getfield 42, 3) := by decide +kernel
theorem dX0_change_69 : decode cX0_change 69 = .ok (.iconst 4, 1) := by decide +kernel
theorem dX0_change_70 : decode cX0_change 70 = .ok (.dup2, 1) := by decide +kernel
theorem dX0_change_71 : decode cX0_change 71 = .ok (.iaload, 1) := by decide +kernel
theorem dX0_change_72 : decode cX0_change 72 = .ok (.iconst 1, 1) := by decide +kernel
theorem dX0_change_73 : decode cX0_change 73 = .ok (.iadd, 1) := by decide +kernel
theorem dX0_change_74 : decode cX0_change 74 = .ok (.iastore, 1) := by decide +kernel
theorem dX0_change_75 : decode cX0_change 75 = .ok (.goto 47, 3) := by decide +kernel
theorem dX0_change_78 : decode cX0_change 78 = .ok (.aload_n 0, 1) := by decide +kernel
theorem dX0_change_79 : decode cX0_change 79 = .ok (.getfield 30, 3) := by decide +kernel
theorem dX0_change_82 : decode cX0_change 82 = .ok (.aload_n 0, 1) := by decide +kernel
theorem dX0_change_83 : decode cX0_change 83 = .ok (.getfield 22, 3) := by decide +kernel
theorem dX0_change_86 : decode cX0_change 86 = .ok (.invokevirtual 270, 3) := by decide +kernel
theorem dX0_change_89 : decode cX0_change 89 = .ok (.aload_n 0, 1) := by decide +kernel
theorem dX0_change_90 : decode cX0_change 90 = .ok (.getfield 42, 3) := by decide +kernel
theorem dX0_change_93 : decode cX0_change 93 = .ok (.iconst 5, 1) := by decide +kernel
theorem dX0_change_94 : decode cX0_change 94 = .ok (.dup2, 1) := by decide +kernel
theorem dX0_change_95 : decode cX0_change 95 = .ok (.iaload, 1) := by decide +kernel
theorem dX0_change_96 : decode cX0_change 96 = .ok (.iconst 1, 1) := by decide +kernel
theorem dX0_change_97 : decode cX0_change 97 = .ok (.iadd, 1) := by decide +kernel
theorem dX0_change_98 : decode cX0_change 98 = .ok (.iastore, 1) := by decide +kernel
theorem dX0_change_99 : decode cX0_change 99 = .ok (.goto 23, 3) := by decide +kernel
theorem dX0_change_102 : decode cX0_change 102 = .ok (.iload_n 1, 1) := by decide +kernel
theorem dX0_change_103 : decode cX0_change 103 = .ok (.bipush 48, 2) := by decide +kernel
theorem dX0_change_105 : decode cX0_change 105 = .ok (.if_icmp .lt 17, 3) := by decide +kernel
theorem dX0_change_108 : decode cX0_change 108 = .ok (.iload_n 1, 1) := by decide +kernel
theorem dX0_change_109 : decode cX0_change 109 = .ok (.bipush 57, 2) := by decide +kernel
theorem dX0_change_111 : decode cX0_change 111 = .ok (.if_icmp .gt 11, 3) := by decide +kernel
theorem dX0_change_114 : decode cX0_change 114 = .ok (.aload_n 0, 1) := by decide +kernel
theorem dX0_change_115 : decode cX0_change 115 = .ok (.iload_n 1, 1) := by decide +kernel
theorem dX0_change_116 : decode cX0_change 116 = .ok (.bipush 48, 2) := by decide +kernel
theorem dX0_change_118 : decode cX0_change 118 = .ok (.isub, 1) := by decide +kernel
theorem dX0_change_119 : decode cX0_change 119 = .ok (.putfield 60, 3) := by decide +kernel
theorem dX0_change_122 : decode cX0_change 122 = .ok (.return_, 1) := by decide +kernel
theorem dX0_speak_0 : decode cX0_speak 0 = .ok (.iload_n 1, 1) := by decide +kernel
theorem dX0_speak_1 : decode cX0_speak 1 = .ok (.tableswitch 255 97 116 #[141, 255, 179, 255, 114, 255, 255, 255, 255, 255, 255, 255, 255, 141, 255, 255, 95, 217, 255, 152], 95) := by decide +kernel
theorem dX0_speak_96 : decode cX0_speak 96 = .ok (.aload_n 0, 1) := by decide +kernel
theorem dX0_speak_97 : decode cX0_speak 97 = .ok (.invokevirtual 273, 3) := by decide +kernel
theorem dX0_speak_100 : decode cX0_speak 100 = .ok (.aload_n 0, 1) := by decide +kernel
theorem dX0_speak_101 : decode cX0_speak 101 = .ok (.aload_n 0, 1) := by decide +kernel
theorem dX0_speak_102 : decode cX0_speak 102 = .ok (.getfield 33, 3) := by decide +kernel
theorem dX0_speak_105 : decode cX0_speak 105 = .ok (.invokevirtual 76, 3) := by decide +kernel
theorem dX0_speak_108 : decode cX0_speak 108 = .ok (.aload_n 0, 1) := by decide +kernel
theorem dX0_speak_109 : decode cX0_speak 109 = .ok (.invokevirtual 276, 3) := by decide +kernel
theorem dX0_speak_112 : decode cX0_speak 112 = .ok (.goto 144, 3) := by decide +kernel
theorem dX0_speak_115 : decode cX0_speak 115 = .ok (.aload_n 0, 1) := by decide +kernel
theorem dX0_speak_116 : decode cX0_speak 116 = .ok (.getfield 39, 3) := by decide +kernel
theorem dX0_speak_119 : decode cX0_speak 119 = .ok (.iconst 5, 1) := by decide +kernel
theorem dX0_speak_120 : decode cX0_speak 120 = .ok (.aload_n 0, 1) := by decide +kernel
theorem dX0_speak_121 : decode cX0_speak 121 = .ok (.invokevirtual 80, 3) := by decide +kernel
theorem dX0_speak_124 : decode cX0_speak 124 = .ok (.invokevirtual 84, 3) := by decide +kernel
theorem dX0_speak_127 : decode cX0_speak 127 = .ok (.aload_n 0, 1) := by decide +kernel
theorem dX0_speak_128 : decode cX0_speak 128 = .ok (.aload_n 0, 1) := by decide +kernel
theorem dX0_speak_129 : decode cX0_speak 129 = .ok (.getfield 39, 3) := by decide +kernel
theorem dX0_speak_132 : decode cX0_speak 132 = .ok (.invokevirtual 76, 3) := by decide +kernel
theorem dX0_speak_135 : decode cX0_speak 135 = .ok (.aload_n 0, 1) := by decide +kernel
theorem dX0_speak_136 : decode cX0_speak 136 = .ok (.invokevirtual 276, 3) := by decide +kernel
theorem dX0_speak_139 : decode cX0_speak 139 = .ok (.goto 117, 3) := by decide +kernel
theorem dX0_speak_142 : decode cX0_speak 142 = .ok (.aload_n 0, 1) := by decide +kernel
theorem dX0_speak_143 : decode cX0_speak 143 = .ok (.aload_n 0, 1) := by decide +kernel
theorem dX0_speak_144 : decode cX0_speak 144 = .ok (.getfield 36, 3) := by decide +kernel
theorem dX0_speak_147 : decode cX0_speak 147 = .ok (.invokevirtual 76, 3) := by decide +kernel
theorem dX0_speak_150 : decode cX0_speak 150 = .ok (.goto 106, 3) := by decide +kernel
theorem dX0_speak_153 : decode cX0_speak 153 = .ok (.aload_n 0, 1) := by decide +kernel
theorem dX0_speak_154 : decode cX0_speak 154 = .ok (.getfield 39, 3) := by decide +kernel
theorem dX0_speak_157 : decode cX0_speak 157 = .ok (.bipush 6, 2) := by decide +kernel
theorem dX0_speak_159 : decode cX0_speak 159 = .ok (.aload_n 0, 1) := by decide +kernel
theorem dX0_speak_160 : decode cX0_speak 160 = .ok (.getfield 22, 3) := by decide +kernel
theorem dX0_speak_163 : decode cX0_speak 163 = .ok (.invokevirtual 155, 3) := by decide +kernel
theorem dX0_speak_166 : decode cX0_speak 166 = .ok (.invokevirtual 84, 3) := by decide +kernel
theorem dX0_speak_169 : decode cX0_speak 169 = .ok (.aload_n 0, 1) := by decide +kernel
theorem dX0_speak_170 : decode cX0_speak 170 = .ok (.aload_n 0, 1) := by decide +kernel
theorem dX0_speak_171 : decode cX0_speak 171 = .ok (.getfield 39, 3) := by decide +kernel
theorem dX0_speak_174 : decode cX0_speak 174 = .ok (.invokevirtual 76, 3) := by decide +kernel
theorem dX0_speak_177 : decode cX0_speak 177 = .ok (.goto 79, 3) := by decide +kernel
theorem dX0_speak_180 : decode cX0_speak 180 = .ok (.aload_n 0, 1) := by decide +kernel
theorem dX0_speak_181 : decode cX0_speak 181 = .ok (.getfield 39, 3) := by decide +kernel
theorem dX0_speak_184 : decode cX0_speak 184 = .ok (.bipush 7, 2) := by decide +kernel
theorem dX0_speak_186 : decode cX0_speak 186 = .ok (.aload_n 0, 1) := by decide +kernel
theorem dX0_speak_187 : decode cX0_speak 187 = .ok (.invokevirtual 80, 3) := by decide +kernel
theorem dX0_speak_190 : decode cX0_speak 190 = .ok (.invokevirtual 84, 3) := by decide +kernel
theorem dX0_speak_193 : decode cX0_speak 193 = .ok (.aload_n 0, 1) := by decide +kernel
theorem dX0_speak_194 : decode cX0_speak 194 = .ok (.getfield 39, 3) := by decide +kernel
theorem dX0_speak_197 : decode cX0_speak 197 = .ok (.aload_n 0, 1) := by decide +kernel
theorem dX0_speak_198 : decode cX0_speak 198 = .ok (.getfield 22, 3) := by decide +kernel
theorem dX0_speak_201 : decode cX0_speak 201 = .ok (.invokevirtual 148, 3) := by decide +kernel
theorem dX0_speak_204 : decode cX0_speak 204 = .ok (.invokevirtual 73, 3) := by decide +kernel
theorem dX0_speak_207 : decode cX0_speak 207 = .ok (.aload_n 0, 1) := by decide +kernel
theorem dX0_speak_208 : decode cX0_speak 208 = .ok (.aload_n 0, 1) := by decide +kernel
theorem dX0_speak_209 : decode cX0_speak 209 = .ok (.getfield 39, 3) := by decide +kernel
theorem dX0_speak_212 : decode cX0_speak 212 = .ok (.invokevirtual 76, 3) := by decide +kernel
theorem dX0_speak_215 : decode cX0_speak 215 = .ok (.goto 41, 3) := by decide +kernel
theorem dX0_speak_218 : decode cX0_speak 218 = .ok (.aload_n 0, 1) := by decide +kernel
theorem dX0_speak_219 : decode cX0_speak 219 = .ok (.getfield 39, 3) := by decide +kernel
theorem dX0_speak_222 : decode cX0_speak 222 = .ok (.bipush 10, 2) := by decide +kernel
theorem dX0_speak_224 : decode cX0_speak 224 = .ok (.aload_n 0, 1) := by decide +kernel
theorem dX0_speak_225 : decode cX0_speak 225 = .ok (.getfield 22, 3) := by decide +kernel
theorem dX0_speak_228 : decode cX0_speak 228 = .ok (.invokevirtual 155, 3) := by decide +kernel
theorem dX0_speak_231 : decode cX0_speak 231 = .ok (.invokevirtual 84, 3) := by decide +kernel
theorem dX0_speak_234 : decode cX0_speak 234 = .ok (.aload_n 0, 1) := by decide +kernel
theorem dX0_speak_235 : decode cX0_speak 235 = .ok (.getfield 39, 3) := by decide +kernel
theorem dX0_speak_238 : decode cX0_speak 238 = .ok (.aload_n 0, 1) := by decide +kernel
theorem dX0_speak_239 : decode cX0_speak 239 = .ok (.getfield 88, 3) := by decide +kernel
theorem dX0_speak_242 : decode cX0_speak 242 = .ok (.invokevirtual 91, 3) := by decide +kernel
theorem dX0_speak_245 : decode cX0_speak 245 = .ok (.aload_n 0, 1) := by decide +kernel
theorem dX0_speak_246 : decode cX0_speak 246 = .ok (.aload_n 0, 1) := by decide +kernel
theorem dX0_speak_247 : decode cX0_speak 247 = .ok (.getfield 39, 3) := by decide +kernel
theorem dX0_speak_250 : decode cX0_speak 250 = .ok (.invokevirtual 76, 3) := by decide +kernel
theorem dX0_speak_253 : decode cX0_speak 253 = .ok (.goto 3, 3) := by decide +kernel
theorem dX0_speak_256 : decode cX0_speak 256 = .ok (.return_, 1) := by decide +kernel
theorem dX0_composeRequest_0 : decode cX0_composeRequest 0 = .ok (.aload_n 0, 1) := by decide +kernel
theorem dX0_composeRequest_1 : decode cX0_composeRequest 1 = .ok (.getfield 33, 3) := by decide +kernel
theorem dX0_composeRequest_4 : decode cX0_composeRequest 4 = .ok (.iconst 1, 1) := by decide +kernel
theorem dX0_composeRequest_5 : decode cX0_composeRequest 5 = .ok (.aload_n 0, 1) := by decide +kernel
theorem dX0_composeRequest_6 : decode cX0_composeRequest 6 = .ok (.invokevirtual 80, 3) := by decide +kernel
theorem dX0_composeRequest_9 : decode cX0_composeRequest 9 = .ok (.invokevirtual 84, 3) := by decide +kernel
theorem dX0_composeRequest_12 : decode cX0_composeRequest 12 = .ok (.aload_n 0, 1) := by decide +kernel
theorem dX0_composeRequest_13 : decode cX0_composeRequest 13 = .ok (.getfield 53, 3) := by decide +kernel
theorem dX0_composeRequest_16 : decode cX0_composeRequest 16 = .ok (.ifCond .eq 24, 3) := by decide +kernel
theorem dX0_composeRequest_19 : decode cX0_composeRequest 19 = .ok (.aload_n 0, 1) := by decide +kernel
theorem dX0_composeRequest_20 : decode cX0_composeRequest 20 = .ok (.getfield 46, 3) := by decide +kernel
theorem dX0_composeRequest_23 : decode cX0_composeRequest 23 = .ok (.sipush 1500, 3) := by decide +kernel
theorem dX0_composeRequest_26 : decode cX0_composeRequest 26 = .ok (.if_icmp .eq 14, 3) := by decide +kernel
theorem dX0_composeRequest_29 : decode cX0_composeRequest 29 = .ok (.aload_n 0, 1) := by decide +kernel
theorem dX0_composeRequest_30 : decode cX0_composeRequest 30 = .ok (.getfield 33, 3) := by decide +kernel
theorem dX0_composeRequest_33 : decode cX0_composeRequest 33 = .ok (.aload_n 0, 1) := by decide +kernel
theorem dX0_composeRequest_34 : decode cX0_composeRequest 34 = .ok (.getfield 46, 3) := by decide +kernel
theorem dX0_composeRequest_37 : decode cX0_composeRequest 37 = .ok (.invokevirtual 247, 3) := by decide +kernel
theorem dX0_composeRequest_40 : decode cX0_composeRequest 40 = .ok (.aload_n 0, 1) := by decide +kernel
theorem dX0_composeRequest_41 : decode cX0_composeRequest 41 = .ok (.getfield 57, 3) := by decide +kernel
theorem dX0_composeRequest_44 : decode cX0_composeRequest 44 = .ok (.ifCond .eq 29, 3) := by decide +kernel
theorem dX0_composeRequest_47 : decode cX0_composeRequest 47 = .ok (.aload_n 0, 1) := by decide +kernel
theorem dX0_composeRequest_48 : decode cX0_composeRequest 48 = .ok (.getfield 88, 3) := by decide +kernel
theorem dX0_composeRequest_51 : decode cX0_composeRequest 51 = .ok (.ifCond .eq 22, 3) := by decide +kernel
theorem dX0_composeRequest_54 : decode cX0_composeRequest 54 = .ok (.aload_n 0, 1) := by decide +kernel
theorem dX0_composeRequest_55 : decode cX0_composeRequest 55 = .ok (.getfield 33, 3) := by decide +kernel
theorem dX0_composeRequest_58 : decode cX0_composeRequest 58 = .ok (.iconst 5, 1) := by decide +kernel
theorem dX0_composeRequest_59 : decode cX0_composeRequest 59 = .ok (.invokevirtual 73, 3) := by decide +kernel
theorem dX0_composeRequest_62 : decode cX0_composeRequest 62 = .ok (.aload_n 0, 1) := by decide +kernel
theorem dX0_composeRequest_63 : decode cX0_composeRequest 63 = .ok (.getfield 33, 3) := by decide +kernel
theorem dX0_composeRequest_66 : decode cX0_composeRequest 66 = .ok (.aload_n 0, 1) := by decide +kernel
theorem dX0_composeRequest_67 : decode cX0_composeRequest 67 = .ok (.getfield 88, 3) := by decide +kernel
theorem dX0_composeRequest_70 : decode cX0_composeRequest 70 = .ok (.invokevirtual 91, 3) := by decide +kernel
theorem dX0_composeRequest_73 : decode cX0_composeRequest 73 = .ok (.return_, 1) := by decide +kernel
theorem dX0_spendTry_0 : decode cX0_spendTry 0 = .ok (.aload_n 0, 1) := by decide +kernel
theorem dX0_spendTry_1 : decode cX0_spendTry 1 = .ok (.dup, 1) := by decide +kernel
theorem dX0_spendTry_2 : decode cX0_spendTry 2 = .ok (.getfield 109, 3) := by decide +kernel
theorem dX0_spendTry_5 : decode cX0_spendTry 5 = .ok (.iconst 1, 1) := by decide +kernel
theorem dX0_spendTry_6 : decode cX0_spendTry 6 = .ok (.isub, 1) := by decide +kernel
theorem dX0_spendTry_7 : decode cX0_spendTry 7 = .ok (.putfield 109, 3) := by decide +kernel
theorem dX0_spendTry_10 : decode cX0_spendTry 10 = .ok (.aload_n 0, 1) := by decide +kernel
theorem dX0_spendTry_11 : decode cX0_spendTry 11 = .ok (.iconst 3, 1) := by decide +kernel
theorem dX0_spendTry_12 : decode cX0_spendTry 12 = .ok (.putfield 106, 3) := by decide +kernel
theorem dX0_spendTry_15 : decode cX0_spendTry 15 = .ok (.return_, 1) := by decide +kernel

theorem dX5_loop_17 : decode cX5_loop 17 = .ok (.iload 4, 2) := by decide +kernel
theorem dX5_loop_19 : decode cX5_loop 19 = .ok (.ireturn, 1) := by decide +kernel
theorem dX5_send_0 : decode cX5_send 0 = .ok (.aload_n 0, 1) := by decide +kernel
theorem dX5_send_1 : decode cX5_send 1 = .ok (.iload_n 1, 1) := by decide +kernel
theorem dX5_send_2 : decode cX5_send 2 = .ok (.invokevirtual 31, 3) := by decide +kernel
theorem dX5_send_5 : decode cX5_send 5 = .ok (.astore 4, 2) := by decide +kernel
theorem dX5_send_7 : decode cX5_send 7 = .ok (.iload_n 2, 1) := by decide +kernel
theorem dX5_send_8 : decode cX5_send 8 = .ok (.iconst 2, 1) := by decide +kernel
theorem dX5_send_9 : decode cX5_send 9 = .ok (.if_icmp .lt 16, 3) := by decide +kernel
theorem dX5_send_12 : decode cX5_send 12 = .ok (.iload_n 2, 1) := by decide +kernel
theorem dX5_send_13 : decode cX5_send 13 = .ok (.bipush 20, 2) := by decide +kernel
theorem dX5_send_15 : decode cX5_send 15 = .ok (.if_icmp .gt 10, 3) := by decide +kernel
theorem dX5_send_18 : decode cX5_send 18 = .ok (.iload_n 3, 1) := by decide +kernel
theorem dX5_send_19 : decode cX5_send 19 = .ok (.invokestatic 109, 3) := by decide +kernel
theorem dX5_send_22 : decode cX5_send 22 = .ok (.ifCond .ne 11, 3) := by decide +kernel
theorem dX5_send_25 : decode cX5_send 25 = .ok (.new 39, 3) := by decide +kernel
theorem dX5_send_28 : decode cX5_send 28 = .ok (.dup, 1) := by decide +kernel
theorem dX5_send_29 : decode cX5_send 29 = .ok (.invokespecial 41, 3) := by decide +kernel
theorem dX5_send_32 : decode cX5_send 32 = .ok (.athrow, 1) := by decide +kernel
theorem dX5_send_33 : decode cX5_send 33 = .ok (.aload 4, 2) := by decide +kernel
theorem dX5_send_35 : decode cX5_send 35 = .ok (.getfield 42, 3) := by decide +kernel
theorem dX5_send_38 : decode cX5_send 38 = .ok (.bipush 9, 2) := by decide +kernel
theorem dX5_send_40 : decode cX5_send 40 = .ok (.if_icmp .eq 11, 3) := by decide +kernel
theorem dX5_send_43 : decode cX5_send 43 = .ok (.new 46, 3) := by decide +kernel
theorem dX5_send_46 : decode cX5_send 46 = .ok (.dup, 1) := by decide +kernel
theorem dX5_send_47 : decode cX5_send 47 = .ok (.invokespecial 48, 3) := by decide +kernel
theorem dX5_send_50 : decode cX5_send 50 = .ok (.athrow, 1) := by decide +kernel
theorem dX5_send_51 : decode cX5_send 51 = .ok (.aload 4, 2) := by decide +kernel
theorem dX5_send_53 : decode cX5_send 53 = .ok (.iload_n 2, 1) := by decide +kernel
theorem dX5_send_54 : decode cX5_send 54 = .ok (.iload_n 3, 1) := by decide +kernel
theorem dX5_send_55 : decode cX5_send 55 = .ok (.invokevirtual 133, 3) := by decide +kernel
theorem dX5_send_58 : decode cX5_send 58 = .ok (.aload 4, 2) := by decide +kernel
theorem dX5_send_60 : decode cX5_send 60 = .ok (.getfield 137, 3) := by decide +kernel
theorem dX5_send_63 : decode cX5_send 63 = .ok (.getfield 85, 3) := by decide +kernel
theorem dX5_send_66 : decode cX5_send 66 = .ok (.ireturn, 1) := by decide +kernel
theorem dX5_echo_0 : decode cX5_echo 0 = .ok (.aload_n 0, 1) := by decide +kernel
theorem dX5_echo_1 : decode cX5_echo 1 = .ok (.iload_n 1, 1) := by decide +kernel
theorem dX5_echo_2 : decode cX5_echo 2 = .ok (.invokevirtual 31, 3) := by decide +kernel
theorem dX5_echo_5 : decode cX5_echo 5 = .ok (.astore_n 2, 1) := by decide +kernel
theorem dX5_echo_6 : decode cX5_echo 6 = .ok (.aload_n 2, 1) := by decide +kernel
theorem dX5_echo_7 : decode cX5_echo 7 = .ok (.getfield 42, 3) := by decide +kernel
theorem dX5_echo_10 : decode cX5_echo 10 = .ok (.bipush 9, 2) := by decide +kernel
theorem dX5_echo_12 : decode cX5_echo 12 = .ok (.if_icmp .eq 11, 3) := by decide +kernel
theorem dX5_echo_15 : decode cX5_echo 15 = .ok (.new 46, 3) := by decide +kernel
theorem dX5_echo_18 : decode cX5_echo 18 = .ok (.dup, 1) := by decide +kernel
theorem dX5_echo_19 : decode cX5_echo 19 = .ok (.invokespecial 48, 3) := by decide +kernel
theorem dX5_echo_22 : decode cX5_echo 22 = .ok (.athrow, 1) := by decide +kernel
theorem dX5_echo_23 : decode cX5_echo 23 = .ok (.aload_n 2, 1) := by decide +kernel
theorem dX5_echo_24 : decode cX5_echo 24 = .ok (.invokevirtual 140, 3) := by decide +kernel
theorem dX5_echo_27 : decode cX5_echo 27 = .ok (.aload_n 2, 1) := by decide +kernel
theorem dX5_echo_28 : decode cX5_echo 28 = .ok (.getfield 143, 3) := by decide +kernel
theorem dX5_echo_31 : decode cX5_echo 31 = .ok (.ireturn, 1) := by decide +kernel
theorem dX5_data_0 : decode cX5_data 0 = .ok (.aload_n 0, 1) := by decide +kernel
theorem dX5_data_1 : decode cX5_data 1 = .ok (.iload_n 1, 1) := by decide +kernel
theorem dX5_data_2 : decode cX5_data 2 = .ok (.invokevirtual 31, 3) := by decide +kernel
theorem dX5_data_5 : decode cX5_data 5 = .ok (.getfield 146, 3) := by decide +kernel
theorem dX5_data_8 : decode cX5_data 8 = .ok (.astore_n 3, 1) := by decide +kernel
theorem dX5_data_9 : decode cX5_data 9 = .ok (.iload_n 2, 1) := by decide +kernel
theorem dX5_data_10 : decode cX5_data 10 = .ok (.ifCond .lt 13, 3) := by decide +kernel
theorem dX5_data_13 : decode cX5_data 13 = .ok (.iload_n 2, 1) := by decide +kernel
theorem dX5_data_14 : decode cX5_data 14 = .ok (.aload_n 3, 1) := by decide +kernel
theorem dX5_data_15 : decode cX5_data 15 = .ok (.invokevirtual 150, 3) := by decide +kernel
theorem dX5_data_18 : decode cX5_data 18 = .ok (.iconst 1, 1) := by decide +kernel
theorem dX5_data_19 : decode cX5_data 19 = .ok (.isub, 1) := by decide +kernel
theorem dX5_data_20 : decode cX5_data 20 = .ok (.if_icmp .lt 5, 3) := by decide +kernel
theorem dX5_data_23 : decode cX5_data 23 = .ok (.iconst (-1), 1) := by decide +kernel
theorem dX5_data_24 : decode cX5_data 24 = .ok (.ireturn, 1) := by decide +kernel
theorem dX5_data_25 : decode cX5_data 25 = .ok (.aload_n 3, 1) := by decide +kernel
theorem dX5_data_26 : decode cX5_data 26 = .ok (.iconst 1, 1) := by decide +kernel
theorem dX5_data_27 : decode cX5_data 27 = .ok (.iload_n 2, 1) := by decide +kernel
theorem dX5_data_28 : decode cX5_data 28 = .ok (.iadd, 1) := by decide +kernel
theorem dX5_data_29 : decode cX5_data 29 = .ok (.invokevirtual 155, 3) := by decide +kernel
theorem dX5_data_32 : decode cX5_data 32 = .ok (.ireturn, 1) := by decide +kernel
theorem dX5_look_0 : decode cX5_look 0 = .ok (.aload_n 0, 1) := by decide +kernel
theorem dX5_look_1 : decode cX5_look 1 = .ok (.iload_n 1, 1) := by decide +kernel
theorem dX5_look_2 : decode cX5_look 2 = .ok (.invokevirtual 77, 3) := by decide +kernel
theorem dX5_look_5 : decode cX5_look 5 = .ok (.astore_n 3, 1) := by decide +kernel
theorem dX5_look_6 : decode cX5_look 6 = .ok (.aload_n 3, 1) := by decide +kernel
theorem dX5_look_7 : decode cX5_look 7 = .ok (.iload_n 2, 1) := by decide +kernel
theorem dX5_look_8 : decode cX5_look 8 = .ok (.invokevirtual 115, 3) := by decide +kernel
theorem dX5_look_11 : decode cX5_look 11 = .ok (.ifCond .ne 11, 3) := by decide +kernel
theorem dX5_look_14 : decode cX5_look 14 = .ok (.new 118, 3) := by decide +kernel
theorem dX5_look_17 : decode cX5_look 17 = .ok (.dup, 1) := by decide +kernel
theorem dX5_look_18 : decode cX5_look 18 = .ok (.invokespecial 120, 3) := by decide +kernel
theorem dX5_look_21 : decode cX5_look 21 = .ok (.athrow, 1) := by decide +kernel
theorem dX5_look_22 : decode cX5_look 22 = .ok (.aload_n 3, 1) := by decide +kernel
theorem dX5_look_23 : decode cX5_look 23 = .ok (.iload_n 2, 1) := by decide +kernel
theorem dX5_look_24 : decode cX5_look 24 = .ok (.iconst 0, 1) := by decide +kernel
theorem dX5_look_25 : decode cX5_look 25 = .ok (.invokevirtual 121, 3) := by decide +kernel
theorem dX5_look_28 : decode cX5_look 28 = .ok (.ireturn, 1) := by decide +kernel
theorem dX5_about_0 : decode cX5_about 0 = .ok (.aload_n 0, 1) := by decide +kernel
theorem dX5_about_1 : decode cX5_about 1 = .ok (.iload_n 1, 1) := by decide +kernel
theorem dX5_about_2 : decode cX5_about 2 = .ok (.invokevirtual 31, 3) := by decide +kernel
theorem dX5_about_5 : decode cX5_about 5 = .ok (.astore_n 3, 1) := by decide +kernel
theorem dX5_about_6 : decode cX5_about 6 = .ok (.iload_n 2, 1) := by decide +kernel
theorem dX5_about_7 : decode cX5_about 7 = .ok (.tableswitch 124 0 8 #[49, 54, 59, 64, 69, 74, 79, 105, 113], 49) := by decide +kernel
theorem dX5_about_56 : decode cX5_about 56 = .ok (.aload_n 3, 1) := by decide +kernel
theorem dX5_about_57 : decode cX5_about 57 = .ok (.getfield 42, 3) := by decide +kernel
theorem dX5_about_60 : decode cX5_about 60 = .ok (.ireturn, 1) := by decide +kernel
theorem dX5_about_61 : decode cX5_about 61 = .ok (.aload_n 3, 1) := by decide +kernel
theorem dX5_about_62 : decode cX5_about 62 = .ok (.getfield 49, 3) := by decide +kernel
theorem dX5_about_65 : decode cX5_about 65 = .ok (.ireturn, 1) := by decide +kernel
theorem dX5_about_66 : decode cX5_about 66 = .ok (.aload_n 3, 1) := by decide +kernel
theorem dX5_about_67 : decode cX5_about 67 = .ok (.getfield 55, 3) := by decide +kernel
theorem dX5_about_70 : decode cX5_about 70 = .ok (.ireturn, 1) := by decide +kernel
theorem dX5_about_71 : decode cX5_about 71 = .ok (.aload_n 3, 1) := by decide +kernel
theorem dX5_about_72 : decode cX5_about 72 = .ok (.getfield 143, 3) := by decide +kernel
theorem dX5_about_75 : decode cX5_about 75 = .ok (.ireturn, 1) := by decide +kernel
theorem dX5_about_76 : decode cX5_about 76 = .ok (.aload_n 3, 1) := by decide +kernel
theorem dX5_about_77 : decode cX5_about 77 = .ok (.getfield 159, 3) := by decide +kernel
theorem dX5_about_80 : decode cX5_about 80 = .ok (.ireturn, 1) := by decide +kernel
theorem dX5_about_81 : decode cX5_about 81 = .ok (.aload_n 3, 1) := by decide +kernel
theorem dX5_about_82 : decode cX5_about 82 = .ok (.getfield 162, 3) := by decide +kernel
theorem dX5_about_85 : decode cX5_about 85 = .ok (.ireturn, 1) := by decide +kernel
theorem dX5_about_86 : decode cX5_about 86 = .ok (.aload_n 3, 1) := by decide +kernel
theorem dX5_about_87 : decode cX5_about 87 = .ok (.getfield 165, 3) := by decide +kernel
theorem dX5_about_90 : decode cX5_about 90 = .ok (.ifCond .eq 7, 3) := by decide +kernel
theorem dX5_about_93 : decode cX5_about 93 = .ok (.iconst 1, 1) := by decide +kernel
theorem dX5_about_94 : decode cX5_about 94 = .ok (.goto 4, 3) := by decide +kernel
theorem dX5_about_97 : decode cX5_about 97 = .ok (.iconst 0, 1) := by decide +kernel
theorem dX5_about_98 : decode cX5_about 98 = .ok (.aload_n 3, 1) := by decide +kernel
theorem dX5_about_99 : decode cX5_about 99 = .ok (.getfield 168, 3) := by decide +kernel
theorem dX5_about_102 : decode cX5_about 102 = .ok (.ifCond .eq 7, 3) := by decide +kernel
theorem dX5_about_105 : decode cX5_about 105 = .ok (.iconst 2, 1) := by decide +kernel
theorem dX5_about_106 : decode cX5_about 106 = .ok (.goto 4, 3) := by decide +kernel
theorem dX5_about_109 : decode cX5_about 109 = .ok (.iconst 0, 1) := by decide +kernel
theorem dX5_about_110 : decode cX5_about 110 = .ok (.iadd, 1) := by decide +kernel
theorem dX5_about_111 : decode cX5_about 111 = .ok (.ireturn, 1) := by decide +kernel
theorem dX5_about_112 : decode cX5_about 112 = .ok (.aload_n 3, 1) := by decide +kernel
theorem dX5_about_113 : decode cX5_about 113 = .ok (.getfield 137, 3) := by decide +kernel
theorem dX5_about_116 : decode cX5_about 116 = .ok (.getfield 85, 3) := by decide +kernel
theorem dX5_about_119 : decode cX5_about 119 = .ok (.ireturn, 1) := by decide +kernel
theorem dX5_about_120 : decode cX5_about 120 = .ok (.aload_n 3, 1) := by decide +kernel
theorem dX5_about_121 : decode cX5_about 121 = .ok (.getfield 92, 3) := by decide +kernel
theorem dX5_about_124 : decode cX5_about 124 = .ok (.getfield 171, 3) := by decide +kernel
theorem dX5_about_127 : decode cX5_about 127 = .ok (.getfield 174, 3) := by decide +kernel
theorem dX5_about_130 : decode cX5_about 130 = .ok (.ireturn, 1) := by decide +kernel
theorem dX5_about_131 : decode cX5_about 131 = .ok (.new 39, 3) := by decide +kernel
theorem dX5_about_134 : decode cX5_about 134 = .ok (.dup, 1) := by decide +kernel
theorem dX5_about_135 : decode cX5_about 135 = .ok (.invokespecial 41, 3) := by decide +kernel
theorem dX5_about_138 : decode cX5_about 138 = .ok (.athrow, 1) := by decide +kernel
theorem dX5_count_0 : decode cX5_count 0 = .ok (.aload_n 0, 1) := by decide +kernel
theorem dX5_count_1 : decode cX5_count 1 = .ok (.iload_n 1, 1) := by decide +kernel
theorem dX5_count_2 : decode cX5_count 2 = .ok (.invokevirtual 31, 3) := by decide +kernel
theorem dX5_count_5 : decode cX5_count 5 = .ok (.astore_n 3, 1) := by decide +kernel
theorem dX5_count_6 : decode cX5_count 6 = .ok (.iload_n 2, 1) := by decide +kernel
theorem dX5_count_7 : decode cX5_count 7 = .ok (.ifCond .lt 9, 3) := by decide +kernel
theorem dX5_count_10 : decode cX5_count 10 = .ok (.iload_n 2, 1) := by decide +kernel
theorem dX5_count_11 : decode cX5_count 11 = .ok (.bipush 6, 2) := by decide +kernel
theorem dX5_count_13 : decode cX5_count 13 = .ok (.if_icmp .lt 11, 3) := by decide +kernel
theorem dX5_count_16 : decode cX5_count 16 = .ok (.new 39, 3) := by decide +kernel
theorem dX5_count_19 : decode cX5_count 19 = .ok (.dup, 1) := by decide +kernel
theorem dX5_count_20 : decode cX5_count 20 = .ok (.invokespecial 41, 3) := by decide +kernel
theorem dX5_count_23 : decode cX5_count 23 = .ok (.athrow, 1) := by decide +kernel
theorem dX5_count_24 : decode cX5_count 24 = .ok (.aload_n 3, 1) := by decide +kernel
theorem dX5_count_25 : decode cX5_count 25 = .ok (.getfield 175, 3) := by decide +kernel
theorem dX5_count_28 : decode cX5_count 28 = .ok (.iload_n 2, 1) := by decide +kernel
theorem dX5_count_29 : decode cX5_count 29 = .ok (.iaload, 1) := by decide +kernel
theorem dX5_count_30 : decode cX5_count 30 = .ok (.ireturn, 1) := by decide +kernel
theorem dX5_noise_0 : decode cX5_noise 0 = .ok (.aload_n 0, 1) := by decide +kernel
theorem dX5_noise_1 : decode cX5_noise 1 = .ok (.getfield 24, 3) := by decide +kernel
theorem dX5_noise_4 : decode cX5_noise 4 = .ok (.getfield 175, 3) := by decide +kernel
theorem dX5_noise_7 : decode cX5_noise 7 = .ok (.iconst 1, 1) := by decide +kernel
theorem dX5_noise_8 : decode cX5_noise 8 = .ok (.iaload, 1) := by decide +kernel
theorem dX5_noise_9 : decode cX5_noise 9 = .ok (.aload_n 0, 1) := by decide +kernel
theorem dX5_noise_10 : decode cX5_noise 10 = .ok (.getfield 28, 3) := by decide +kernel
theorem dX5_noise_13 : decode cX5_noise 13 = .ok (.getfield 175, 3) := by decide +kernel
theorem dX5_noise_16 : decode cX5_noise 16 = .ok (.iconst 1, 1) := by decide +kernel
theorem dX5_noise_17 : decode cX5_noise 17 = .ok (.iaload, 1) := by decide +kernel
theorem dX5_noise_18 : decode cX5_noise 18 = .ok (.iadd, 1) := by decide +kernel
theorem dX5_noise_19 : decode cX5_noise 19 = .ok (.istore_n 1, 1) := by decide +kernel
theorem dX5_noise_20 : decode cX5_noise 20 = .ok (.iload_n 1, 1) := by decide +kernel
theorem dX5_noise_21 : decode cX5_noise 21 = .ok (.aload_n 0, 1) := by decide +kernel
theorem dX5_noise_22 : decode cX5_noise 22 = .ok (.getfield 24, 3) := by decide +kernel
theorem dX5_noise_25 : decode cX5_noise 25 = .ok (.getfield 175, 3) := by decide +kernel
theorem dX5_noise_28 : decode cX5_noise 28 = .ok (.iconst 0, 1) := by decide +kernel
theorem dX5_noise_29 : decode cX5_noise 29 = .ok (.iaload, 1) := by decide +kernel
theorem dX5_noise_30 : decode cX5_noise 30 = .ok (.iadd, 1) := by decide +kernel
theorem dX5_noise_31 : decode cX5_noise 31 = .ok (.aload_n 0, 1) := by decide +kernel
theorem dX5_noise_32 : decode cX5_noise 32 = .ok (.getfield 28, 3) := by decide +kernel
theorem dX5_noise_35 : decode cX5_noise 35 = .ok (.getfield 175, 3) := by decide +kernel
theorem dX5_noise_38 : decode cX5_noise 38 = .ok (.iconst 0, 1) := by decide +kernel
theorem dX5_noise_39 : decode cX5_noise 39 = .ok (.iaload, 1) := by decide +kernel
theorem dX5_noise_40 : decode cX5_noise 40 = .ok (.iadd, 1) := by decide +kernel
theorem dX5_noise_41 : decode cX5_noise 41 = .ok (.istore_n 2, 1) := by decide +kernel
theorem dX5_noise_42 : decode cX5_noise 42 = .ok (.iload_n 2, 1) := by decide +kernel
theorem dX5_noise_43 : decode cX5_noise 43 = .ok (.ifCond .ne 7, 3) := by decide +kernel
theorem dX5_noise_46 : decode cX5_noise 46 = .ok (.fconst 0, 1) := by decide +kernel
theorem dX5_noise_47 : decode cX5_noise 47 = .ok (.goto 8, 3) := by decide +kernel
theorem dX5_noise_50 : decode cX5_noise 50 = .ok (.iload_n 1, 1) := by decide +kernel
theorem dX5_noise_51 : decode cX5_noise 51 = .ok (.i2f, 1) := by decide +kernel
theorem dX5_noise_52 : decode cX5_noise 52 = .ok (.iload_n 2, 1) := by decide +kernel
theorem dX5_noise_53 : decode cX5_noise 53 = .ok (.i2f, 1) := by decide +kernel
theorem dX5_noise_54 : decode cX5_noise 54 = .ok (.fdiv, 1) := by decide +kernel
theorem dX5_noise_55 : decode cX5_noise 55 = .ok (.freturn, 1) := by decide +kernel
theorem dX5_endAt_0 : decode cX5_endAt 0 = .ok (.iload_n 1, 1) := by decide +kernel
theorem dX5_endAt_1 : decode cX5_endAt 1 = .ok (.ifCond .eq 16, 3) := by decide +kernel
theorem dX5_endAt_4 : decode cX5_endAt 4 = .ok (.iload_n 1, 1) := by decide +kernel
theorem dX5_endAt_5 : decode cX5_endAt 5 = .ok (.iconst 1, 1) := by decide +kernel
theorem dX5_endAt_6 : decode cX5_endAt 6 = .ok (.if_icmp .eq 11, 3) := by decide +kernel
theorem dX5_endAt_9 : decode cX5_endAt 9 = .ok (.new 118, 3) := by decide +kernel
theorem dX5_endAt_12 : decode cX5_endAt 12 = .ok (.dup, 1) := by decide +kernel
theorem dX5_endAt_13 : decode cX5_endAt 13 = .ok (.invokespecial 120, 3) := by decide +kernel
theorem dX5_endAt_16 : decode cX5_endAt 16 = .ok (.athrow, 1) := by decide +kernel
theorem dX5_endAt_17 : decode cX5_endAt 17 = .ok (.iload_n 1, 1) := by decide +kernel
theorem dX5_endAt_18 : decode cX5_endAt 18 = .ok (.ifCond .ne 10, 3) := by decide +kernel
theorem dX5_endAt_21 : decode cX5_endAt 21 = .ok (.aload_n 0, 1) := by decide +kernel
theorem dX5_endAt_22 : decode cX5_endAt 22 = .ok (.getfield 24, 3) := by decide +kernel
theorem dX5_endAt_25 : decode cX5_endAt 25 = .ok (.goto 7, 3) := by decide +kernel
theorem dX5_endAt_28 : decode cX5_endAt 28 = .ok (.aload_n 0, 1) := by decide +kernel
theorem dX5_endAt_29 : decode cX5_endAt 29 = .ok (.getfield 28, 3) := by decide +kernel
theorem dX5_endAt_32 : decode cX5_endAt 32 = .ok (.areturn, 1) := by decide +kernel
theorem dX5_lineAt_0 : decode cX5_lineAt 0 = .ok (.iload_n 1, 1) := by decide +kernel
theorem dX5_lineAt_1 : decode cX5_lineAt 1 = .ok (.ifCond .eq 16, 3) := by decide +kernel
theorem dX5_lineAt_4 : decode cX5_lineAt 4 = .ok (.iload_n 1, 1) := by decide +kernel
theorem dX5_lineAt_5 : decode cX5_lineAt 5 = .ok (.iconst 1, 1) := by decide +kernel
theorem dX5_lineAt_6 : decode cX5_lineAt 6 = .ok (.if_icmp .eq 11, 3) := by decide +kernel
theorem dX5_lineAt_9 : decode cX5_lineAt 9 = .ok (.new 118, 3) := by decide +kernel
theorem dX5_lineAt_12 : decode cX5_lineAt 12 = .ok (.dup, 1) := by decide +kernel
theorem dX5_lineAt_13 : decode cX5_lineAt 13 = .ok (.invokespecial 120, 3) := by decide +kernel
theorem dX5_lineAt_16 : decode cX5_lineAt 16 = .ok (.athrow, 1) := by decide +kernel
theorem dX5_lineAt_17 : decode cX5_lineAt 17 = .ok (.iload_n 1, 1) := by decide +kernel
theorem dX5_lineAt_18 : decode cX5_lineAt 18 = .ok (.ifCond .ne 10, 3) := by decide +kernel
theorem dX5_lineAt_21 : decode cX5_lineAt 21 = .ok (.aload_n 0, 1) := by decide +kernel
theorem dX5_lineAt_22 : decode cX5_lineAt 22 = .ok (.getfield 10, 3) := by decide +kernel
theorem dX5_lineAt_25 : decode cX5_lineAt 25 = .ok (.goto 7, 3) := by decide +kernel
theorem dX5_lineAt_28 : decode cX5_lineAt 28 = .ok (.aload_n 0, 1) := by decide +kernel
theorem dX5_lineAt_29 : decode cX5_lineAt 29 = .ok (.getfield 16, 3) := by decide +kernel
theorem dX5_lineAt_32 : decode cX5_lineAt 32 = .ok (.areturn, 1) := by decide +kernel
theorem dX5_isByte_0 : decode cX5_isByte 0 = .ok (.iload_n 0, 1) := by decide +kernel
theorem dX5_isByte_1 : decode cX5_isByte 1 = .ok (.ifCond .lt 14, 3) := by decide +kernel
theorem dX5_isByte_4 : decode cX5_isByte 4 = .ok (.iload_n 0, 1) := by decide +kernel
theorem dX5_isByte_5 : decode cX5_isByte 5 = .ok (.sipush 255, 3) := by decide +kernel
theorem dX5_isByte_8 : decode cX5_isByte 8 = .ok (.if_icmp .gt 7, 3) := by decide +kernel
theorem dX5_isByte_11 : decode cX5_isByte 11 = .ok (.iconst 1, 1) := by decide +kernel
theorem dX5_isByte_12 : decode cX5_isByte 12 = .ok (.goto 4, 3) := by decide +kernel
theorem dX5_isByte_15 : decode cX5_isByte 15 = .ok (.iconst 0, 1) := by decide +kernel
theorem dX5_isByte_16 : decode cX5_isByte 16 = .ok (.ireturn, 1) := by decide +kernel
theorem dX5_isSize_0 : decode cX5_isSize 0 = .ok (.iload_n 0, 1) := by decide +kernel
theorem dX5_isSize_1 : decode cX5_isSize 1 = .ok (.bipush 64, 2) := by decide +kernel
theorem dX5_isSize_3 : decode cX5_isSize 3 = .ok (.if_icmp .lt 14, 3) := by decide +kernel
theorem dX5_isSize_6 : decode cX5_isSize 6 = .ok (.iload_n 0, 1) := by decide +kernel
theorem dX5_isSize_7 : decode cX5_isSize 7 = .ok (.sipush 1500, 3) := by decide +kernel
theorem dX5_isSize_10 : decode cX5_isSize 10 = .ok (.if_icmp .gt 7, 3) := by decide +kernel
theorem dX5_isSize_13 : decode cX5_isSize 13 = .ok (.iconst 1, 1) := by decide +kernel
theorem dX5_isSize_14 : decode cX5_isSize 14 = .ok (.goto 4, 3) := by decide +kernel
theorem dX5_isSize_17 : decode cX5_isSize 17 = .ok (.iconst 0, 1) := by decide +kernel
theorem dX5_isSize_18 : decode cX5_isSize 18 = .ok (.ireturn, 1) := by decide +kernel

theorem dX6_damage_0 : decode cX6_damage 0 = .ok (.aload_n 0, 1) := by decide +kernel
theorem dX6_damage_1 : decode cX6_damage 1 = .ok (.aload_n 0, 1) := by decide +kernel
theorem dX6_damage_2 : decode cX6_damage 2 = .ok (.iload_n 1, 1) := by decide +kernel
theorem dX6_damage_3 : decode cX6_damage 3 = .ok (.iload_n 2, 1) := by decide +kernel
theorem dX6_damage_4 : decode cX6_damage 4 = .ok (.invokevirtual 205, 3) := by decide +kernel
theorem dX6_damage_7 : decode cX6_damage 7 = .ok (.ifCond .ne 7, 3) := by decide +kernel
theorem dX6_damage_10 : decode cX6_damage 10 = .ok (.iconst 1, 1) := by decide +kernel
theorem dX6_damage_11 : decode cX6_damage 11 = .ok (.goto 19, 3) := by decide +kernel
theorem dX6_damage_14 : decode cX6_damage 14 = .ok (.iload_n 3, 1) := by decide +kernel
theorem dX6_damage_15 : decode cX6_damage 15 = .ok (.iconst 0, 1) := by decide +kernel
theorem dX6_damage_16 : decode cX6_damage 16 = .ok (.sipush 255, 3) := by decide +kernel
theorem dX6_damage_19 : decode cX6_damage 19 = .ok (.invokestatic 87, 3) := by decide +kernel
theorem dX6_damage_22 : decode cX6_damage 22 = .ok (.ifCond .ne 7, 3) := by decide +kernel
theorem dX6_damage_25 : decode cX6_damage 25 = .ok (.iconst 2, 1) := by decide +kernel
theorem dX6_damage_26 : decode cX6_damage 26 = .ok (.goto 4, 3) := by decide +kernel
theorem dX6_damage_29 : decode cX6_damage 29 = .ok (.iconst 0, 1) := by decide +kernel
theorem dX6_damage_30 : decode cX6_damage 30 = .ok (.putfield 83, 3) := by decide +kernel
theorem dX6_damage_33 : decode cX6_damage 33 = .ok (.aload_n 0, 1) := by decide +kernel
theorem dX6_damage_34 : decode cX6_damage 34 = .ok (.getfield 83, 3) := by decide +kernel
theorem dX6_damage_37 : decode cX6_damage 37 = .ok (.ifCond .le 5, 3) := by decide +kernel
theorem dX6_damage_40 : decode cX6_damage 40 = .ok (.iconst 0, 1) := by decide +kernel
theorem dX6_damage_41 : decode cX6_damage 41 = .ok (.ireturn, 1) := by decide +kernel
theorem dX6_damage_42 : decode cX6_damage 42 = .ok (.aload_n 0, 1) := by decide +kernel
theorem dX6_damage_43 : decode cX6_damage 43 = .ok (.getfield 53, 3) := by decide +kernel
theorem dX6_damage_46 : decode cX6_damage 46 = .ok (.sipush 300, 3) := by decide +kernel
theorem dX6_damage_49 : decode cX6_damage 49 = .ok (.iload_n 1, 1) := by decide +kernel
theorem dX6_damage_50 : decode cX6_damage 50 = .ok (.imul, 1) := by decide +kernel
theorem dX6_damage_51 : decode cX6_damage 51 = .ok (.iload_n 2, 1) := by decide +kernel
theorem dX6_damage_52 : decode cX6_damage 52 = .ok (.iadd, 1) := by decide +kernel
theorem dX6_damage_53 : decode cX6_damage 53 = .ok (.iaload, 1) := by decide +kernel
theorem dX6_damage_54 : decode cX6_damage 54 = .ok (.istore 4, 2) := by decide +kernel
theorem dX6_damage_56 : decode cX6_damage 56 = .ok (.aload_n 0, 1) := by decide +kernel
theorem dX6_damage_57 : decode cX6_damage 57 = .ok (.getfield 53, 3) := by decide +kernel
theorem dX6_damage_60 : decode cX6_damage 60 = .ok (.sipush 300, 3) := by decide +kernel
theorem dX6_damage_63 : decode cX6_damage 63 = .ok (.iload_n 1, 1) := by decide +kernel
theorem dX6_damage_64 : decode cX6_damage 64 = .ok (.imul, 1) := by decide +kernel
theorem dX6_damage_65 : decode cX6_damage 65 = .ok (.iload_n 2, 1) := by decide +kernel
theorem dX6_damage_66 : decode cX6_damage 66 = .ok (.iadd, 1) := by decide +kernel
theorem dX6_damage_67 : decode cX6_damage 67 = .ok (.iload 4, 2) := by decide +kernel
theorem dX6_damage_69 : decode cX6_damage 69 = .ok (.iload_n 3, 1) := by decide +kernel
theorem dX6_damage_70 : decode cX6_damage 70 = .ok (.ixor, 1) := by decide +kernel
theorem dX6_damage_71 : decode cX6_damage 71 = .ok (.iastore, 1) := by decide +kernel
theorem dX6_damage_72 : decode cX6_damage 72 = .ok (.iload 4, 2) := by decide +kernel
theorem dX6_damage_74 : decode cX6_damage 74 = .ok (.ireturn, 1) := by decide +kernel
theorem dX6_lose_0 : decode cX6_lose 0 = .ok (.aload_n 0, 1) := by decide +kernel
theorem dX6_lose_1 : decode cX6_lose 1 = .ok (.iload_n 1, 1) := by decide +kernel
theorem dX6_lose_2 : decode cX6_lose 2 = .ok (.invokestatic 196, 3) := by decide +kernel
theorem dX6_lose_5 : decode cX6_lose 5 = .ok (.ifCond .ne 7, 3) := by decide +kernel
theorem dX6_lose_8 : decode cX6_lose 8 = .ok (.iconst 1, 1) := by decide +kernel
theorem dX6_lose_9 : decode cX6_lose 9 = .ok (.goto 12, 3) := by decide +kernel
theorem dX6_lose_12 : decode cX6_lose 12 = .ok (.iload_n 2, 1) := by decide +kernel
theorem dX6_lose_13 : decode cX6_lose 13 = .ok (.ifCond .ge 7, 3) := by decide +kernel
theorem dX6_lose_16 : decode cX6_lose 16 = .ok (.iconst 2, 1) := by decide +kernel
theorem dX6_lose_17 : decode cX6_lose 17 = .ok (.goto 4, 3) := by decide +kernel
theorem dX6_lose_20 : decode cX6_lose 20 = .ok (.iconst 0, 1) := by decide +kernel
theorem dX6_lose_21 : decode cX6_lose 21 = .ok (.putfield 83, 3) := by decide +kernel
theorem dX6_lose_24 : decode cX6_lose 24 = .ok (.aload_n 0, 1) := by decide +kernel
theorem dX6_lose_25 : decode cX6_lose 25 = .ok (.getfield 83, 3) := by decide +kernel
theorem dX6_lose_28 : decode cX6_lose 28 = .ok (.ifCond .le 5, 3) := by decide +kernel
theorem dX6_lose_31 : decode cX6_lose 31 = .ok (.iconst 0, 1) := by decide +kernel
theorem dX6_lose_32 : decode cX6_lose 32 = .ok (.ireturn, 1) := by decide +kernel
theorem dX6_lose_33 : decode cX6_lose 33 = .ok (.iload_n 2, 1) := by decide +kernel
theorem dX6_lose_34 : decode cX6_lose 34 = .ok (.aload_n 0, 1) := by decide +kernel
theorem dX6_lose_35 : decode cX6_lose 35 = .ok (.getfield 50, 3) := by decide +kernel
theorem dX6_lose_38 : decode cX6_lose 38 = .ok (.iload_n 1, 1) := by decide +kernel
theorem dX6_lose_39 : decode cX6_lose 39 = .ok (.iaload, 1) := by decide +kernel
theorem dX6_lose_40 : decode cX6_lose 40 = .ok (.if_icmp .ge 7, 3) := by decide +kernel
theorem dX6_lose_43 : decode cX6_lose 43 = .ok (.iload_n 2, 1) := by decide +kernel
theorem dX6_lose_44 : decode cX6_lose 44 = .ok (.goto 9, 3) := by decide +kernel
theorem dX6_lose_47 : decode cX6_lose 47 = .ok (.aload_n 0, 1) := by decide +kernel
theorem dX6_lose_48 : decode cX6_lose 48 = .ok (.getfield 50, 3) := by decide +kernel
theorem dX6_lose_51 : decode cX6_lose 51 = .ok (.iload_n 1, 1) := by decide +kernel
theorem dX6_lose_52 : decode cX6_lose 52 = .ok (.iaload, 1) := by decide +kernel
theorem dX6_lose_53 : decode cX6_lose 53 = .ok (.istore_n 3, 1) := by decide +kernel
theorem dX6_lose_54 : decode cX6_lose 54 = .ok (.iconst 0, 1) := by decide +kernel
theorem dX6_lose_55 : decode cX6_lose 55 = .ok (.istore 4, 2) := by decide +kernel
theorem dX6_lose_57 : decode cX6_lose 57 = .ok (.iload 4, 2) := by decide +kernel
theorem dX6_lose_59 : decode cX6_lose 59 = .ok (.iload_n 3, 1) := by decide +kernel
theorem dX6_lose_60 : decode cX6_lose 60 = .ok (.if_icmp .ge 16, 3) := by decide +kernel
theorem dX6_lose_63 : decode cX6_lose 63 = .ok (.aload_n 0, 1) := by decide +kernel
theorem dX6_lose_64 : decode cX6_lose 64 = .ok (.iload_n 1, 1) := by decide +kernel
theorem dX6_lose_65 : decode cX6_lose 65 = .ok (.invokevirtual 199, 3) := by decide +kernel
theorem dX6_lose_68 : decode cX6_lose 68 = .ok (.istore 5, 2) := by decide +kernel
theorem dX6_lose_70 : decode cX6_lose 70 = .ok (.iinc 4 1, 3) := by decide +kernel
theorem dX6_lose_73 : decode cX6_lose 73 = .ok (.goto (-16), 3) := by decide +kernel
theorem dX6_lose_76 : decode cX6_lose 76 = .ok (.iload_n 3, 1) := by decide +kernel
theorem dX6_lose_77 : decode cX6_lose 77 = .ok (.ireturn, 1) := by decide +kernel
theorem dX6_loop_0 : decode cX6_loop 0 = .ok (.aload_n 0, 1) := by decide +kernel
theorem dX6_loop_1 : decode cX6_loop 1 = .ok (.iload_n 1, 1) := by decide +kernel
theorem dX6_loop_2 : decode cX6_loop 2 = .ok (.invokestatic 196, 3) := by decide +kernel
theorem dX6_loop_5 : decode cX6_loop 5 = .ok (.ifCond .eq 7, 3) := by decide +kernel
theorem dX6_loop_8 : decode cX6_loop 8 = .ok (.iconst 0, 1) := by decide +kernel
theorem dX6_loop_9 : decode cX6_loop 9 = .ok (.goto 4, 3) := by decide +kernel
theorem dX6_loop_12 : decode cX6_loop 12 = .ok (.iconst 1, 1) := by decide +kernel
theorem dX6_loop_13 : decode cX6_loop 13 = .ok (.putfield 83, 3) := by decide +kernel
theorem dX6_loop_16 : decode cX6_loop 16 = .ok (.aload_n 0, 1) := by decide +kernel
theorem dX6_loop_17 : decode cX6_loop 17 = .ok (.getfield 83, 3) := by decide +kernel
theorem dX6_loop_20 : decode cX6_loop 20 = .ok (.ifCond .le 5, 3) := by decide +kernel
theorem dX6_loop_23 : decode cX6_loop 23 = .ok (.iconst 0, 1) := by decide +kernel
theorem dX6_loop_24 : decode cX6_loop 24 = .ok (.ireturn, 1) := by decide +kernel
theorem dX6_loop_25 : decode cX6_loop 25 = .ok (.aload_n 0, 1) := by decide +kernel
theorem dX6_loop_26 : decode cX6_loop 26 = .ok (.getfield 56, 3) := by decide +kernel
theorem dX6_loop_29 : decode cX6_loop 29 = .ok (.iload_n 1, 1) := by decide +kernel
theorem dX6_loop_30 : decode cX6_loop 30 = .ok (.baload, 1) := by decide +kernel
theorem dX6_loop_31 : decode cX6_loop 31 = .ok (.istore_n 3, 1) := by decide +kernel
theorem dX6_loop_32 : decode cX6_loop 32 = .ok (.aload_n 0, 1) := by decide +kernel
theorem dX6_loop_33 : decode cX6_loop 33 = .ok (.getfield 56, 3) := by decide +kernel
theorem dX6_loop_36 : decode cX6_loop 36 = .ok (.iload_n 1, 1) := by decide +kernel
theorem dX6_loop_37 : decode cX6_loop 37 = .ok (.iload_n 2, 1) := by decide +kernel
theorem dX6_loop_38 : decode cX6_loop 38 = .ok (.bastore, 1) := by decide +kernel
theorem dX6_loop_39 : decode cX6_loop 39 = .ok (.iload_n 3, 1) := by decide +kernel
theorem dX6_loop_40 : decode cX6_loop 40 = .ok (.ireturn, 1) := by decide +kernel
theorem dX6_send_0 : decode cX6_send 0 = .ok (.aload_n 0, 1) := by decide +kernel
theorem dX6_send_1 : decode cX6_send 1 = .ok (.iload_n 1, 1) := by decide +kernel
theorem dX6_send_2 : decode cX6_send 2 = .ok (.invokestatic 196, 3) := by decide +kernel
theorem dX6_send_5 : decode cX6_send 5 = .ok (.ifCond .ne 7, 3) := by decide +kernel
theorem dX6_send_8 : decode cX6_send 8 = .ok (.iconst 1, 1) := by decide +kernel
theorem dX6_send_9 : decode cX6_send 9 = .ok (.goto 44, 3) := by decide +kernel
theorem dX6_send_12 : decode cX6_send 12 = .ok (.iload_n 2, 1) := by decide +kernel
theorem dX6_send_13 : decode cX6_send 13 = .ok (.iconst 2, 1) := by decide +kernel
theorem dX6_send_14 : decode cX6_send 14 = .ok (.bipush 20, 2) := by decide +kernel
theorem dX6_send_16 : decode cX6_send 16 = .ok (.invokestatic 87, 3) := by decide +kernel
theorem dX6_send_19 : decode cX6_send 19 = .ok (.ifCond .eq 14, 3) := by decide +kernel
theorem dX6_send_22 : decode cX6_send 22 = .ok (.iload_n 3, 1) := by decide +kernel
theorem dX6_send_23 : decode cX6_send 23 = .ok (.iconst 0, 1) := by decide +kernel
theorem dX6_send_24 : decode cX6_send 24 = .ok (.sipush 255, 3) := by decide +kernel
theorem dX6_send_27 : decode cX6_send 27 = .ok (.invokestatic 87, 3) := by decide +kernel
theorem dX6_send_30 : decode cX6_send 30 = .ok (.ifCond .ne 7, 3) := by decide +kernel
theorem dX6_send_33 : decode cX6_send 33 = .ok (.iconst 2, 1) := by decide +kernel
theorem dX6_send_34 : decode cX6_send 34 = .ok (.goto 19, 3) := by decide +kernel
theorem dX6_send_37 : decode cX6_send 37 = .ok (.aload_n 0, 1) := by decide +kernel
theorem dX6_send_38 : decode cX6_send 38 = .ok (.getfield 13, 3) := by decide +kernel
theorem dX6_send_41 : decode cX6_send 41 = .ok (.iload_n 1, 1) := by decide +kernel
theorem dX6_send_42 : decode cX6_send 42 = .ok (.iaload, 1) := by decide +kernel
theorem dX6_send_43 : decode cX6_send 43 = .ok (.bipush 9, 2) := by decide +kernel
theorem dX6_send_45 : decode cX6_send 45 = .ok (.if_icmp .eq 7, 3) := by decide +kernel
theorem dX6_send_48 : decode cX6_send 48 = .ok (.iconst 3, 1) := by decide +kernel
theorem dX6_send_49 : decode cX6_send 49 = .ok (.goto 4, 3) := by decide +kernel
theorem dX6_send_52 : decode cX6_send 52 = .ok (.iconst 0, 1) := by decide +kernel
theorem dX6_send_53 : decode cX6_send 53 = .ok (.putfield 83, 3) := by decide +kernel
theorem dX6_send_56 : decode cX6_send 56 = .ok (.aload_n 0, 1) := by decide +kernel
theorem dX6_send_57 : decode cX6_send 57 = .ok (.getfield 83, 3) := by decide +kernel
theorem dX6_send_60 : decode cX6_send 60 = .ok (.ifCond .le 5, 3) := by decide +kernel
theorem dX6_send_63 : decode cX6_send 63 = .ok (.iconst 0, 1) := by decide +kernel
theorem dX6_send_64 : decode cX6_send 64 = .ok (.ireturn, 1) := by decide +kernel
theorem dX6_send_65 : decode cX6_send 65 = .ok (.aload_n 0, 1) := by decide +kernel
theorem dX6_send_66 : decode cX6_send 66 = .ok (.iconst 0, 1) := by decide +kernel
theorem dX6_send_67 : decode cX6_send 67 = .ok (.putfield 92, 3) := by decide +kernel
theorem dX6_send_70 : decode cX6_send 70 = .ok (.aload_n 0, 1) := by decide +kernel
theorem dX6_send_71 : decode cX6_send 71 = .ok (.iconst 2, 1) := by decide +kernel
theorem dX6_send_72 : decode cX6_send 72 = .ok (.invokevirtual 95, 3) := by decide +kernel
theorem dX6_send_75 : decode cX6_send 75 = .ok (.iconst 0, 1) := by decide +kernel
theorem dX6_send_76 : decode cX6_send 76 = .ok (.istore 4, 2) := by decide +kernel
theorem dX6_send_78 : decode cX6_send 78 = .ok (.iload 4, 2) := by decide +kernel
theorem dX6_send_80 : decode cX6_send 80 = .ok (.iload_n 2, 1) := by decide +kernel
theorem dX6_send_81 : decode cX6_send 81 = .ok (.if_icmp .ge 21, 3) := by decide +kernel
theorem dX6_send_84 : decode cX6_send 84 = .ok (.aload_n 0, 1) := by decide +kernel
theorem dX6_send_85 : decode cX6_send 85 = .ok (.iload_n 3, 1) := by decide +kernel
theorem dX6_send_86 : decode cX6_send 86 = .ok (.iload 4, 2) := by decide +kernel
theorem dX6_send_88 : decode cX6_send 88 = .ok (.iadd, 1) := by decide +kernel
theorem dX6_send_89 : decode cX6_send 89 = .ok (.sipush 255, 3) := by decide +kernel
theorem dX6_send_92 : decode cX6_send 92 = .ok (.iand, 1) := by decide +kernel
theorem dX6_send_93 : decode cX6_send 93 = .ok (.invokevirtual 95, 3) := by decide +kernel
theorem dX6_send_96 : decode cX6_send 96 = .ok (.iinc 4 1, 3) := by decide +kernel
theorem dX6_send_99 : decode cX6_send 99 = .ok (.goto (-21), 3) := by decide +kernel
theorem dX6_send_102 : decode cX6_send 102 = .ok (.aload_n 0, 1) := by decide +kernel
theorem dX6_send_103 : decode cX6_send 103 = .ok (.iload_n 1, 1) := by decide +kernel
theorem dX6_send_104 : decode cX6_send 104 = .ok (.invokevirtual 125, 3) := by decide +kernel
theorem dX6_send_107 : decode cX6_send 107 = .ok (.aload_n 0, 1) := by decide +kernel
theorem dX6_send_108 : decode cX6_send 108 = .ok (.getfield 50, 3) := by decide +kernel
theorem dX6_send_111 : decode cX6_send 111 = .ok (.iload_n 1, 1) := by decide +kernel
theorem dX6_send_112 : decode cX6_send 112 = .ok (.iaload, 1) := by decide +kernel
theorem dX6_send_113 : decode cX6_send 113 = .ok (.ireturn, 1) := by decide +kernel
theorem dX6_echo_0 : decode cX6_echo 0 = .ok (.aload_n 0, 1) := by decide +kernel
theorem dX6_echo_1 : decode cX6_echo 1 = .ok (.iload_n 1, 1) := by decide +kernel
theorem dX6_echo_2 : decode cX6_echo 2 = .ok (.invokestatic 196, 3) := by decide +kernel
theorem dX6_echo_5 : decode cX6_echo 5 = .ok (.ifCond .ne 7, 3) := by decide +kernel
theorem dX6_echo_8 : decode cX6_echo 8 = .ok (.iconst 1, 1) := by decide +kernel
theorem dX6_echo_9 : decode cX6_echo 9 = .ok (.goto 19, 3) := by decide +kernel
theorem dX6_echo_12 : decode cX6_echo 12 = .ok (.aload_n 0, 1) := by decide +kernel
theorem dX6_echo_13 : decode cX6_echo 13 = .ok (.getfield 13, 3) := by decide +kernel
theorem dX6_echo_16 : decode cX6_echo 16 = .ok (.iload_n 1, 1) := by decide +kernel
theorem dX6_echo_17 : decode cX6_echo 17 = .ok (.iaload, 1) := by decide +kernel
theorem dX6_echo_18 : decode cX6_echo 18 = .ok (.bipush 9, 2) := by decide +kernel
theorem dX6_echo_20 : decode cX6_echo 20 = .ok (.if_icmp .eq 7, 3) := by decide +kernel
theorem dX6_echo_23 : decode cX6_echo 23 = .ok (.iconst 2, 1) := by decide +kernel
theorem dX6_echo_24 : decode cX6_echo 24 = .ok (.goto 4, 3) := by decide +kernel
theorem dX6_echo_27 : decode cX6_echo 27 = .ok (.iconst 0, 1) := by decide +kernel
theorem dX6_echo_28 : decode cX6_echo 28 = .ok (.putfield 83, 3) := by decide +kernel
theorem dX6_echo_31 : decode cX6_echo 31 = .ok (.aload_n 0, 1) := by decide +kernel
theorem dX6_echo_32 : decode cX6_echo 32 = .ok (.getfield 83, 3) := by decide +kernel
theorem dX6_echo_35 : decode cX6_echo 35 = .ok (.ifCond .le 5, 3) := by decide +kernel
theorem dX6_echo_38 : decode cX6_echo 38 = .ok (.iconst 0, 1) := by decide +kernel
theorem dX6_echo_39 : decode cX6_echo 39 = .ok (.ireturn, 1) := by decide +kernel
theorem dX6_echo_40 : decode cX6_echo 40 = .ok (.aload_n 0, 1) := by decide +kernel
theorem dX6_echo_41 : decode cX6_echo 41 = .ok (.bipush 9, 2) := by decide +kernel
theorem dX6_echo_43 : decode cX6_echo 43 = .ok (.aload_n 0, 1) := by decide +kernel
theorem dX6_echo_44 : decode cX6_echo 44 = .ok (.iload_n 1, 1) := by decide +kernel
theorem dX6_echo_45 : decode cX6_echo 45 = .ok (.invokevirtual 115, 3) := by decide +kernel
theorem dX6_echo_48 : decode cX6_echo 48 = .ok (.invokevirtual 119, 3) := by decide +kernel
theorem dX6_echo_51 : decode cX6_echo 51 = .ok (.aload_n 0, 1) := by decide +kernel
theorem dX6_echo_52 : decode cX6_echo 52 = .ok (.aload_n 0, 1) := by decide +kernel
theorem dX6_echo_53 : decode cX6_echo 53 = .ok (.getfield 22, 3) := by decide +kernel
theorem dX6_echo_56 : decode cX6_echo 56 = .ok (.iload_n 1, 1) := by decide +kernel
theorem dX6_echo_57 : decode cX6_echo 57 = .ok (.iaload, 1) := by decide +kernel
theorem dX6_echo_58 : decode cX6_echo 58 = .ok (.invokevirtual 122, 3) := by decide +kernel
theorem dX6_echo_61 : decode cX6_echo 61 = .ok (.aload_n 0, 1) := by decide +kernel
theorem dX6_echo_62 : decode cX6_echo 62 = .ok (.iload_n 1, 1) := by decide +kernel
theorem dX6_echo_63 : decode cX6_echo 63 = .ok (.invokevirtual 125, 3) := by decide +kernel
theorem dX6_echo_66 : decode cX6_echo 66 = .ok (.aload_n 0, 1) := by decide +kernel
theorem dX6_echo_67 : decode cX6_echo 67 = .ok (.getfield 25, 3) := by decide +kernel
theorem dX6_echo_70 : decode cX6_echo 70 = .ok (.iload_n 1, 1) := by decide +kernel
theorem dX6_echo_71 : decode cX6_echo 71 = .ok (.iaload, 1) := by decide +kernel
theorem dX6_echo_72 : decode cX6_echo 72 = .ok (.ireturn, 1) := by decide +kernel
theorem dX6_data_0 : decode cX6_data 0 = .ok (.aload_n 0, 1) := by decide +kernel
theorem dX6_data_1 : decode cX6_data 1 = .ok (.iload_n 1, 1) := by decide +kernel
theorem dX6_data_2 : decode cX6_data 2 = .ok (.invokestatic 196, 3) := by decide +kernel
theorem dX6_data_5 : decode cX6_data 5 = .ok (.ifCond .eq 7, 3) := by decide +kernel
theorem dX6_data_8 : decode cX6_data 8 = .ok (.iconst 0, 1) := by decide +kernel
theorem dX6_data_9 : decode cX6_data 9 = .ok (.goto 4, 3) := by decide +kernel
theorem dX6_data_12 : decode cX6_data 12 = .ok (.iconst 1, 1) := by decide +kernel
theorem dX6_data_13 : decode cX6_data 13 = .ok (.putfield 83, 3) := by decide +kernel
theorem dX6_data_16 : decode cX6_data 16 = .ok (.aload_n 0, 1) := by decide +kernel
theorem dX6_data_17 : decode cX6_data 17 = .ok (.getfield 83, 3) := by decide +kernel
theorem dX6_data_20 : decode cX6_data 20 = .ok (.ifCond .ne 33, 3) := by decide +kernel
theorem dX6_data_23 : decode cX6_data 23 = .ok (.iload_n 2, 1) := by decide +kernel
theorem dX6_data_24 : decode cX6_data 24 = .ok (.iconst 0, 1) := by decide +kernel
theorem dX6_data_25 : decode cX6_data 25 = .ok (.aload_n 0, 1) := by decide +kernel
theorem dX6_data_26 : decode cX6_data 26 = .ok (.getfield 68, 3) := by decide +kernel
theorem dX6_data_29 : decode cX6_data 29 = .ok (.iload_n 1, 1) := by decide +kernel
theorem dX6_data_30 : decode cX6_data 30 = .ok (.iaload, 1) := by decide +kernel
theorem dX6_data_31 : decode cX6_data 31 = .ok (.iconst 1, 1) := by decide +kernel
theorem dX6_data_32 : decode cX6_data 32 = .ok (.isub, 1) := by decide +kernel
theorem dX6_data_33 : decode cX6_data 33 = .ok (.invokestatic 87, 3) := by decide +kernel
theorem dX6_data_36 : decode cX6_data 36 = .ok (.ifCond .eq 17, 3) := by decide +kernel
theorem dX6_data_39 : decode cX6_data 39 = .ok (.aload_n 0, 1) := by decide +kernel
theorem dX6_data_40 : decode cX6_data 40 = .ok (.getfield 71, 3) := by decide +kernel
theorem dX6_data_43 : decode cX6_data 43 = .ok (.bipush 40, 2) := by decide +kernel
theorem dX6_data_45 : decode cX6_data 45 = .ok (.iload_n 1, 1) := by decide +kernel
theorem dX6_data_46 : decode cX6_data 46 = .ok (.imul, 1) := by decide +kernel
theorem dX6_data_47 : decode cX6_data 47 = .ok (.iload_n 2, 1) := by decide +kernel
theorem dX6_data_48 : decode cX6_data 48 = .ok (.iadd, 1) := by decide +kernel
theorem dX6_data_49 : decode cX6_data 49 = .ok (.iaload, 1) := by decide +kernel
theorem dX6_data_50 : decode cX6_data 50 = .ok (.goto 15, 3) := by decide +kernel
theorem dX6_data_53 : decode cX6_data 53 = .ok (.aload_n 0, 1) := by decide +kernel
theorem dX6_data_54 : decode cX6_data 54 = .ok (.getfield 83, 3) := by decide +kernel
theorem dX6_data_57 : decode cX6_data 57 = .ok (.ifCond .le 7, 3) := by decide +kernel
theorem dX6_data_60 : decode cX6_data 60 = .ok (.iconst 0, 1) := by decide +kernel
theorem dX6_data_61 : decode cX6_data 61 = .ok (.goto 4, 3) := by decide +kernel
theorem dX6_data_64 : decode cX6_data 64 = .ok (.iconst (-1), 1) := by decide +kernel
theorem dX6_data_65 : decode cX6_data 65 = .ok (.ireturn, 1) := by decide +kernel
theorem dX6_look_0 : decode cX6_look 0 = .ok (.aload_n 0, 1) := by decide +kernel
theorem dX6_look_1 : decode cX6_look 1 = .ok (.aload_n 0, 1) := by decide +kernel
theorem dX6_look_2 : decode cX6_look 2 = .ok (.iload_n 1, 1) := by decide +kernel
theorem dX6_look_3 : decode cX6_look 3 = .ok (.iload_n 2, 1) := by decide +kernel
theorem dX6_look_4 : decode cX6_look 4 = .ok (.invokevirtual 205, 3) := by decide +kernel
theorem dX6_look_7 : decode cX6_look 7 = .ok (.ifCond .eq 7, 3) := by decide +kernel
theorem dX6_look_10 : decode cX6_look 10 = .ok (.iconst 0, 1) := by decide +kernel
theorem dX6_look_11 : decode cX6_look 11 = .ok (.goto 4, 3) := by decide +kernel
theorem dX6_look_14 : decode cX6_look 14 = .ok (.iconst 1, 1) := by decide +kernel
theorem dX6_look_15 : decode cX6_look 15 = .ok (.putfield 83, 3) := by decide +kernel
theorem dX6_look_18 : decode cX6_look 18 = .ok (.aload_n 0, 1) := by decide +kernel
theorem dX6_look_19 : decode cX6_look 19 = .ok (.getfield 83, 3) := by decide +kernel
theorem dX6_look_22 : decode cX6_look 22 = .ok (.ifCond .le 7, 3) := by decide +kernel
theorem dX6_look_25 : decode cX6_look 25 = .ok (.iconst 0, 1) := by decide +kernel
theorem dX6_look_26 : decode cX6_look 26 = .ok (.goto 15, 3) := by decide +kernel
theorem dX6_look_29 : decode cX6_look 29 = .ok (.aload_n 0, 1) := by decide +kernel
theorem dX6_look_30 : decode cX6_look 30 = .ok (.getfield 53, 3) := by decide +kernel
theorem dX6_look_33 : decode cX6_look 33 = .ok (.sipush 300, 3) := by decide +kernel
theorem dX6_look_36 : decode cX6_look 36 = .ok (.iload_n 1, 1) := by decide +kernel
theorem dX6_look_37 : decode cX6_look 37 = .ok (.imul, 1) := by decide +kernel
theorem dX6_look_38 : decode cX6_look 38 = .ok (.iload_n 2, 1) := by decide +kernel
theorem dX6_look_39 : decode cX6_look 39 = .ok (.iadd, 1) := by decide +kernel
theorem dX6_look_40 : decode cX6_look 40 = .ok (.iaload, 1) := by decide +kernel
theorem dX6_look_41 : decode cX6_look 41 = .ok (.ireturn, 1) := by decide +kernel
theorem dX6_asks_0 : decode cX6_asks 0 = .ok (.aload_n 0, 1) := by decide +kernel
theorem dX6_asks_1 : decode cX6_asks 1 = .ok (.getfield 34, 3) := by decide +kernel
theorem dX6_asks_4 : decode cX6_asks 4 = .ok (.iload_n 1, 1) := by decide +kernel
theorem dX6_asks_5 : decode cX6_asks 5 = .ok (.baload, 1) := by decide +kernel
theorem dX6_asks_6 : decode cX6_asks 6 = .ok (.ifCond .eq 7, 3) := by decide +kernel
theorem dX6_asks_9 : decode cX6_asks 9 = .ok (.iconst 1, 1) := by decide +kernel
theorem dX6_asks_10 : decode cX6_asks 10 = .ok (.goto 4, 3) := by decide +kernel
theorem dX6_asks_13 : decode cX6_asks 13 = .ok (.iconst 0, 1) := by decide +kernel
theorem dX6_asks_14 : decode cX6_asks 14 = .ok (.aload_n 0, 1) := by decide +kernel
theorem dX6_asks_15 : decode cX6_asks 15 = .ok (.getfield 38, 3) := by decide +kernel
theorem dX6_asks_18 : decode cX6_asks 18 = .ok (.iload_n 1, 1) := by decide +kernel
theorem dX6_asks_19 : decode cX6_asks 19 = .ok (.baload, 1) := by decide +kernel
theorem dX6_asks_20 : decode cX6_asks 20 = .ok (.ifCond .eq 7, 3) := by decide +kernel
theorem dX6_asks_23 : decode cX6_asks 23 = .ok (.iconst 2, 1) := by decide +kernel
theorem dX6_asks_24 : decode cX6_asks 24 = .ok (.goto 4, 3) := by decide +kernel
theorem dX6_asks_27 : decode cX6_asks 27 = .ok (.iconst 0, 1) := by decide +kernel
theorem dX6_asks_28 : decode cX6_asks 28 = .ok (.iadd, 1) := by decide +kernel
theorem dX6_asks_29 : decode cX6_asks 29 = .ok (.ireturn, 1) := by decide +kernel
theorem dX6_about_0 : decode cX6_about 0 = .ok (.aload_n 0, 1) := by decide +kernel
theorem dX6_about_1 : decode cX6_about 1 = .ok (.iload_n 1, 1) := by decide +kernel
theorem dX6_about_2 : decode cX6_about 2 = .ok (.invokestatic 196, 3) := by decide +kernel
theorem dX6_about_5 : decode cX6_about 5 = .ok (.ifCond .ne 7, 3) := by decide +kernel
theorem dX6_about_8 : decode cX6_about 8 = .ok (.iconst 1, 1) := by decide +kernel
theorem dX6_about_9 : decode cX6_about 9 = .ok (.goto 18, 3) := by decide +kernel
theorem dX6_about_12 : decode cX6_about 12 = .ok (.iload_n 2, 1) := by decide +kernel
theorem dX6_about_13 : decode cX6_about 13 = .ok (.iconst 0, 1) := by decide +kernel
theorem dX6_about_14 : decode cX6_about 14 = .ok (.bipush 8, 2) := by decide +kernel
theorem dX6_about_16 : decode cX6_about 16 = .ok (.invokestatic 87, 3) := by decide +kernel
theorem dX6_about_19 : decode cX6_about 19 = .ok (.ifCond .ne 7, 3) := by decide +kernel
theorem dX6_about_22 : decode cX6_about 22 = .ok (.iconst 2, 1) := by decide +kernel
theorem dX6_about_23 : decode cX6_about 23 = .ok (.goto 4, 3) := by decide +kernel
theorem dX6_about_26 : decode cX6_about 26 = .ok (.iconst 0, 1) := by decide +kernel
theorem dX6_about_27 : decode cX6_about 27 = .ok (.putfield 83, 3) := by decide +kernel
theorem dX6_about_30 : decode cX6_about 30 = .ok (.aload_n 0, 1) := by decide +kernel
theorem dX6_about_31 : decode cX6_about 31 = .ok (.getfield 83, 3) := by decide +kernel
theorem dX6_about_34 : decode cX6_about 34 = .ok (.ifCond .le 5, 3) := by decide +kernel
theorem dX6_about_37 : decode cX6_about 37 = .ok (.iconst 0, 1) := by decide +kernel
theorem dX6_about_38 : decode cX6_about 38 = .ok (.ireturn, 1) := by decide +kernel
theorem dX6_about_39 : decode cX6_about 39 = .ok (.iload_n 2, 1) := by decide +kernel
theorem dX6_about_40 : decode cX6_about 40 = .ok (.tableswitch 103 0 7 #[48, 55, 62, 69, 76, 83, 90, 96], 48) := by decide +kernel
theorem dX6_about_88 : decode cX6_about 88 = .ok (.aload_n 0, 1) := by decide +kernel
theorem dX6_about_89 : decode cX6_about 89 = .ok (.getfield 13, 3) := by decide +kernel
theorem dX6_about_92 : decode cX6_about 92 = .ok (.iload_n 1, 1) := by decide +kernel
theorem dX6_about_93 : decode cX6_about 93 = .ok (.iaload, 1) := by decide +kernel
theorem dX6_about_94 : decode cX6_about 94 = .ok (.ireturn, 1) := by decide +kernel
theorem dX6_about_95 : decode cX6_about 95 = .ok (.aload_n 0, 1) := by decide +kernel
theorem dX6_about_96 : decode cX6_about 96 = .ok (.getfield 16, 3) := by decide +kernel
theorem dX6_about_99 : decode cX6_about 99 = .ok (.iload_n 1, 1) := by decide +kernel
theorem dX6_about_100 : decode cX6_about 100 = .ok (.iaload, 1) := by decide +kernel
theorem dX6_about_101 : decode cX6_about 101 = .ok (.ireturn, 1) := by decide +kernel
theorem dX6_about_102 : decode cX6_about 102 = .ok (.aload_n 0, 1) := by decide +kernel
theorem dX6_about_103 : decode cX6_about 103 = .ok (.getfield 22, 3) := by decide +kernel
theorem dX6_about_106 : decode cX6_about 106 = .ok (.iload_n 1, 1) := by decide +kernel
theorem dX6_about_107 : decode cX6_about 107 = .ok (.iaload, 1) := by decide +kernel
theorem dX6_about_108 : decode cX6_about 108 = .ok (.ireturn, 1) := by decide +kernel
theorem dX6_about_109 : decode cX6_about 109 = .ok (.aload_n 0, 1) := by decide +kernel
theorem dX6_about_110 : decode cX6_about 110 = .ok (.getfield 25, 3) := by decide +kernel
theorem dX6_about_113 : decode cX6_about 113 = .ok (.iload_n 1, 1) := by decide +kernel
theorem dX6_about_114 : decode cX6_about 114 = .ok (.iaload, 1) := by decide +kernel
theorem dX6_about_115 : decode cX6_about 115 = .ok (.ireturn, 1) := by decide +kernel
theorem dX6_about_116 : decode cX6_about 116 = .ok (.aload_n 0, 1) := by decide +kernel
theorem dX6_about_117 : decode cX6_about 117 = .ok (.getfield 28, 3) := by decide +kernel
theorem dX6_about_120 : decode cX6_about 120 = .ok (.iload_n 1, 1) := by decide +kernel
theorem dX6_about_121 : decode cX6_about 121 = .ok (.iaload, 1) := by decide +kernel
theorem dX6_about_122 : decode cX6_about 122 = .ok (.ireturn, 1) := by decide +kernel
theorem dX6_about_123 : decode cX6_about 123 = .ok (.aload_n 0, 1) := by decide +kernel
theorem dX6_about_124 : decode cX6_about 124 = .ok (.getfield 31, 3) := by decide +kernel
theorem dX6_about_127 : decode cX6_about 127 = .ok (.iload_n 1, 1) := by decide +kernel
theorem dX6_about_128 : decode cX6_about 128 = .ok (.iaload, 1) := by decide +kernel
theorem dX6_about_129 : decode cX6_about 129 = .ok (.ireturn, 1) := by decide +kernel
theorem dX6_about_130 : decode cX6_about 130 = .ok (.aload_n 0, 1) := by decide +kernel
theorem dX6_about_131 : decode cX6_about 131 = .ok (.iload_n 1, 1) := by decide +kernel
theorem dX6_about_132 : decode cX6_about 132 = .ok (.invokevirtual 208, 3) := by decide +kernel
theorem dX6_about_135 : decode cX6_about 135 = .ok (.ireturn, 1) := by decide +kernel
theorem dX6_about_136 : decode cX6_about 136 = .ok (.aload_n 0, 1) := by decide +kernel
theorem dX6_about_137 : decode cX6_about 137 = .ok (.getfield 50, 3) := by decide +kernel
theorem dX6_about_140 : decode cX6_about 140 = .ok (.iload_n 1, 1) := by decide +kernel
theorem dX6_about_141 : decode cX6_about 141 = .ok (.iaload, 1) := by decide +kernel
theorem dX6_about_142 : decode cX6_about 142 = .ok (.ireturn, 1) := by decide +kernel
theorem dX6_about_143 : decode cX6_about 143 = .ok (.aload_n 0, 1) := by decide +kernel
theorem dX6_about_144 : decode cX6_about 144 = .ok (.getfield 59, 3) := by decide +kernel
theorem dX6_about_147 : decode cX6_about 147 = .ok (.iload_n 1, 1) := by decide +kernel
theorem dX6_about_148 : decode cX6_about 148 = .ok (.iaload, 1) := by decide +kernel
theorem dX6_about_149 : decode cX6_about 149 = .ok (.bipush 40, 2) := by decide +kernel
theorem dX6_about_151 : decode cX6_about 151 = .ok (.if_icmp .ge 12, 3) := by decide +kernel
theorem dX6_about_154 : decode cX6_about 154 = .ok (.aload_n 0, 1) := by decide +kernel
theorem dX6_about_155 : decode cX6_about 155 = .ok (.getfield 59, 3) := by decide +kernel
theorem dX6_about_158 : decode cX6_about 158 = .ok (.iload_n 1, 1) := by decide +kernel
theorem dX6_about_159 : decode cX6_about 159 = .ok (.iaload, 1) := by decide +kernel
theorem dX6_about_160 : decode cX6_about 160 = .ok (.goto 5, 3) := by decide +kernel
theorem dX6_about_163 : decode cX6_about 163 = .ok (.bipush 40, 2) := by decide +kernel
theorem dX6_about_165 : decode cX6_about 165 = .ok (.ireturn, 1) := by decide +kernel
theorem dX6_count_0 : decode cX6_count 0 = .ok (.aload_n 0, 1) := by decide +kernel
theorem dX6_count_1 : decode cX6_count 1 = .ok (.iload_n 1, 1) := by decide +kernel
theorem dX6_count_2 : decode cX6_count 2 = .ok (.invokestatic 196, 3) := by decide +kernel
theorem dX6_count_5 : decode cX6_count 5 = .ok (.ifCond .ne 7, 3) := by decide +kernel
theorem dX6_count_8 : decode cX6_count 8 = .ok (.iconst 1, 1) := by decide +kernel
theorem dX6_count_9 : decode cX6_count 9 = .ok (.goto 17, 3) := by decide +kernel
theorem dX6_count_12 : decode cX6_count 12 = .ok (.iload_n 2, 1) := by decide +kernel
theorem dX6_count_13 : decode cX6_count 13 = .ok (.iconst 0, 1) := by decide +kernel
theorem dX6_count_14 : decode cX6_count 14 = .ok (.iconst 5, 1) := by decide +kernel
theorem dX6_count_15 : decode cX6_count 15 = .ok (.invokestatic 87, 3) := by decide +kernel
theorem dX6_count_18 : decode cX6_count 18 = .ok (.ifCond .ne 7, 3) := by decide +kernel
theorem dX6_count_21 : decode cX6_count 21 = .ok (.iconst 2, 1) := by decide +kernel
theorem dX6_count_22 : decode cX6_count 22 = .ok (.goto 4, 3) := by decide +kernel
theorem dX6_count_25 : decode cX6_count 25 = .ok (.iconst 0, 1) := by decide +kernel
theorem dX6_count_26 : decode cX6_count 26 = .ok (.putfield 83, 3) := by decide +kernel
theorem dX6_count_29 : decode cX6_count 29 = .ok (.aload_n 0, 1) := by decide +kernel
theorem dX6_count_30 : decode cX6_count 30 = .ok (.getfield 83, 3) := by decide +kernel
theorem dX6_count_33 : decode cX6_count 33 = .ok (.ifCond .le 7, 3) := by decide +kernel
theorem dX6_count_36 : decode cX6_count 36 = .ok (.iconst 0, 1) := by decide +kernel
theorem dX6_count_37 : decode cX6_count 37 = .ok (.goto 14, 3) := by decide +kernel
theorem dX6_count_40 : decode cX6_count 40 = .ok (.aload_n 0, 1) := by decide +kernel
theorem dX6_count_41 : decode cX6_count 41 = .ok (.getfield 74, 3) := by decide +kernel
theorem dX6_count_44 : decode cX6_count 44 = .ok (.bipush 6, 2) := by decide +kernel
theorem dX6_count_46 : decode cX6_count 46 = .ok (.iload_n 1, 1) := by decide +kernel
theorem dX6_count_47 : decode cX6_count 47 = .ok (.imul, 1) := by decide +kernel
theorem dX6_count_48 : decode cX6_count 48 = .ok (.iload_n 2, 1) := by decide +kernel
theorem dX6_count_49 : decode cX6_count 49 = .ok (.iadd, 1) := by decide +kernel
theorem dX6_count_50 : decode cX6_count 50 = .ok (.iaload, 1) := by decide +kernel
theorem dX6_count_51 : decode cX6_count 51 = .ok (.ireturn, 1) := by decide +kernel
theorem dX6_noise_0 : decode cX6_noise 0 = .ok (.aload_n 0, 1) := by decide +kernel
theorem dX6_noise_1 : decode cX6_noise 1 = .ok (.iconst 0, 1) := by decide +kernel
theorem dX6_noise_2 : decode cX6_noise 2 = .ok (.putfield 83, 3) := by decide +kernel
theorem dX6_noise_5 : decode cX6_noise 5 = .ok (.aload_n 0, 1) := by decide +kernel
theorem dX6_noise_6 : decode cX6_noise 6 = .ok (.getfield 74, 3) := by decide +kernel
theorem dX6_noise_9 : decode cX6_noise 9 = .ok (.iconst 1, 1) := by decide +kernel
theorem dX6_noise_10 : decode cX6_noise 10 = .ok (.iaload, 1) := by decide +kernel
theorem dX6_noise_11 : decode cX6_noise 11 = .ok (.aload_n 0, 1) := by decide +kernel
theorem dX6_noise_12 : decode cX6_noise 12 = .ok (.getfield 74, 3) := by decide +kernel
theorem dX6_noise_15 : decode cX6_noise 15 = .ok (.bipush 7, 2) := by decide +kernel
theorem dX6_noise_17 : decode cX6_noise 17 = .ok (.iaload, 1) := by decide +kernel
theorem dX6_noise_18 : decode cX6_noise 18 = .ok (.iadd, 1) := by decide +kernel
theorem dX6_noise_19 : decode cX6_noise 19 = .ok (.istore_n 1, 1) := by decide +kernel
theorem dX6_noise_20 : decode cX6_noise 20 = .ok (.iload_n 1, 1) := by decide +kernel
theorem dX6_noise_21 : decode cX6_noise 21 = .ok (.aload_n 0, 1) := by decide +kernel
theorem dX6_noise_22 : decode cX6_noise 22 = .ok (.getfield 74, 3) := by decide +kernel
theorem dX6_noise_25 : decode cX6_noise 25 = .ok (.iconst 0, 1) := by decide +kernel
theorem dX6_noise_26 : decode cX6_noise 26 = .ok (.iaload, 1) := by decide +kernel
theorem dX6_noise_27 : decode cX6_noise 27 = .ok (.iadd, 1) := by decide +kernel
theorem dX6_noise_28 : decode cX6_noise 28 = .ok (.aload_n 0, 1) := by decide +kernel
theorem dX6_noise_29 : decode cX6_noise 29 = .ok (.getfield 74, 3) := by decide +kernel
theorem dX6_noise_32 : decode cX6_noise 32 = .ok (.bipush 6, 2) := by decide +kernel
theorem dX6_noise_34 : decode cX6_noise 34 = .ok (.iaload, 1) := by decide +kernel
theorem dX6_noise_35 : decode cX6_noise 35 = .ok (.iadd, 1) := by decide +kernel
theorem dX6_noise_36 : decode cX6_noise 36 = .ok (.istore_n 2, 1) := by decide +kernel
theorem dX6_noise_37 : decode cX6_noise 37 = .ok (.iload_n 2, 1) := by decide +kernel
theorem dX6_noise_38 : decode cX6_noise 38 = .ok (.ifCond .ne 5, 3) := by decide +kernel
theorem dX6_noise_41 : decode cX6_noise 41 = .ok (.fconst 0, 1) := by decide +kernel
theorem dX6_noise_42 : decode cX6_noise 42 = .ok (.freturn, 1) := by decide +kernel
theorem dX6_noise_43 : decode cX6_noise 43 = .ok (.iload_n 1, 1) := by decide +kernel
theorem dX6_noise_44 : decode cX6_noise 44 = .ok (.i2f, 1) := by decide +kernel
theorem dX6_noise_45 : decode cX6_noise 45 = .ok (.fstore_n 3, 1) := by decide +kernel
theorem dX6_noise_46 : decode cX6_noise 46 = .ok (.iload_n 2, 1) := by decide +kernel
theorem dX6_noise_47 : decode cX6_noise 47 = .ok (.i2f, 1) := by decide +kernel
theorem dX6_noise_48 : decode cX6_noise 48 = .ok (.fstore 4, 2) := by decide +kernel
theorem dX6_noise_50 : decode cX6_noise 50 = .ok (.fload_n 3, 1) := by decide +kernel
theorem dX6_noise_51 : decode cX6_noise 51 = .ok (.fload 4, 2) := by decide +kernel
theorem dX6_noise_53 : decode cX6_noise 53 = .ok (.fdiv, 1) := by decide +kernel
theorem dX6_noise_54 : decode cX6_noise 54 = .ok (.freturn, 1) := by decide +kernel

theorem dX0_init_0 : decode cX0_init 0 = .ok (.aload_n 0, 1) := by decide +kernel
theorem dX0_init_1 : decode cX0_init 1 = .ok (.invokespecial 3, 3) := by decide +kernel
theorem dX0_init_4 : decode cX0_init 4 = .ok (.aload_n 0, 1) := by decide +kernel
theorem dX0_init_5 : decode cX0_init 5 = .ok (.new 9, 3) := by decide +kernel
theorem dX0_init_8 : decode cX0_init 8 = .ok (.dup, 1) := by decide +kernel
theorem dX0_init_9 : decode cX0_init 9 = .ok (.invokespecial 11, 3) := by decide +kernel
theorem dX0_init_12 : decode cX0_init 12 = .ok (.putfield 12, 3) := by decide +kernel
theorem dX0_init_15 : decode cX0_init 15 = .ok (.aload_n 0, 1) := by decide +kernel
theorem dX0_init_16 : decode cX0_init 16 = .ok (.aload_n 0, 1) := by decide +kernel
theorem dX0_init_17 : decode cX0_init 17 = .ok (.getfield 12, 3) := by decide +kernel
theorem dX0_init_20 : decode cX0_init 20 = .ok (.getfield 18, 3) := by decide +kernel
theorem dX0_init_23 : decode cX0_init 23 = .ok (.putfield 22, 3) := by decide +kernel
theorem dX0_init_26 : decode cX0_init 26 = .ok (.aload_n 0, 1) := by decide +kernel
theorem dX0_init_27 : decode cX0_init 27 = .ok (.new 25, 3) := by decide +kernel
theorem dX0_init_30 : decode cX0_init 30 = .ok (.dup, 1) := by decide +kernel
theorem dX0_init_31 : decode cX0_init 31 = .ok (.bipush 40, 2) := by decide +kernel
theorem dX0_init_33 : decode cX0_init 33 = .ok (.invokespecial 27, 3) := by decide +kernel
theorem dX0_init_36 : decode cX0_init 36 = .ok (.putfield 30, 3) := by decide +kernel
theorem dX0_init_39 : decode cX0_init 39 = .ok (.aload_n 0, 1) := by decide +kernel
theorem dX0_init_40 : decode cX0_init 40 = .ok (.new 25, 3) := by decide +kernel
theorem dX0_init_43 : decode cX0_init 43 = .ok (.dup, 1) := by decide +kernel
theorem dX0_init_44 : decode cX0_init 44 = .ok (.bipush 13, 2) := by decide +kernel
theorem dX0_init_46 : decode cX0_init 46 = .ok (.invokespecial 27, 3) := by decide +kernel
theorem dX0_init_49 : decode cX0_init 49 = .ok (.putfield 33, 3) := by decide +kernel
theorem dX0_init_52 : decode cX0_init 52 = .ok (.aload_n 0, 1) := by decide +kernel
theorem dX0_init_53 : decode cX0_init 53 = .ok (.new 25, 3) := by decide +kernel
theorem dX0_init_56 : decode cX0_init 56 = .ok (.dup, 1) := by decide +kernel
theorem dX0_init_57 : decode cX0_init 57 = .ok (.bipush 40, 2) := by decide +kernel
theorem dX0_init_59 : decode cX0_init 59 = .ok (.invokespecial 27, 3) := by decide +kernel
theorem dX0_init_62 : decode cX0_init 62 = .ok (.putfield 36, 3) := by decide +kernel
theorem dX0_init_65 : decode cX0_init 65 = .ok (.aload_n 0, 1) := by decide +kernel
theorem dX0_init_66 : decode cX0_init 66 = .ok (.new 25, 3) := by decide +kernel
theorem dX0_init_69 : decode cX0_init 69 = .ok (.dup, 1) := by decide +kernel
theorem dX0_init_70 : decode cX0_init 70 = .ok (.bipush 40, 2) := by decide +kernel
theorem dX0_init_72 : decode cX0_init 72 = .ok (.invokespecial 27, 3) := by decide +kernel
theorem dX0_init_75 : decode cX0_init 75 = .ok (.putfield 39, 3) := by decide +kernel
theorem dX0_init_78 : decode cX0_init 78 = .ok (.aload_n 0, 1) := by decide +kernel
theorem dX0_init_79 : decode cX0_init 79 = .ok (.bipush 6, 2) := by decide +kernel
theorem dX0_init_81 : decode cX0_init 81 = .ok (.newarray .int, 2) := by decide +kernel
theorem dX0_init_83 : decode cX0_init 83 = .ok (.putfield 42, 3) := by decide +kernel
theorem dX0_init_86 : decode cX0_init 86 = .ok (.aload_n 0, 1) := by decide +kernel
theorem dX0_init_87 : decode cX0_init 87 = .ok (.sipush 1500, 3) := by decide +kernel
theorem dX0_init_90 : decode cX0_init 90 = .ok (.putfield 46, 3) := by decide +kernel
theorem dX0_init_93 : decode cX0_init 93 = .ok (.aload_n 0, 1) := by decide +kernel
theorem dX0_init_94 : decode cX0_init 94 = .ok (.bipush 64, 2) := by decide +kernel
theorem dX0_init_96 : decode cX0_init 96 = .ok (.putfield 50, 3) := by decide +kernel
theorem dX0_init_99 : decode cX0_init 99 = .ok (.aload_n 0, 1) := by decide +kernel
theorem dX0_init_100 : decode cX0_init 100 = .ok (.iconst 1, 1) := by decide +kernel
theorem dX0_init_101 : decode cX0_init 101 = .ok (.putfield 53, 3) := by decide +kernel
theorem dX0_init_104 : decode cX0_init 104 = .ok (.aload_n 0, 1) := by decide +kernel
theorem dX0_init_105 : decode cX0_init 105 = .ok (.iconst 1, 1) := by decide +kernel
theorem dX0_init_106 : decode cX0_init 106 = .ok (.putfield 57, 3) := by decide +kernel
theorem dX0_init_109 : decode cX0_init 109 = .ok (.aload_n 0, 1) := by decide +kernel
theorem dX0_init_110 : decode cX0_init 110 = .ok (.iconst 0, 1) := by decide +kernel
theorem dX0_init_111 : decode cX0_init 111 = .ok (.putfield 60, 3) := by decide +kernel
theorem dX0_init_114 : decode cX0_init 114 = .ok (.aload_n 0, 1) := by decide +kernel
theorem dX0_init_115 : decode cX0_init 115 = .ok (.aload_n 1, 1) := by decide +kernel
theorem dX0_init_116 : decode cX0_init 116 = .ok (.putfield 63, 3) := by decide +kernel
theorem dX0_init_119 : decode cX0_init 119 = .ok (.return_, 1) := by decide +kernel
theorem dX0_nextId_0 : decode cX0_nextId 0 = .ok (.aload_n 0, 1) := by decide +kernel
theorem dX0_nextId_1 : decode cX0_nextId 1 = .ok (.aload_n 0, 1) := by decide +kernel
theorem dX0_nextId_2 : decode cX0_nextId 2 = .ok (.getfield 67, 3) := by decide +kernel
theorem dX0_nextId_5 : decode cX0_nextId 5 = .ok (.iconst 1, 1) := by decide +kernel
theorem dX0_nextId_6 : decode cX0_nextId 6 = .ok (.iadd, 1) := by decide +kernel
theorem dX0_nextId_7 : decode cX0_nextId 7 = .ok (.sipush 255, 3) := by decide +kernel
theorem dX0_nextId_10 : decode cX0_nextId 10 = .ok (.iand, 1) := by decide +kernel
theorem dX0_nextId_11 : decode cX0_nextId 11 = .ok (.putfield 67, 3) := by decide +kernel
theorem dX0_nextId_14 : decode cX0_nextId 14 = .ok (.aload_n 0, 1) := by decide +kernel
theorem dX0_nextId_15 : decode cX0_nextId 15 = .ok (.getfield 67, 3) := by decide +kernel
theorem dX0_nextId_18 : decode cX0_nextId 18 = .ok (.ireturn, 1) := by decide +kernel
theorem dX0_sendData_0 : decode cX0_sendData 0 = .ok (.aload_n 0, 1) := by decide +kernel
theorem dX0_sendData_1 : decode cX0_sendData 1 = .ok (.getfield 39, 3) := by decide +kernel
theorem dX0_sendData_4 : decode cX0_sendData 4 = .ok (.iconst 0, 1) := by decide +kernel
theorem dX0_sendData_5 : decode cX0_sendData 5 = .ok (.putfield 70, 3) := by decide +kernel
theorem dX0_sendData_8 : decode cX0_sendData 8 = .ok (.aload_n 0, 1) := by decide +kernel
theorem dX0_sendData_9 : decode cX0_sendData 9 = .ok (.getfield 39, 3) := by decide +kernel
theorem dX0_sendData_12 : decode cX0_sendData 12 = .ok (.iconst 2, 1) := by decide +kernel
theorem dX0_sendData_13 : decode cX0_sendData 13 = .ok (.invokevirtual 73, 3) := by decide +kernel
theorem dX0_sendData_16 : decode cX0_sendData 16 = .ok (.iconst 0, 1) := by decide +kernel
theorem dX0_sendData_17 : decode cX0_sendData 17 = .ok (.istore_n 3, 1) := by decide +kernel
theorem dX0_sendData_18 : decode cX0_sendData 18 = .ok (.iload_n 3, 1) := by decide +kernel
theorem dX0_sendData_19 : decode cX0_sendData 19 = .ok (.iload_n 1, 1) := by decide +kernel
theorem dX0_sendData_20 : decode cX0_sendData 20 = .ok (.if_icmp .ge 19, 3) := by decide +kernel
theorem dX0_sendData_23 : decode cX0_sendData 23 = .ok (.aload_n 0, 1) := by decide +kernel
theorem dX0_sendData_24 : decode cX0_sendData 24 = .ok (.getfield 39, 3) := by decide +kernel
theorem dX0_sendData_27 : decode cX0_sendData 27 = .ok (.iload_n 2, 1) := by decide +kernel
theorem dX0_sendData_28 : decode cX0_sendData 28 = .ok (.iload_n 3, 1) := by decide +kernel
theorem dX0_sendData_29 : decode cX0_sendData 29 = .ok (.iadd, 1) := by decide +kernel
theorem dX0_sendData_30 : decode cX0_sendData 30 = .ok (.invokevirtual 73, 3) := by decide +kernel
theorem dX0_sendData_33 : decode cX0_sendData 33 = .ok (.iinc 3 1, 3) := by decide +kernel
theorem dX0_sendData_36 : decode cX0_sendData 36 = .ok (.goto (-18), 3) := by decide +kernel
theorem dX0_sendData_39 : decode cX0_sendData 39 = .ok (.aload_n 0, 1) := by decide +kernel
theorem dX0_sendData_40 : decode cX0_sendData 40 = .ok (.aload_n 0, 1) := by decide +kernel
theorem dX0_sendData_41 : decode cX0_sendData 41 = .ok (.getfield 39, 3) := by decide +kernel
theorem dX0_sendData_44 : decode cX0_sendData 44 = .ok (.invokevirtual 76, 3) := by decide +kernel
theorem dX0_sendData_47 : decode cX0_sendData 47 = .ok (.return_, 1) := by decide +kernel
theorem dX0_sendEcho_0 : decode cX0_sendEcho 0 = .ok (.aload_n 0, 1) := by decide +kernel
theorem dX0_sendEcho_1 : decode cX0_sendEcho 1 = .ok (.getfield 39, 3) := by decide +kernel
theorem dX0_sendEcho_4 : decode cX0_sendEcho 4 = .ok (.bipush 9, 2) := by decide +kernel
theorem dX0_sendEcho_6 : decode cX0_sendEcho 6 = .ok (.aload_n 0, 1) := by decide +kernel
theorem dX0_sendEcho_7 : decode cX0_sendEcho 7 = .ok (.invokevirtual 80, 3) := by decide +kernel
theorem dX0_sendEcho_10 : decode cX0_sendEcho 10 = .ok (.invokevirtual 84, 3) := by decide +kernel
theorem dX0_sendEcho_13 : decode cX0_sendEcho 13 = .ok (.aload_n 0, 1) := by decide +kernel
theorem dX0_sendEcho_14 : decode cX0_sendEcho 14 = .ok (.getfield 39, 3) := by decide +kernel
theorem dX0_sendEcho_17 : decode cX0_sendEcho 17 = .ok (.aload_n 0, 1) := by decide +kernel
theorem dX0_sendEcho_18 : decode cX0_sendEcho 18 = .ok (.getfield 88, 3) := by decide +kernel
theorem dX0_sendEcho_21 : decode cX0_sendEcho 21 = .ok (.invokevirtual 91, 3) := by decide +kernel
theorem dX0_sendEcho_24 : decode cX0_sendEcho 24 = .ok (.aload_n 0, 1) := by decide +kernel
theorem dX0_sendEcho_25 : decode cX0_sendEcho 25 = .ok (.aload_n 0, 1) := by decide +kernel
theorem dX0_sendEcho_26 : decode cX0_sendEcho 26 = .ok (.getfield 39, 3) := by decide +kernel
theorem dX0_sendEcho_29 : decode cX0_sendEcho 29 = .ok (.invokevirtual 76, 3) := by decide +kernel
theorem dX0_sendEcho_32 : decode cX0_sendEcho 32 = .ok (.return_, 1) := by decide +kernel
theorem dX0_transmit_0 : decode cX0_transmit 0 = .ok (.aload_n 1, 1) := by decide +kernel
theorem dX0_transmit_1 : decode cX0_transmit 1 = .ok (.invokevirtual 94, 3) := by decide +kernel
theorem dX0_transmit_4 : decode cX0_transmit 4 = .ok (.aload_n 1, 1) := by decide +kernel
theorem dX0_transmit_5 : decode cX0_transmit 5 = .ok (.invokevirtual 97, 3) := by decide +kernel
theorem dX0_transmit_8 : decode cX0_transmit 8 = .ok (.sipush 300, 3) := by decide +kernel
theorem dX0_transmit_11 : decode cX0_transmit 11 = .ok (.aload_n 0, 1) := by decide +kernel
theorem dX0_transmit_12 : decode cX0_transmit 12 = .ok (.getfield 63, 3) := by decide +kernel
theorem dX0_transmit_15 : decode cX0_transmit 15 = .ok (.getfield 100, 3) := by decide +kernel
theorem dX0_transmit_18 : decode cX0_transmit 18 = .ok (.isub, 1) := by decide +kernel
theorem dX0_transmit_19 : decode cX0_transmit 19 = .ok (.if_icmp .gt 14, 3) := by decide +kernel
theorem dX0_transmit_22 : decode cX0_transmit 22 = .ok (.aload_n 0, 1) := by decide +kernel
theorem dX0_transmit_23 : decode cX0_transmit 23 = .ok (.getfield 63, 3) := by decide +kernel
theorem dX0_transmit_26 : decode cX0_transmit 26 = .ok (.aload_n 1, 1) := by decide +kernel
theorem dX0_transmit_27 : decode cX0_transmit 27 = .ok (.invokevirtual 103, 3) := by decide +kernel
theorem dX0_transmit_30 : decode cX0_transmit 30 = .ok (.goto 13, 3) := by decide +kernel
theorem dX0_transmit_33 : decode cX0_transmit 33 = .ok (.aload_n 0, 1) := by decide +kernel
theorem dX0_transmit_34 : decode cX0_transmit 34 = .ok (.getfield 42, 3) := by decide +kernel
theorem dX0_transmit_37 : decode cX0_transmit 37 = .ok (.iconst 2, 1) := by decide +kernel
theorem dX0_transmit_38 : decode cX0_transmit 38 = .ok (.dup2, 1) := by decide +kernel
theorem dX0_transmit_39 : decode cX0_transmit 39 = .ok (.iaload, 1) := by decide +kernel
theorem dX0_transmit_40 : decode cX0_transmit 40 = .ok (.iconst 1, 1) := by decide +kernel
theorem dX0_transmit_41 : decode cX0_transmit 41 = .ok (.iadd, 1) := by decide +kernel
theorem dX0_transmit_42 : decode cX0_transmit 42 = .ok (.iastore, 1) := by decide +kernel
theorem dX0_transmit_43 : decode cX0_transmit 43 = .ok (.return_, 1) := by decide +kernel
theorem dX0_timerIsOver_0 : decode cX0_timerIsOver 0 = .ok (.aload_n 0, 1) := by decide +kernel
theorem dX0_timerIsOver_1 : decode cX0_timerIsOver 1 = .ok (.getfield 60, 3) := by decide +kernel
theorem dX0_timerIsOver_4 : decode cX0_timerIsOver 4 = .ok (.iconst 4, 1) := by decide +kernel
theorem dX0_timerIsOver_5 : decode cX0_timerIsOver 5 = .ok (.if_icmp .lt 12, 3) := by decide +kernel
theorem dX0_timerIsOver_8 : decode cX0_timerIsOver 8 = .ok (.aload_n 0, 1) := by decide +kernel
theorem dX0_timerIsOver_9 : decode cX0_timerIsOver 9 = .ok (.getfield 60, 3) := by decide +kernel
theorem dX0_timerIsOver_12 : decode cX0_timerIsOver 12 = .ok (.bipush 8, 2) := by decide +kernel
theorem dX0_timerIsOver_14 : decode cX0_timerIsOver 14 = .ok (.if_icmp .le 5, 3) := by decide +kernel
theorem dX0_timerIsOver_17 : decode cX0_timerIsOver 17 = .ok (.iconst 0, 1) := by decide +kernel
theorem dX0_timerIsOver_18 : decode cX0_timerIsOver 18 = .ok (.ireturn, 1) := by decide +kernel
theorem dX0_timerIsOver_19 : decode cX0_timerIsOver 19 = .ok (.aload_n 0, 1) := by decide +kernel
theorem dX0_timerIsOver_20 : decode cX0_timerIsOver 20 = .ok (.dup, 1) := by decide +kernel
theorem dX0_timerIsOver_21 : decode cX0_timerIsOver 21 = .ok (.getfield 106, 3) := by decide +kernel
theorem dX0_timerIsOver_24 : decode cX0_timerIsOver 24 = .ok (.iconst 1, 1) := by decide +kernel
theorem dX0_timerIsOver_25 : decode cX0_timerIsOver 25 = .ok (.isub, 1) := by decide +kernel
theorem dX0_timerIsOver_26 : decode cX0_timerIsOver 26 = .ok (.putfield 106, 3) := by decide +kernel
theorem dX0_timerIsOver_29 : decode cX0_timerIsOver 29 = .ok (.aload_n 0, 1) := by decide +kernel
theorem dX0_timerIsOver_30 : decode cX0_timerIsOver 30 = .ok (.getfield 106, 3) := by decide +kernel
theorem dX0_timerIsOver_33 : decode cX0_timerIsOver 33 = .ok (.ifCond .le 5, 3) := by decide +kernel
theorem dX0_timerIsOver_36 : decode cX0_timerIsOver 36 = .ok (.iconst 0, 1) := by decide +kernel
theorem dX0_timerIsOver_37 : decode cX0_timerIsOver 37 = .ok (.ireturn, 1) := by decide +kernel
theorem dX0_timerIsOver_38 : decode cX0_timerIsOver 38 = .ok (.aload_n 0, 1) := by decide +kernel
theorem dX0_timerIsOver_39 : decode cX0_timerIsOver 39 = .ok (.aload_n 0, 1) := by decide +kernel
theorem dX0_timerIsOver_40 : decode cX0_timerIsOver 40 = .ok (.getfield 109, 3) := by decide +kernel
theorem dX0_timerIsOver_43 : decode cX0_timerIsOver 43 = .ok (.ifCond .le 9, 3) := by decide +kernel
theorem dX0_timerIsOver_46 : decode cX0_timerIsOver 46 = .ok (.getstatic 112, 3) := by decide +kernel
theorem dX0_timerIsOver_49 : decode cX0_timerIsOver 49 = .ok (.goto 6, 3) := by decide +kernel
theorem dX0_timerIsOver_52 : decode cX0_timerIsOver 52 = .ok (.getstatic 118, 3) := by decide +kernel
theorem dX0_timerIsOver_55 : decode cX0_timerIsOver 55 = .ok (.invokevirtual 121, 3) := by decide +kernel
theorem dX0_timerIsOver_58 : decode cX0_timerIsOver 58 = .ok (.iconst 1, 1) := by decide +kernel
theorem dX0_timerIsOver_59 : decode cX0_timerIsOver 59 = .ok (.ireturn, 1) := by decide +kernel
theorem dX0_frameCame_0 : decode cX0_frameCame 0 = .ok (.aload_n 0, 1) := by decide +kernel
theorem dX0_frameCame_1 : decode cX0_frameCame 1 = .ok (.getfield 12, 3) := by decide +kernel
theorem dX0_frameCame_4 : decode cX0_frameCame 4 = .ok (.invokevirtual 125, 3) := by decide +kernel
theorem dX0_frameCame_7 : decode cX0_frameCame 7 = .ok (.ifCond .eq 5, 3) := by decide +kernel
theorem dX0_frameCame_10 : decode cX0_frameCame 10 = .ok (.iconst 0, 1) := by decide +kernel
theorem dX0_frameCame_11 : decode cX0_frameCame 11 = .ok (.ireturn, 1) := by decide +kernel
theorem dX0_frameCame_12 : decode cX0_frameCame 12 = .ok (.aload_n 0, 1) := by decide +kernel
theorem dX0_frameCame_13 : decode cX0_frameCame 13 = .ok (.getfield 12, 3) := by decide +kernel
theorem dX0_frameCame_16 : decode cX0_frameCame 16 = .ok (.invokevirtual 129, 3) := by decide +kernel
theorem dX0_frameCame_19 : decode cX0_frameCame 19 = .ok (.ifCond .eq 24, 3) := by decide +kernel
theorem dX0_frameCame_22 : decode cX0_frameCame 22 = .ok (.aload_n 0, 1) := by decide +kernel
theorem dX0_frameCame_23 : decode cX0_frameCame 23 = .ok (.getfield 22, 3) := by decide +kernel
theorem dX0_frameCame_26 : decode cX0_frameCame 26 = .ok (.invokevirtual 132, 3) := by decide +kernel
theorem dX0_frameCame_29 : decode cX0_frameCame 29 = .ok (.ifCond .eq 14, 3) := by decide +kernel
theorem dX0_frameCame_32 : decode cX0_frameCame 32 = .ok (.aload_n 0, 1) := by decide +kernel
theorem dX0_frameCame_33 : decode cX0_frameCame 33 = .ok (.invokevirtual 135, 3) := by decide +kernel
theorem dX0_frameCame_36 : decode cX0_frameCame 36 = .ok (.ifCond .eq 7, 3) := by decide +kernel
theorem dX0_frameCame_39 : decode cX0_frameCame 39 = .ok (.iconst 1, 1) := by decide +kernel
theorem dX0_frameCame_40 : decode cX0_frameCame 40 = .ok (.goto 4, 3) := by decide +kernel
theorem dX0_frameCame_43 : decode cX0_frameCame 43 = .ok (.iconst 0, 1) := by decide +kernel
theorem dX0_frameCame_44 : decode cX0_frameCame 44 = .ok (.istore_n 1, 1) := by decide +kernel
theorem dX0_frameCame_45 : decode cX0_frameCame 45 = .ok (.aload_n 0, 1) := by decide +kernel
theorem dX0_frameCame_46 : decode cX0_frameCame 46 = .ok (.getfield 42, 3) := by decide +kernel
theorem dX0_frameCame_49 : decode cX0_frameCame 49 = .ok (.iload_n 1, 1) := by decide +kernel
theorem dX0_frameCame_50 : decode cX0_frameCame 50 = .ok (.ifCond .eq 7, 3) := by decide +kernel
theorem dX0_frameCame_53 : decode cX0_frameCame 53 = .ok (.iconst 0, 1) := by decide +kernel
theorem dX0_frameCame_54 : decode cX0_frameCame 54 = .ok (.goto 4, 3) := by decide +kernel
theorem dX0_frameCame_57 : decode cX0_frameCame 57 = .ok (.iconst 1, 1) := by decide +kernel
theorem dX0_frameCame_58 : decode cX0_frameCame 58 = .ok (.dup2, 1) := by decide +kernel
theorem dX0_frameCame_59 : decode cX0_frameCame 59 = .ok (.iaload, 1) := by decide +kernel
theorem dX0_frameCame_60 : decode cX0_frameCame 60 = .ok (.iconst 1, 1) := by decide +kernel
theorem dX0_frameCame_61 : decode cX0_frameCame 61 = .ok (.iadd, 1) := by decide +kernel
theorem dX0_frameCame_62 : decode cX0_frameCame 62 = .ok (.iastore, 1) := by decide +kernel
theorem dX0_frameCame_63 : decode cX0_frameCame 63 = .ok (.iload_n 1, 1) := by decide +kernel
theorem dX0_frameCame_64 : decode cX0_frameCame 64 = .ok (.ifCond .eq 23, 3) := by decide +kernel
theorem dX0_frameCame_67 : decode cX0_frameCame 67 = .ok (.aload_n 0, 1) := by decide +kernel
theorem dX0_frameCame_68 : decode cX0_frameCame 68 = .ok (.getfield 60, 3) := by decide +kernel
theorem dX0_frameCame_71 : decode cX0_frameCame 71 = .ok (.iconst 2, 1) := by decide +kernel
theorem dX0_frameCame_72 : decode cX0_frameCame 72 = .ok (.if_icmp .lt 15, 3) := by decide +kernel
theorem dX0_frameCame_75 : decode cX0_frameCame 75 = .ok (.aload_n 0, 1) := by decide +kernel
theorem dX0_frameCame_76 : decode cX0_frameCame 76 = .ok (.invokevirtual 138, 3) := by decide +kernel
theorem dX0_frameCame_79 : decode cX0_frameCame 79 = .ok (.aload_n 0, 1) := by decide +kernel
theorem dX0_frameCame_80 : decode cX0_frameCame 80 = .ok (.aload_n 0, 1) := by decide +kernel
theorem dX0_frameCame_81 : decode cX0_frameCame 81 = .ok (.invokevirtual 141, 3) := by decide +kernel
theorem dX0_frameCame_84 : decode cX0_frameCame 84 = .ok (.invokevirtual 121, 3) := by decide +kernel
theorem dX0_frameCame_87 : decode cX0_frameCame 87 = .ok (.aload_n 0, 1) := by decide +kernel
theorem dX0_frameCame_88 : decode cX0_frameCame 88 = .ok (.getfield 12, 3) := by decide +kernel
theorem dX0_frameCame_91 : decode cX0_frameCame 91 = .ok (.invokevirtual 145, 3) := by decide +kernel
theorem dX0_frameCame_94 : decode cX0_frameCame 94 = .ok (.iload_n 1, 1) := by decide +kernel
theorem dX0_frameCame_95 : decode cX0_frameCame 95 = .ok (.ireturn, 1) := by decide +kernel
theorem dX0_isRight_0 : decode cX0_isRight 0 = .ok (.aload_n 0, 1) := by decide +kernel
theorem dX0_isRight_1 : decode cX0_isRight 1 = .ok (.getfield 60, 3) := by decide +kernel
theorem dX0_isRight_4 : decode cX0_isRight 4 = .ok (.iconst 2, 1) := by decide +kernel
theorem dX0_isRight_5 : decode cX0_isRight 5 = .ok (.if_icmp .ge 5, 3) := by decide +kernel
theorem dX0_isRight_8 : decode cX0_isRight 8 = .ok (.iconst 1, 1) := by decide +kernel
theorem dX0_isRight_9 : decode cX0_isRight 9 = .ok (.ireturn, 1) := by decide +kernel
theorem dX0_isRight_10 : decode cX0_isRight 10 = .ok (.aload_n 0, 1) := by decide +kernel
theorem dX0_isRight_11 : decode cX0_isRight 11 = .ok (.getfield 22, 3) := by decide +kernel
theorem dX0_isRight_14 : decode cX0_isRight 14 = .ok (.invokevirtual 148, 3) := by decide +kernel
theorem dX0_isRight_17 : decode cX0_isRight 17 = .ok (.tableswitch 62 2 4 #[27, 39, 39], 27) := by decide +kernel
theorem dX0_isRight_44 : decode cX0_isRight 44 = .ok (.aload_n 0, 1) := by decide +kernel
theorem dX0_isRight_45 : decode cX0_isRight 45 = .ok (.getfield 22, 3) := by decide +kernel
theorem dX0_isRight_48 : decode cX0_isRight 48 = .ok (.aload_n 0, 1) := by decide +kernel
theorem dX0_isRight_49 : decode cX0_isRight 49 = .ok (.getfield 33, 3) := by decide +kernel
theorem dX0_isRight_52 : decode cX0_isRight 52 = .ok (.invokevirtual 151, 3) := by decide +kernel
theorem dX0_isRight_55 : decode cX0_isRight 55 = .ok (.ireturn, 1) := by decide +kernel
theorem dX0_isRight_56 : decode cX0_isRight 56 = .ok (.aload_n 0, 1) := by decide +kernel
theorem dX0_isRight_57 : decode cX0_isRight 57 = .ok (.getfield 22, 3) := by decide +kernel
theorem dX0_isRight_60 : decode cX0_isRight 60 = .ok (.invokevirtual 155, 3) := by decide +kernel
theorem dX0_isRight_63 : decode cX0_isRight 63 = .ok (.aload_n 0, 1) := by decide +kernel
theorem dX0_isRight_64 : decode cX0_isRight 64 = .ok (.getfield 33, 3) := by decide +kernel
theorem dX0_isRight_67 : decode cX0_isRight 67 = .ok (.invokevirtual 155, 3) := by decide +kernel
theorem dX0_isRight_70 : decode cX0_isRight 70 = .ok (.if_icmp .ne 7, 3) := by decide +kernel
theorem dX0_isRight_73 : decode cX0_isRight 73 = .ok (.iconst 1, 1) := by decide +kernel
theorem dX0_isRight_74 : decode cX0_isRight 74 = .ok (.goto 4, 3) := by decide +kernel
theorem dX0_isRight_77 : decode cX0_isRight 77 = .ok (.iconst 0, 1) := by decide +kernel
theorem dX0_isRight_78 : decode cX0_isRight 78 = .ok (.ireturn, 1) := by decide +kernel
theorem dX0_isRight_79 : decode cX0_isRight 79 = .ok (.iconst 1, 1) := by decide +kernel
theorem dX0_isRight_80 : decode cX0_isRight 80 = .ok (.ireturn, 1) := by decide +kernel
theorem dX0_learn_0 : decode cX0_learn 0 = .ok (.aload_n 0, 1) := by decide +kernel
theorem dX0_learn_1 : decode cX0_learn 1 = .ok (.getfield 22, 3) := by decide +kernel
theorem dX0_learn_4 : decode cX0_learn 4 = .ok (.invokevirtual 148, 3) := by decide +kernel
theorem dX0_learn_7 : decode cX0_learn 7 = .ok (.istore_n 1, 1) := by decide +kernel
theorem dX0_learn_8 : decode cX0_learn 8 = .ok (.iload_n 1, 1) := by decide +kernel
theorem dX0_learn_9 : decode cX0_learn 9 = .ok (.bipush 9, 2) := by decide +kernel
theorem dX0_learn_11 : decode cX0_learn 11 = .ok (.if_icmp .ne 18, 3) := by decide +kernel
theorem dX0_learn_14 : decode cX0_learn 14 = .ok (.aload_n 0, 1) := by decide +kernel
theorem dX0_learn_15 : decode cX0_learn 15 = .ok (.aload_n 0, 1) := by decide +kernel
theorem dX0_learn_16 : decode cX0_learn 16 = .ok (.getfield 22, 3) := by decide +kernel
theorem dX0_learn_19 : decode cX0_learn 19 = .ok (.iconst 3, 1) := by decide +kernel
theorem dX0_learn_20 : decode cX0_learn 20 = .ok (.invokevirtual 158, 3) := by decide +kernel
theorem dX0_learn_23 : decode cX0_learn 23 = .ok (.invokevirtual 162, 3) := by decide +kernel
theorem dX0_learn_26 : decode cX0_learn 26 = .ok (.goto 49, 3) := by decide +kernel
theorem dX0_learn_29 : decode cX0_learn 29 = .ok (.iload_n 1, 1) := by decide +kernel
theorem dX0_learn_30 : decode cX0_learn 30 = .ok (.iconst 1, 1) := by decide +kernel
theorem dX0_learn_31 : decode cX0_learn 31 = .ok (.if_icmp .lt 44, 3) := by decide +kernel
theorem dX0_learn_34 : decode cX0_learn 34 = .ok (.iload_n 1, 1) := by decide +kernel
theorem dX0_learn_35 : decode cX0_learn 35 = .ok (.iconst 4, 1) := by decide +kernel
theorem dX0_learn_36 : decode cX0_learn 36 = .ok (.if_icmp .gt 39, 3) := by decide +kernel
theorem dX0_learn_39 : decode cX0_learn 39 = .ok (.iconst 3, 1) := by decide +kernel
theorem dX0_learn_40 : decode cX0_learn 40 = .ok (.istore_n 2, 1) := by decide +kernel
theorem dX0_learn_41 : decode cX0_learn 41 = .ok (.iload_n 2, 1) := by decide +kernel
theorem dX0_learn_42 : decode cX0_learn 42 = .ok (.aload_n 0, 1) := by decide +kernel
theorem dX0_learn_43 : decode cX0_learn 43 = .ok (.getfield 22, 3) := by decide +kernel
theorem dX0_learn_46 : decode cX0_learn 46 = .ok (.invokevirtual 165, 3) := by decide +kernel
theorem dX0_learn_49 : decode cX0_learn 49 = .ok (.if_icmp .ge 26, 3) := by decide +kernel
theorem dX0_learn_52 : decode cX0_learn 52 = .ok (.aload_n 0, 1) := by decide +kernel
theorem dX0_learn_53 : decode cX0_learn 53 = .ok (.iload_n 1, 1) := by decide +kernel
theorem dX0_learn_54 : decode cX0_learn 54 = .ok (.iload_n 2, 1) := by decide +kernel
theorem dX0_learn_55 : decode cX0_learn 55 = .ok (.invokevirtual 168, 3) := by decide +kernel
theorem dX0_learn_58 : decode cX0_learn 58 = .ok (.iload_n 2, 1) := by decide +kernel
theorem dX0_learn_59 : decode cX0_learn 59 = .ok (.aload_n 0, 1) := by decide +kernel
theorem dX0_learn_60 : decode cX0_learn 60 = .ok (.getfield 22, 3) := by decide +kernel
theorem dX0_learn_63 : decode cX0_learn 63 = .ok (.iload_n 2, 1) := by decide +kernel
theorem dX0_learn_64 : decode cX0_learn 64 = .ok (.invokevirtual 171, 3) := by decide +kernel
theorem dX0_learn_67 : decode cX0_learn 67 = .ok (.invokestatic 174, 3) := by decide +kernel
theorem dX0_learn_70 : decode cX0_learn 70 = .ok (.iadd, 1) := by decide +kernel
theorem dX0_learn_71 : decode cX0_learn 71 = .ok (.istore_n 2, 1) := by decide +kernel
theorem dX0_learn_72 : decode cX0_learn 72 = .ok (.goto (-31), 3) := by decide +kernel
theorem dX0_learn_75 : decode cX0_learn 75 = .ok (.return_, 1) := by decide +kernel
theorem dX0_learnOption_0 : decode cX0_learnOption 0 = .ok (.aload_n 0, 1) := by decide +kernel
theorem dX0_learnOption_1 : decode cX0_learnOption 1 = .ok (.getfield 22, 3) := by decide +kernel
theorem dX0_learnOption_4 : decode cX0_learnOption 4 = .ok (.iload_n 2, 1) := by decide +kernel
theorem dX0_learnOption_5 : decode cX0_learnOption 5 = .ok (.invokevirtual 171, 3) := by decide +kernel
theorem dX0_learnOption_8 : decode cX0_learnOption 8 = .ok (.istore_n 3, 1) := by decide +kernel
theorem dX0_learnOption_9 : decode cX0_learnOption 9 = .ok (.iload_n 3, 1) := by decide +kernel
theorem dX0_learnOption_10 : decode cX0_learnOption 10 = .ok (.iconst 1, 1) := by decide +kernel
theorem dX0_learnOption_11 : decode cX0_learnOption 11 = .ok (.if_icmp .ne 21, 3) := by decide +kernel
theorem dX0_learnOption_14 : decode cX0_learnOption 14 = .ok (.aload_n 0, 1) := by decide +kernel
theorem dX0_learnOption_15 : decode cX0_learnOption 15 = .ok (.iload_n 1, 1) := by decide +kernel
theorem dX0_learnOption_16 : decode cX0_learnOption 16 = .ok (.aload_n 0, 1) := by decide +kernel
theorem dX0_learnOption_17 : decode cX0_learnOption 17 = .ok (.getfield 22, 3) := by decide +kernel
theorem dX0_learnOption_20 : decode cX0_learnOption 20 = .ok (.iload_n 2, 1) := by decide +kernel
theorem dX0_learnOption_21 : decode cX0_learnOption 21 = .ok (.iconst 1, 1) := by decide +kernel
theorem dX0_learnOption_22 : decode cX0_learnOption 22 = .ok (.iadd, 1) := by decide +kernel
theorem dX0_learnOption_23 : decode cX0_learnOption 23 = .ok (.invokevirtual 177, 3) := by decide +kernel
theorem dX0_learnOption_26 : decode cX0_learnOption 26 = .ok (.invokevirtual 180, 3) := by decide +kernel
theorem dX0_learnOption_29 : decode cX0_learnOption 29 = .ok (.goto 23, 3) := by decide +kernel
theorem dX0_learnOption_32 : decode cX0_learnOption 32 = .ok (.iload_n 3, 1) := by decide +kernel
theorem dX0_learnOption_33 : decode cX0_learnOption 33 = .ok (.iconst 5, 1) := by decide +kernel
theorem dX0_learnOption_34 : decode cX0_learnOption 34 = .ok (.if_icmp .ne 18, 3) := by decide +kernel
theorem dX0_learnOption_37 : decode cX0_learnOption 37 = .ok (.aload_n 0, 1) := by decide +kernel
theorem dX0_learnOption_38 : decode cX0_learnOption 38 = .ok (.iload_n 1, 1) := by decide +kernel
theorem dX0_learnOption_39 : decode cX0_learnOption 39 = .ok (.aload_n 0, 1) := by decide +kernel
theorem dX0_learnOption_40 : decode cX0_learnOption 40 = .ok (.getfield 22, 3) := by decide +kernel
theorem dX0_learnOption_43 : decode cX0_learnOption 43 = .ok (.iload_n 2, 1) := by decide +kernel
theorem dX0_learnOption_44 : decode cX0_learnOption 44 = .ok (.iconst 1, 1) := by decide +kernel
theorem dX0_learnOption_45 : decode cX0_learnOption 45 = .ok (.iadd, 1) := by decide +kernel
theorem dX0_learnOption_46 : decode cX0_learnOption 46 = .ok (.invokevirtual 158, 3) := by decide +kernel
theorem dX0_learnOption_49 : decode cX0_learnOption 49 = .ok (.invokevirtual 183, 3) := by decide +kernel
theorem dX0_learnOption_52 : decode cX0_learnOption 52 = .ok (.return_, 1) := by decide +kernel
theorem dX0_learnSize_0 : decode cX0_learnSize 0 = .ok (.iload_n 1, 1) := by decide +kernel
theorem dX0_learnSize_1 : decode cX0_learnSize 1 = .ok (.iconst 3, 1) := by decide +kernel
theorem dX0_learnSize_2 : decode cX0_learnSize 2 = .ok (.if_icmp .ne 18, 3) := by decide +kernel
theorem dX0_learnSize_5 : decode cX0_learnSize 5 = .ok (.iload_n 2, 1) := by decide +kernel
theorem dX0_learnSize_6 : decode cX0_learnSize 6 = .ok (.invokestatic 186, 3) := by decide +kernel
theorem dX0_learnSize_9 : decode cX0_learnSize 9 = .ok (.ifCond .eq 11, 3) := by decide +kernel
theorem dX0_learnSize_12 : decode cX0_learnSize 12 = .ok (.aload_n 0, 1) := by decide +kernel
theorem dX0_learnSize_13 : decode cX0_learnSize 13 = .ok (.iload_n 2, 1) := by decide +kernel
theorem dX0_learnSize_14 : decode cX0_learnSize 14 = .ok (.putfield 46, 3) := by decide +kernel
theorem dX0_learnSize_17 : decode cX0_learnSize 17 = .ok (.goto 13, 3) := by decide +kernel
theorem dX0_learnSize_20 : decode cX0_learnSize 20 = .ok (.iload_n 1, 1) := by decide +kernel
theorem dX0_learnSize_21 : decode cX0_learnSize 21 = .ok (.iconst 4, 1) := by decide +kernel
theorem dX0_learnSize_22 : decode cX0_learnSize 22 = .ok (.if_icmp .ne 8, 3) := by decide +kernel
theorem dX0_learnSize_25 : decode cX0_learnSize 25 = .ok (.aload_n 0, 1) := by decide +kernel
theorem dX0_learnSize_26 : decode cX0_learnSize 26 = .ok (.iconst 0, 1) := by decide +kernel
theorem dX0_learnSize_27 : decode cX0_learnSize 27 = .ok (.putfield 53, 3) := by decide +kernel
theorem dX0_learnSize_30 : decode cX0_learnSize 30 = .ok (.return_, 1) := by decide +kernel
theorem dX0_learnNumber_0 : decode cX0_learnNumber 0 = .ok (.iload_n 1, 1) := by decide +kernel
theorem dX0_learnNumber_1 : decode cX0_learnNumber 1 = .ok (.iconst 1, 1) := by decide +kernel
theorem dX0_learnNumber_2 : decode cX0_learnNumber 2 = .ok (.if_icmp .ne 11, 3) := by decide +kernel
theorem dX0_learnNumber_5 : decode cX0_learnNumber 5 = .ok (.aload_n 0, 1) := by decide +kernel
theorem dX0_learnNumber_6 : decode cX0_learnNumber 6 = .ok (.iload_n 2, 1) := by decide +kernel
theorem dX0_learnNumber_7 : decode cX0_learnNumber 7 = .ok (.invokevirtual 162, 3) := by decide +kernel
theorem dX0_learnNumber_10 : decode cX0_learnNumber 10 = .ok (.goto 26, 3) := by decide +kernel
theorem dX0_learnNumber_13 : decode cX0_learnNumber 13 = .ok (.iload_n 1, 1) := by decide +kernel
theorem dX0_learnNumber_14 : decode cX0_learnNumber 14 = .ok (.iconst 3, 1) := by decide +kernel
theorem dX0_learnNumber_15 : decode cX0_learnNumber 15 = .ok (.if_icmp .ne 11, 3) := by decide +kernel
theorem dX0_learnNumber_18 : decode cX0_learnNumber 18 = .ok (.aload_n 0, 1) := by decide +kernel
theorem dX0_learnNumber_19 : decode cX0_learnNumber 19 = .ok (.iload_n 2, 1) := by decide +kernel
theorem dX0_learnNumber_20 : decode cX0_learnNumber 20 = .ok (.putfield 88, 3) := by decide +kernel
theorem dX0_learnNumber_23 : decode cX0_learnNumber 23 = .ok (.goto 13, 3) := by decide +kernel
theorem dX0_learnNumber_26 : decode cX0_learnNumber 26 = .ok (.iload_n 1, 1) := by decide +kernel
theorem dX0_learnNumber_27 : decode cX0_learnNumber 27 = .ok (.iconst 4, 1) := by decide +kernel
theorem dX0_learnNumber_28 : decode cX0_learnNumber 28 = .ok (.if_icmp .ne 8, 3) := by decide +kernel
theorem dX0_learnNumber_31 : decode cX0_learnNumber 31 = .ok (.aload_n 0, 1) := by decide +kernel
theorem dX0_learnNumber_32 : decode cX0_learnNumber 32 = .ok (.iconst 0, 1) := by decide +kernel
theorem dX0_learnNumber_33 : decode cX0_learnNumber 33 = .ok (.putfield 57, 3) := by decide +kernel
theorem dX0_learnNumber_36 : decode cX0_learnNumber 36 = .ok (.return_, 1) := by decide +kernel
theorem dX0_suspect_0 : decode cX0_suspect 0 = .ok (.iload_n 1, 1) := by decide +kernel
theorem dX0_suspect_1 : decode cX0_suspect 1 = .ok (.aload_n 0, 1) := by decide +kernel
theorem dX0_suspect_2 : decode cX0_suspect 2 = .ok (.getfield 88, 3) := by decide +kernel
theorem dX0_suspect_5 : decode cX0_suspect 5 = .ok (.if_icmp .ne 17, 3) := by decide +kernel
theorem dX0_suspect_8 : decode cX0_suspect 8 = .ok (.iload_n 1, 1) := by decide +kernel
theorem dX0_suspect_9 : decode cX0_suspect 9 = .ok (.ifCond .eq 13, 3) := by decide +kernel
theorem dX0_suspect_12 : decode cX0_suspect 12 = .ok (.aload_n 0, 1) := by decide +kernel
theorem dX0_suspect_13 : decode cX0_suspect 13 = .ok (.getfield 42, 3) := by decide +kernel
theorem dX0_suspect_16 : decode cX0_suspect 16 = .ok (.iconst 3, 1) := by decide +kernel
theorem dX0_suspect_17 : decode cX0_suspect 17 = .ok (.dup2, 1) := by decide +kernel
theorem dX0_suspect_18 : decode cX0_suspect 18 = .ok (.iaload, 1) := by decide +kernel
theorem dX0_suspect_19 : decode cX0_suspect 19 = .ok (.iconst 1, 1) := by decide +kernel
theorem dX0_suspect_20 : decode cX0_suspect 20 = .ok (.iadd, 1) := by decide +kernel
theorem dX0_suspect_21 : decode cX0_suspect 21 = .ok (.iastore, 1) := by decide +kernel
theorem dX0_suspect_22 : decode cX0_suspect 22 = .ok (.return_, 1) := by decide +kernel
theorem dX0_eventOfPacket_0 : decode cX0_eventOfPacket 0 = .ok (.aload_n 0, 1) := by decide +kernel
theorem dX0_eventOfPacket_1 : decode cX0_eventOfPacket 1 = .ok (.getfield 22, 3) := by decide +kernel
theorem dX0_eventOfPacket_4 : decode cX0_eventOfPacket 4 = .ok (.invokevirtual 148, 3) := by decide +kernel
theorem dX0_eventOfPacket_7 : decode cX0_eventOfPacket 7 = .ok (.tableswitch 131 (-1) 10 #[61, 131, 65, 90, 94, 94, 98, 102, 106, 131, 123, 127], 61) := by decide +kernel
theorem dX0_eventOfPacket_68 : decode cX0_eventOfPacket 68 = .ok (.getstatic 190, 3) := by decide +kernel
theorem dX0_eventOfPacket_71 : decode cX0_eventOfPacket 71 = .ok (.areturn, 1) := by decide +kernel
theorem dX0_eventOfPacket_72 : decode cX0_eventOfPacket 72 = .ok (.aload_n 0, 1) := by decide +kernel
theorem dX0_eventOfPacket_73 : decode cX0_eventOfPacket 73 = .ok (.invokevirtual 193, 3) := by decide +kernel
theorem dX0_eventOfPacket_76 : decode cX0_eventOfPacket 76 = .ok (.aload_n 0, 1) := by decide +kernel
theorem dX0_eventOfPacket_77 : decode cX0_eventOfPacket 77 = .ok (.getfield 36, 3) := by decide +kernel
theorem dX0_eventOfPacket_80 : decode cX0_eventOfPacket 80 = .ok (.invokevirtual 148, 3) := by decide +kernel
theorem dX0_eventOfPacket_83 : decode cX0_eventOfPacket 83 = .ok (.iconst 2, 1) := by decide +kernel
theorem dX0_eventOfPacket_84 : decode cX0_eventOfPacket 84 = .ok (.if_icmp .ne 9, 3) := by decide +kernel
theorem dX0_eventOfPacket_87 : decode cX0_eventOfPacket 87 = .ok (.getstatic 196, 3) := by decide +kernel
theorem dX0_eventOfPacket_90 : decode cX0_eventOfPacket 90 = .ok (.goto 6, 3) := by decide +kernel
theorem dX0_eventOfPacket_93 : decode cX0_eventOfPacket 93 = .ok (.getstatic 199, 3) := by decide +kernel
theorem dX0_eventOfPacket_96 : decode cX0_eventOfPacket 96 = .ok (.areturn, 1) := by decide +kernel
theorem dX0_eventOfPacket_97 : decode cX0_eventOfPacket 97 = .ok (.getstatic 202, 3) := by decide +kernel
theorem dX0_eventOfPacket_100 : decode cX0_eventOfPacket 100 = .ok (.areturn, 1) := by decide +kernel
theorem dX0_eventOfPacket_101 : decode cX0_eventOfPacket 101 = .ok (.getstatic 205, 3) := by decide +kernel
theorem dX0_eventOfPacket_104 : decode cX0_eventOfPacket 104 = .ok (.areturn, 1) := by decide +kernel
theorem dX0_eventOfPacket_105 : decode cX0_eventOfPacket 105 = .ok (.getstatic 208, 3) := by decide +kernel
theorem dX0_eventOfPacket_108 : decode cX0_eventOfPacket 108 = .ok (.areturn, 1) := by decide +kernel
theorem dX0_eventOfPacket_109 : decode cX0_eventOfPacket 109 = .ok (.getstatic 211, 3) := by decide +kernel
theorem dX0_eventOfPacket_112 : decode cX0_eventOfPacket 112 = .ok (.areturn, 1) := by decide +kernel
theorem dX0_eventOfPacket_113 : decode cX0_eventOfPacket 113 = .ok (.aload_n 0, 1) := by decide +kernel
theorem dX0_eventOfPacket_114 : decode cX0_eventOfPacket 114 = .ok (.invokevirtual 214, 3) := by decide +kernel
theorem dX0_eventOfPacket_117 : decode cX0_eventOfPacket 117 = .ok (.ifCond .eq 9, 3) := by decide +kernel
theorem dX0_eventOfPacket_120 : decode cX0_eventOfPacket 120 = .ok (.getstatic 217, 3) := by decide +kernel
theorem dX0_eventOfPacket_123 : decode cX0_eventOfPacket 123 = .ok (.goto 6, 3) := by decide +kernel
theorem dX0_eventOfPacket_126 : decode cX0_eventOfPacket 126 = .ok (.getstatic 220, 3) := by decide +kernel
theorem dX0_eventOfPacket_129 : decode cX0_eventOfPacket 129 = .ok (.areturn, 1) := by decide +kernel
theorem dX0_eventOfPacket_130 : decode cX0_eventOfPacket 130 = .ok (.getstatic 223, 3) := by decide +kernel
theorem dX0_eventOfPacket_133 : decode cX0_eventOfPacket 133 = .ok (.areturn, 1) := by decide +kernel
theorem dX0_eventOfPacket_134 : decode cX0_eventOfPacket 134 = .ok (.getstatic 226, 3) := by decide +kernel
theorem dX0_eventOfPacket_137 : decode cX0_eventOfPacket 137 = .ok (.areturn, 1) := by decide +kernel
theorem dX0_eventOfPacket_138 : decode cX0_eventOfPacket 138 = .ok (.getstatic 229, 3) := by decide +kernel
theorem dX0_eventOfPacket_141 : decode cX0_eventOfPacket 141 = .ok (.areturn, 1) := by decide +kernel
theorem dX0_refusesNegotiation_0 : decode cX0_refusesNegotiation 0 = .ok (.aload_n 0, 1) := by decide +kernel
theorem dX0_refusesNegotiation_1 : decode cX0_refusesNegotiation 1 = .ok (.getfield 22, 3) := by decide +kernel
theorem dX0_refusesNegotiation_4 : decode cX0_refusesNegotiation 4 = .ok (.iconst 3, 1) := by decide +kernel
theorem dX0_refusesNegotiation_5 : decode cX0_refusesNegotiation 5 = .ok (.invokevirtual 171, 3) := by decide +kernel
theorem dX0_refusesNegotiation_8 : decode cX0_refusesNegotiation 8 = .ok (.istore_n 1, 1) := by decide +kernel
theorem dX0_refusesNegotiation_9 : decode cX0_refusesNegotiation 9 = .ok (.iload_n 1, 1) := by decide +kernel
theorem dX0_refusesNegotiation_10 : decode cX0_refusesNegotiation 10 = .ok (.iconst 1, 1) := by decide +kernel
theorem dX0_refusesNegotiation_11 : decode cX0_refusesNegotiation 11 = .ok (.if_icmp .lt 13, 3) := by decide +kernel
theorem dX0_refusesNegotiation_14 : decode cX0_refusesNegotiation 14 = .ok (.iload_n 1, 1) := by decide +kernel
theorem dX0_refusesNegotiation_15 : decode cX0_refusesNegotiation 15 = .ok (.bipush 6, 2) := by decide +kernel
theorem dX0_refusesNegotiation_17 : decode cX0_refusesNegotiation 17 = .ok (.if_icmp .gt 7, 3) := by decide +kernel
theorem dX0_refusesNegotiation_20 : decode cX0_refusesNegotiation 20 = .ok (.iconst 1, 1) := by decide +kernel
theorem dX0_refusesNegotiation_21 : decode cX0_refusesNegotiation 21 = .ok (.goto 4, 3) := by decide +kernel
theorem dX0_refusesNegotiation_24 : decode cX0_refusesNegotiation 24 = .ok (.iconst 0, 1) := by decide +kernel
theorem dX0_refusesNegotiation_25 : decode cX0_refusesNegotiation 25 = .ok (.ireturn, 1) := by decide +kernel
theorem dX0_composeAnswer_0 : decode cX0_composeAnswer 0 = .ok (.aload_n 0, 1) := by decide +kernel
theorem dX0_composeAnswer_1 : decode cX0_composeAnswer 1 = .ok (.invokevirtual 232, 3) := by decide +kernel
theorem dX0_composeAnswer_4 : decode cX0_composeAnswer 4 = .ok (.istore_n 1, 1) := by decide +kernel
theorem dX0_composeAnswer_5 : decode cX0_composeAnswer 5 = .ok (.aload_n 0, 1) := by decide +kernel
theorem dX0_composeAnswer_6 : decode cX0_composeAnswer 6 = .ok (.getfield 36, 3) := by decide +kernel
theorem dX0_composeAnswer_9 : decode cX0_composeAnswer 9 = .ok (.iload_n 1, 1) := by decide +kernel
theorem dX0_composeAnswer_10 : decode cX0_composeAnswer 10 = .ok (.aload_n 0, 1) := by decide +kernel
theorem dX0_composeAnswer_11 : decode cX0_composeAnswer 11 = .ok (.getfield 22, 3) := by decide +kernel
theorem dX0_composeAnswer_14 : decode cX0_composeAnswer 14 = .ok (.invokevirtual 155, 3) := by decide +kernel
theorem dX0_composeAnswer_17 : decode cX0_composeAnswer 17 = .ok (.invokevirtual 84, 3) := by decide +kernel
theorem dX0_composeAnswer_20 : decode cX0_composeAnswer 20 = .ok (.iconst 3, 1) := by decide +kernel
theorem dX0_composeAnswer_21 : decode cX0_composeAnswer 21 = .ok (.istore_n 2, 1) := by decide +kernel
theorem dX0_composeAnswer_22 : decode cX0_composeAnswer 22 = .ok (.iload_n 2, 1) := by decide +kernel
theorem dX0_composeAnswer_23 : decode cX0_composeAnswer 23 = .ok (.aload_n 0, 1) := by decide +kernel
theorem dX0_composeAnswer_24 : decode cX0_composeAnswer 24 = .ok (.getfield 22, 3) := by decide +kernel
theorem dX0_composeAnswer_27 : decode cX0_composeAnswer 27 = .ok (.invokevirtual 165, 3) := by decide +kernel
theorem dX0_composeAnswer_30 : decode cX0_composeAnswer 30 = .ok (.if_icmp .ge 35, 3) := by decide +kernel
theorem dX0_composeAnswer_33 : decode cX0_composeAnswer 33 = .ok (.aload_n 0, 1) := by decide +kernel
theorem dX0_composeAnswer_34 : decode cX0_composeAnswer 34 = .ok (.iload_n 2, 1) := by decide +kernel
theorem dX0_composeAnswer_35 : decode cX0_composeAnswer 35 = .ok (.invokevirtual 235, 3) := by decide +kernel
theorem dX0_composeAnswer_38 : decode cX0_composeAnswer 38 = .ok (.iload_n 1, 1) := by decide +kernel
theorem dX0_composeAnswer_39 : decode cX0_composeAnswer 39 = .ok (.if_icmp .ne 9, 3) := by decide +kernel
theorem dX0_composeAnswer_42 : decode cX0_composeAnswer 42 = .ok (.aload_n 0, 1) := by decide +kernel
theorem dX0_composeAnswer_43 : decode cX0_composeAnswer 43 = .ok (.iload_n 1, 1) := by decide +kernel
theorem dX0_composeAnswer_44 : decode cX0_composeAnswer 44 = .ok (.iload_n 2, 1) := by decide +kernel
theorem dX0_composeAnswer_45 : decode cX0_composeAnswer 45 = .ok (.invokevirtual 238, 3) := by decide +kernel

theorem d_U_dropFirst_60 : decode b_U_dropFirst 60 = .ok (.iload_n 1, 1) := by decide +kernel
theorem d_U_dropFirst_61 : decode b_U_dropFirst 61 = .ok (.aload_n 0, 1) := by decide +kernel
theorem d_U_dropFirst_62 : decode b_U_dropFirst 62 = .ok (.getfield 18, 3) := by decide +kernel
theorem d_U_dropFirst_65 : decode b_U_dropFirst 65 = .ok (.iload_n 1, 1) := by decide +kernel
theorem d_U_dropFirst_66 : decode b_U_dropFirst 66 = .ok (.iconst 1, 1) := by decide +kernel
theorem d_U_dropFirst_67 : decode b_U_dropFirst 67 = .ok (.iadd, 1) := by decide +kernel
theorem d_U_dropFirst_68 : decode b_U_dropFirst 68 = .ok (.iaload, 1) := by decide +kernel
theorem d_U_dropFirst_69 : decode b_U_dropFirst 69 = .ok (.iastore, 1) := by decide +kernel
theorem d_U_dropFirst_70 : decode b_U_dropFirst 70 = .ok (.iinc 1 1, 3) := by decide +kernel
theorem d_U_dropFirst_73 : decode b_U_dropFirst 73 = .ok (.goto (-53), 3) := by decide +kernel
theorem d_U_dropFirst_76 : decode b_U_dropFirst 76 = .ok (.return_, 1) := by decide +kernel
theorem d_X_init_0 : decode b_X_init 0 = .ok (.aload_n 0, 1) := by decide +kernel
theorem d_X_init_1 : decode b_X_init 1 = .ok (.invokespecial 1, 3) := by decide +kernel
theorem d_X_init_4 : decode b_X_init 4 = .ok (.aload_n 0, 1) := by decide +kernel
theorem d_X_init_5 : decode b_X_init 5 = .ok (.iconst 1, 1) := by decide +kernel
theorem d_X_init_6 : decode b_X_init 6 = .ok (.bipush 14, 2) := by decide +kernel
theorem d_X_init_8 : decode b_X_init 8 = .ok (.iload_n 1, 1) := by decide +kernel
theorem d_X_init_9 : decode b_X_init 9 = .ok (.invokestatic 9, 3) := by decide +kernel
theorem d_X_init_12 : decode b_X_init 12 = .ok (.invokestatic 15, 3) := by decide +kernel
theorem d_X_init_15 : decode b_X_init 15 = .ok (.putfield 18, 3) := by decide +kernel
theorem d_X_init_18 : decode b_X_init 18 = .ok (.aload_n 0, 1) := by decide +kernel
theorem d_X_init_19 : decode b_X_init 19 = .ok (.bipush 20, 2) := by decide +kernel
theorem d_X_init_21 : decode b_X_init 21 = .ok (.sipush 200, 3) := by decide +kernel
theorem d_X_init_24 : decode b_X_init 24 = .ok (.iload_n 2, 1) := by decide +kernel
theorem d_X_init_25 : decode b_X_init 25 = .ok (.invokestatic 9, 3) := by decide +kernel
theorem d_X_init_28 : decode b_X_init 28 = .ok (.invokestatic 15, 3) := by decide +kernel
theorem d_X_init_31 : decode b_X_init 31 = .ok (.putfield 22, 3) := by decide +kernel
theorem d_X_init_34 : decode b_X_init 34 = .ok (.aload_n 0, 1) := by decide +kernel
theorem d_X_init_35 : decode b_X_init 35 = .ok (.iconst 3, 1) := by decide +kernel
theorem d_X_init_36 : decode b_X_init 36 = .ok (.anewarray 25, 3) := by decide +kernel
theorem d_X_init_39 : decode b_X_init 39 = .ok (.putfield 27, 3) := by decide +kernel
theorem d_X_init_42 : decode b_X_init 42 = .ok (.iconst 0, 1) := by decide +kernel
theorem d_X_init_43 : decode b_X_init 43 = .ok (.istore_n 3, 1) := by decide +kernel
theorem d_X_init_44 : decode b_X_init 44 = .ok (.iload_n 3, 1) := by decide +kernel
theorem d_X_init_45 : decode b_X_init 45 = .ok (.iconst 3, 1) := by decide +kernel
theorem d_X_init_46 : decode b_X_init 46 = .ok (.if_icmp .ge 22, 3) := by decide +kernel
theorem d_X_init_49 : decode b_X_init 49 = .ok (.aload_n 0, 1) := by decide +kernel
theorem d_X_init_50 : decode b_X_init 50 = .ok (.getfield 27, 3) := by decide +kernel
theorem d_X_init_53 : decode b_X_init 53 = .ok (.iload_n 3, 1) := by decide +kernel
theorem d_X_init_54 : decode b_X_init 54 = .ok (.new 25, 3) := by decide +kernel
theorem d_X_init_57 : decode b_X_init 57 = .ok (.dup, 1) := by decide +kernel
theorem d_X_init_58 : decode b_X_init 58 = .ok (.invokespecial 31, 3) := by decide +kernel
theorem d_X_init_61 : decode b_X_init 61 = .ok (.aastore, 1) := by decide +kernel
theorem d_X_init_62 : decode b_X_init 62 = .ok (.iinc 3 1, 3) := by decide +kernel
theorem d_X_init_65 : decode b_X_init 65 = .ok (.goto (-21), 3) := by decide +kernel
theorem d_X_init_68 : decode b_X_init 68 = .ok (.aload_n 0, 1) := by decide +kernel
theorem d_X_init_69 : decode b_X_init 69 = .ok (.new 32, 3) := by decide +kernel
theorem d_X_init_72 : decode b_X_init 72 = .ok (.dup, 1) := by decide +kernel
theorem d_X_init_73 : decode b_X_init 73 = .ok (.invokespecial 34, 3) := by decide +kernel
theorem d_X_init_76 : decode b_X_init 76 = .ok (.putfield 35, 3) := by decide +kernel
theorem d_X_init_79 : decode b_X_init 79 = .ok (.aload_n 0, 1) := by decide +kernel
theorem d_X_init_80 : decode b_X_init 80 = .ok (.new 39, 3) := by decide +kernel
theorem d_X_init_83 : decode b_X_init 83 = .ok (.dup, 1) := by decide +kernel
theorem d_X_init_84 : decode b_X_init 84 = .ok (.invokespecial 41, 3) := by decide +kernel
theorem d_X_init_87 : decode b_X_init 87 = .ok (.putfield 42, 3) := by decide +kernel
theorem d_X_init_90 : decode b_X_init 90 = .ok (.aload_n 0, 1) := by decide +kernel
theorem d_X_init_91 : decode b_X_init 91 = .ok (.new 39, 3) := by decide +kernel
theorem d_X_init_94 : decode b_X_init 94 = .ok (.dup, 1) := by decide +kernel
theorem d_X_init_95 : decode b_X_init 95 = .ok (.invokespecial 41, 3) := by decide +kernel
theorem d_X_init_98 : decode b_X_init 98 = .ok (.putfield 46, 3) := by decide +kernel
theorem d_X_init_101 : decode b_X_init 101 = .ok (.return_, 1) := by decide +kernel
theorem d_X_add_0 : decode b_X_add 0 = .ok (.iload_n 1, 1) := by decide +kernel
theorem d_X_add_1 : decode b_X_add 1 = .ok (.invokestatic 49, 3) := by decide +kernel
theorem d_X_add_4 : decode b_X_add 4 = .ok (.ifCond .eq 27, 3) := by decide +kernel
theorem d_X_add_7 : decode b_X_add 7 = .ok (.iload_n 2, 1) := by decide +kernel
theorem d_X_add_8 : decode b_X_add 8 = .ok (.iconst 1, 1) := by decide +kernel
theorem d_X_add_9 : decode b_X_add 9 = .ok (.if_icmp .lt 22, 3) := by decide +kernel
theorem d_X_add_12 : decode b_X_add 12 = .ok (.iload_n 2, 1) := by decide +kernel
theorem d_X_add_13 : decode b_X_add 13 = .ok (.bipush 60, 2) := by decide +kernel
theorem d_X_add_15 : decode b_X_add 15 = .ok (.if_icmp .gt 16, 3) := by decide +kernel
theorem d_X_add_18 : decode b_X_add 18 = .ok (.iload 4, 2) := by decide +kernel
theorem d_X_add_20 : decode b_X_add 20 = .ok (.ifCond .lt 11, 3) := by decide +kernel
theorem d_X_add_23 : decode b_X_add 23 = .ok (.iload 4, 2) := by decide +kernel
theorem d_X_add_25 : decode b_X_add 25 = .ok (.sipush 255, 3) := by decide +kernel
theorem d_X_add_28 : decode b_X_add 28 = .ok (.if_icmp .le 5, 3) := by decide +kernel
theorem d_X_add_31 : decode b_X_add 31 = .ok (.iconst (-1), 1) := by decide +kernel
theorem d_X_add_32 : decode b_X_add 32 = .ok (.ireturn, 1) := by decide +kernel
theorem d_X_add_33 : decode b_X_add 33 = .ok (.aload_n 0, 1) := by decide +kernel
theorem d_X_add_34 : decode b_X_add 34 = .ok (.getfield 27, 3) := by decide +kernel
theorem d_X_add_37 : decode b_X_add 37 = .ok (.iload_n 1, 1) := by decide +kernel
theorem d_X_add_38 : decode b_X_add 38 = .ok (.aaload, 1) := by decide +kernel
theorem d_X_add_39 : decode b_X_add 39 = .ok (.astore 5, 2) := by decide +kernel
theorem d_X_add_41 : decode b_X_add 41 = .ok (.iload_n 3, 1) := by decide +kernel
theorem d_X_add_42 : decode b_X_add 42 = .ok (.aload_n 0, 1) := by decide +kernel
theorem d_X_add_43 : decode b_X_add 43 = .ok (.getfield 53, 3) := by decide +kernel
theorem d_X_add_46 : decode b_X_add 46 = .ok (.if_icmp .le 24, 3) := by decide +kernel
theorem d_X_add_49 : decode b_X_add 49 = .ok (.iload_n 3, 1) := by decide +kernel
theorem d_X_add_50 : decode b_X_add 50 = .ok (.aload_n 0, 1) := by decide +kernel
theorem d_X_add_51 : decode b_X_add 51 = .ok (.getfield 53, 3) := by decide +kernel
theorem d_X_add_54 : decode b_X_add 54 = .ok (.sipush 1000, 3) := by decide +kernel
theorem d_X_add_57 : decode b_X_add 57 = .ok (.iadd, 1) := by decide +kernel
theorem d_X_add_58 : decode b_X_add 58 = .ok (.if_icmp .gt 12, 3) := by decide +kernel
theorem d_X_add_61 : decode b_X_add 61 = .ok (.iload_n 3, 1) := by decide +kernel
theorem d_X_add_62 : decode b_X_add 62 = .ok (.aload 5, 2) := by decide +kernel
theorem d_X_add_64 : decode b_X_add 64 = .ok (.getfield 56, 3) := by decide +kernel
theorem d_X_add_67 : decode b_X_add 67 = .ok (.if_icmp .gt 6, 3) := by decide +kernel
theorem d_X_add_70 : decode b_X_add 70 = .ok (.bipush (-3), 2) := by decide +kernel
theorem d_X_add_72 : decode b_X_add 72 = .ok (.ireturn, 1) := by decide +kernel
theorem d_X_add_73 : decode b_X_add 73 = .ok (.aload 5, 2) := by decide +kernel
theorem d_X_add_75 : decode b_X_add 75 = .ok (.getfield 59, 3) := by decide +kernel
theorem d_X_add_78 : decode b_X_add 78 = .ok (.invokevirtual 63, 3) := by decide +kernel
theorem d_X_add_81 : decode b_X_add 81 = .ok (.ifCond .eq 6, 3) := by decide +kernel
theorem d_X_add_84 : decode b_X_add 84 = .ok (.bipush (-2), 2) := by decide +kernel
theorem d_X_add_86 : decode b_X_add 86 = .ok (.ireturn, 1) := by decide +kernel
theorem d_X_add_87 : decode b_X_add 87 = .ok (.aload 5, 2) := by decide +kernel
theorem d_X_add_89 : decode b_X_add 89 = .ok (.getfield 59, 3) := by decide +kernel
theorem d_X_add_92 : decode b_X_add 92 = .ok (.iload_n 2, 1) := by decide +kernel
theorem d_X_add_93 : decode b_X_add 93 = .ok (.iload_n 3, 1) := by decide +kernel
theorem d_X_add_94 : decode b_X_add 94 = .ok (.iload 4, 2) := by decide +kernel
theorem d_X_add_96 : decode b_X_add 96 = .ok (.invokevirtual 69, 3) := by decide +kernel
theorem d_X_add_99 : decode b_X_add 99 = .ok (.aload 5, 2) := by decide +kernel
theorem d_X_add_101 : decode b_X_add 101 = .ok (.iload_n 3, 1) := by decide +kernel
theorem d_X_add_102 : decode b_X_add 102 = .ok (.putfield 56, 3) := by decide +kernel
theorem d_X_add_105 : decode b_X_add 105 = .ok (.aload 5, 2) := by decide +kernel
theorem d_X_add_107 : decode b_X_add 107 = .ok (.getfield 59, 3) := by decide +kernel
theorem d_X_add_110 : decode b_X_add 110 = .ok (.getfield 73, 3) := by decide +kernel
theorem d_X_add_113 : decode b_X_add 113 = .ok (.ireturn, 1) := by decide +kernel
theorem d_X_tick_0 : decode b_X_tick 0 = .ok (.iload_n 1, 1) := by decide +kernel
theorem d_X_tick_1 : decode b_X_tick 1 = .ok (.ifCond .lt 9, 3) := by decide +kernel
theorem d_X_tick_4 : decode b_X_tick 4 = .ok (.iload_n 1, 1) := by decide +kernel
theorem d_X_tick_5 : decode b_X_tick 5 = .ok (.bipush 40, 2) := by decide +kernel
theorem d_X_tick_7 : decode b_X_tick 7 = .ok (.if_icmp .le 5, 3) := by decide +kernel
theorem d_X_tick_10 : decode b_X_tick 10 = .ok (.iconst (-1), 1) := by decide +kernel
theorem d_X_tick_11 : decode b_X_tick 11 = .ok (.ireturn, 1) := by decide +kernel
theorem d_X_tick_12 : decode b_X_tick 12 = .ok (.iconst 0, 1) := by decide +kernel
theorem d_X_tick_13 : decode b_X_tick 13 = .ok (.istore_n 2, 1) := by decide +kernel
theorem d_X_tick_14 : decode b_X_tick 14 = .ok (.iload_n 2, 1) := by decide +kernel
theorem d_X_tick_15 : decode b_X_tick 15 = .ok (.iload_n 1, 1) := by decide +kernel
theorem d_X_tick_16 : decode b_X_tick 16 = .ok (.if_icmp .ge 24, 3) := by decide +kernel
theorem d_X_tick_19 : decode b_X_tick 19 = .ok (.aload_n 0, 1) := by decide +kernel
theorem d_X_tick_20 : decode b_X_tick 20 = .ok (.invokevirtual 76, 3) := by decide +kernel
theorem d_X_tick_23 : decode b_X_tick 23 = .ok (.aload_n 0, 1) := by decide +kernel
theorem d_X_tick_24 : decode b_X_tick 24 = .ok (.getfield 35, 3) := by decide +kernel
theorem d_X_tick_27 : decode b_X_tick 27 = .ok (.aload_n 0, 1) := by decide +kernel
theorem d_X_tick_28 : decode b_X_tick 28 = .ok (.getfield 42, 3) := by decide +kernel
theorem d_X_tick_31 : decode b_X_tick 31 = .ok (.invokevirtual 79, 3) := by decide +kernel
theorem d_X_tick_34 : decode b_X_tick 34 = .ok (.iinc 2 1, 3) := by decide +kernel
theorem d_X_tick_37 : decode b_X_tick 37 = .ok (.goto (-23), 3) := by decide +kernel
theorem d_X_tick_40 : decode b_X_tick 40 = .ok (.aload_n 0, 1) := by decide +kernel
theorem d_X_tick_41 : decode b_X_tick 41 = .ok (.getfield 53, 3) := by decide +kernel
theorem d_X_tick_44 : decode b_X_tick 44 = .ok (.ireturn, 1) := by decide +kernel
theorem d_X_lose_0 : decode b_X_lose 0 = .ok (.iload_n 1, 1) := by decide +kernel
theorem d_X_lose_1 : decode b_X_lose 1 = .ok (.ifCond .lt 9, 3) := by decide +kernel
theorem d_X_lose_4 : decode b_X_lose 4 = .ok (.iload_n 1, 1) := by decide +kernel
theorem d_X_lose_5 : decode b_X_lose 5 = .ok (.bipush 40, 2) := by decide +kernel
theorem d_X_lose_7 : decode b_X_lose 7 = .ok (.if_icmp .le 5, 3) := by decide +kernel
theorem d_X_lose_10 : decode b_X_lose 10 = .ok (.iconst (-1), 1) := by decide +kernel
theorem d_X_lose_11 : decode b_X_lose 11 = .ok (.ireturn, 1) := by decide +kernel
theorem d_X_lose_12 : decode b_X_lose 12 = .ok (.iconst 0, 1) := by decide +kernel
theorem d_X_lose_13 : decode b_X_lose 13 = .ok (.istore_n 2, 1) := by decide +kernel
theorem d_X_lose_14 : decode b_X_lose 14 = .ok (.iload_n 2, 1) := by decide +kernel
theorem d_X_lose_15 : decode b_X_lose 15 = .ok (.iload_n 1, 1) := by decide +kernel
theorem d_X_lose_16 : decode b_X_lose 16 = .ok (.if_icmp .ge 13, 3) := by decide +kernel
theorem d_X_lose_19 : decode b_X_lose 19 = .ok (.aload_n 0, 1) := by decide +kernel
theorem d_X_lose_20 : decode b_X_lose 20 = .ok (.invokevirtual 76, 3) := by decide +kernel
theorem d_X_lose_23 : decode b_X_lose 23 = .ok (.iinc 2 1, 3) := by decide +kernel
theorem d_X_lose_26 : decode b_X_lose 26 = .ok (.goto (-12), 3) := by decide +kernel
theorem d_X_lose_29 : decode b_X_lose 29 = .ok (.aload_n 0, 1) := by decide +kernel
theorem d_X_lose_30 : decode b_X_lose 30 = .ok (.getfield 53, 3) := by decide +kernel
theorem d_X_lose_33 : decode b_X_lose 33 = .ok (.ireturn, 1) := by decide +kernel
theorem d_X_spoil_0 : decode b_X_spoil 0 = .ok (.iload_n 1, 1) := by decide +kernel
theorem d_X_spoil_1 : decode b_X_spoil 1 = .ok (.invokestatic 83, 3) := by decide +kernel
theorem d_X_spoil_4 : decode b_X_spoil 4 = .ok (.ifCond .eq 14, 3) := by decide +kernel
theorem d_X_spoil_7 : decode b_X_spoil 7 = .ok (.iload_n 2, 1) := by decide +kernel
theorem d_X_spoil_8 : decode b_X_spoil 8 = .ok (.ifCond .lt 10, 3) := by decide +kernel
theorem d_X_spoil_11 : decode b_X_spoil 11 = .ok (.iload_n 2, 1) := by decide +kernel
theorem d_X_spoil_12 : decode b_X_spoil 12 = .ok (.sipush 255, 3) := by decide +kernel
theorem d_X_spoil_15 : decode b_X_spoil 15 = .ok (.if_icmp .le 5, 3) := by decide +kernel
theorem d_X_spoil_18 : decode b_X_spoil 18 = .ok (.iconst (-1), 1) := by decide +kernel
theorem d_X_spoil_19 : decode b_X_spoil 19 = .ok (.ireturn, 1) := by decide +kernel
theorem d_X_spoil_20 : decode b_X_spoil 20 = .ok (.aload_n 0, 1) := by decide +kernel
theorem d_X_spoil_21 : decode b_X_spoil 21 = .ok (.invokevirtual 76, 3) := by decide +kernel
theorem d_X_spoil_24 : decode b_X_spoil 24 = .ok (.aload_n 0, 1) := by decide +kernel
theorem d_X_spoil_25 : decode b_X_spoil 25 = .ok (.getfield 46, 3) := by decide +kernel
theorem d_X_spoil_28 : decode b_X_spoil 28 = .ok (.aload_n 0, 1) := by decide +kernel
theorem d_X_spoil_29 : decode b_X_spoil 29 = .ok (.getfield 42, 3) := by decide +kernel
theorem d_X_spoil_32 : decode b_X_spoil 32 = .ok (.invokevirtual 86, 3) := by decide +kernel
theorem d_X_spoil_35 : decode b_X_spoil 35 = .ok (.aload_n 0, 1) := by decide +kernel
theorem d_X_spoil_36 : decode b_X_spoil 36 = .ok (.getfield 46, 3) := by decide +kernel
theorem d_X_spoil_39 : decode b_X_spoil 39 = .ok (.iload_n 1, 1) := by decide +kernel
theorem d_X_spoil_40 : decode b_X_spoil 40 = .ok (.iload_n 2, 1) := by decide +kernel
theorem d_X_spoil_41 : decode b_X_spoil 41 = .ok (.invokevirtual 89, 3) := by decide +kernel
theorem d_X_spoil_44 : decode b_X_spoil 44 = .ok (.aload_n 0, 1) := by decide +kernel
theorem d_X_spoil_45 : decode b_X_spoil 45 = .ok (.getfield 35, 3) := by decide +kernel
theorem d_X_spoil_48 : decode b_X_spoil 48 = .ok (.aload_n 0, 1) := by decide +kernel
theorem d_X_spoil_49 : decode b_X_spoil 49 = .ok (.getfield 46, 3) := by decide +kernel
theorem d_X_spoil_52 : decode b_X_spoil 52 = .ok (.invokevirtual 79, 3) := by decide +kernel
theorem d_X_spoil_55 : decode b_X_spoil 55 = .ok (.aload_n 0, 1) := by decide +kernel
theorem d_X_spoil_56 : decode b_X_spoil 56 = .ok (.getfield 53, 3) := by decide +kernel
theorem d_X_spoil_59 : decode b_X_spoil 59 = .ok (.ireturn, 1) := by decide +kernel
theorem d_X_packet_0 : decode b_X_packet 0 = .ok (.iload_n 1, 1) := by decide +kernel
theorem d_X_packet_1 : decode b_X_packet 1 = .ok (.invokestatic 83, 3) := by decide +kernel
theorem d_X_packet_4 : decode b_X_packet 4 = .ok (.ifCond .eq 10, 3) := by decide +kernel
theorem d_X_packet_7 : decode b_X_packet 7 = .ok (.aload_n 0, 1) := by decide +kernel
theorem d_X_packet_8 : decode b_X_packet 8 = .ok (.getfield 93, 3) := by decide +kernel
theorem d_X_packet_11 : decode b_X_packet 11 = .ok (.ifCond .ne 5, 3) := by decide +kernel
theorem d_X_packet_14 : decode b_X_packet 14 = .ok (.iconst (-1), 1) := by decide +kernel
theorem d_X_packet_15 : decode b_X_packet 15 = .ok (.ireturn, 1) := by decide +kernel
theorem d_X_packet_16 : decode b_X_packet 16 = .ok (.aload_n 0, 1) := by decide +kernel
theorem d_X_packet_17 : decode b_X_packet 17 = .ok (.getfield 42, 3) := by decide +kernel
theorem d_X_packet_20 : decode b_X_packet 20 = .ok (.iload_n 1, 1) := by decide +kernel
theorem d_X_packet_21 : decode b_X_packet 21 = .ok (.invokevirtual 97, 3) := by decide +kernel
theorem d_X_packet_24 : decode b_X_packet 24 = .ok (.ireturn, 1) := by decide +kernel
theorem d_X_waiting_0 : decode b_X_waiting 0 = .ok (.iload_n 1, 1) := by decide +kernel
theorem d_X_waiting_1 : decode b_X_waiting 1 = .ok (.invokestatic 49, 3) := by decide +kernel
theorem d_X_waiting_4 : decode b_X_waiting 4 = .ok (.ifCond .eq 18, 3) := by decide +kernel
theorem d_X_waiting_7 : decode b_X_waiting 7 = .ok (.aload_n 0, 1) := by decide +kernel
theorem d_X_waiting_8 : decode b_X_waiting 8 = .ok (.getfield 27, 3) := by decide +kernel
theorem d_X_waiting_11 : decode b_X_waiting 11 = .ok (.iload_n 1, 1) := by decide +kernel
theorem d_X_waiting_12 : decode b_X_waiting 12 = .ok (.aaload, 1) := by decide +kernel
theorem d_X_waiting_13 : decode b_X_waiting 13 = .ok (.getfield 59, 3) := by decide +kernel
theorem d_X_waiting_16 : decode b_X_waiting 16 = .ok (.getfield 73, 3) := by decide +kernel
theorem d_X_waiting_19 : decode b_X_waiting 19 = .ok (.goto 4, 3) := by decide +kernel
theorem d_X_waiting_22 : decode b_X_waiting 22 = .ok (.iconst (-1), 1) := by decide +kernel
theorem d_X_waiting_23 : decode b_X_waiting 23 = .ok (.ireturn, 1) := by decide +kernel
theorem d_X_stored_0 : decode b_X_stored 0 = .ok (.iload_n 1, 1) := by decide +kernel
theorem d_X_stored_1 : decode b_X_stored 1 = .ok (.invokestatic 49, 3) := by decide +kernel
theorem d_X_stored_4 : decode b_X_stored 4 = .ok (.ifCond .eq 18, 3) := by decide +kernel
theorem d_X_stored_7 : decode b_X_stored 7 = .ok (.aload_n 0, 1) := by decide +kernel
theorem d_X_stored_8 : decode b_X_stored 8 = .ok (.getfield 27, 3) := by decide +kernel
theorem d_X_stored_11 : decode b_X_stored 11 = .ok (.iload_n 1, 1) := by decide +kernel
theorem d_X_stored_12 : decode b_X_stored 12 = .ok (.aaload, 1) := by decide +kernel
theorem d_X_stored_13 : decode b_X_stored 13 = .ok (.getfield 101, 3) := by decide +kernel
theorem d_X_stored_16 : decode b_X_stored 16 = .ok (.getfield 73, 3) := by decide +kernel
theorem d_X_stored_19 : decode b_X_stored 19 = .ok (.goto 4, 3) := by decide +kernel
theorem d_X_stored_22 : decode b_X_stored 22 = .ok (.iconst (-1), 1) := by decide +kernel
theorem d_X_stored_23 : decode b_X_stored 23 = .ok (.ireturn, 1) := by decide +kernel
theorem d_X_levels_0 : decode b_X_levels 0 = .ok (.iload_n 1, 1) := by decide +kernel
theorem d_X_levels_1 : decode b_X_levels 1 = .ok (.invokestatic 49, 3) := by decide +kernel
theorem d_X_levels_4 : decode b_X_levels 4 = .ok (.ifCond .eq 28, 3) := by decide +kernel
theorem d_X_levels_7 : decode b_X_levels 7 = .ok (.aload_n 0, 1) := by decide +kernel
theorem d_X_levels_8 : decode b_X_levels 8 = .ok (.getfield 27, 3) := by decide +kernel
theorem d_X_levels_11 : decode b_X_levels 11 = .ok (.iload_n 1, 1) := by decide +kernel
theorem d_X_levels_12 : decode b_X_levels 12 = .ok (.aaload, 1) := by decide +kernel
theorem d_X_levels_13 : decode b_X_levels 13 = .ok (.getfield 104, 3) := by decide +kernel
theorem d_X_levels_16 : decode b_X_levels 16 = .ok (.bipush 32, 2) := by decide +kernel
theorem d_X_levels_18 : decode b_X_levels 18 = .ok (.imul, 1) := by decide +kernel
theorem d_X_levels_19 : decode b_X_levels 19 = .ok (.aload_n 0, 1) := by decide +kernel
theorem d_X_levels_20 : decode b_X_levels 20 = .ok (.getfield 27, 3) := by decide +kernel
theorem d_X_levels_23 : decode b_X_levels 23 = .ok (.iload_n 1, 1) := by decide +kernel
theorem d_X_levels_24 : decode b_X_levels 24 = .ok (.aaload, 1) := by decide +kernel
theorem d_X_levels_25 : decode b_X_levels 25 = .ok (.getfield 107, 3) := by decide +kernel
theorem d_X_levels_28 : decode b_X_levels 28 = .ok (.iadd, 1) := by decide +kernel
theorem d_X_levels_29 : decode b_X_levels 29 = .ok (.goto 4, 3) := by decide +kernel
theorem d_X_levels_32 : decode b_X_levels 32 = .ok (.iconst (-1), 1) := by decide +kernel
theorem d_X_levels_33 : decode b_X_levels 33 = .ok (.ireturn, 1) := by decide +kernel
theorem d_X_late_0 : decode b_X_late 0 = .ok (.iload_n 1, 1) := by decide +kernel
theorem d_X_late_1 : decode b_X_late 1 = .ok (.invokestatic 49, 3) := by decide +kernel
theorem d_X_late_4 : decode b_X_late 4 = .ok (.ifCond .eq 15, 3) := by decide +kernel
theorem d_X_late_7 : decode b_X_late 7 = .ok (.aload_n 0, 1) := by decide +kernel
theorem d_X_late_8 : decode b_X_late 8 = .ok (.getfield 27, 3) := by decide +kernel
theorem d_X_late_11 : decode b_X_late 11 = .ok (.iload_n 1, 1) := by decide +kernel
theorem d_X_late_12 : decode b_X_late 12 = .ok (.aaload, 1) := by decide +kernel
theorem d_X_late_13 : decode b_X_late 13 = .ok (.getfield 110, 3) := by decide +kernel
theorem d_X_late_16 : decode b_X_late 16 = .ok (.goto 4, 3) := by decide +kernel
theorem d_X_late_19 : decode b_X_late 19 = .ok (.iconst (-1), 1) := by decide +kernel
theorem d_X_late_20 : decode b_X_late 20 = .ok (.ireturn, 1) := by decide +kernel
theorem d_X_clock_0 : decode b_X_clock 0 = .ok (.aload_n 0, 1) := by decide +kernel
theorem d_X_clock_1 : decode b_X_clock 1 = .ok (.getfield 35, 3) := by decide +kernel
theorem d_X_clock_4 : decode b_X_clock 4 = .ok (.getfield 113, 3) := by decide +kernel
theorem d_X_clock_7 : decode b_X_clock 7 = .ok (.ifCond .eq 13, 3) := by decide +kernel
theorem d_X_clock_10 : decode b_X_clock 10 = .ok (.aload_n 0, 1) := by decide +kernel
theorem d_X_clock_11 : decode b_X_clock 11 = .ok (.getfield 35, 3) := by decide +kernel
theorem d_X_clock_14 : decode b_X_clock 14 = .ok (.getfield 116, 3) := by decide +kernel
theorem d_X_clock_17 : decode b_X_clock 17 = .ok (.goto 4, 3) := by decide +kernel
theorem d_X_clock_20 : decode b_X_clock 20 = .ok (.iconst (-1), 1) := by decide +kernel
theorem d_X_clock_21 : decode b_X_clock 21 = .ok (.ireturn, 1) := by decide +kernel
theorem d_X_retune_0 : decode b_X_retune 0 = .ok (.aload_n 0, 1) := by decide +kernel
theorem d_X_retune_1 : decode b_X_retune 1 = .ok (.getfield 35, 3) := by decide +kernel
theorem d_X_retune_4 : decode b_X_retune 4 = .ok (.invokevirtual 119, 3) := by decide +kernel
theorem d_X_retune_7 : decode b_X_retune 7 = .ok (.return_, 1) := by decide +kernel
theorem d_X_count_0 : decode b_X_count 0 = .ok (.iload_n 1, 1) := by decide +kernel
theorem d_X_count_1 : decode b_X_count 1 = .ok (.ifCond .lt 21, 3) := by decide +kernel
theorem d_X_count_4 : decode b_X_count 4 = .ok (.iload_n 1, 1) := by decide +kernel
theorem d_X_count_5 : decode b_X_count 5 = .ok (.bipush 6, 2) := by decide +kernel
theorem d_X_count_7 : decode b_X_count 7 = .ok (.if_icmp .ge 15, 3) := by decide +kernel
theorem d_X_count_10 : decode b_X_count 10 = .ok (.aload_n 0, 1) := by decide +kernel
theorem d_X_count_11 : decode b_X_count 11 = .ok (.getfield 35, 3) := by decide +kernel
theorem d_X_count_14 : decode b_X_count 14 = .ok (.getfield 122, 3) := by decide +kernel
theorem d_X_count_17 : decode b_X_count 17 = .ok (.iload_n 1, 1) := by decide +kernel
theorem d_X_count_18 : decode b_X_count 18 = .ok (.iaload, 1) := by decide +kernel
theorem d_X_count_19 : decode b_X_count 19 = .ok (.goto 4, 3) := by decide +kernel
theorem d_X_count_22 : decode b_X_count 22 = .ok (.iconst (-1), 1) := by decide +kernel
theorem d_X_count_23 : decode b_X_count 23 = .ok (.ireturn, 1) := by decide +kernel
theorem d_X_latest_0 : decode b_X_latest 0 = .ok (.iload_n 1, 1) := by decide +kernel
theorem d_X_latest_1 : decode b_X_latest 1 = .ok (.invokestatic 49, 3) := by decide +kernel
theorem d_X_latest_4 : decode b_X_latest 4 = .ok (.ifCond .eq 18, 3) := by decide +kernel
theorem d_X_latest_7 : decode b_X_latest 7 = .ok (.aload_n 0, 1) := by decide +kernel
theorem d_X_latest_8 : decode b_X_latest 8 = .ok (.getfield 35, 3) := by decide +kernel
theorem d_X_latest_11 : decode b_X_latest 11 = .ok (.getfield 126, 3) := by decide +kernel
theorem d_X_latest_14 : decode b_X_latest 14 = .ok (.iload_n 1, 1) := by decide +kernel
theorem d_X_latest_15 : decode b_X_latest 15 = .ok (.aaload, 1) := by decide +kernel
theorem d_X_latest_16 : decode b_X_latest 16 = .ok (.getfield 130, 3) := by decide +kernel
theorem d_X_latest_19 : decode b_X_latest 19 = .ok (.ifCond .ne 5, 3) := by decide +kernel
theorem d_X_latest_22 : decode b_X_latest 22 = .ok (.iconst (-1), 1) := by decide +kernel
theorem d_X_latest_23 : decode b_X_latest 23 = .ok (.ireturn, 1) := by decide +kernel
theorem d_X_latest_24 : decode b_X_latest 24 = .ok (.aload_n 0, 1) := by decide +kernel
theorem d_X_latest_25 : decode b_X_latest 25 = .ok (.getfield 35, 3) := by decide +kernel
theorem d_X_latest_28 : decode b_X_latest 28 = .ok (.getfield 126, 3) := by decide +kernel
theorem d_X_latest_31 : decode b_X_latest 31 = .ok (.iload_n 1, 1) := by decide +kernel
theorem d_X_latest_32 : decode b_X_latest 32 = .ok (.aaload, 1) := by decide +kernel
theorem d_X_latest_33 : decode b_X_latest 33 = .ok (.astore_n 3, 1) := by decide +kernel
theorem d_X_latest_34 : decode b_X_latest 34 = .ok (.iload_n 2, 1) := by decide +kernel
theorem d_X_latest_35 : decode b_X_latest 35 = .ok (.tableswitch 40 0 2 #[25, 30, 35], 25) := by decide +kernel
theorem d_X_latest_60 : decode b_X_latest 60 = .ok (.aload_n 3, 1) := by decide +kernel
theorem d_X_latest_61 : decode b_X_latest 61 = .ok (.getfield 135, 3) := by decide +kernel
theorem d_X_latest_64 : decode b_X_latest 64 = .ok (.ireturn, 1) := by decide +kernel
theorem d_X_latest_65 : decode b_X_latest 65 = .ok (.aload_n 3, 1) := by decide +kernel
theorem d_X_latest_66 : decode b_X_latest 66 = .ok (.getfield 138, 3) := by decide +kernel
theorem d_X_latest_69 : decode b_X_latest 69 = .ok (.ireturn, 1) := by decide +kernel
theorem d_X_latest_70 : decode b_X_latest 70 = .ok (.aload_n 3, 1) := by decide +kernel
theorem d_X_latest_71 : decode b_X_latest 71 = .ok (.getfield 130, 3) := by decide +kernel
theorem d_X_latest_74 : decode b_X_latest 74 = .ok (.ireturn, 1) := by decide +kernel
theorem d_X_latest_75 : decode b_X_latest 75 = .ok (.iconst (-1), 1) := by decide +kernel
theorem d_X_latest_76 : decode b_X_latest 76 = .ok (.ireturn, 1) := by decide +kernel
theorem d_X_letter_0 : decode b_X_letter 0 = .ok (.iload_n 1, 1) := by decide +kernel
theorem d_X_letter_1 : decode b_X_letter 1 = .ok (.invokestatic 49, 3) := by decide +kernel
theorem d_X_letter_4 : decode b_X_letter 4 = .ok (.ifCond .eq 18, 3) := by decide +kernel
theorem d_X_letter_7 : decode b_X_letter 7 = .ok (.aload_n 0, 1) := by decide +kernel
theorem d_X_letter_8 : decode b_X_letter 8 = .ok (.getfield 35, 3) := by decide +kernel
theorem d_X_letter_11 : decode b_X_letter 11 = .ok (.getfield 126, 3) := by decide +kernel
theorem d_X_letter_14 : decode b_X_letter 14 = .ok (.iload_n 1, 1) := by decide +kernel
theorem d_X_letter_15 : decode b_X_letter 15 = .ok (.aaload, 1) := by decide +kernel
theorem d_X_letter_16 : decode b_X_letter 16 = .ok (.getfield 130, 3) := by decide +kernel
theorem d_X_letter_19 : decode b_X_letter 19 = .ok (.ifCond .ne 5, 3) := by decide +kernel
theorem d_X_letter_22 : decode b_X_letter 22 = .ok (.iconst (-1), 1) := by decide +kernel
theorem d_X_letter_23 : decode b_X_letter 23 = .ok (.ireturn, 1) := by decide +kernel
theorem d_X_letter_24 : decode b_X_letter 24 = .ok (.aload_n 0, 1) := by decide +kernel
theorem d_X_letter_25 : decode b_X_letter 25 = .ok (.getfield 35, 3) := by decide +kernel
theorem d_X_letter_28 : decode b_X_letter 28 = .ok (.getfield 126, 3) := by decide +kernel
theorem d_X_letter_31 : decode b_X_letter 31 = .ok (.iload_n 1, 1) := by decide +kernel
theorem d_X_letter_32 : decode b_X_letter 32 = .ok (.aaload, 1) := by decide +kernel
theorem d_X_letter_33 : decode b_X_letter 33 = .ok (.astore_n 3, 1) := by decide +kernel
theorem d_X_letter_34 : decode b_X_letter 34 = .ok (.iload_n 2, 1) := by decide +kernel
theorem d_X_letter_35 : decode b_X_letter 35 = .ok (.ifCond .lt 20, 3) := by decide +kernel
theorem d_X_letter_38 : decode b_X_letter 38 = .ok (.iload_n 2, 1) := by decide +kernel
theorem d_X_letter_39 : decode b_X_letter 39 = .ok (.aload_n 3, 1) := by decide +kernel
theorem d_X_letter_40 : decode b_X_letter 40 = .ok (.getfield 135, 3) := by decide +kernel
theorem d_X_letter_43 : decode b_X_letter 43 = .ok (.if_icmp .ge 12, 3) := by decide +kernel
theorem d_X_letter_46 : decode b_X_letter 46 = .ok (.aload_n 3, 1) := by decide +kernel
theorem d_X_letter_47 : decode b_X_letter 47 = .ok (.getfield 141, 3) := by decide +kernel
theorem d_X_letter_50 : decode b_X_letter 50 = .ok (.iload_n 2, 1) := by decide +kernel
theorem d_X_letter_51 : decode b_X_letter 51 = .ok (.iaload, 1) := by decide +kernel
theorem d_X_letter_52 : decode b_X_letter 52 = .ok (.goto 4, 3) := by decide +kernel
theorem d_X_letter_55 : decode b_X_letter 55 = .ok (.iconst (-1), 1) := by decide +kernel
theorem d_X_letter_56 : decode b_X_letter 56 = .ok (.ireturn, 1) := by decide +kernel
theorem d_X_isStream_0 : decode b_X_isStream 0 = .ok (.iload_n 0, 1) := by decide +kernel
theorem d_X_isStream_1 : decode b_X_isStream 1 = .ok (.ifCond .lt 12, 3) := by decide +kernel
theorem d_X_isStream_4 : decode b_X_isStream 4 = .ok (.iload_n 0, 1) := by decide +kernel
theorem d_X_isStream_5 : decode b_X_isStream 5 = .ok (.iconst 3, 1) := by decide +kernel
theorem d_X_isStream_6 : decode b_X_isStream 6 = .ok (.if_icmp .ge 7, 3) := by decide +kernel
theorem d_X_isStream_9 : decode b_X_isStream 9 = .ok (.iconst 1, 1) := by decide +kernel
theorem d_X_isStream_10 : decode b_X_isStream 10 = .ok (.goto 4, 3) := by decide +kernel
theorem d_X_isStream_13 : decode b_X_isStream 13 = .ok (.iconst 0, 1) := by decide +kernel
theorem d_X_isStream_14 : decode b_X_isStream 14 = .ok (.ireturn, 1) := by decide +kernel
theorem d_X_isPacketIndex_0 : decode b_X_isPacketIndex 0 = .ok (.iload_n 0, 1) := by decide +kernel
theorem d_X_isPacketIndex_1 : decode b_X_isPacketIndex 1 = .ok (.ifCond .lt 13, 3) := by decide +kernel
theorem d_X_isPacketIndex_4 : decode b_X_isPacketIndex 4 = .ok (.iload_n 0, 1) := by decide +kernel
theorem d_X_isPacketIndex_5 : decode b_X_isPacketIndex 5 = .ok (.bipush 16, 2) := by decide +kernel
theorem d_X_isPacketIndex_7 : decode b_X_isPacketIndex 7 = .ok (.if_icmp .ge 7, 3) := by decide +kernel
theorem d_X_isPacketIndex_10 : decode b_X_isPacketIndex 10 = .ok (.iconst 1, 1) := by decide +kernel
theorem d_X_isPacketIndex_11 : decode b_X_isPacketIndex 11 = .ok (.goto 4, 3) := by decide +kernel
theorem d_X_isPacketIndex_14 : decode b_X_isPacketIndex 14 = .ok (.iconst 0, 1) := by decide +kernel
theorem d_X_isPacketIndex_15 : decode b_X_isPacketIndex 15 = .ok (.ireturn, 1) := by decide +kernel
theorem d_X_sendPacket_0 : decode b_X_sendPacket 0 = .ok (.iconst 0, 1) := by decide +kernel
theorem d_X_sendPacket_1 : decode b_X_sendPacket 1 = .ok (.istore_n 1, 1) := by decide +kernel
theorem d_X_sendPacket_2 : decode b_X_sendPacket 2 = .ok (.iload_n 1, 1) := by decide +kernel
theorem d_X_sendPacket_3 : decode b_X_sendPacket 3 = .ok (.iconst 3, 1) := by decide +kernel
theorem d_X_sendPacket_4 : decode b_X_sendPacket 4 = .ok (.if_icmp .ge 26, 3) := by decide +kernel
theorem d_X_sendPacket_7 : decode b_X_sendPacket 7 = .ok (.aload_n 0, 1) := by decide +kernel
theorem d_X_sendPacket_8 : decode b_X_sendPacket 8 = .ok (.getfield 27, 3) := by decide +kernel
theorem d_X_sendPacket_11 : decode b_X_sendPacket 11 = .ok (.iload_n 1, 1) := by decide +kernel
theorem d_X_sendPacket_12 : decode b_X_sendPacket 12 = .ok (.aaload, 1) := by decide +kernel
theorem d_X_sendPacket_13 : decode b_X_sendPacket 13 = .ok (.aload_n 0, 1) := by decide +kernel
theorem d_X_sendPacket_14 : decode b_X_sendPacket 14 = .ok (.getfield 53, 3) := by decide +kernel
theorem d_X_sendPacket_17 : decode b_X_sendPacket 17 = .ok (.aload_n 0, 1) := by decide +kernel
theorem d_X_sendPacket_18 : decode b_X_sendPacket 18 = .ok (.getfield 18, 3) := by decide +kernel
theorem d_X_sendPacket_21 : decode b_X_sendPacket 21 = .ok (.invokevirtual 144, 3) := by decide +kernel
theorem d_X_sendPacket_24 : decode b_X_sendPacket 24 = .ok (.iinc 1 1, 3) := by decide +kernel
theorem d_X_sendPacket_27 : decode b_X_sendPacket 27 = .ok (.goto (-25), 3) := by decide +kernel
theorem d_X_sendPacket_30 : decode b_X_sendPacket 30 = .ok (.aload_n 0, 1) := by decide +kernel
theorem d_X_sendPacket_31 : decode b_X_sendPacket 31 = .ok (.getfield 53, 3) := by decide +kernel
theorem d_X_sendPacket_34 : decode b_X_sendPacket 34 = .ok (.bipush 8, 2) := by decide +kernel
theorem d_X_sendPacket_36 : decode b_X_sendPacket 36 = .ok (.irem, 1) := by decide +kernel
theorem d_X_sendPacket_37 : decode b_X_sendPacket 37 = .ok (.ifCond .ne 7, 3) := by decide +kernel
theorem d_X_sendPacket_40 : decode b_X_sendPacket 40 = .ok (.iconst 1, 1) := by decide +kernel
theorem d_X_sendPacket_41 : decode b_X_sendPacket 41 = .ok (.goto 4, 3) := by decide +kernel
theorem d_X_sendPacket_44 : decode b_X_sendPacket 44 = .ok (.iconst 0, 1) := by decide +kernel
theorem d_X_sendPacket_45 : decode b_X_sendPacket 45 = .ok (.istore_n 1, 1) := by decide +kernel
theorem d_X_sendPacket_46 : decode b_X_sendPacket 46 = .ok (.aload_n 0, 1) := by decide +kernel
theorem d_X_sendPacket_47 : decode b_X_sendPacket 47 = .ok (.iload_n 1, 1) := by decide +kernel
theorem d_X_sendPacket_48 : decode b_X_sendPacket 48 = .ok (.invokevirtual 147, 3) := by decide +kernel
theorem d_X_sendPacket_51 : decode b_X_sendPacket 51 = .ok (.istore_n 2, 1) := by decide +kernel
theorem d_X_sendPacket_52 : decode b_X_sendPacket 52 = .ok (.aload_n 0, 1) := by decide +kernel
theorem d_X_sendPacket_53 : decode b_X_sendPacket 53 = .ok (.getfield 42, 3) := by decide +kernel
theorem d_X_sendPacket_56 : decode b_X_sendPacket 56 = .ok (.invokevirtual 151, 3) := by decide +kernel
theorem d_X_sendPacket_59 : decode b_X_sendPacket 59 = .ok (.iload_n 2, 1) := by decide +kernel
theorem d_X_sendPacket_60 : decode b_X_sendPacket 60 = .ok (.invokestatic 49, 3) := by decide +kernel
theorem d_X_sendPacket_63 : decode b_X_sendPacket 63 = .ok (.ifCond .eq 12, 3) := by decide +kernel
theorem d_X_sendPacket_66 : decode b_X_sendPacket 66 = .ok (.aload_n 0, 1) := by decide +kernel

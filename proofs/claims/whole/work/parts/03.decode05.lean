theorem d_M_goOn_124 : decode b_M_goOn 124 = .ok (.iconst 1, 1) := by decide +kernel
theorem d_M_goOn_125 : decode b_M_goOn 125 = .ok (.iadd, 1) := by decide +kernel
theorem d_M_goOn_126 : decode b_M_goOn 126 = .ok (.iastore, 1) := by decide +kernel
theorem d_M_goOn_127 : decode b_M_goOn 127 = .ok (.return_, 1) := by decide +kernel
theorem d_M_takes_0 : decode b_M_takes 0 = .ok (.aload_n 0, 1) := by decide +kernel
theorem d_M_takes_1 : decode b_M_takes 1 = .ok (.getfield 28, 3) := by decide +kernel
theorem d_M_takes_4 : decode b_M_takes 4 = .ok (.iload_n 1, 1) := by decide +kernel
theorem d_M_takes_5 : decode b_M_takes 5 = .ok (.iaload, 1) := by decide +kernel
theorem d_M_takes_6 : decode b_M_takes 6 = .ok (.aload_n 0, 1) := by decide +kernel
theorem d_M_takes_7 : decode b_M_takes 7 = .ok (.getfield 22, 3) := by decide +kernel
theorem d_M_takes_10 : decode b_M_takes 10 = .ok (.iload_n 1, 1) := by decide +kernel
theorem d_M_takes_11 : decode b_M_takes 11 = .ok (.iaload, 1) := by decide +kernel
theorem d_M_takes_12 : decode b_M_takes 12 = .ok (.if_icmp .ne 5, 3) := by decide +kernel
theorem d_M_takes_15 : decode b_M_takes 15 = .ok (.iconst 0, 1) := by decide +kernel
theorem d_M_takes_16 : decode b_M_takes 16 = .ok (.ireturn, 1) := by decide +kernel
theorem d_M_takes_17 : decode b_M_takes 17 = .ok (.bipush 14, 2) := by decide +kernel
theorem d_M_takes_19 : decode b_M_takes 19 = .ok (.aload_n 0, 1) := by decide +kernel
theorem d_M_takes_20 : decode b_M_takes 20 = .ok (.getfield 94, 3) := by decide +kernel
theorem d_M_takes_23 : decode b_M_takes 23 = .ok (.bipush 8, 2) := by decide +kernel
theorem d_M_takes_25 : decode b_M_takes 25 = .ok (.irem, 1) := by decide +kernel
theorem d_M_takes_26 : decode b_M_takes 26 = .ok (.ifCond .ne 7, 3) := by decide +kernel
theorem d_M_takes_29 : decode b_M_takes 29 = .ok (.iconst 2, 1) := by decide +kernel
theorem d_M_takes_30 : decode b_M_takes 30 = .ok (.goto 4, 3) := by decide +kernel
theorem d_M_takes_33 : decode b_M_takes 33 = .ok (.iconst 0, 1) := by decide +kernel
theorem d_M_takes_34 : decode b_M_takes 34 = .ok (.isub, 1) := by decide +kernel
theorem d_M_takes_35 : decode b_M_takes 35 = .ok (.aload_n 0, 1) := by decide +kernel
theorem d_M_takes_36 : decode b_M_takes 36 = .ok (.getfield 31, 3) := by decide +kernel
theorem d_M_takes_39 : decode b_M_takes 39 = .ok (.iload_n 1, 1) := by decide +kernel
theorem d_M_takes_40 : decode b_M_takes 40 = .ok (.iaload, 1) := by decide +kernel
theorem d_M_takes_41 : decode b_M_takes 41 = .ok (.ifCond .ne 7, 3) := by decide +kernel
theorem d_M_takes_44 : decode b_M_takes 44 = .ok (.iconst 3, 1) := by decide +kernel
theorem d_M_takes_45 : decode b_M_takes 45 = .ok (.goto 4, 3) := by decide +kernel
theorem d_M_takes_48 : decode b_M_takes 48 = .ok (.iconst 0, 1) := by decide +kernel
theorem d_M_takes_49 : decode b_M_takes 49 = .ok (.isub, 1) := by decide +kernel
theorem d_M_takes_50 : decode b_M_takes 50 = .ok (.istore_n 2, 1) := by decide +kernel
theorem d_M_takes_51 : decode b_M_takes 51 = .ok (.aload_n 0, 1) := by decide +kernel
theorem d_M_takes_52 : decode b_M_takes 52 = .ok (.getfield 13, 3) := by decide +kernel
theorem d_M_takes_55 : decode b_M_takes 55 = .ok (.sipush 512, 3) := by decide +kernel
theorem d_M_takes_58 : decode b_M_takes 58 = .ok (.iload_n 1, 1) := by decide +kernel
theorem d_M_takes_59 : decode b_M_takes 59 = .ok (.imul, 1) := by decide +kernel
theorem d_M_takes_60 : decode b_M_takes 60 = .ok (.aload_n 0, 1) := by decide +kernel
theorem d_M_takes_61 : decode b_M_takes 61 = .ok (.getfield 28, 3) := by decide +kernel
theorem d_M_takes_64 : decode b_M_takes 64 = .ok (.iload_n 1, 1) := by decide +kernel
theorem d_M_takes_65 : decode b_M_takes 65 = .ok (.iaload, 1) := by decide +kernel
theorem d_M_takes_66 : decode b_M_takes 66 = .ok (.iadd, 1) := by decide +kernel
theorem d_M_takes_67 : decode b_M_takes 67 = .ok (.iaload, 1) := by decide +kernel
theorem d_M_takes_68 : decode b_M_takes 68 = .ok (.aload_n 0, 1) := by decide +kernel
theorem d_M_takes_69 : decode b_M_takes 69 = .ok (.getfield 31, 3) := by decide +kernel
theorem d_M_takes_72 : decode b_M_takes 72 = .ok (.iload_n 1, 1) := by decide +kernel
theorem d_M_takes_73 : decode b_M_takes 73 = .ok (.iaload, 1) := by decide +kernel
theorem d_M_takes_74 : decode b_M_takes 74 = .ok (.isub, 1) := by decide +kernel
theorem d_M_takes_75 : decode b_M_takes 75 = .ok (.istore_n 3, 1) := by decide +kernel
theorem d_M_takes_76 : decode b_M_takes 76 = .ok (.iload_n 3, 1) := by decide +kernel
theorem d_M_takes_77 : decode b_M_takes 77 = .ok (.iload_n 2, 1) := by decide +kernel
theorem d_M_takes_78 : decode b_M_takes 78 = .ok (.if_icmp .ge 7, 3) := by decide +kernel
theorem d_M_takes_81 : decode b_M_takes 81 = .ok (.iload_n 3, 1) := by decide +kernel
theorem d_M_takes_82 : decode b_M_takes 82 = .ok (.goto 4, 3) := by decide +kernel
theorem d_M_takes_85 : decode b_M_takes 85 = .ok (.iload_n 2, 1) := by decide +kernel
theorem d_M_takes_86 : decode b_M_takes 86 = .ok (.ireturn, 1) := by decide +kernel
theorem d_M_ready_0 : decode b_M_ready 0 = .ok (.aload_n 0, 1) := by decide +kernel
theorem d_M_ready_1 : decode b_M_ready 1 = .ok (.iload_n 1, 1) := by decide +kernel
theorem d_M_ready_2 : decode b_M_ready 2 = .ok (.invokevirtual 97, 3) := by decide +kernel
theorem d_M_ready_5 : decode b_M_ready 5 = .ok (.istore_n 2, 1) := by decide +kernel
theorem d_M_ready_6 : decode b_M_ready 6 = .ok (.aload_n 0, 1) := by decide +kernel
theorem d_M_ready_7 : decode b_M_ready 7 = .ok (.getfield 28, 3) := by decide +kernel
theorem d_M_ready_10 : decode b_M_ready 10 = .ok (.iload_n 1, 1) := by decide +kernel
theorem d_M_ready_11 : decode b_M_ready 11 = .ok (.iaload, 1) := by decide +kernel
theorem d_M_ready_12 : decode b_M_ready 12 = .ok (.aload_n 0, 1) := by decide +kernel
theorem d_M_ready_13 : decode b_M_ready 13 = .ok (.getfield 25, 3) := by decide +kernel
theorem d_M_ready_16 : decode b_M_ready 16 = .ok (.iload_n 1, 1) := by decide +kernel
theorem d_M_ready_17 : decode b_M_ready 17 = .ok (.iaload, 1) := by decide +kernel
theorem d_M_ready_18 : decode b_M_ready 18 = .ok (.isub, 1) := by decide +kernel
theorem d_M_ready_19 : decode b_M_ready 19 = .ok (.istore_n 3, 1) := by decide +kernel
theorem d_M_ready_20 : decode b_M_ready 20 = .ok (.iload_n 2, 1) := by decide +kernel
theorem d_M_ready_21 : decode b_M_ready 21 = .ok (.ifCond .le 49, 3) := by decide +kernel
theorem d_M_ready_24 : decode b_M_ready 24 = .ok (.aload_n 0, 1) := by decide +kernel
theorem d_M_ready_25 : decode b_M_ready 25 = .ok (.getfield 7, 3) := by decide +kernel
theorem d_M_ready_28 : decode b_M_ready 28 = .ok (.iload_n 1, 1) := by decide +kernel
theorem d_M_ready_29 : decode b_M_ready 29 = .ok (.iaload, 1) := by decide +kernel
theorem d_M_ready_30 : decode b_M_ready 30 = .ok (.iload_n 2, 1) := by decide +kernel
theorem d_M_ready_31 : decode b_M_ready 31 = .ok (.iadd, 1) := by decide +kernel
theorem d_M_ready_32 : decode b_M_ready 32 = .ok (.bipush 28, 2) := by decide +kernel
theorem d_M_ready_34 : decode b_M_ready 34 = .ok (.if_icmp .gt 36, 3) := by decide +kernel
theorem d_M_ready_37 : decode b_M_ready 37 = .ok (.aload_n 0, 1) := by decide +kernel
theorem d_M_ready_38 : decode b_M_ready 38 = .ok (.iload_n 1, 1) := by decide +kernel
theorem d_M_ready_39 : decode b_M_ready 39 = .ok (.invokevirtual 101, 3) := by decide +kernel
theorem d_M_ready_42 : decode b_M_ready 42 = .ok (.iload_n 2, 1) := by decide +kernel
theorem d_M_ready_43 : decode b_M_ready 43 = .ok (.iadd, 1) := by decide +kernel
theorem d_M_ready_44 : decode b_M_ready 44 = .ok (.aload_n 0, 1) := by decide +kernel
theorem d_M_ready_45 : decode b_M_ready 45 = .ok (.getfield 87, 3) := by decide +kernel
theorem d_M_ready_48 : decode b_M_ready 48 = .ok (.if_icmp .gt 22, 3) := by decide +kernel
theorem d_M_ready_51 : decode b_M_ready 51 = .ok (.aload_n 0, 1) := by decide +kernel
theorem d_M_ready_52 : decode b_M_ready 52 = .ok (.getfield 31, 3) := by decide +kernel
theorem d_M_ready_55 : decode b_M_ready 55 = .ok (.iload_n 1, 1) := by decide +kernel
theorem d_M_ready_56 : decode b_M_ready 56 = .ok (.iaload, 1) := by decide +kernel
theorem d_M_ready_57 : decode b_M_ready 57 = .ok (.ifCond .gt 9, 3) := by decide +kernel
theorem d_M_ready_60 : decode b_M_ready 60 = .ok (.iload_n 3, 1) := by decide +kernel
theorem d_M_ready_61 : decode b_M_ready 61 = .ok (.bipush 8, 2) := by decide +kernel
theorem d_M_ready_63 : decode b_M_ready 63 = .ok (.if_icmp .ge 7, 3) := by decide +kernel
theorem d_M_ready_66 : decode b_M_ready 66 = .ok (.iconst 1, 1) := by decide +kernel
theorem d_M_ready_67 : decode b_M_ready 67 = .ok (.goto 4, 3) := by decide +kernel
theorem d_M_ready_70 : decode b_M_ready 70 = .ok (.iconst 0, 1) := by decide +kernel
theorem d_M_ready_71 : decode b_M_ready 71 = .ok (.ireturn, 1) := by decide +kernel
theorem d_M_chosen_0 : decode b_M_chosen 0 = .ok (.iconst 3, 1) := by decide +kernel
theorem d_M_chosen_1 : decode b_M_chosen 1 = .ok (.istore_n 1, 1) := by decide +kernel
theorem d_M_chosen_2 : decode b_M_chosen 2 = .ok (.iconst 0, 1) := by decide +kernel
theorem d_M_chosen_3 : decode b_M_chosen 3 = .ok (.istore_n 2, 1) := by decide +kernel
theorem d_M_chosen_4 : decode b_M_chosen 4 = .ok (.iconst 0, 1) := by decide +kernel
theorem d_M_chosen_5 : decode b_M_chosen 5 = .ok (.istore_n 3, 1) := by decide +kernel
theorem d_M_chosen_6 : decode b_M_chosen 6 = .ok (.iload_n 3, 1) := by decide +kernel
theorem d_M_chosen_7 : decode b_M_chosen 7 = .ok (.iconst 3, 1) := by decide +kernel
theorem d_M_chosen_8 : decode b_M_chosen 8 = .ok (.if_icmp .ge 65, 3) := by decide +kernel
theorem d_M_chosen_11 : decode b_M_chosen 11 = .ok (.aload_n 0, 1) := by decide +kernel
theorem d_M_chosen_12 : decode b_M_chosen 12 = .ok (.iload_n 3, 1) := by decide +kernel
theorem d_M_chosen_13 : decode b_M_chosen 13 = .ok (.invokevirtual 104, 3) := by decide +kernel
theorem d_M_chosen_16 : decode b_M_chosen 16 = .ok (.istore 4, 2) := by decide +kernel
theorem d_M_chosen_18 : decode b_M_chosen 18 = .ok (.iload 4, 2) := by decide +kernel
theorem d_M_chosen_20 : decode b_M_chosen 20 = .ok (.ifCond .eq 23, 3) := by decide +kernel
theorem d_M_chosen_23 : decode b_M_chosen 23 = .ok (.aload_n 0, 1) := by decide +kernel
theorem d_M_chosen_24 : decode b_M_chosen 24 = .ok (.getfield 16, 3) := by decide +kernel
theorem d_M_chosen_27 : decode b_M_chosen 27 = .ok (.sipush 512, 3) := by decide +kernel
theorem d_M_chosen_30 : decode b_M_chosen 30 = .ok (.iload_n 3, 1) := by decide +kernel
theorem d_M_chosen_31 : decode b_M_chosen 31 = .ok (.imul, 1) := by decide +kernel
theorem d_M_chosen_32 : decode b_M_chosen 32 = .ok (.aload_n 0, 1) := by decide +kernel
theorem d_M_chosen_33 : decode b_M_chosen 33 = .ok (.getfield 28, 3) := by decide +kernel
theorem d_M_chosen_36 : decode b_M_chosen 36 = .ok (.iload_n 3, 1) := by decide +kernel
theorem d_M_chosen_37 : decode b_M_chosen 37 = .ok (.iaload, 1) := by decide +kernel
theorem d_M_chosen_38 : decode b_M_chosen 38 = .ok (.iadd, 1) := by decide +kernel
theorem d_M_chosen_39 : decode b_M_chosen 39 = .ok (.iaload, 1) := by decide +kernel
theorem d_M_chosen_40 : decode b_M_chosen 40 = .ok (.goto 4, 3) := by decide +kernel
theorem d_M_chosen_43 : decode b_M_chosen 43 = .ok (.iconst 0, 1) := by decide +kernel
theorem d_M_chosen_44 : decode b_M_chosen 44 = .ok (.istore 5, 2) := by decide +kernel
theorem d_M_chosen_46 : decode b_M_chosen 46 = .ok (.iload 4, 2) := by decide +kernel
theorem d_M_chosen_48 : decode b_M_chosen 48 = .ok (.ifCond .eq 19, 3) := by decide +kernel
theorem d_M_chosen_51 : decode b_M_chosen 51 = .ok (.iload_n 1, 1) := by decide +kernel
theorem d_M_chosen_52 : decode b_M_chosen 52 = .ok (.iconst 3, 1) := by decide +kernel
theorem d_M_chosen_53 : decode b_M_chosen 53 = .ok (.if_icmp .eq 9, 3) := by decide +kernel
theorem d_M_chosen_56 : decode b_M_chosen 56 = .ok (.iload 5, 2) := by decide +kernel
theorem d_M_chosen_58 : decode b_M_chosen 58 = .ok (.iload_n 2, 1) := by decide +kernel
theorem d_M_chosen_59 : decode b_M_chosen 59 = .ok (.if_icmp .ge 8, 3) := by decide +kernel
theorem d_M_chosen_62 : decode b_M_chosen 62 = .ok (.iload_n 3, 1) := by decide +kernel
theorem d_M_chosen_63 : decode b_M_chosen 63 = .ok (.istore_n 1, 1) := by decide +kernel
theorem d_M_chosen_64 : decode b_M_chosen 64 = .ok (.iload 5, 2) := by decide +kernel
theorem d_M_chosen_66 : decode b_M_chosen 66 = .ok (.istore_n 2, 1) := by decide +kernel
theorem d_M_chosen_67 : decode b_M_chosen 67 = .ok (.iinc 3 1, 3) := by decide +kernel
theorem d_M_chosen_70 : decode b_M_chosen 70 = .ok (.goto (-64), 3) := by decide +kernel
theorem d_M_chosen_73 : decode b_M_chosen 73 = .ok (.iload_n 1, 1) := by decide +kernel
theorem d_M_chosen_74 : decode b_M_chosen 74 = .ok (.ireturn, 1) := by decide +kernel
theorem d_M_make_0 : decode b_M_make 0 = .ok (.aload_n 0, 1) := by decide +kernel
theorem d_M_make_1 : decode b_M_make 1 = .ok (.invokevirtual 108, 3) := by decide +kernel
theorem d_M_make_4 : decode b_M_make 4 = .ok (.istore_n 1, 1) := by decide +kernel
theorem d_M_make_5 : decode b_M_make 5 = .ok (.aload_n 0, 1) := by decide +kernel
theorem d_M_make_6 : decode b_M_make 6 = .ok (.getfield 94, 3) := by decide +kernel
theorem d_M_make_9 : decode b_M_make 9 = .ok (.bipush 8, 2) := by decide +kernel
theorem d_M_make_11 : decode b_M_make 11 = .ok (.irem, 1) := by decide +kernel
theorem d_M_make_12 : decode b_M_make 12 = .ok (.ifCond .ne 7, 3) := by decide +kernel
theorem d_M_make_15 : decode b_M_make 15 = .ok (.iconst 1, 1) := by decide +kernel
theorem d_M_make_16 : decode b_M_make 16 = .ok (.goto 4, 3) := by decide +kernel
theorem d_M_make_19 : decode b_M_make 19 = .ok (.iconst 0, 1) := by decide +kernel
theorem d_M_make_20 : decode b_M_make 20 = .ok (.istore_n 2, 1) := by decide +kernel
theorem d_M_make_21 : decode b_M_make 21 = .ok (.iload_n 1, 1) := by decide +kernel
theorem d_M_make_22 : decode b_M_make 22 = .ok (.iconst 3, 1) := by decide +kernel
theorem d_M_make_23 : decode b_M_make 23 = .ok (.if_icmp .ge 16, 3) := by decide +kernel
theorem d_M_make_26 : decode b_M_make 26 = .ok (.aload_n 0, 1) := by decide +kernel
theorem d_M_make_27 : decode b_M_make 27 = .ok (.getfield 31, 3) := by decide +kernel
theorem d_M_make_30 : decode b_M_make 30 = .ok (.iload_n 1, 1) := by decide +kernel
theorem d_M_make_31 : decode b_M_make 31 = .ok (.iaload, 1) := by decide +kernel
theorem d_M_make_32 : decode b_M_make 32 = .ok (.ifCond .ne 7, 3) := by decide +kernel
theorem d_M_make_35 : decode b_M_make 35 = .ok (.iconst 1, 1) := by decide +kernel
theorem d_M_make_36 : decode b_M_make 36 = .ok (.goto 4, 3) := by decide +kernel
theorem d_M_make_39 : decode b_M_make 39 = .ok (.iconst 0, 1) := by decide +kernel
theorem d_M_make_40 : decode b_M_make 40 = .ok (.istore_n 3, 1) := by decide +kernel
theorem d_M_make_41 : decode b_M_make 41 = .ok (.iload_n 1, 1) := by decide +kernel
theorem d_M_make_42 : decode b_M_make 42 = .ok (.iconst 3, 1) := by decide +kernel
theorem d_M_make_43 : decode b_M_make 43 = .ok (.if_icmp .ge 11, 3) := by decide +kernel
theorem d_M_make_46 : decode b_M_make 46 = .ok (.aload_n 0, 1) := by decide +kernel
theorem d_M_make_47 : decode b_M_make 47 = .ok (.iload_n 1, 1) := by decide +kernel
theorem d_M_make_48 : decode b_M_make 48 = .ok (.invokevirtual 97, 3) := by decide +kernel
theorem d_M_make_51 : decode b_M_make 51 = .ok (.goto 4, 3) := by decide +kernel
theorem d_M_make_54 : decode b_M_make 54 = .ok (.iconst 0, 1) := by decide +kernel
theorem d_M_make_55 : decode b_M_make 55 = .ok (.istore 4, 2) := by decide +kernel
theorem d_M_make_57 : decode b_M_make 57 = .ok (.iconst 0, 1) := by decide +kernel
theorem d_M_make_58 : decode b_M_make 58 = .ok (.istore 5, 2) := by decide +kernel
theorem d_M_make_60 : decode b_M_make 60 = .ok (.iload 5, 2) := by decide +kernel
theorem d_M_make_62 : decode b_M_make 62 = .ok (.bipush 16, 2) := by decide +kernel
theorem d_M_make_64 : decode b_M_make 64 = .ok (.if_icmp .ge 19, 3) := by decide +kernel
theorem d_M_make_67 : decode b_M_make 67 = .ok (.aload_n 0, 1) := by decide +kernel
theorem d_M_make_68 : decode b_M_make 68 = .ok (.getfield 40, 3) := by decide +kernel
theorem d_M_make_71 : decode b_M_make 71 = .ok (.iload 5, 2) := by decide +kernel
theorem d_M_make_73 : decode b_M_make 73 = .ok (.sipush 255, 3) := by decide +kernel
theorem d_M_make_76 : decode b_M_make 76 = .ok (.iastore, 1) := by decide +kernel
theorem d_M_make_77 : decode b_M_make 77 = .ok (.iinc 5 1, 3) := by decide +kernel
theorem d_M_make_80 : decode b_M_make 80 = .ok (.goto (-20), 3) := by decide +kernel
theorem d_M_make_83 : decode b_M_make 83 = .ok (.iconst 2, 1) := by decide +kernel
theorem d_M_make_84 : decode b_M_make 84 = .ok (.istore 5, 2) := by decide +kernel
theorem d_M_make_86 : decode b_M_make 86 = .ok (.aload_n 0, 1) := by decide +kernel
theorem d_M_make_87 : decode b_M_make 87 = .ok (.getfield 40, 3) := by decide +kernel
theorem d_M_make_90 : decode b_M_make 90 = .ok (.iconst 0, 1) := by decide +kernel
theorem d_M_make_91 : decode b_M_make 91 = .ok (.bipush 71, 2) := by decide +kernel
theorem d_M_make_93 : decode b_M_make 93 = .ok (.iastore, 1) := by decide +kernel
theorem d_M_make_94 : decode b_M_make 94 = .ok (.aload_n 0, 1) := by decide +kernel
theorem d_M_make_95 : decode b_M_make 95 = .ok (.getfield 40, 3) := by decide +kernel
theorem d_M_make_98 : decode b_M_make 98 = .ok (.iconst 1, 1) := by decide +kernel
theorem d_M_make_99 : decode b_M_make 99 = .ok (.bipush 16, 2) := by decide +kernel
theorem d_M_make_101 : decode b_M_make 101 = .ok (.iload_n 1, 1) := by decide +kernel
theorem d_M_make_102 : decode b_M_make 102 = .ok (.imul, 1) := by decide +kernel
theorem d_M_make_103 : decode b_M_make 103 = .ok (.iload_n 3, 1) := by decide +kernel
theorem d_M_make_104 : decode b_M_make 104 = .ok (.ifCond .eq 9, 3) := by decide +kernel
theorem d_M_make_107 : decode b_M_make 107 = .ok (.sipush 128, 3) := by decide +kernel
theorem d_M_make_110 : decode b_M_make 110 = .ok (.goto 4, 3) := by decide +kernel
theorem d_M_make_113 : decode b_M_make 113 = .ok (.iconst 0, 1) := by decide +kernel
theorem d_M_make_114 : decode b_M_make 114 = .ok (.iadd, 1) := by decide +kernel
theorem d_M_make_115 : decode b_M_make 115 = .ok (.iload_n 2, 1) := by decide +kernel
theorem d_M_make_116 : decode b_M_make 116 = .ok (.ifCond .eq 8, 3) := by decide +kernel
theorem d_M_make_119 : decode b_M_make 119 = .ok (.bipush 64, 2) := by decide +kernel
theorem d_M_make_121 : decode b_M_make 121 = .ok (.goto 4, 3) := by decide +kernel
theorem d_M_make_124 : decode b_M_make 124 = .ok (.iconst 0, 1) := by decide +kernel
theorem d_M_make_125 : decode b_M_make 125 = .ok (.iadd, 1) := by decide +kernel
theorem d_M_make_126 : decode b_M_make 126 = .ok (.iload_n 1, 1) := by decide +kernel
theorem d_M_make_127 : decode b_M_make 127 = .ok (.iconst 3, 1) := by decide +kernel
theorem d_M_make_128 : decode b_M_make 128 = .ok (.if_icmp .ge 12, 3) := by decide +kernel
theorem d_M_make_131 : decode b_M_make 131 = .ok (.aload_n 0, 1) := by decide +kernel
theorem d_M_make_132 : decode b_M_make 132 = .ok (.getfield 37, 3) := by decide +kernel
theorem d_M_make_135 : decode b_M_make 135 = .ok (.iload_n 1, 1) := by decide +kernel
theorem d_M_make_136 : decode b_M_make 136 = .ok (.iaload, 1) := by decide +kernel
theorem d_M_make_137 : decode b_M_make 137 = .ok (.goto 4, 3) := by decide +kernel
theorem d_M_make_140 : decode b_M_make 140 = .ok (.iconst 0, 1) := by decide +kernel
theorem d_M_make_141 : decode b_M_make 141 = .ok (.iadd, 1) := by decide +kernel
theorem d_M_make_142 : decode b_M_make 142 = .ok (.iastore, 1) := by decide +kernel
theorem d_M_make_143 : decode b_M_make 143 = .ok (.iload_n 2, 1) := by decide +kernel
theorem d_M_make_144 : decode b_M_make 144 = .ok (.ifCond .eq 38, 3) := by decide +kernel
theorem d_M_make_147 : decode b_M_make 147 = .ok (.aload_n 0, 1) := by decide +kernel
theorem d_M_make_148 : decode b_M_make 148 = .ok (.getfield 40, 3) := by decide +kernel
theorem d_M_make_151 : decode b_M_make 151 = .ok (.iconst 2, 1) := by decide +kernel
theorem d_M_make_152 : decode b_M_make 152 = .ok (.aload_n 0, 1) := by decide +kernel
theorem d_M_make_153 : decode b_M_make 153 = .ok (.getfield 94, 3) := by decide +kernel
theorem d_M_make_156 : decode b_M_make 156 = .ok (.sipush 256, 3) := by decide +kernel
theorem d_M_make_159 : decode b_M_make 159 = .ok (.idiv, 1) := by decide +kernel
theorem d_M_make_160 : decode b_M_make 160 = .ok (.sipush 256, 3) := by decide +kernel
theorem d_M_make_163 : decode b_M_make 163 = .ok (.irem, 1) := by decide +kernel
theorem d_M_make_164 : decode b_M_make 164 = .ok (.iastore, 1) := by decide +kernel
theorem d_M_make_165 : decode b_M_make 165 = .ok (.aload_n 0, 1) := by decide +kernel
theorem d_M_make_166 : decode b_M_make 166 = .ok (.getfield 40, 3) := by decide +kernel
theorem d_M_make_169 : decode b_M_make 169 = .ok (.iconst 3, 1) := by decide +kernel
theorem d_M_make_170 : decode b_M_make 170 = .ok (.aload_n 0, 1) := by decide +kernel
theorem d_M_make_171 : decode b_M_make 171 = .ok (.getfield 94, 3) := by decide +kernel
theorem d_M_make_174 : decode b_M_make 174 = .ok (.sipush 256, 3) := by decide +kernel
theorem d_M_make_177 : decode b_M_make 177 = .ok (.irem, 1) := by decide +kernel
theorem d_M_make_178 : decode b_M_make 178 = .ok (.iastore, 1) := by decide +kernel
theorem d_M_make_179 : decode b_M_make 179 = .ok (.iconst 4, 1) := by decide +kernel
theorem d_M_make_180 : decode b_M_make 180 = .ok (.istore 5, 2) := by decide +kernel
theorem d_M_make_182 : decode b_M_make 182 = .ok (.iload_n 1, 1) := by decide +kernel
theorem d_M_make_183 : decode b_M_make 183 = .ok (.iconst 3, 1) := by decide +kernel
theorem d_M_make_184 : decode b_M_make 184 = .ok (.if_icmp .ne 4, 3) := by decide +kernel
theorem d_M_make_187 : decode b_M_make 187 = .ok (.return_, 1) := by decide +kernel
theorem d_M_make_188 : decode b_M_make 188 = .ok (.sipush 512, 3) := by decide +kernel
theorem d_M_make_191 : decode b_M_make 191 = .ok (.iload_n 1, 1) := by decide +kernel
theorem d_M_make_192 : decode b_M_make 192 = .ok (.imul, 1) := by decide +kernel
theorem d_M_make_193 : decode b_M_make 193 = .ok (.aload_n 0, 1) := by decide +kernel
theorem d_M_make_194 : decode b_M_make 194 = .ok (.getfield 28, 3) := by decide +kernel
theorem d_M_make_197 : decode b_M_make 197 = .ok (.iload_n 1, 1) := by decide +kernel
theorem d_M_make_198 : decode b_M_make 198 = .ok (.iaload, 1) := by decide +kernel
theorem d_M_make_199 : decode b_M_make 199 = .ok (.iadd, 1) := by decide +kernel
theorem d_M_make_200 : decode b_M_make 200 = .ok (.istore 6, 2) := by decide +kernel
theorem d_M_make_202 : decode b_M_make 202 = .ok (.iload_n 3, 1) := by decide +kernel
theorem d_M_make_203 : decode b_M_make 203 = .ok (.ifCond .eq 67, 3) := by decide +kernel
theorem d_M_make_206 : decode b_M_make 206 = .ok (.aload_n 0, 1) := by decide +kernel
theorem d_M_make_207 : decode b_M_make 207 = .ok (.getfield 40, 3) := by decide +kernel
theorem d_M_make_210 : decode b_M_make 210 = .ok (.iload 5, 2) := by decide +kernel
theorem d_M_make_212 : decode b_M_make 212 = .ok (.aload_n 0, 1) := by decide +kernel
theorem d_M_make_213 : decode b_M_make 213 = .ok (.getfield 13, 3) := by decide +kernel
theorem d_M_make_216 : decode b_M_make 216 = .ok (.iload 6, 2) := by decide +kernel
theorem d_M_make_218 : decode b_M_make 218 = .ok (.iaload, 1) := by decide +kernel
theorem d_M_make_219 : decode b_M_make 219 = .ok (.iastore, 1) := by decide +kernel
theorem d_M_make_220 : decode b_M_make 220 = .ok (.aload_n 0, 1) := by decide +kernel
theorem d_M_make_221 : decode b_M_make 221 = .ok (.getfield 40, 3) := by decide +kernel
theorem d_M_make_224 : decode b_M_make 224 = .ok (.iload 5, 2) := by decide +kernel
theorem d_M_make_226 : decode b_M_make 226 = .ok (.iconst 1, 1) := by decide +kernel
theorem d_M_make_227 : decode b_M_make 227 = .ok (.iadd, 1) := by decide +kernel
theorem d_M_make_228 : decode b_M_make 228 = .ok (.aload_n 0, 1) := by decide +kernel
theorem d_M_make_229 : decode b_M_make 229 = .ok (.getfield 16, 3) := by decide +kernel
theorem d_M_make_232 : decode b_M_make 232 = .ok (.iload 6, 2) := by decide +kernel
theorem d_M_make_234 : decode b_M_make 234 = .ok (.iaload, 1) := by decide +kernel
theorem d_M_make_235 : decode b_M_make 235 = .ok (.sipush 256, 3) := by decide +kernel
theorem d_M_make_238 : decode b_M_make 238 = .ok (.idiv, 1) := by decide +kernel
theorem d_M_make_239 : decode b_M_make 239 = .ok (.sipush 256, 3) := by decide +kernel
theorem d_M_make_242 : decode b_M_make 242 = .ok (.irem, 1) := by decide +kernel
theorem d_M_make_243 : decode b_M_make 243 = .ok (.iastore, 1) := by decide +kernel
theorem d_M_make_244 : decode b_M_make 244 = .ok (.aload_n 0, 1) := by decide +kernel
theorem d_M_make_245 : decode b_M_make 245 = .ok (.getfield 40, 3) := by decide +kernel
theorem d_M_make_248 : decode b_M_make 248 = .ok (.iload 5, 2) := by decide +kernel
theorem d_M_make_250 : decode b_M_make 250 = .ok (.iconst 2, 1) := by decide +kernel
theorem d_M_make_251 : decode b_M_make 251 = .ok (.iadd, 1) := by decide +kernel
theorem d_M_make_252 : decode b_M_make 252 = .ok (.aload_n 0, 1) := by decide +kernel
theorem d_M_make_253 : decode b_M_make 253 = .ok (.getfield 16, 3) := by decide +kernel
theorem d_M_make_256 : decode b_M_make 256 = .ok (.iload 6, 2) := by decide +kernel
theorem d_M_make_258 : decode b_M_make 258 = .ok (.iaload, 1) := by decide +kernel
theorem d_M_make_259 : decode b_M_make 259 = .ok (.sipush 256, 3) := by decide +kernel
theorem d_M_make_262 : decode b_M_make 262 = .ok (.irem, 1) := by decide +kernel
theorem d_M_make_263 : decode b_M_make 263 = .ok (.iastore, 1) := by decide +kernel
theorem d_M_make_264 : decode b_M_make 264 = .ok (.iload 5, 2) := by decide +kernel
theorem d_M_make_266 : decode b_M_make 266 = .ok (.iconst 3, 1) := by decide +kernel
theorem d_M_make_267 : decode b_M_make 267 = .ok (.iadd, 1) := by decide +kernel
theorem d_M_make_268 : decode b_M_make 268 = .ok (.istore 5, 2) := by decide +kernel
theorem d_M_make_270 : decode b_M_make 270 = .ok (.iconst 0, 1) := by decide +kernel
theorem d_M_make_271 : decode b_M_make 271 = .ok (.istore 7, 2) := by decide +kernel
theorem d_M_make_273 : decode b_M_make 273 = .ok (.iload 7, 2) := by decide +kernel
theorem d_M_make_275 : decode b_M_make 275 = .ok (.iload 4, 2) := by decide +kernel
theorem d_M_make_277 : decode b_M_make 277 = .ok (.if_icmp .ge 43, 3) := by decide +kernel
theorem d_M_make_280 : decode b_M_make 280 = .ok (.aload_n 0, 1) := by decide +kernel
theorem d_M_make_281 : decode b_M_make 281 = .ok (.getfield 40, 3) := by decide +kernel
theorem d_M_make_284 : decode b_M_make 284 = .ok (.iload 5, 2) := by decide +kernel
theorem d_M_make_286 : decode b_M_make 286 = .ok (.iload 7, 2) := by decide +kernel
theorem d_M_make_288 : decode b_M_make 288 = .ok (.iadd, 1) := by decide +kernel
theorem d_M_make_289 : decode b_M_make 289 = .ok (.aload_n 0, 1) := by decide +kernel
theorem d_M_make_290 : decode b_M_make 290 = .ok (.getfield 19, 3) := by decide +kernel
theorem d_M_make_293 : decode b_M_make 293 = .ok (.iload 6, 2) := by decide +kernel
theorem d_M_make_295 : decode b_M_make 295 = .ok (.iaload, 1) := by decide +kernel
theorem d_M_make_296 : decode b_M_make 296 = .ok (.bipush 7, 2) := by decide +kernel
theorem d_M_make_298 : decode b_M_make 298 = .ok (.aload_n 0, 1) := by decide +kernel
theorem d_M_make_299 : decode b_M_make 299 = .ok (.getfield 31, 3) := by decide +kernel
theorem d_M_make_302 : decode b_M_make 302 = .ok (.iload_n 1, 1) := by decide +kernel
theorem d_M_make_303 : decode b_M_make 303 = .ok (.iaload, 1) := by decide +kernel
theorem d_M_make_304 : decode b_M_make 304 = .ok (.iload 7, 2) := by decide +kernel
theorem d_M_make_306 : decode b_M_make 306 = .ok (.iadd, 1) := by decide +kernel
theorem d_M_make_307 : decode b_M_make 307 = .ok (.imul, 1) := by decide +kernel
theorem d_M_make_308 : decode b_M_make 308 = .ok (.iadd, 1) := by decide +kernel
theorem d_M_make_309 : decode b_M_make 309 = .ok (.sipush 256, 3) := by decide +kernel
theorem d_M_make_312 : decode b_M_make 312 = .ok (.irem, 1) := by decide +kernel
theorem d_M_make_313 : decode b_M_make 313 = .ok (.iastore, 1) := by decide +kernel
theorem d_M_make_314 : decode b_M_make 314 = .ok (.iinc 7 1, 3) := by decide +kernel
theorem d_M_make_317 : decode b_M_make 317 = .ok (.goto (-44), 3) := by decide +kernel
theorem d_M_make_320 : decode b_M_make 320 = .ok (.aload_n 0, 1) := by decide +kernel
theorem d_M_make_321 : decode b_M_make 321 = .ok (.getfield 7, 3) := by decide +kernel
theorem d_M_make_324 : decode b_M_make 324 = .ok (.iload_n 1, 1) := by decide +kernel
theorem d_M_make_325 : decode b_M_make 325 = .ok (.aload_n 0, 1) := by decide +kernel
theorem d_M_make_326 : decode b_M_make 326 = .ok (.getfield 7, 3) := by decide +kernel
theorem d_M_make_329 : decode b_M_make 329 = .ok (.iload_n 1, 1) := by decide +kernel
theorem d_M_make_330 : decode b_M_make 330 = .ok (.iaload, 1) := by decide +kernel
theorem d_M_make_331 : decode b_M_make 331 = .ok (.iload 4, 2) := by decide +kernel
theorem d_M_make_333 : decode b_M_make 333 = .ok (.iadd, 1) := by decide +kernel
theorem d_M_make_334 : decode b_M_make 334 = .ok (.iastore, 1) := by decide +kernel
theorem d_M_make_335 : decode b_M_make 335 = .ok (.aload_n 0, 1) := by decide +kernel
theorem d_M_make_336 : decode b_M_make 336 = .ok (.getfield 37, 3) := by decide +kernel
theorem d_M_make_339 : decode b_M_make 339 = .ok (.iload_n 1, 1) := by decide +kernel
theorem d_M_make_340 : decode b_M_make 340 = .ok (.aload_n 0, 1) := by decide +kernel
theorem d_M_make_341 : decode b_M_make 341 = .ok (.getfield 37, 3) := by decide +kernel
theorem d_M_make_344 : decode b_M_make 344 = .ok (.iload_n 1, 1) := by decide +kernel
theorem d_M_make_345 : decode b_M_make 345 = .ok (.iaload, 1) := by decide +kernel
theorem d_M_make_346 : decode b_M_make 346 = .ok (.iconst 1, 1) := by decide +kernel
theorem d_M_make_347 : decode b_M_make 347 = .ok (.iadd, 1) := by decide +kernel
theorem d_M_make_348 : decode b_M_make 348 = .ok (.bipush 16, 2) := by decide +kernel
theorem d_M_make_350 : decode b_M_make 350 = .ok (.irem, 1) := by decide +kernel
theorem d_M_make_351 : decode b_M_make 351 = .ok (.iastore, 1) := by decide +kernel
theorem d_M_make_352 : decode b_M_make 352 = .ok (.aload_n 0, 1) := by decide +kernel
theorem d_M_make_353 : decode b_M_make 353 = .ok (.getfield 31, 3) := by decide +kernel
theorem d_M_make_356 : decode b_M_make 356 = .ok (.iload_n 1, 1) := by decide +kernel
theorem d_M_make_357 : decode b_M_make 357 = .ok (.aload_n 0, 1) := by decide +kernel
theorem d_M_make_358 : decode b_M_make 358 = .ok (.getfield 31, 3) := by decide +kernel
theorem d_M_make_361 : decode b_M_make 361 = .ok (.iload_n 1, 1) := by decide +kernel
theorem d_M_make_362 : decode b_M_make 362 = .ok (.iaload, 1) := by decide +kernel
theorem d_M_make_363 : decode b_M_make 363 = .ok (.iload 4, 2) := by decide +kernel
theorem d_M_make_365 : decode b_M_make 365 = .ok (.iadd, 1) := by decide +kernel
theorem d_M_make_366 : decode b_M_make 366 = .ok (.iastore, 1) := by decide +kernel
theorem d_M_make_367 : decode b_M_make 367 = .ok (.aload_n 0, 1) := by decide +kernel
theorem d_M_make_368 : decode b_M_make 368 = .ok (.getfield 31, 3) := by decide +kernel
theorem d_M_make_371 : decode b_M_make 371 = .ok (.iload_n 1, 1) := by decide +kernel
theorem d_M_make_372 : decode b_M_make 372 = .ok (.iaload, 1) := by decide +kernel
theorem d_M_make_373 : decode b_M_make 373 = .ok (.aload_n 0, 1) := by decide +kernel
theorem d_M_make_374 : decode b_M_make 374 = .ok (.getfield 13, 3) := by decide +kernel
theorem d_M_make_377 : decode b_M_make 377 = .ok (.iload 6, 2) := by decide +kernel
theorem d_M_make_379 : decode b_M_make 379 = .ok (.iaload, 1) := by decide +kernel
theorem d_M_make_380 : decode b_M_make 380 = .ok (.if_icmp .ne 20, 3) := by decide +kernel
theorem d_M_make_383 : decode b_M_make 383 = .ok (.aload_n 0, 1) := by decide +kernel
theorem d_M_make_384 : decode b_M_make 384 = .ok (.getfield 28, 3) := by decide +kernel
theorem d_M_make_387 : decode b_M_make 387 = .ok (.iload_n 1, 1) := by decide +kernel
theorem d_M_make_388 : decode b_M_make 388 = .ok (.dup2, 1) := by decide +kernel
theorem d_M_make_389 : decode b_M_make 389 = .ok (.iaload, 1) := by decide +kernel
theorem d_M_make_390 : decode b_M_make 390 = .ok (.iconst 1, 1) := by decide +kernel
theorem d_M_make_391 : decode b_M_make 391 = .ok (.iadd, 1) := by decide +kernel
theorem d_M_make_392 : decode b_M_make 392 = .ok (.iastore, 1) := by decide +kernel
theorem d_M_make_393 : decode b_M_make 393 = .ok (.aload_n 0, 1) := by decide +kernel
theorem d_M_make_394 : decode b_M_make 394 = .ok (.getfield 31, 3) := by decide +kernel
theorem d_M_make_397 : decode b_M_make 397 = .ok (.iload_n 1, 1) := by decide +kernel
theorem d_M_make_398 : decode b_M_make 398 = .ok (.iconst 0, 1) := by decide +kernel
theorem d_M_make_399 : decode b_M_make 399 = .ok (.iastore, 1) := by decide +kernel
theorem d_M_make_400 : decode b_M_make 400 = .ok (.return_, 1) := by decide +kernel
theorem d_M_oneTick_0 : decode b_M_oneTick 0 = .ok (.iconst 0, 1) := by decide +kernel
theorem d_M_oneTick_1 : decode b_M_oneTick 1 = .ok (.istore_n 1, 1) := by decide +kernel
theorem d_M_oneTick_2 : decode b_M_oneTick 2 = .ok (.iload_n 1, 1) := by decide +kernel
theorem d_M_oneTick_3 : decode b_M_oneTick 3 = .ok (.iconst 3, 1) := by decide +kernel
theorem d_M_oneTick_4 : decode b_M_oneTick 4 = .ok (.if_icmp .ge 14, 3) := by decide +kernel
theorem d_M_oneTick_7 : decode b_M_oneTick 7 = .ok (.aload_n 0, 1) := by decide +kernel
theorem d_M_oneTick_8 : decode b_M_oneTick 8 = .ok (.iload_n 1, 1) := by decide +kernel
theorem d_M_oneTick_9 : decode b_M_oneTick 9 = .ok (.invokevirtual 112, 3) := by decide +kernel
theorem d_M_oneTick_12 : decode b_M_oneTick 12 = .ok (.iinc 1 1, 3) := by decide +kernel
theorem d_M_oneTick_15 : decode b_M_oneTick 15 = .ok (.goto (-13), 3) := by decide +kernel
theorem d_M_oneTick_18 : decode b_M_oneTick 18 = .ok (.aload_n 0, 1) := by decide +kernel
theorem d_M_oneTick_19 : decode b_M_oneTick 19 = .ok (.invokevirtual 116, 3) := by decide +kernel
theorem d_M_oneTick_22 : decode b_M_oneTick 22 = .ok (.aload_n 0, 1) := by decide +kernel

theorem d_M_arrive_17 : decode b_M_arrive 17 = .ok (.aload_n 0, 1) := by decide +kernel
theorem d_M_arrive_18 : decode b_M_arrive 18 = .ok (.getfield 80, 3) := by decide +kernel
theorem d_M_arrive_21 : decode b_M_arrive 21 = .ok (.iconst 4, 1) := by decide +kernel
theorem d_M_arrive_22 : decode b_M_arrive 22 = .ok (.dup2, 1) := by decide +kernel
theorem d_M_arrive_23 : decode b_M_arrive 23 = .ok (.iaload, 1) := by decide +kernel
theorem d_M_arrive_24 : decode b_M_arrive 24 = .ok (.iconst 1, 1) := by decide +kernel
theorem d_M_arrive_25 : decode b_M_arrive 25 = .ok (.iadd, 1) := by decide +kernel
theorem d_M_arrive_26 : decode b_M_arrive 26 = .ok (.iastore, 1) := by decide +kernel
theorem d_M_arrive_27 : decode b_M_arrive 27 = .ok (.aload_n 0, 1) := by decide +kernel
theorem d_M_arrive_28 : decode b_M_arrive 28 = .ok (.getfield 62, 3) := by decide +kernel
theorem d_M_arrive_31 : decode b_M_arrive 31 = .ok (.iload_n 1, 1) := by decide +kernel
theorem d_M_arrive_32 : decode b_M_arrive 32 = .ok (.iaload, 1) := by decide +kernel
theorem d_M_arrive_33 : decode b_M_arrive 33 = .ok (.aload_n 0, 1) := by decide +kernel
theorem d_M_arrive_34 : decode b_M_arrive 34 = .ok (.getfield 134, 3) := by decide +kernel
theorem d_M_arrive_37 : decode b_M_arrive 37 = .ok (.isub, 1) := by decide +kernel
theorem d_M_arrive_38 : decode b_M_arrive 38 = .ok (.ldc 140, 2) := by decide +kernel
theorem d_M_arrive_40 : decode b_M_arrive 40 = .ok (.iadd, 1) := by decide +kernel
theorem d_M_arrive_41 : decode b_M_arrive 41 = .ok (.ldc 140, 2) := by decide +kernel
theorem d_M_arrive_43 : decode b_M_arrive 43 = .ok (.irem, 1) := by decide +kernel
theorem d_M_arrive_44 : decode b_M_arrive 44 = .ok (.istore_n 2, 1) := by decide +kernel
theorem d_M_arrive_45 : decode b_M_arrive 45 = .ok (.aload_n 0, 1) := by decide +kernel
theorem d_M_arrive_46 : decode b_M_arrive 46 = .ok (.getfield 80, 3) := by decide +kernel
theorem d_M_arrive_49 : decode b_M_arrive 49 = .ok (.iconst 5, 1) := by decide +kernel
theorem d_M_arrive_50 : decode b_M_arrive 50 = .ok (.aload_n 0, 1) := by decide +kernel
theorem d_M_arrive_51 : decode b_M_arrive 51 = .ok (.getfield 137, 3) := by decide +kernel
theorem d_M_arrive_54 : decode b_M_arrive 54 = .ok (.ifCond .eq 26, 3) := by decide +kernel
theorem d_M_arrive_57 : decode b_M_arrive 57 = .ok (.iload_n 2, 1) := by decide +kernel
theorem d_M_arrive_58 : decode b_M_arrive 58 = .ok (.iconst 1, 1) := by decide +kernel
theorem d_M_arrive_59 : decode b_M_arrive 59 = .ok (.if_icmp .lt 21, 3) := by decide +kernel
theorem d_M_arrive_62 : decode b_M_arrive 62 = .ok (.iload_n 2, 1) := by decide +kernel
theorem d_M_arrive_63 : decode b_M_arrive 63 = .ok (.sipush 32767, 3) := by decide +kernel
theorem d_M_arrive_66 : decode b_M_arrive 66 = .ok (.if_icmp .gt 14, 3) := by decide +kernel
theorem d_M_arrive_69 : decode b_M_arrive 69 = .ok (.aload_n 0, 1) := by decide +kernel
theorem d_M_arrive_70 : decode b_M_arrive 70 = .ok (.getfield 80, 3) := by decide +kernel
theorem d_M_arrive_73 : decode b_M_arrive 73 = .ok (.iconst 5, 1) := by decide +kernel
theorem d_M_arrive_74 : decode b_M_arrive 74 = .ok (.iaload, 1) := by decide +kernel
theorem d_M_arrive_75 : decode b_M_arrive 75 = .ok (.iconst 1, 1) := by decide +kernel
theorem d_M_arrive_76 : decode b_M_arrive 76 = .ok (.iadd, 1) := by decide +kernel
theorem d_M_arrive_77 : decode b_M_arrive 77 = .ok (.goto 9, 3) := by decide +kernel
theorem d_M_arrive_80 : decode b_M_arrive 80 = .ok (.aload_n 0, 1) := by decide +kernel
theorem d_M_arrive_81 : decode b_M_arrive 81 = .ok (.getfield 80, 3) := by decide +kernel
theorem d_M_arrive_84 : decode b_M_arrive 84 = .ok (.iconst 5, 1) := by decide +kernel
theorem d_M_arrive_85 : decode b_M_arrive 85 = .ok (.iaload, 1) := by decide +kernel
theorem d_M_arrive_86 : decode b_M_arrive 86 = .ok (.iastore, 1) := by decide +kernel
theorem d_M_arrive_87 : decode b_M_arrive 87 = .ok (.aload_n 0, 1) := by decide +kernel
theorem d_M_arrive_88 : decode b_M_arrive 88 = .ok (.getfield 71, 3) := by decide +kernel
theorem d_M_arrive_91 : decode b_M_arrive 91 = .ok (.iload_n 1, 1) := by decide +kernel
theorem d_M_arrive_92 : decode b_M_arrive 92 = .ok (.aload_n 0, 1) := by decide +kernel
theorem d_M_arrive_93 : decode b_M_arrive 93 = .ok (.getfield 59, 3) := by decide +kernel
theorem d_M_arrive_96 : decode b_M_arrive 96 = .ok (.iload_n 1, 1) := by decide +kernel
theorem d_M_arrive_97 : decode b_M_arrive 97 = .ok (.iaload, 1) := by decide +kernel
theorem d_M_arrive_98 : decode b_M_arrive 98 = .ok (.iastore, 1) := by decide +kernel
theorem d_M_arrive_99 : decode b_M_arrive 99 = .ok (.aload_n 0, 1) := by decide +kernel
theorem d_M_arrive_100 : decode b_M_arrive 100 = .ok (.getfield 74, 3) := by decide +kernel
theorem d_M_arrive_103 : decode b_M_arrive 103 = .ok (.iload_n 1, 1) := by decide +kernel
theorem d_M_arrive_104 : decode b_M_arrive 104 = .ok (.aload_n 0, 1) := by decide +kernel
theorem d_M_arrive_105 : decode b_M_arrive 105 = .ok (.getfield 62, 3) := by decide +kernel
theorem d_M_arrive_108 : decode b_M_arrive 108 = .ok (.iload_n 1, 1) := by decide +kernel
theorem d_M_arrive_109 : decode b_M_arrive 109 = .ok (.iaload, 1) := by decide +kernel
theorem d_M_arrive_110 : decode b_M_arrive 110 = .ok (.iastore, 1) := by decide +kernel
theorem d_M_arrive_111 : decode b_M_arrive 111 = .ok (.iconst 0, 1) := by decide +kernel
theorem d_M_arrive_112 : decode b_M_arrive 112 = .ok (.istore_n 3, 1) := by decide +kernel
theorem d_M_arrive_113 : decode b_M_arrive 113 = .ok (.iload_n 3, 1) := by decide +kernel
theorem d_M_arrive_114 : decode b_M_arrive 114 = .ok (.bipush 60, 2) := by decide +kernel
theorem d_M_arrive_116 : decode b_M_arrive 116 = .ok (.if_icmp .ge 31, 3) := by decide +kernel
theorem d_M_arrive_119 : decode b_M_arrive 119 = .ok (.aload_n 0, 1) := by decide +kernel
theorem d_M_arrive_120 : decode b_M_arrive 120 = .ok (.getfield 68, 3) := by decide +kernel
theorem d_M_arrive_123 : decode b_M_arrive 123 = .ok (.bipush 60, 2) := by decide +kernel
theorem d_M_arrive_125 : decode b_M_arrive 125 = .ok (.iload_n 1, 1) := by decide +kernel
theorem d_M_arrive_126 : decode b_M_arrive 126 = .ok (.imul, 1) := by decide +kernel
theorem d_M_arrive_127 : decode b_M_arrive 127 = .ok (.iload_n 3, 1) := by decide +kernel
theorem d_M_arrive_128 : decode b_M_arrive 128 = .ok (.iadd, 1) := by decide +kernel
theorem d_M_arrive_129 : decode b_M_arrive 129 = .ok (.aload_n 0, 1) := by decide +kernel
theorem d_M_arrive_130 : decode b_M_arrive 130 = .ok (.getfield 65, 3) := by decide +kernel
theorem d_M_arrive_133 : decode b_M_arrive 133 = .ok (.bipush 60, 2) := by decide +kernel
theorem d_M_arrive_135 : decode b_M_arrive 135 = .ok (.iload_n 1, 1) := by decide +kernel
theorem d_M_arrive_136 : decode b_M_arrive 136 = .ok (.imul, 1) := by decide +kernel
theorem d_M_arrive_137 : decode b_M_arrive 137 = .ok (.iload_n 3, 1) := by decide +kernel
theorem d_M_arrive_138 : decode b_M_arrive 138 = .ok (.iadd, 1) := by decide +kernel
theorem d_M_arrive_139 : decode b_M_arrive 139 = .ok (.iaload, 1) := by decide +kernel
theorem d_M_arrive_140 : decode b_M_arrive 140 = .ok (.iastore, 1) := by decide +kernel
theorem d_M_arrive_141 : decode b_M_arrive 141 = .ok (.iinc 3 1, 3) := by decide +kernel
theorem d_M_arrive_144 : decode b_M_arrive 144 = .ok (.goto (-31), 3) := by decide +kernel
theorem d_M_arrive_147 : decode b_M_arrive 147 = .ok (.return_, 1) := by decide +kernel
theorem d_M_retune_0 : decode b_M_retune 0 = .ok (.aload_n 0, 1) := by decide +kernel
theorem d_M_retune_1 : decode b_M_retune 1 = .ok (.iconst 0, 1) := by decide +kernel
theorem d_M_retune_2 : decode b_M_retune 2 = .ok (.putfield 137, 3) := by decide +kernel
theorem d_M_retune_5 : decode b_M_retune 5 = .ok (.iconst 0, 1) := by decide +kernel
theorem d_M_retune_6 : decode b_M_retune 6 = .ok (.istore_n 1, 1) := by decide +kernel
theorem d_M_retune_7 : decode b_M_retune 7 = .ok (.iload_n 1, 1) := by decide +kernel
theorem d_M_retune_8 : decode b_M_retune 8 = .ok (.iconst 3, 1) := by decide +kernel
theorem d_M_retune_9 : decode b_M_retune 9 = .ok (.if_icmp .ge 30, 3) := by decide +kernel
theorem d_M_retune_12 : decode b_M_retune 12 = .ok (.aload_n 0, 1) := by decide +kernel
theorem d_M_retune_13 : decode b_M_retune 13 = .ok (.getfield 46, 3) := by decide +kernel
theorem d_M_retune_16 : decode b_M_retune 16 = .ok (.iload_n 1, 1) := by decide +kernel
theorem d_M_retune_17 : decode b_M_retune 17 = .ok (.iconst 0, 1) := by decide +kernel
theorem d_M_retune_18 : decode b_M_retune 18 = .ok (.bastore, 1) := by decide +kernel
theorem d_M_retune_19 : decode b_M_retune 19 = .ok (.aload_n 0, 1) := by decide +kernel
theorem d_M_retune_20 : decode b_M_retune 20 = .ok (.getfield 53, 3) := by decide +kernel
theorem d_M_retune_23 : decode b_M_retune 23 = .ok (.iload_n 1, 1) := by decide +kernel
theorem d_M_retune_24 : decode b_M_retune 24 = .ok (.iconst 0, 1) := by decide +kernel
theorem d_M_retune_25 : decode b_M_retune 25 = .ok (.bastore, 1) := by decide +kernel
theorem d_M_retune_26 : decode b_M_retune 26 = .ok (.aload_n 0, 1) := by decide +kernel
theorem d_M_retune_27 : decode b_M_retune 27 = .ok (.getfield 77, 3) := by decide +kernel
theorem d_M_retune_30 : decode b_M_retune 30 = .ok (.iload_n 1, 1) := by decide +kernel
theorem d_M_retune_31 : decode b_M_retune 31 = .ok (.iconst 0, 1) := by decide +kernel
theorem d_M_retune_32 : decode b_M_retune 32 = .ok (.iastore, 1) := by decide +kernel
theorem d_M_retune_33 : decode b_M_retune 33 = .ok (.iinc 1 1, 3) := by decide +kernel
theorem d_M_retune_36 : decode b_M_retune 36 = .ok (.goto (-29), 3) := by decide +kernel
theorem d_M_retune_39 : decode b_M_retune 39 = .ok (.iconst 0, 1) := by decide +kernel
theorem d_M_retune_40 : decode b_M_retune 40 = .ok (.istore_n 1, 1) := by decide +kernel
theorem d_M_retune_41 : decode b_M_retune 41 = .ok (.iload_n 1, 1) := by decide +kernel
theorem d_M_retune_42 : decode b_M_retune 42 = .ok (.bipush 6, 2) := by decide +kernel
theorem d_M_retune_44 : decode b_M_retune 44 = .ok (.if_icmp .ge 16, 3) := by decide +kernel
theorem d_M_retune_47 : decode b_M_retune 47 = .ok (.aload_n 0, 1) := by decide +kernel
theorem d_M_retune_48 : decode b_M_retune 48 = .ok (.getfield 80, 3) := by decide +kernel
theorem d_M_retune_51 : decode b_M_retune 51 = .ok (.iload_n 1, 1) := by decide +kernel
theorem d_M_retune_52 : decode b_M_retune 52 = .ok (.iconst 0, 1) := by decide +kernel
theorem d_M_retune_53 : decode b_M_retune 53 = .ok (.iastore, 1) := by decide +kernel
theorem d_M_retune_54 : decode b_M_retune 54 = .ok (.iinc 1 1, 3) := by decide +kernel
theorem d_M_retune_57 : decode b_M_retune 57 = .ok (.goto (-16), 3) := by decide +kernel
theorem d_M_retune_60 : decode b_M_retune 60 = .ok (.return_, 1) := by decide +kernel
theorem d_M_waiting_0 : decode b_M_waiting 0 = .ok (.iload_n 1, 1) := by decide +kernel
theorem d_M_waiting_1 : decode b_M_waiting 1 = .ok (.iconst 0, 1) := by decide +kernel
theorem d_M_waiting_2 : decode b_M_waiting 2 = .ok (.iconst 2, 1) := by decide +kernel
theorem d_M_waiting_3 : decode b_M_waiting 3 = .ok (.invokestatic 90, 3) := by decide +kernel
theorem d_M_waiting_6 : decode b_M_waiting 6 = .ok (.ifCond .eq 19, 3) := by decide +kernel
theorem d_M_waiting_9 : decode b_M_waiting 9 = .ok (.aload_n 0, 1) := by decide +kernel
theorem d_M_waiting_10 : decode b_M_waiting 10 = .ok (.getfield 22, 3) := by decide +kernel
theorem d_M_waiting_13 : decode b_M_waiting 13 = .ok (.iload_n 1, 1) := by decide +kernel
theorem d_M_waiting_14 : decode b_M_waiting 14 = .ok (.iaload, 1) := by decide +kernel
theorem d_M_waiting_15 : decode b_M_waiting 15 = .ok (.aload_n 0, 1) := by decide +kernel
theorem d_M_waiting_16 : decode b_M_waiting 16 = .ok (.getfield 28, 3) := by decide +kernel
theorem d_M_waiting_19 : decode b_M_waiting 19 = .ok (.iload_n 1, 1) := by decide +kernel
theorem d_M_waiting_20 : decode b_M_waiting 20 = .ok (.iaload, 1) := by decide +kernel
theorem d_M_waiting_21 : decode b_M_waiting 21 = .ok (.isub, 1) := by decide +kernel
theorem d_M_waiting_22 : decode b_M_waiting 22 = .ok (.goto 4, 3) := by decide +kernel
theorem d_M_waiting_25 : decode b_M_waiting 25 = .ok (.iconst (-1), 1) := by decide +kernel
theorem d_M_waiting_26 : decode b_M_waiting 26 = .ok (.ireturn, 1) := by decide +kernel
theorem d_M_stored_0 : decode b_M_stored 0 = .ok (.iload_n 1, 1) := by decide +kernel
theorem d_M_stored_1 : decode b_M_stored 1 = .ok (.iconst 0, 1) := by decide +kernel
theorem d_M_stored_2 : decode b_M_stored 2 = .ok (.iconst 2, 1) := by decide +kernel
theorem d_M_stored_3 : decode b_M_stored 3 = .ok (.invokestatic 90, 3) := by decide +kernel
theorem d_M_stored_6 : decode b_M_stored 6 = .ok (.ifCond .eq 19, 3) := by decide +kernel
theorem d_M_stored_9 : decode b_M_stored 9 = .ok (.aload_n 0, 1) := by decide +kernel
theorem d_M_stored_10 : decode b_M_stored 10 = .ok (.getfield 28, 3) := by decide +kernel
theorem d_M_stored_13 : decode b_M_stored 13 = .ok (.iload_n 1, 1) := by decide +kernel
theorem d_M_stored_14 : decode b_M_stored 14 = .ok (.iaload, 1) := by decide +kernel
theorem d_M_stored_15 : decode b_M_stored 15 = .ok (.aload_n 0, 1) := by decide +kernel
theorem d_M_stored_16 : decode b_M_stored 16 = .ok (.getfield 25, 3) := by decide +kernel
theorem d_M_stored_19 : decode b_M_stored 19 = .ok (.iload_n 1, 1) := by decide +kernel
theorem d_M_stored_20 : decode b_M_stored 20 = .ok (.iaload, 1) := by decide +kernel
theorem d_M_stored_21 : decode b_M_stored 21 = .ok (.isub, 1) := by decide +kernel
theorem d_M_stored_22 : decode b_M_stored 22 = .ok (.goto 4, 3) := by decide +kernel
theorem d_M_stored_25 : decode b_M_stored 25 = .ok (.iconst (-1), 1) := by decide +kernel
theorem d_M_stored_26 : decode b_M_stored 26 = .ok (.ireturn, 1) := by decide +kernel
theorem d_M_levels_0 : decode b_M_levels 0 = .ok (.iload_n 1, 1) := by decide +kernel
theorem d_M_levels_1 : decode b_M_levels 1 = .ok (.iconst 0, 1) := by decide +kernel
theorem d_M_levels_2 : decode b_M_levels 2 = .ok (.iconst 2, 1) := by decide +kernel
theorem d_M_levels_3 : decode b_M_levels 3 = .ok (.invokestatic 90, 3) := by decide +kernel
theorem d_M_levels_6 : decode b_M_levels 6 = .ok (.ifCond .ne 5, 3) := by decide +kernel
theorem d_M_levels_9 : decode b_M_levels 9 = .ok (.iconst (-1), 1) := by decide +kernel
theorem d_M_levels_10 : decode b_M_levels 10 = .ok (.ireturn, 1) := by decide +kernel
theorem d_M_levels_11 : decode b_M_levels 11 = .ok (.aload_n 0, 1) := by decide +kernel
theorem d_M_levels_12 : decode b_M_levels 12 = .ok (.iload_n 1, 1) := by decide +kernel
theorem d_M_levels_13 : decode b_M_levels 13 = .ok (.invokevirtual 101, 3) := by decide +kernel
theorem d_M_levels_16 : decode b_M_levels 16 = .ok (.istore_n 2, 1) := by decide +kernel
theorem d_M_levels_17 : decode b_M_levels 17 = .ok (.bipush 32, 2) := by decide +kernel
theorem d_M_levels_19 : decode b_M_levels 19 = .ok (.iload_n 2, 1) := by decide +kernel
theorem d_M_levels_20 : decode b_M_levels 20 = .ok (.imul, 1) := by decide +kernel
theorem d_M_levels_21 : decode b_M_levels 21 = .ok (.aload_n 0, 1) := by decide +kernel
theorem d_M_levels_22 : decode b_M_levels 22 = .ok (.getfield 7, 3) := by decide +kernel
theorem d_M_levels_25 : decode b_M_levels 25 = .ok (.iload_n 1, 1) := by decide +kernel
theorem d_M_levels_26 : decode b_M_levels 26 = .ok (.iaload, 1) := by decide +kernel
theorem d_M_levels_27 : decode b_M_levels 27 = .ok (.iadd, 1) := by decide +kernel
theorem d_M_levels_28 : decode b_M_levels 28 = .ok (.ireturn, 1) := by decide +kernel
theorem d_M_late_0 : decode b_M_late 0 = .ok (.iload_n 1, 1) := by decide +kernel
theorem d_M_late_1 : decode b_M_late 1 = .ok (.iconst 0, 1) := by decide +kernel
theorem d_M_late_2 : decode b_M_late 2 = .ok (.iconst 2, 1) := by decide +kernel
theorem d_M_late_3 : decode b_M_late 3 = .ok (.invokestatic 90, 3) := by decide +kernel
theorem d_M_late_6 : decode b_M_late 6 = .ok (.ifCond .eq 12, 3) := by decide +kernel
theorem d_M_late_9 : decode b_M_late 9 = .ok (.aload_n 0, 1) := by decide +kernel
theorem d_M_late_10 : decode b_M_late 10 = .ok (.getfield 34, 3) := by decide +kernel
theorem d_M_late_13 : decode b_M_late 13 = .ok (.iload_n 1, 1) := by decide +kernel
theorem d_M_late_14 : decode b_M_late 14 = .ok (.iaload, 1) := by decide +kernel
theorem d_M_late_15 : decode b_M_late 15 = .ok (.goto 4, 3) := by decide +kernel
theorem d_M_late_18 : decode b_M_late 18 = .ok (.iconst (-1), 1) := by decide +kernel
theorem d_M_late_19 : decode b_M_late 19 = .ok (.ireturn, 1) := by decide +kernel
theorem d_M_clock_0 : decode b_M_clock 0 = .ok (.aload_n 0, 1) := by decide +kernel
theorem d_M_clock_1 : decode b_M_clock 1 = .ok (.getfield 137, 3) := by decide +kernel
theorem d_M_clock_4 : decode b_M_clock 4 = .ok (.ifCond .eq 10, 3) := by decide +kernel
theorem d_M_clock_7 : decode b_M_clock 7 = .ok (.aload_n 0, 1) := by decide +kernel
theorem d_M_clock_8 : decode b_M_clock 8 = .ok (.getfield 134, 3) := by decide +kernel
theorem d_M_clock_11 : decode b_M_clock 11 = .ok (.goto 4, 3) := by decide +kernel
theorem d_M_clock_14 : decode b_M_clock 14 = .ok (.iconst (-1), 1) := by decide +kernel
theorem d_M_clock_15 : decode b_M_clock 15 = .ok (.ireturn, 1) := by decide +kernel
theorem d_M_count_0 : decode b_M_count 0 = .ok (.iload_n 1, 1) := by decide +kernel
theorem d_M_count_1 : decode b_M_count 1 = .ok (.iconst 0, 1) := by decide +kernel
theorem d_M_count_2 : decode b_M_count 2 = .ok (.iconst 5, 1) := by decide +kernel
theorem d_M_count_3 : decode b_M_count 3 = .ok (.invokestatic 90, 3) := by decide +kernel
theorem d_M_count_6 : decode b_M_count 6 = .ok (.ifCond .eq 12, 3) := by decide +kernel
theorem d_M_count_9 : decode b_M_count 9 = .ok (.aload_n 0, 1) := by decide +kernel
theorem d_M_count_10 : decode b_M_count 10 = .ok (.getfield 80, 3) := by decide +kernel
theorem d_M_count_13 : decode b_M_count 13 = .ok (.iload_n 1, 1) := by decide +kernel
theorem d_M_count_14 : decode b_M_count 14 = .ok (.iaload, 1) := by decide +kernel
theorem d_M_count_15 : decode b_M_count 15 = .ok (.goto 4, 3) := by decide +kernel
theorem d_M_count_18 : decode b_M_count 18 = .ok (.iconst (-1), 1) := by decide +kernel
theorem d_M_count_19 : decode b_M_count 19 = .ok (.ireturn, 1) := by decide +kernel
theorem d_M_latest_0 : decode b_M_latest 0 = .ok (.iload_n 1, 1) := by decide +kernel
theorem d_M_latest_1 : decode b_M_latest 1 = .ok (.iconst 0, 1) := by decide +kernel
theorem d_M_latest_2 : decode b_M_latest 2 = .ok (.iconst 2, 1) := by decide +kernel
theorem d_M_latest_3 : decode b_M_latest 3 = .ok (.invokestatic 90, 3) := by decide +kernel
theorem d_M_latest_6 : decode b_M_latest 6 = .ok (.ifCond .eq 21, 3) := by decide +kernel
theorem d_M_latest_9 : decode b_M_latest 9 = .ok (.aload_n 0, 1) := by decide +kernel
theorem d_M_latest_10 : decode b_M_latest 10 = .ok (.getfield 77, 3) := by decide +kernel
theorem d_M_latest_13 : decode b_M_latest 13 = .ok (.iload_n 1, 1) := by decide +kernel
theorem d_M_latest_14 : decode b_M_latest 14 = .ok (.iaload, 1) := by decide +kernel
theorem d_M_latest_15 : decode b_M_latest 15 = .ok (.ifCond .eq 12, 3) := by decide +kernel
theorem d_M_latest_18 : decode b_M_latest 18 = .ok (.iload_n 2, 1) := by decide +kernel
theorem d_M_latest_19 : decode b_M_latest 19 = .ok (.iconst 0, 1) := by decide +kernel
theorem d_M_latest_20 : decode b_M_latest 20 = .ok (.iconst 2, 1) := by decide +kernel
theorem d_M_latest_21 : decode b_M_latest 21 = .ok (.invokestatic 90, 3) := by decide +kernel
theorem d_M_latest_24 : decode b_M_latest 24 = .ok (.ifCond .ne 5, 3) := by decide +kernel
theorem d_M_latest_27 : decode b_M_latest 27 = .ok (.iconst (-1), 1) := by decide +kernel
theorem d_M_latest_28 : decode b_M_latest 28 = .ok (.ireturn, 1) := by decide +kernel
theorem d_M_latest_29 : decode b_M_latest 29 = .ok (.iload_n 2, 1) := by decide +kernel
theorem d_M_latest_30 : decode b_M_latest 30 = .ok (.ifCond .ne 12, 3) := by decide +kernel
theorem d_M_latest_33 : decode b_M_latest 33 = .ok (.aload_n 0, 1) := by decide +kernel
theorem d_M_latest_34 : decode b_M_latest 34 = .ok (.getfield 71, 3) := by decide +kernel
theorem d_M_latest_37 : decode b_M_latest 37 = .ok (.iload_n 1, 1) := by decide +kernel
theorem d_M_latest_38 : decode b_M_latest 38 = .ok (.iaload, 1) := by decide +kernel
theorem d_M_latest_39 : decode b_M_latest 39 = .ok (.goto 23, 3) := by decide +kernel
theorem d_M_latest_42 : decode b_M_latest 42 = .ok (.iload_n 2, 1) := by decide +kernel
theorem d_M_latest_43 : decode b_M_latest 43 = .ok (.iconst 1, 1) := by decide +kernel
theorem d_M_latest_44 : decode b_M_latest 44 = .ok (.if_icmp .ne 12, 3) := by decide +kernel
theorem d_M_latest_47 : decode b_M_latest 47 = .ok (.aload_n 0, 1) := by decide +kernel
theorem d_M_latest_48 : decode b_M_latest 48 = .ok (.getfield 74, 3) := by decide +kernel
theorem d_M_latest_51 : decode b_M_latest 51 = .ok (.iload_n 1, 1) := by decide +kernel
theorem d_M_latest_52 : decode b_M_latest 52 = .ok (.iaload, 1) := by decide +kernel
theorem d_M_latest_53 : decode b_M_latest 53 = .ok (.goto 9, 3) := by decide +kernel
theorem d_M_latest_56 : decode b_M_latest 56 = .ok (.aload_n 0, 1) := by decide +kernel
theorem d_M_latest_57 : decode b_M_latest 57 = .ok (.getfield 77, 3) := by decide +kernel
theorem d_M_latest_60 : decode b_M_latest 60 = .ok (.iload_n 1, 1) := by decide +kernel
theorem d_M_latest_61 : decode b_M_latest 61 = .ok (.iaload, 1) := by decide +kernel
theorem d_M_latest_62 : decode b_M_latest 62 = .ok (.ireturn, 1) := by decide +kernel
theorem d_M_letter_0 : decode b_M_letter 0 = .ok (.iload_n 1, 1) := by decide +kernel
theorem d_M_letter_1 : decode b_M_letter 1 = .ok (.iconst 0, 1) := by decide +kernel
theorem d_M_letter_2 : decode b_M_letter 2 = .ok (.iconst 2, 1) := by decide +kernel
theorem d_M_letter_3 : decode b_M_letter 3 = .ok (.invokestatic 90, 3) := by decide +kernel
theorem d_M_letter_6 : decode b_M_letter 6 = .ok (.ifCond .eq 28, 3) := by decide +kernel
theorem d_M_letter_9 : decode b_M_letter 9 = .ok (.aload_n 0, 1) := by decide +kernel
theorem d_M_letter_10 : decode b_M_letter 10 = .ok (.getfield 77, 3) := by decide +kernel
theorem d_M_letter_13 : decode b_M_letter 13 = .ok (.iload_n 1, 1) := by decide +kernel
theorem d_M_letter_14 : decode b_M_letter 14 = .ok (.iaload, 1) := by decide +kernel
theorem d_M_letter_15 : decode b_M_letter 15 = .ok (.ifCond .eq 19, 3) := by decide +kernel
theorem d_M_letter_18 : decode b_M_letter 18 = .ok (.iload_n 2, 1) := by decide +kernel
theorem d_M_letter_19 : decode b_M_letter 19 = .ok (.iconst 0, 1) := by decide +kernel
theorem d_M_letter_20 : decode b_M_letter 20 = .ok (.aload_n 0, 1) := by decide +kernel
theorem d_M_letter_21 : decode b_M_letter 21 = .ok (.getfield 71, 3) := by decide +kernel
theorem d_M_letter_24 : decode b_M_letter 24 = .ok (.iload_n 1, 1) := by decide +kernel
theorem d_M_letter_25 : decode b_M_letter 25 = .ok (.iaload, 1) := by decide +kernel
theorem d_M_letter_26 : decode b_M_letter 26 = .ok (.iconst 1, 1) := by decide +kernel
theorem d_M_letter_27 : decode b_M_letter 27 = .ok (.isub, 1) := by decide +kernel
theorem d_M_letter_28 : decode b_M_letter 28 = .ok (.invokestatic 90, 3) := by decide +kernel
theorem d_M_letter_31 : decode b_M_letter 31 = .ok (.ifCond .ne 5, 3) := by decide +kernel
theorem d_M_letter_34 : decode b_M_letter 34 = .ok (.iconst (-1), 1) := by decide +kernel
theorem d_M_letter_35 : decode b_M_letter 35 = .ok (.ireturn, 1) := by decide +kernel
theorem d_M_letter_36 : decode b_M_letter 36 = .ok (.aload_n 0, 1) := by decide +kernel
theorem d_M_letter_37 : decode b_M_letter 37 = .ok (.getfield 68, 3) := by decide +kernel
theorem d_M_letter_40 : decode b_M_letter 40 = .ok (.bipush 60, 2) := by decide +kernel
theorem d_M_letter_42 : decode b_M_letter 42 = .ok (.iload_n 1, 1) := by decide +kernel
theorem d_M_letter_43 : decode b_M_letter 43 = .ok (.imul, 1) := by decide +kernel
theorem d_M_letter_44 : decode b_M_letter 44 = .ok (.iload_n 2, 1) := by decide +kernel
theorem d_M_letter_45 : decode b_M_letter 45 = .ok (.iadd, 1) := by decide +kernel
theorem d_M_letter_46 : decode b_M_letter 46 = .ok (.iaload, 1) := by decide +kernel
theorem d_M_letter_47 : decode b_M_letter 47 = .ok (.ireturn, 1) := by decide +kernel
theorem d_J_floorMod_0 : decode b_J_floorMod 0 = .ok (.iload_n 0, 1) := by decide +kernel
theorem d_J_floorMod_1 : decode b_J_floorMod 1 = .ok (.iload_n 1, 1) := by decide +kernel
theorem d_J_floorMod_2 : decode b_J_floorMod 2 = .ok (.irem, 1) := by decide +kernel
theorem d_J_floorMod_3 : decode b_J_floorMod 3 = .ok (.istore_n 2, 1) := by decide +kernel
theorem d_J_floorMod_4 : decode b_J_floorMod 4 = .ok (.iload_n 0, 1) := by decide +kernel
theorem d_J_floorMod_5 : decode b_J_floorMod 5 = .ok (.iload_n 1, 1) := by decide +kernel
theorem d_J_floorMod_6 : decode b_J_floorMod 6 = .ok (.ixor, 1) := by decide +kernel
theorem d_J_floorMod_7 : decode b_J_floorMod 7 = .ok (.ifCond .ge 11, 3) := by decide +kernel
theorem d_J_floorMod_10 : decode b_J_floorMod 10 = .ok (.iload_n 2, 1) := by decide +kernel
theorem d_J_floorMod_11 : decode b_J_floorMod 11 = .ok (.ifCond .eq 7, 3) := by decide +kernel
theorem d_J_floorMod_14 : decode b_J_floorMod 14 = .ok (.iload_n 2, 1) := by decide +kernel
theorem d_J_floorMod_15 : decode b_J_floorMod 15 = .ok (.iload_n 1, 1) := by decide +kernel
theorem d_J_floorMod_16 : decode b_J_floorMod 16 = .ok (.iadd, 1) := by decide +kernel
theorem d_J_floorMod_17 : decode b_J_floorMod 17 = .ok (.ireturn, 1) := by decide +kernel
theorem d_J_floorMod_18 : decode b_J_floorMod 18 = .ok (.iload_n 2, 1) := by decide +kernel
theorem d_J_floorMod_19 : decode b_J_floorMod 19 = .ok (.ireturn, 1) := by decide +kernel

theorem d_M_oneTick_23 : decode b_M_oneTick 23 = .ok (.iconst 1, 1) := by decide +kernel
theorem d_M_oneTick_24 : decode b_M_oneTick 24 = .ok (.putfield 119, 3) := by decide +kernel
theorem d_M_oneTick_27 : decode b_M_oneTick 27 = .ok (.aload_n 0, 1) := by decide +kernel
theorem d_M_oneTick_28 : decode b_M_oneTick 28 = .ok (.dup, 1) := by decide +kernel
theorem d_M_oneTick_29 : decode b_M_oneTick 29 = .ok (.getfield 94, 3) := by decide +kernel
theorem d_M_oneTick_32 : decode b_M_oneTick 32 = .ok (.iconst 1, 1) := by decide +kernel
theorem d_M_oneTick_33 : decode b_M_oneTick 33 = .ok (.iadd, 1) := by decide +kernel
theorem d_M_oneTick_34 : decode b_M_oneTick 34 = .ok (.putfield 94, 3) := by decide +kernel
theorem d_M_oneTick_37 : decode b_M_oneTick 37 = .ok (.return_, 1) := by decide +kernel
theorem d_M_ticks_0 : decode b_M_ticks 0 = .ok (.iload_n 1, 1) := by decide +kernel
theorem d_M_ticks_1 : decode b_M_ticks 1 = .ok (.iconst 0, 1) := by decide +kernel
theorem d_M_ticks_2 : decode b_M_ticks 2 = .ok (.bipush 40, 2) := by decide +kernel
theorem d_M_ticks_4 : decode b_M_ticks 4 = .ok (.invokestatic 90, 3) := by decide +kernel
theorem d_M_ticks_7 : decode b_M_ticks 7 = .ok (.ifCond .ne 5, 3) := by decide +kernel
theorem d_M_ticks_10 : decode b_M_ticks 10 = .ok (.iconst (-1), 1) := by decide +kernel
theorem d_M_ticks_11 : decode b_M_ticks 11 = .ok (.ireturn, 1) := by decide +kernel
theorem d_M_ticks_12 : decode b_M_ticks 12 = .ok (.iconst 0, 1) := by decide +kernel
theorem d_M_ticks_13 : decode b_M_ticks 13 = .ok (.istore_n 3, 1) := by decide +kernel
theorem d_M_ticks_14 : decode b_M_ticks 14 = .ok (.iload_n 3, 1) := by decide +kernel
theorem d_M_ticks_15 : decode b_M_ticks 15 = .ok (.iload_n 1, 1) := by decide +kernel
theorem d_M_ticks_16 : decode b_M_ticks 16 = .ok (.if_icmp .ge 23, 3) := by decide +kernel
theorem d_M_ticks_19 : decode b_M_ticks 19 = .ok (.aload_n 0, 1) := by decide +kernel
theorem d_M_ticks_20 : decode b_M_ticks 20 = .ok (.invokevirtual 123, 3) := by decide +kernel
theorem d_M_ticks_23 : decode b_M_ticks 23 = .ok (.iload_n 2, 1) := by decide +kernel
theorem d_M_ticks_24 : decode b_M_ticks 24 = .ok (.ifCond .eq 9, 3) := by decide +kernel
theorem d_M_ticks_27 : decode b_M_ticks 27 = .ok (.aload_n 0, 1) := by decide +kernel
theorem d_M_ticks_28 : decode b_M_ticks 28 = .ok (.iconst 0, 1) := by decide +kernel
theorem d_M_ticks_29 : decode b_M_ticks 29 = .ok (.iconst 0, 1) := by decide +kernel
theorem d_M_ticks_30 : decode b_M_ticks 30 = .ok (.invokevirtual 126, 3) := by decide +kernel
theorem d_M_ticks_33 : decode b_M_ticks 33 = .ok (.iinc 3 1, 3) := by decide +kernel
theorem d_M_ticks_36 : decode b_M_ticks 36 = .ok (.goto (-22), 3) := by decide +kernel
theorem d_M_ticks_39 : decode b_M_ticks 39 = .ok (.aload_n 0, 1) := by decide +kernel
theorem d_M_ticks_40 : decode b_M_ticks 40 = .ok (.getfield 94, 3) := by decide +kernel
theorem d_M_ticks_43 : decode b_M_ticks 43 = .ok (.ireturn, 1) := by decide +kernel
theorem d_M_tick_0 : decode b_M_tick 0 = .ok (.aload_n 0, 1) := by decide +kernel
theorem d_M_tick_1 : decode b_M_tick 1 = .ok (.iload_n 1, 1) := by decide +kernel
theorem d_M_tick_2 : decode b_M_tick 2 = .ok (.iconst 1, 1) := by decide +kernel
theorem d_M_tick_3 : decode b_M_tick 3 = .ok (.invokevirtual 130, 3) := by decide +kernel
theorem d_M_tick_6 : decode b_M_tick 6 = .ok (.ireturn, 1) := by decide +kernel
theorem d_M_lose_0 : decode b_M_lose 0 = .ok (.aload_n 0, 1) := by decide +kernel
theorem d_M_lose_1 : decode b_M_lose 1 = .ok (.iload_n 1, 1) := by decide +kernel
theorem d_M_lose_2 : decode b_M_lose 2 = .ok (.iconst 0, 1) := by decide +kernel
theorem d_M_lose_3 : decode b_M_lose 3 = .ok (.invokevirtual 130, 3) := by decide +kernel
theorem d_M_lose_6 : decode b_M_lose 6 = .ok (.ireturn, 1) := by decide +kernel
theorem d_M_spoil_0 : decode b_M_spoil 0 = .ok (.iload_n 1, 1) := by decide +kernel
theorem d_M_spoil_1 : decode b_M_spoil 1 = .ok (.iconst 0, 1) := by decide +kernel
theorem d_M_spoil_2 : decode b_M_spoil 2 = .ok (.bipush 15, 2) := by decide +kernel
theorem d_M_spoil_4 : decode b_M_spoil 4 = .ok (.invokestatic 90, 3) := by decide +kernel
theorem d_M_spoil_7 : decode b_M_spoil 7 = .ok (.ifCond .eq 14, 3) := by decide +kernel
theorem d_M_spoil_10 : decode b_M_spoil 10 = .ok (.iload_n 2, 1) := by decide +kernel
theorem d_M_spoil_11 : decode b_M_spoil 11 = .ok (.iconst 0, 1) := by decide +kernel
theorem d_M_spoil_12 : decode b_M_spoil 12 = .ok (.sipush 255, 3) := by decide +kernel
theorem d_M_spoil_15 : decode b_M_spoil 15 = .ok (.invokestatic 90, 3) := by decide +kernel
theorem d_M_spoil_18 : decode b_M_spoil 18 = .ok (.ifCond .ne 5, 3) := by decide +kernel
theorem d_M_spoil_21 : decode b_M_spoil 21 = .ok (.iconst (-1), 1) := by decide +kernel
theorem d_M_spoil_22 : decode b_M_spoil 22 = .ok (.ireturn, 1) := by decide +kernel
theorem d_M_spoil_23 : decode b_M_spoil 23 = .ok (.aload_n 0, 1) := by decide +kernel
theorem d_M_spoil_24 : decode b_M_spoil 24 = .ok (.invokevirtual 123, 3) := by decide +kernel
theorem d_M_spoil_27 : decode b_M_spoil 27 = .ok (.aload_n 0, 1) := by decide +kernel
theorem d_M_spoil_28 : decode b_M_spoil 28 = .ok (.iload_n 1, 1) := by decide +kernel
theorem d_M_spoil_29 : decode b_M_spoil 29 = .ok (.iload_n 2, 1) := by decide +kernel
theorem d_M_spoil_30 : decode b_M_spoil 30 = .ok (.invokevirtual 126, 3) := by decide +kernel
theorem d_M_spoil_33 : decode b_M_spoil 33 = .ok (.aload_n 0, 1) := by decide +kernel
theorem d_M_spoil_34 : decode b_M_spoil 34 = .ok (.getfield 94, 3) := by decide +kernel
theorem d_M_spoil_37 : decode b_M_spoil 37 = .ok (.ireturn, 1) := by decide +kernel
theorem d_M_packet_0 : decode b_M_packet 0 = .ok (.aload_n 0, 1) := by decide +kernel
theorem d_M_packet_1 : decode b_M_packet 1 = .ok (.getfield 119, 3) := by decide +kernel
theorem d_M_packet_4 : decode b_M_packet 4 = .ok (.ifCond .eq 22, 3) := by decide +kernel
theorem d_M_packet_7 : decode b_M_packet 7 = .ok (.iload_n 1, 1) := by decide +kernel
theorem d_M_packet_8 : decode b_M_packet 8 = .ok (.iconst 0, 1) := by decide +kernel
theorem d_M_packet_9 : decode b_M_packet 9 = .ok (.bipush 15, 2) := by decide +kernel
theorem d_M_packet_11 : decode b_M_packet 11 = .ok (.invokestatic 90, 3) := by decide +kernel
theorem d_M_packet_14 : decode b_M_packet 14 = .ok (.ifCond .eq 12, 3) := by decide +kernel
theorem d_M_packet_17 : decode b_M_packet 17 = .ok (.aload_n 0, 1) := by decide +kernel
theorem d_M_packet_18 : decode b_M_packet 18 = .ok (.getfield 40, 3) := by decide +kernel
theorem d_M_packet_21 : decode b_M_packet 21 = .ok (.iload_n 1, 1) := by decide +kernel
theorem d_M_packet_22 : decode b_M_packet 22 = .ok (.iaload, 1) := by decide +kernel
theorem d_M_packet_23 : decode b_M_packet 23 = .ok (.goto 4, 3) := by decide +kernel
theorem d_M_packet_26 : decode b_M_packet 26 = .ok (.iconst (-1), 1) := by decide +kernel
theorem d_M_packet_27 : decode b_M_packet 27 = .ok (.ireturn, 1) := by decide +kernel
theorem d_M_goBroken_0 : decode b_M_goBroken 0 = .ok (.aload_n 0, 1) := by decide +kernel
theorem d_M_goBroken_1 : decode b_M_goBroken 1 = .ok (.getfield 80, 3) := by decide +kernel
theorem d_M_goBroken_4 : decode b_M_goBroken 4 = .ok (.iconst 2, 1) := by decide +kernel
theorem d_M_goBroken_5 : decode b_M_goBroken 5 = .ok (.aload_n 0, 1) := by decide +kernel
theorem d_M_goBroken_6 : decode b_M_goBroken 6 = .ok (.getfield 53, 3) := by decide +kernel
theorem d_M_goBroken_9 : decode b_M_goBroken 9 = .ok (.iload_n 1, 1) := by decide +kernel
theorem d_M_goBroken_10 : decode b_M_goBroken 10 = .ok (.baload, 1) := by decide +kernel
theorem d_M_goBroken_11 : decode b_M_goBroken 11 = .ok (.ifCond .eq 14, 3) := by decide +kernel
theorem d_M_goBroken_14 : decode b_M_goBroken 14 = .ok (.aload_n 0, 1) := by decide +kernel
theorem d_M_goBroken_15 : decode b_M_goBroken 15 = .ok (.getfield 80, 3) := by decide +kernel
theorem d_M_goBroken_18 : decode b_M_goBroken 18 = .ok (.iconst 2, 1) := by decide +kernel
theorem d_M_goBroken_19 : decode b_M_goBroken 19 = .ok (.iaload, 1) := by decide +kernel
theorem d_M_goBroken_20 : decode b_M_goBroken 20 = .ok (.iconst 1, 1) := by decide +kernel
theorem d_M_goBroken_21 : decode b_M_goBroken 21 = .ok (.iadd, 1) := by decide +kernel
theorem d_M_goBroken_22 : decode b_M_goBroken 22 = .ok (.goto 9, 3) := by decide +kernel
theorem d_M_goBroken_25 : decode b_M_goBroken 25 = .ok (.aload_n 0, 1) := by decide +kernel
theorem d_M_goBroken_26 : decode b_M_goBroken 26 = .ok (.getfield 80, 3) := by decide +kernel
theorem d_M_goBroken_29 : decode b_M_goBroken 29 = .ok (.iconst 2, 1) := by decide +kernel
theorem d_M_goBroken_30 : decode b_M_goBroken 30 = .ok (.iaload, 1) := by decide +kernel
theorem d_M_goBroken_31 : decode b_M_goBroken 31 = .ok (.iastore, 1) := by decide +kernel
theorem d_M_goBroken_32 : decode b_M_goBroken 32 = .ok (.aload_n 0, 1) := by decide +kernel
theorem d_M_goBroken_33 : decode b_M_goBroken 33 = .ok (.getfield 53, 3) := by decide +kernel
theorem d_M_goBroken_36 : decode b_M_goBroken 36 = .ok (.iload_n 1, 1) := by decide +kernel
theorem d_M_goBroken_37 : decode b_M_goBroken 37 = .ok (.iconst 0, 1) := by decide +kernel
theorem d_M_goBroken_38 : decode b_M_goBroken 38 = .ok (.bastore, 1) := by decide +kernel
theorem d_M_goBroken_39 : decode b_M_goBroken 39 = .ok (.return_, 1) := by decide +kernel
theorem d_M_hear_0 : decode b_M_hear 0 = .ok (.iconst 0, 1) := by decide +kernel
theorem d_M_hear_1 : decode b_M_hear 1 = .ok (.istore_n 3, 1) := by decide +kernel
theorem d_M_hear_2 : decode b_M_hear 2 = .ok (.iload_n 3, 1) := by decide +kernel
theorem d_M_hear_3 : decode b_M_hear 3 = .ok (.bipush 16, 2) := by decide +kernel
theorem d_M_hear_5 : decode b_M_hear 5 = .ok (.if_icmp .ge 37, 3) := by decide +kernel
theorem d_M_hear_8 : decode b_M_hear 8 = .ok (.aload_n 0, 1) := by decide +kernel
theorem d_M_hear_9 : decode b_M_hear 9 = .ok (.getfield 43, 3) := by decide +kernel
theorem d_M_hear_12 : decode b_M_hear 12 = .ok (.iload_n 3, 1) := by decide +kernel
theorem d_M_hear_13 : decode b_M_hear 13 = .ok (.iload_n 3, 1) := by decide +kernel
theorem d_M_hear_14 : decode b_M_hear 14 = .ok (.iload_n 1, 1) := by decide +kernel
theorem d_M_hear_15 : decode b_M_hear 15 = .ok (.if_icmp .ne 14, 3) := by decide +kernel
theorem d_M_hear_18 : decode b_M_hear 18 = .ok (.aload_n 0, 1) := by decide +kernel
theorem d_M_hear_19 : decode b_M_hear 19 = .ok (.getfield 40, 3) := by decide +kernel
theorem d_M_hear_22 : decode b_M_hear 22 = .ok (.iload_n 3, 1) := by decide +kernel
theorem d_M_hear_23 : decode b_M_hear 23 = .ok (.iaload, 1) := by decide +kernel
theorem d_M_hear_24 : decode b_M_hear 24 = .ok (.iload_n 2, 1) := by decide +kernel
theorem d_M_hear_25 : decode b_M_hear 25 = .ok (.ixor, 1) := by decide +kernel
theorem d_M_hear_26 : decode b_M_hear 26 = .ok (.goto 9, 3) := by decide +kernel
theorem d_M_hear_29 : decode b_M_hear 29 = .ok (.aload_n 0, 1) := by decide +kernel
theorem d_M_hear_30 : decode b_M_hear 30 = .ok (.getfield 40, 3) := by decide +kernel
theorem d_M_hear_33 : decode b_M_hear 33 = .ok (.iload_n 3, 1) := by decide +kernel
theorem d_M_hear_34 : decode b_M_hear 34 = .ok (.iaload, 1) := by decide +kernel
theorem d_M_hear_35 : decode b_M_hear 35 = .ok (.iastore, 1) := by decide +kernel
theorem d_M_hear_36 : decode b_M_hear 36 = .ok (.iinc 3 1, 3) := by decide +kernel
theorem d_M_hear_39 : decode b_M_hear 39 = .ok (.goto (-37), 3) := by decide +kernel
theorem d_M_hear_42 : decode b_M_hear 42 = .ok (.aload_n 0, 1) := by decide +kernel
theorem d_M_hear_43 : decode b_M_hear 43 = .ok (.getfield 43, 3) := by decide +kernel
theorem d_M_hear_46 : decode b_M_hear 46 = .ok (.iconst 1, 1) := by decide +kernel
theorem d_M_hear_47 : decode b_M_hear 47 = .ok (.iaload, 1) := by decide +kernel
theorem d_M_hear_48 : decode b_M_hear 48 = .ok (.istore_n 3, 1) := by decide +kernel
theorem d_M_hear_49 : decode b_M_hear 49 = .ok (.aload_n 0, 1) := by decide +kernel
theorem d_M_hear_50 : decode b_M_hear 50 = .ok (.getfield 43, 3) := by decide +kernel
theorem d_M_hear_53 : decode b_M_hear 53 = .ok (.iconst 0, 1) := by decide +kernel
theorem d_M_hear_54 : decode b_M_hear 54 = .ok (.iaload, 1) := by decide +kernel
theorem d_M_hear_55 : decode b_M_hear 55 = .ok (.bipush 71, 2) := by decide +kernel
theorem d_M_hear_57 : decode b_M_hear 57 = .ok (.if_icmp .ne 7, 3) := by decide +kernel
theorem d_M_hear_60 : decode b_M_hear 60 = .ok (.iconst 1, 1) := by decide +kernel
theorem d_M_hear_61 : decode b_M_hear 61 = .ok (.goto 4, 3) := by decide +kernel
theorem d_M_hear_64 : decode b_M_hear 64 = .ok (.iconst 0, 1) := by decide +kernel
theorem d_M_hear_65 : decode b_M_hear 65 = .ok (.istore 4, 2) := by decide +kernel
theorem d_M_hear_67 : decode b_M_hear 67 = .ok (.iload 4, 2) := by decide +kernel
theorem d_M_hear_69 : decode b_M_hear 69 = .ok (.ifCond .eq 17, 3) := by decide +kernel
theorem d_M_hear_72 : decode b_M_hear 72 = .ok (.iload_n 3, 1) := by decide +kernel
theorem d_M_hear_73 : decode b_M_hear 73 = .ok (.bipush 64, 2) := by decide +kernel
theorem d_M_hear_75 : decode b_M_hear 75 = .ok (.idiv, 1) := by decide +kernel
theorem d_M_hear_76 : decode b_M_hear 76 = .ok (.iconst 2, 1) := by decide +kernel
theorem d_M_hear_77 : decode b_M_hear 77 = .ok (.irem, 1) := by decide +kernel
theorem d_M_hear_78 : decode b_M_hear 78 = .ok (.iconst 1, 1) := by decide +kernel
theorem d_M_hear_79 : decode b_M_hear 79 = .ok (.if_icmp .ne 7, 3) := by decide +kernel
theorem d_M_hear_82 : decode b_M_hear 82 = .ok (.iconst 1, 1) := by decide +kernel
theorem d_M_hear_83 : decode b_M_hear 83 = .ok (.goto 4, 3) := by decide +kernel
theorem d_M_hear_86 : decode b_M_hear 86 = .ok (.iconst 0, 1) := by decide +kernel
theorem d_M_hear_87 : decode b_M_hear 87 = .ok (.istore 5, 2) := by decide +kernel
theorem d_M_hear_89 : decode b_M_hear 89 = .ok (.iload 5, 2) := by decide +kernel
theorem d_M_hear_91 : decode b_M_hear 91 = .ok (.ifCond .eq 32, 3) := by decide +kernel
theorem d_M_hear_94 : decode b_M_hear 94 = .ok (.aload_n 0, 1) := by decide +kernel
theorem d_M_hear_95 : decode b_M_hear 95 = .ok (.sipush 256, 3) := by decide +kernel
theorem d_M_hear_98 : decode b_M_hear 98 = .ok (.aload_n 0, 1) := by decide +kernel
theorem d_M_hear_99 : decode b_M_hear 99 = .ok (.getfield 43, 3) := by decide +kernel
theorem d_M_hear_102 : decode b_M_hear 102 = .ok (.iconst 2, 1) := by decide +kernel
theorem d_M_hear_103 : decode b_M_hear 103 = .ok (.iaload, 1) := by decide +kernel
theorem d_M_hear_104 : decode b_M_hear 104 = .ok (.imul, 1) := by decide +kernel
theorem d_M_hear_105 : decode b_M_hear 105 = .ok (.aload_n 0, 1) := by decide +kernel
theorem d_M_hear_106 : decode b_M_hear 106 = .ok (.getfield 43, 3) := by decide +kernel
theorem d_M_hear_109 : decode b_M_hear 109 = .ok (.iconst 3, 1) := by decide +kernel
theorem d_M_hear_110 : decode b_M_hear 110 = .ok (.iaload, 1) := by decide +kernel
theorem d_M_hear_111 : decode b_M_hear 111 = .ok (.iadd, 1) := by decide +kernel
theorem d_M_hear_112 : decode b_M_hear 112 = .ok (.putfield 134, 3) := by decide +kernel
theorem d_M_hear_115 : decode b_M_hear 115 = .ok (.aload_n 0, 1) := by decide +kernel
theorem d_M_hear_116 : decode b_M_hear 116 = .ok (.iconst 1, 1) := by decide +kernel
theorem d_M_hear_117 : decode b_M_hear 117 = .ok (.putfield 137, 3) := by decide +kernel
theorem d_M_hear_120 : decode b_M_hear 120 = .ok (.goto 30, 3) := by decide +kernel
theorem d_M_hear_123 : decode b_M_hear 123 = .ok (.aload_n 0, 1) := by decide +kernel
theorem d_M_hear_124 : decode b_M_hear 124 = .ok (.aload_n 0, 1) := by decide +kernel
theorem d_M_hear_125 : decode b_M_hear 125 = .ok (.getfield 137, 3) := by decide +kernel
theorem d_M_hear_128 : decode b_M_hear 128 = .ok (.ifCond .eq 15, 3) := by decide +kernel
theorem d_M_hear_131 : decode b_M_hear 131 = .ok (.aload_n 0, 1) := by decide +kernel
theorem d_M_hear_132 : decode b_M_hear 132 = .ok (.getfield 134, 3) := by decide +kernel
theorem d_M_hear_135 : decode b_M_hear 135 = .ok (.iconst 1, 1) := by decide +kernel
theorem d_M_hear_136 : decode b_M_hear 136 = .ok (.iadd, 1) := by decide +kernel
theorem d_M_hear_137 : decode b_M_hear 137 = .ok (.ldc 140, 2) := by decide +kernel
theorem d_M_hear_139 : decode b_M_hear 139 = .ok (.irem, 1) := by decide +kernel
theorem d_M_hear_140 : decode b_M_hear 140 = .ok (.goto 7, 3) := by decide +kernel
theorem d_M_hear_143 : decode b_M_hear 143 = .ok (.aload_n 0, 1) := by decide +kernel
theorem d_M_hear_144 : decode b_M_hear 144 = .ok (.getfield 134, 3) := by decide +kernel
theorem d_M_hear_147 : decode b_M_hear 147 = .ok (.putfield 134, 3) := by decide +kernel
theorem d_M_hear_150 : decode b_M_hear 150 = .ok (.iload_n 3, 1) := by decide +kernel
theorem d_M_hear_151 : decode b_M_hear 151 = .ok (.bipush 16, 2) := by decide +kernel
theorem d_M_hear_153 : decode b_M_hear 153 = .ok (.idiv, 1) := by decide +kernel
theorem d_M_hear_154 : decode b_M_hear 154 = .ok (.iconst 4, 1) := by decide +kernel
theorem d_M_hear_155 : decode b_M_hear 155 = .ok (.irem, 1) := by decide +kernel
theorem d_M_hear_156 : decode b_M_hear 156 = .ok (.istore 6, 2) := by decide +kernel
theorem d_M_hear_158 : decode b_M_hear 158 = .ok (.iload 4, 2) := by decide +kernel
theorem d_M_hear_160 : decode b_M_hear 160 = .ok (.ifCond .ne 16, 3) := by decide +kernel
theorem d_M_hear_163 : decode b_M_hear 163 = .ok (.aload_n 0, 1) := by decide +kernel
theorem d_M_hear_164 : decode b_M_hear 164 = .ok (.getfield 80, 3) := by decide +kernel
theorem d_M_hear_167 : decode b_M_hear 167 = .ok (.iconst 0, 1) := by decide +kernel
theorem d_M_hear_168 : decode b_M_hear 168 = .ok (.dup2, 1) := by decide +kernel
theorem d_M_hear_169 : decode b_M_hear 169 = .ok (.iaload, 1) := by decide +kernel
theorem d_M_hear_170 : decode b_M_hear 170 = .ok (.iconst 1, 1) := by decide +kernel
theorem d_M_hear_171 : decode b_M_hear 171 = .ok (.iadd, 1) := by decide +kernel
theorem d_M_hear_172 : decode b_M_hear 172 = .ok (.iastore, 1) := by decide +kernel
theorem d_M_hear_173 : decode b_M_hear 173 = .ok (.goto 64, 3) := by decide +kernel
theorem d_M_hear_176 : decode b_M_hear 176 = .ok (.iload 6, 2) := by decide +kernel
theorem d_M_hear_178 : decode b_M_hear 178 = .ok (.iconst 3, 1) := by decide +kernel
theorem d_M_hear_179 : decode b_M_hear 179 = .ok (.if_icmp .ge 58, 3) := by decide +kernel
theorem d_M_hear_182 : decode b_M_hear 182 = .ok (.aload_n 0, 1) := by decide +kernel
theorem d_M_hear_183 : decode b_M_hear 183 = .ok (.iload 6, 2) := by decide +kernel
theorem d_M_hear_185 : decode b_M_hear 185 = .ok (.iload_n 3, 1) := by decide +kernel
theorem d_M_hear_186 : decode b_M_hear 186 = .ok (.bipush 16, 2) := by decide +kernel
theorem d_M_hear_188 : decode b_M_hear 188 = .ok (.irem, 1) := by decide +kernel
theorem d_M_hear_189 : decode b_M_hear 189 = .ok (.invokevirtual 141, 3) := by decide +kernel
theorem d_M_hear_192 : decode b_M_hear 192 = .ok (.iload_n 3, 1) := by decide +kernel
theorem d_M_hear_193 : decode b_M_hear 193 = .ok (.bipush 127, 2) := by decide +kernel
theorem d_M_hear_195 : decode b_M_hear 195 = .ok (.if_icmp .le 22, 3) := by decide +kernel
theorem d_M_hear_198 : decode b_M_hear 198 = .ok (.aload_n 0, 1) := by decide +kernel
theorem d_M_hear_199 : decode b_M_hear 199 = .ok (.iload 6, 2) := by decide +kernel
theorem d_M_hear_201 : decode b_M_hear 201 = .ok (.iload 5, 2) := by decide +kernel
theorem d_M_hear_203 : decode b_M_hear 203 = .ok (.ifCond .eq 7, 3) := by decide +kernel
theorem d_M_hear_206 : decode b_M_hear 206 = .ok (.iconst 4, 1) := by decide +kernel
theorem d_M_hear_207 : decode b_M_hear 207 = .ok (.goto 4, 3) := by decide +kernel
theorem d_M_hear_210 : decode b_M_hear 210 = .ok (.iconst 2, 1) := by decide +kernel
theorem d_M_hear_211 : decode b_M_hear 211 = .ok (.invokevirtual 144, 3) := by decide +kernel
theorem d_M_hear_214 : decode b_M_hear 214 = .ok (.goto 13, 3) := by decide +kernel
theorem d_M_hear_217 : decode b_M_hear 217 = .ok (.iload 5, 2) := by decide +kernel
theorem d_M_hear_219 : decode b_M_hear 219 = .ok (.ifCond .eq 7, 3) := by decide +kernel
theorem d_M_hear_222 : decode b_M_hear 222 = .ok (.iconst 4, 1) := by decide +kernel
theorem d_M_hear_223 : decode b_M_hear 223 = .ok (.goto 4, 3) := by decide +kernel
theorem d_M_hear_226 : decode b_M_hear 226 = .ok (.iconst 2, 1) := by decide +kernel
theorem d_M_hear_227 : decode b_M_hear 227 = .ok (.istore 7, 2) := by decide +kernel
theorem d_M_hear_229 : decode b_M_hear 229 = .ok (.aload_n 0, 1) := by decide +kernel
theorem d_M_hear_230 : decode b_M_hear 230 = .ok (.iload 6, 2) := by decide +kernel
theorem d_M_hear_232 : decode b_M_hear 232 = .ok (.iload 7, 2) := by decide +kernel
theorem d_M_hear_234 : decode b_M_hear 234 = .ok (.invokevirtual 148, 3) := by decide +kernel
theorem d_M_hear_237 : decode b_M_hear 237 = .ok (.return_, 1) := by decide +kernel
theorem d_M_note_0 : decode b_M_note 0 = .ok (.aload_n 0, 1) := by decide +kernel
theorem d_M_note_1 : decode b_M_note 1 = .ok (.getfield 46, 3) := by decide +kernel
theorem d_M_note_4 : decode b_M_note 4 = .ok (.iload_n 1, 1) := by decide +kernel
theorem d_M_note_5 : decode b_M_note 5 = .ok (.baload, 1) := by decide +kernel
theorem d_M_note_6 : decode b_M_note 6 = .ok (.ifCond .eq 33, 3) := by decide +kernel
theorem d_M_note_9 : decode b_M_note 9 = .ok (.iload_n 2, 1) := by decide +kernel
theorem d_M_note_10 : decode b_M_note 10 = .ok (.aload_n 0, 1) := by decide +kernel
theorem d_M_note_11 : decode b_M_note 11 = .ok (.getfield 50, 3) := by decide +kernel
theorem d_M_note_14 : decode b_M_note 14 = .ok (.iload_n 1, 1) := by decide +kernel
theorem d_M_note_15 : decode b_M_note 15 = .ok (.iaload, 1) := by decide +kernel
theorem d_M_note_16 : decode b_M_note 16 = .ok (.iconst 1, 1) := by decide +kernel
theorem d_M_note_17 : decode b_M_note 17 = .ok (.iadd, 1) := by decide +kernel
theorem d_M_note_18 : decode b_M_note 18 = .ok (.bipush 16, 2) := by decide +kernel
theorem d_M_note_20 : decode b_M_note 20 = .ok (.irem, 1) := by decide +kernel
theorem d_M_note_21 : decode b_M_note 21 = .ok (.if_icmp .eq 18, 3) := by decide +kernel
theorem d_M_note_24 : decode b_M_note 24 = .ok (.aload_n 0, 1) := by decide +kernel
theorem d_M_note_25 : decode b_M_note 25 = .ok (.getfield 80, 3) := by decide +kernel
theorem d_M_note_28 : decode b_M_note 28 = .ok (.iconst 1, 1) := by decide +kernel
theorem d_M_note_29 : decode b_M_note 29 = .ok (.dup2, 1) := by decide +kernel
theorem d_M_note_30 : decode b_M_note 30 = .ok (.iaload, 1) := by decide +kernel
theorem d_M_note_31 : decode b_M_note 31 = .ok (.iconst 1, 1) := by decide +kernel
theorem d_M_note_32 : decode b_M_note 32 = .ok (.iadd, 1) := by decide +kernel
theorem d_M_note_33 : decode b_M_note 33 = .ok (.iastore, 1) := by decide +kernel
theorem d_M_note_34 : decode b_M_note 34 = .ok (.aload_n 0, 1) := by decide +kernel
theorem d_M_note_35 : decode b_M_note 35 = .ok (.iload_n 1, 1) := by decide +kernel
theorem d_M_note_36 : decode b_M_note 36 = .ok (.invokevirtual 151, 3) := by decide +kernel
theorem d_M_note_39 : decode b_M_note 39 = .ok (.aload_n 0, 1) := by decide +kernel
theorem d_M_note_40 : decode b_M_note 40 = .ok (.getfield 46, 3) := by decide +kernel
theorem d_M_note_43 : decode b_M_note 43 = .ok (.iload_n 1, 1) := by decide +kernel
theorem d_M_note_44 : decode b_M_note 44 = .ok (.iconst 1, 1) := by decide +kernel
theorem d_M_note_45 : decode b_M_note 45 = .ok (.bastore, 1) := by decide +kernel
theorem d_M_note_46 : decode b_M_note 46 = .ok (.aload_n 0, 1) := by decide +kernel
theorem d_M_note_47 : decode b_M_note 47 = .ok (.getfield 50, 3) := by decide +kernel
theorem d_M_note_50 : decode b_M_note 50 = .ok (.iload_n 1, 1) := by decide +kernel
theorem d_M_note_51 : decode b_M_note 51 = .ok (.iload_n 2, 1) := by decide +kernel
theorem d_M_note_52 : decode b_M_note 52 = .ok (.iastore, 1) := by decide +kernel
theorem d_M_note_53 : decode b_M_note 53 = .ok (.return_, 1) := by decide +kernel
theorem d_M_begin_0 : decode b_M_begin 0 = .ok (.aload_n 0, 1) := by decide +kernel
theorem d_M_begin_1 : decode b_M_begin 1 = .ok (.iload_n 1, 1) := by decide +kernel
theorem d_M_begin_2 : decode b_M_begin 2 = .ok (.invokevirtual 151, 3) := by decide +kernel
theorem d_M_begin_5 : decode b_M_begin 5 = .ok (.aload_n 0, 1) := by decide +kernel
theorem d_M_begin_6 : decode b_M_begin 6 = .ok (.getfield 43, 3) := by decide +kernel
theorem d_M_begin_9 : decode b_M_begin 9 = .ok (.iload_n 2, 1) := by decide +kernel
theorem d_M_begin_10 : decode b_M_begin 10 = .ok (.iaload, 1) := by decide +kernel
theorem d_M_begin_11 : decode b_M_begin 11 = .ok (.istore_n 3, 1) := by decide +kernel
theorem d_M_begin_12 : decode b_M_begin 12 = .ok (.iload_n 3, 1) := by decide +kernel
theorem d_M_begin_13 : decode b_M_begin 13 = .ok (.iconst 1, 1) := by decide +kernel
theorem d_M_begin_14 : decode b_M_begin 14 = .ok (.bipush 60, 2) := by decide +kernel
theorem d_M_begin_16 : decode b_M_begin 16 = .ok (.invokestatic 90, 3) := by decide +kernel
theorem d_M_begin_19 : decode b_M_begin 19 = .ok (.ifCond .ne 16, 3) := by decide +kernel
theorem d_M_begin_22 : decode b_M_begin 22 = .ok (.aload_n 0, 1) := by decide +kernel
theorem d_M_begin_23 : decode b_M_begin 23 = .ok (.getfield 80, 3) := by decide +kernel
theorem d_M_begin_26 : decode b_M_begin 26 = .ok (.iconst 3, 1) := by decide +kernel
theorem d_M_begin_27 : decode b_M_begin 27 = .ok (.dup2, 1) := by decide +kernel
theorem d_M_begin_28 : decode b_M_begin 28 = .ok (.iaload, 1) := by decide +kernel
theorem d_M_begin_29 : decode b_M_begin 29 = .ok (.iconst 1, 1) := by decide +kernel
theorem d_M_begin_30 : decode b_M_begin 30 = .ok (.iadd, 1) := by decide +kernel
theorem d_M_begin_31 : decode b_M_begin 31 = .ok (.iastore, 1) := by decide +kernel
theorem d_M_begin_32 : decode b_M_begin 32 = .ok (.bipush 16, 2) := by decide +kernel
theorem d_M_begin_34 : decode b_M_begin 34 = .ok (.ireturn, 1) := by decide +kernel
theorem d_M_begin_35 : decode b_M_begin 35 = .ok (.aload_n 0, 1) := by decide +kernel
theorem d_M_begin_36 : decode b_M_begin 36 = .ok (.getfield 53, 3) := by decide +kernel
theorem d_M_begin_39 : decode b_M_begin 39 = .ok (.iload_n 1, 1) := by decide +kernel
theorem d_M_begin_40 : decode b_M_begin 40 = .ok (.iconst 1, 1) := by decide +kernel
theorem d_M_begin_41 : decode b_M_begin 41 = .ok (.bastore, 1) := by decide +kernel
theorem d_M_begin_42 : decode b_M_begin 42 = .ok (.aload_n 0, 1) := by decide +kernel
theorem d_M_begin_43 : decode b_M_begin 43 = .ok (.getfield 56, 3) := by decide +kernel
theorem d_M_begin_46 : decode b_M_begin 46 = .ok (.iload_n 1, 1) := by decide +kernel
theorem d_M_begin_47 : decode b_M_begin 47 = .ok (.iconst 0, 1) := by decide +kernel
theorem d_M_begin_48 : decode b_M_begin 48 = .ok (.iastore, 1) := by decide +kernel
theorem d_M_begin_49 : decode b_M_begin 49 = .ok (.aload_n 0, 1) := by decide +kernel
theorem d_M_begin_50 : decode b_M_begin 50 = .ok (.getfield 59, 3) := by decide +kernel
theorem d_M_begin_53 : decode b_M_begin 53 = .ok (.iload_n 1, 1) := by decide +kernel
theorem d_M_begin_54 : decode b_M_begin 54 = .ok (.iload_n 3, 1) := by decide +kernel
theorem d_M_begin_55 : decode b_M_begin 55 = .ok (.iastore, 1) := by decide +kernel
theorem d_M_begin_56 : decode b_M_begin 56 = .ok (.aload_n 0, 1) := by decide +kernel
theorem d_M_begin_57 : decode b_M_begin 57 = .ok (.getfield 62, 3) := by decide +kernel
theorem d_M_begin_60 : decode b_M_begin 60 = .ok (.iload_n 1, 1) := by decide +kernel
theorem d_M_begin_61 : decode b_M_begin 61 = .ok (.sipush 256, 3) := by decide +kernel
theorem d_M_begin_64 : decode b_M_begin 64 = .ok (.aload_n 0, 1) := by decide +kernel
theorem d_M_begin_65 : decode b_M_begin 65 = .ok (.getfield 43, 3) := by decide +kernel
theorem d_M_begin_68 : decode b_M_begin 68 = .ok (.iload_n 2, 1) := by decide +kernel
theorem d_M_begin_69 : decode b_M_begin 69 = .ok (.iconst 1, 1) := by decide +kernel
theorem d_M_begin_70 : decode b_M_begin 70 = .ok (.iadd, 1) := by decide +kernel
theorem d_M_begin_71 : decode b_M_begin 71 = .ok (.iaload, 1) := by decide +kernel
theorem d_M_begin_72 : decode b_M_begin 72 = .ok (.imul, 1) := by decide +kernel
theorem d_M_begin_73 : decode b_M_begin 73 = .ok (.aload_n 0, 1) := by decide +kernel
theorem d_M_begin_74 : decode b_M_begin 74 = .ok (.getfield 43, 3) := by decide +kernel
theorem d_M_begin_77 : decode b_M_begin 77 = .ok (.iload_n 2, 1) := by decide +kernel
theorem d_M_begin_78 : decode b_M_begin 78 = .ok (.iconst 2, 1) := by decide +kernel
theorem d_M_begin_79 : decode b_M_begin 79 = .ok (.iadd, 1) := by decide +kernel
theorem d_M_begin_80 : decode b_M_begin 80 = .ok (.iaload, 1) := by decide +kernel
theorem d_M_begin_81 : decode b_M_begin 81 = .ok (.iadd, 1) := by decide +kernel
theorem d_M_begin_82 : decode b_M_begin 82 = .ok (.iastore, 1) := by decide +kernel
theorem d_M_begin_83 : decode b_M_begin 83 = .ok (.iload_n 2, 1) := by decide +kernel
theorem d_M_begin_84 : decode b_M_begin 84 = .ok (.iconst 3, 1) := by decide +kernel
theorem d_M_begin_85 : decode b_M_begin 85 = .ok (.iadd, 1) := by decide +kernel
theorem d_M_begin_86 : decode b_M_begin 86 = .ok (.ireturn, 1) := by decide +kernel
theorem d_M_collect_0 : decode b_M_collect 0 = .ok (.iload_n 2, 1) := by decide +kernel
theorem d_M_collect_1 : decode b_M_collect 1 = .ok (.istore_n 3, 1) := by decide +kernel
theorem d_M_collect_2 : decode b_M_collect 2 = .ok (.iload_n 3, 1) := by decide +kernel
theorem d_M_collect_3 : decode b_M_collect 3 = .ok (.bipush 16, 2) := by decide +kernel
theorem d_M_collect_5 : decode b_M_collect 5 = .ok (.if_icmp .ge 70, 3) := by decide +kernel
theorem d_M_collect_8 : decode b_M_collect 8 = .ok (.aload_n 0, 1) := by decide +kernel
theorem d_M_collect_9 : decode b_M_collect 9 = .ok (.getfield 53, 3) := by decide +kernel
theorem d_M_collect_12 : decode b_M_collect 12 = .ok (.iload_n 1, 1) := by decide +kernel
theorem d_M_collect_13 : decode b_M_collect 13 = .ok (.baload, 1) := by decide +kernel
theorem d_M_collect_14 : decode b_M_collect 14 = .ok (.ifCond .eq 61, 3) := by decide +kernel
theorem d_M_collect_17 : decode b_M_collect 17 = .ok (.aload_n 0, 1) := by decide +kernel
theorem d_M_collect_18 : decode b_M_collect 18 = .ok (.getfield 65, 3) := by decide +kernel
theorem d_M_collect_21 : decode b_M_collect 21 = .ok (.bipush 60, 2) := by decide +kernel
theorem d_M_collect_23 : decode b_M_collect 23 = .ok (.iload_n 1, 1) := by decide +kernel
theorem d_M_collect_24 : decode b_M_collect 24 = .ok (.imul, 1) := by decide +kernel
theorem d_M_collect_25 : decode b_M_collect 25 = .ok (.aload_n 0, 1) := by decide +kernel
theorem d_M_collect_26 : decode b_M_collect 26 = .ok (.getfield 56, 3) := by decide +kernel
theorem d_M_collect_29 : decode b_M_collect 29 = .ok (.iload_n 1, 1) := by decide +kernel
theorem d_M_collect_30 : decode b_M_collect 30 = .ok (.iaload, 1) := by decide +kernel
theorem d_M_collect_31 : decode b_M_collect 31 = .ok (.iadd, 1) := by decide +kernel
theorem d_M_collect_32 : decode b_M_collect 32 = .ok (.aload_n 0, 1) := by decide +kernel
theorem d_M_collect_33 : decode b_M_collect 33 = .ok (.getfield 43, 3) := by decide +kernel
theorem d_M_collect_36 : decode b_M_collect 36 = .ok (.iload_n 3, 1) := by decide +kernel
theorem d_M_collect_37 : decode b_M_collect 37 = .ok (.iaload, 1) := by decide +kernel
theorem d_M_collect_38 : decode b_M_collect 38 = .ok (.iastore, 1) := by decide +kernel
theorem d_M_collect_39 : decode b_M_collect 39 = .ok (.aload_n 0, 1) := by decide +kernel
theorem d_M_collect_40 : decode b_M_collect 40 = .ok (.getfield 56, 3) := by decide +kernel
theorem d_M_collect_43 : decode b_M_collect 43 = .ok (.iload_n 1, 1) := by decide +kernel
theorem d_M_collect_44 : decode b_M_collect 44 = .ok (.dup2, 1) := by decide +kernel
theorem d_M_collect_45 : decode b_M_collect 45 = .ok (.iaload, 1) := by decide +kernel
theorem d_M_collect_46 : decode b_M_collect 46 = .ok (.iconst 1, 1) := by decide +kernel
theorem d_M_collect_47 : decode b_M_collect 47 = .ok (.iadd, 1) := by decide +kernel
theorem d_M_collect_48 : decode b_M_collect 48 = .ok (.iastore, 1) := by decide +kernel
theorem d_M_collect_49 : decode b_M_collect 49 = .ok (.aload_n 0, 1) := by decide +kernel
theorem d_M_collect_50 : decode b_M_collect 50 = .ok (.getfield 56, 3) := by decide +kernel
theorem d_M_collect_53 : decode b_M_collect 53 = .ok (.iload_n 1, 1) := by decide +kernel
theorem d_M_collect_54 : decode b_M_collect 54 = .ok (.iaload, 1) := by decide +kernel
theorem d_M_collect_55 : decode b_M_collect 55 = .ok (.aload_n 0, 1) := by decide +kernel
theorem d_M_collect_56 : decode b_M_collect 56 = .ok (.getfield 59, 3) := by decide +kernel
theorem d_M_collect_59 : decode b_M_collect 59 = .ok (.iload_n 1, 1) := by decide +kernel
theorem d_M_collect_60 : decode b_M_collect 60 = .ok (.iaload, 1) := by decide +kernel
theorem d_M_collect_61 : decode b_M_collect 61 = .ok (.if_icmp .ne 8, 3) := by decide +kernel
theorem d_M_collect_64 : decode b_M_collect 64 = .ok (.aload_n 0, 1) := by decide +kernel
theorem d_M_collect_65 : decode b_M_collect 65 = .ok (.iload_n 1, 1) := by decide +kernel
theorem d_M_collect_66 : decode b_M_collect 66 = .ok (.invokevirtual 154, 3) := by decide +kernel
theorem d_M_collect_69 : decode b_M_collect 69 = .ok (.iinc 3 1, 3) := by decide +kernel
theorem d_M_collect_72 : decode b_M_collect 72 = .ok (.goto (-70), 3) := by decide +kernel
theorem d_M_collect_75 : decode b_M_collect 75 = .ok (.return_, 1) := by decide +kernel
theorem d_M_arrive_0 : decode b_M_arrive 0 = .ok (.aload_n 0, 1) := by decide +kernel
theorem d_M_arrive_1 : decode b_M_arrive 1 = .ok (.getfield 53, 3) := by decide +kernel
theorem d_M_arrive_4 : decode b_M_arrive 4 = .ok (.iload_n 1, 1) := by decide +kernel
theorem d_M_arrive_5 : decode b_M_arrive 5 = .ok (.iconst 0, 1) := by decide +kernel
theorem d_M_arrive_6 : decode b_M_arrive 6 = .ok (.bastore, 1) := by decide +kernel
theorem d_M_arrive_7 : decode b_M_arrive 7 = .ok (.aload_n 0, 1) := by decide +kernel
theorem d_M_arrive_8 : decode b_M_arrive 8 = .ok (.getfield 77, 3) := by decide +kernel
theorem d_M_arrive_11 : decode b_M_arrive 11 = .ok (.iload_n 1, 1) := by decide +kernel
theorem d_M_arrive_12 : decode b_M_arrive 12 = .ok (.dup2, 1) := by decide +kernel
theorem d_M_arrive_13 : decode b_M_arrive 13 = .ok (.iaload, 1) := by decide +kernel
theorem d_M_arrive_14 : decode b_M_arrive 14 = .ok (.iconst 1, 1) := by decide +kernel
theorem d_M_arrive_15 : decode b_M_arrive 15 = .ok (.iadd, 1) := by decide +kernel
theorem d_M_arrive_16 : decode b_M_arrive 16 = .ok (.iastore, 1) := by decide +kernel

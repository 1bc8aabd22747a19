theorem d_X_sendPacket_67 : decode b_X_sendPacket 67 = .ok (.iload_n 2, 1) := by decide +kernel
theorem d_X_sendPacket_68 : decode b_X_sendPacket 68 = .ok (.iload_n 1, 1) := by decide +kernel
theorem d_X_sendPacket_69 : decode b_X_sendPacket 69 = .ok (.invokevirtual 154, 3) := by decide +kernel
theorem d_X_sendPacket_72 : decode b_X_sendPacket 72 = .ok (.goto 11, 3) := by decide +kernel
theorem d_X_sendPacket_75 : decode b_X_sendPacket 75 = .ok (.aload_n 0, 1) := by decide +kernel
theorem d_X_sendPacket_76 : decode b_X_sendPacket 76 = .ok (.iconst 3, 1) := by decide +kernel
theorem d_X_sendPacket_77 : decode b_X_sendPacket 77 = .ok (.iload_n 1, 1) := by decide +kernel
theorem d_X_sendPacket_78 : decode b_X_sendPacket 78 = .ok (.iconst 0, 1) := by decide +kernel
theorem d_X_sendPacket_79 : decode b_X_sendPacket 79 = .ok (.iconst 0, 1) := by decide +kernel
theorem d_X_sendPacket_80 : decode b_X_sendPacket 80 = .ok (.invokevirtual 158, 3) := by decide +kernel
theorem d_X_sendPacket_83 : decode b_X_sendPacket 83 = .ok (.aload_n 0, 1) := by decide +kernel
theorem d_X_sendPacket_84 : decode b_X_sendPacket 84 = .ok (.iconst 1, 1) := by decide +kernel
theorem d_X_sendPacket_85 : decode b_X_sendPacket 85 = .ok (.putfield 93, 3) := by decide +kernel
theorem d_X_sendPacket_88 : decode b_X_sendPacket 88 = .ok (.aload_n 0, 1) := by decide +kernel
theorem d_X_sendPacket_89 : decode b_X_sendPacket 89 = .ok (.dup, 1) := by decide +kernel
theorem d_X_sendPacket_90 : decode b_X_sendPacket 90 = .ok (.getfield 53, 3) := by decide +kernel
theorem d_X_sendPacket_93 : decode b_X_sendPacket 93 = .ok (.iconst 1, 1) := by decide +kernel
theorem d_X_sendPacket_94 : decode b_X_sendPacket 94 = .ok (.iadd, 1) := by decide +kernel
theorem d_X_sendPacket_95 : decode b_X_sendPacket 95 = .ok (.putfield 53, 3) := by decide +kernel
theorem d_X_sendPacket_98 : decode b_X_sendPacket 98 = .ok (.return_, 1) := by decide +kernel
theorem d_X_chooseStream_0 : decode b_X_chooseStream 0 = .ok (.iconst 3, 1) := by decide +kernel
theorem d_X_chooseStream_1 : decode b_X_chooseStream 1 = .ok (.istore_n 2, 1) := by decide +kernel
theorem d_X_chooseStream_2 : decode b_X_chooseStream 2 = .ok (.iconst 0, 1) := by decide +kernel
theorem d_X_chooseStream_3 : decode b_X_chooseStream 3 = .ok (.istore_n 3, 1) := by decide +kernel
theorem d_X_chooseStream_4 : decode b_X_chooseStream 4 = .ok (.iconst 0, 1) := by decide +kernel
theorem d_X_chooseStream_5 : decode b_X_chooseStream 5 = .ok (.istore 4, 2) := by decide +kernel
theorem d_X_chooseStream_7 : decode b_X_chooseStream 7 = .ok (.iload 4, 2) := by decide +kernel
theorem d_X_chooseStream_9 : decode b_X_chooseStream 9 = .ok (.iconst 3, 1) := by decide +kernel
theorem d_X_chooseStream_10 : decode b_X_chooseStream 10 = .ok (.if_icmp .ge 59, 3) := by decide +kernel
theorem d_X_chooseStream_13 : decode b_X_chooseStream 13 = .ok (.aload_n 0, 1) := by decide +kernel
theorem d_X_chooseStream_14 : decode b_X_chooseStream 14 = .ok (.getfield 27, 3) := by decide +kernel
theorem d_X_chooseStream_17 : decode b_X_chooseStream 17 = .ok (.iload 4, 2) := by decide +kernel
theorem d_X_chooseStream_19 : decode b_X_chooseStream 19 = .ok (.aaload, 1) := by decide +kernel
theorem d_X_chooseStream_20 : decode b_X_chooseStream 20 = .ok (.iload_n 1, 1) := by decide +kernel
theorem d_X_chooseStream_21 : decode b_X_chooseStream 21 = .ok (.aload_n 0, 1) := by decide +kernel
theorem d_X_chooseStream_22 : decode b_X_chooseStream 22 = .ok (.getfield 22, 3) := by decide +kernel
theorem d_X_chooseStream_25 : decode b_X_chooseStream 25 = .ok (.invokevirtual 162, 3) := by decide +kernel
theorem d_X_chooseStream_28 : decode b_X_chooseStream 28 = .ok (.ifCond .eq 35, 3) := by decide +kernel
theorem d_X_chooseStream_31 : decode b_X_chooseStream 31 = .ok (.aload_n 0, 1) := by decide +kernel
theorem d_X_chooseStream_32 : decode b_X_chooseStream 32 = .ok (.getfield 27, 3) := by decide +kernel
theorem d_X_chooseStream_35 : decode b_X_chooseStream 35 = .ok (.iload 4, 2) := by decide +kernel
theorem d_X_chooseStream_37 : decode b_X_chooseStream 37 = .ok (.aaload, 1) := by decide +kernel
theorem d_X_chooseStream_38 : decode b_X_chooseStream 38 = .ok (.getfield 59, 3) := by decide +kernel
theorem d_X_chooseStream_41 : decode b_X_chooseStream 41 = .ok (.invokevirtual 166, 3) := by decide +kernel
theorem d_X_chooseStream_44 : decode b_X_chooseStream 44 = .ok (.istore 5, 2) := by decide +kernel
theorem d_X_chooseStream_46 : decode b_X_chooseStream 46 = .ok (.iload_n 2, 1) := by decide +kernel
theorem d_X_chooseStream_47 : decode b_X_chooseStream 47 = .ok (.iconst 3, 1) := by decide +kernel
theorem d_X_chooseStream_48 : decode b_X_chooseStream 48 = .ok (.if_icmp .eq 9, 3) := by decide +kernel
theorem d_X_chooseStream_51 : decode b_X_chooseStream 51 = .ok (.iload 5, 2) := by decide +kernel
theorem d_X_chooseStream_53 : decode b_X_chooseStream 53 = .ok (.iload_n 3, 1) := by decide +kernel
theorem d_X_chooseStream_54 : decode b_X_chooseStream 54 = .ok (.if_icmp .ge 9, 3) := by decide +kernel
theorem d_X_chooseStream_57 : decode b_X_chooseStream 57 = .ok (.iload 4, 2) := by decide +kernel
theorem d_X_chooseStream_59 : decode b_X_chooseStream 59 = .ok (.istore_n 2, 1) := by decide +kernel
theorem d_X_chooseStream_60 : decode b_X_chooseStream 60 = .ok (.iload 5, 2) := by decide +kernel
theorem d_X_chooseStream_62 : decode b_X_chooseStream 62 = .ok (.istore_n 3, 1) := by decide +kernel
theorem d_X_chooseStream_63 : decode b_X_chooseStream 63 = .ok (.iinc 4 1, 3) := by decide +kernel
theorem d_X_chooseStream_66 : decode b_X_chooseStream 66 = .ok (.goto (-59), 3) := by decide +kernel
theorem d_X_chooseStream_69 : decode b_X_chooseStream 69 = .ok (.iload_n 2, 1) := by decide +kernel
theorem d_X_chooseStream_70 : decode b_X_chooseStream 70 = .ok (.ireturn, 1) := by decide +kernel
theorem d_X_fillPacket_0 : decode b_X_fillPacket 0 = .ok (.aload_n 0, 1) := by decide +kernel
theorem d_X_fillPacket_1 : decode b_X_fillPacket 1 = .ok (.getfield 27, 3) := by decide +kernel
theorem d_X_fillPacket_4 : decode b_X_fillPacket 4 = .ok (.iload_n 1, 1) := by decide +kernel
theorem d_X_fillPacket_5 : decode b_X_fillPacket 5 = .ok (.aaload, 1) := by decide +kernel
theorem d_X_fillPacket_6 : decode b_X_fillPacket 6 = .ok (.astore_n 3, 1) := by decide +kernel
theorem d_X_fillPacket_7 : decode b_X_fillPacket 7 = .ok (.aload_n 0, 1) := by decide +kernel
theorem d_X_fillPacket_8 : decode b_X_fillPacket 8 = .ok (.iload_n 1, 1) := by decide +kernel
theorem d_X_fillPacket_9 : decode b_X_fillPacket 9 = .ok (.iload_n 2, 1) := by decide +kernel
theorem d_X_fillPacket_10 : decode b_X_fillPacket 10 = .ok (.aload_n 3, 1) := by decide +kernel
theorem d_X_fillPacket_11 : decode b_X_fillPacket 11 = .ok (.invokevirtual 170, 3) := by decide +kernel
theorem d_X_fillPacket_14 : decode b_X_fillPacket 14 = .ok (.aload_n 3, 1) := by decide +kernel
theorem d_X_fillPacket_15 : decode b_X_fillPacket 15 = .ok (.invokevirtual 173, 3) := by decide +kernel
theorem d_X_fillPacket_18 : decode b_X_fillPacket 18 = .ok (.invokevirtual 158, 3) := by decide +kernel
theorem d_X_fillPacket_21 : decode b_X_fillPacket 21 = .ok (.aload_n 3, 1) := by decide +kernel
theorem d_X_fillPacket_22 : decode b_X_fillPacket 22 = .ok (.invokevirtual 170, 3) := by decide +kernel
theorem d_X_fillPacket_25 : decode b_X_fillPacket 25 = .ok (.ifCond .eq 31, 3) := by decide +kernel
theorem d_X_fillPacket_28 : decode b_X_fillPacket 28 = .ok (.aload_n 0, 1) := by decide +kernel
theorem d_X_fillPacket_29 : decode b_X_fillPacket 29 = .ok (.getfield 42, 3) := by decide +kernel
theorem d_X_fillPacket_32 : decode b_X_fillPacket 32 = .ok (.aload_n 3, 1) := by decide +kernel
theorem d_X_fillPacket_33 : decode b_X_fillPacket 33 = .ok (.getfield 59, 3) := by decide +kernel
theorem d_X_fillPacket_36 : decode b_X_fillPacket 36 = .ok (.invokevirtual 176, 3) := by decide +kernel
theorem d_X_fillPacket_39 : decode b_X_fillPacket 39 = .ok (.invokevirtual 179, 3) := by decide +kernel
theorem d_X_fillPacket_42 : decode b_X_fillPacket 42 = .ok (.aload_n 0, 1) := by decide +kernel
theorem d_X_fillPacket_43 : decode b_X_fillPacket 43 = .ok (.getfield 42, 3) := by decide +kernel
theorem d_X_fillPacket_46 : decode b_X_fillPacket 46 = .ok (.aload_n 3, 1) := by decide +kernel
theorem d_X_fillPacket_47 : decode b_X_fillPacket 47 = .ok (.getfield 59, 3) := by decide +kernel
theorem d_X_fillPacket_50 : decode b_X_fillPacket 50 = .ok (.invokevirtual 166, 3) := by decide +kernel
theorem d_X_fillPacket_53 : decode b_X_fillPacket 53 = .ok (.invokevirtual 183, 3) := by decide +kernel
theorem d_X_fillPacket_56 : decode b_X_fillPacket 56 = .ok (.aload_n 3, 1) := by decide +kernel
theorem d_X_fillPacket_57 : decode b_X_fillPacket 57 = .ok (.aload_n 3, 1) := by decide +kernel
theorem d_X_fillPacket_58 : decode b_X_fillPacket 58 = .ok (.iload_n 2, 1) := by decide +kernel
theorem d_X_fillPacket_59 : decode b_X_fillPacket 59 = .ok (.invokevirtual 186, 3) := by decide +kernel
theorem d_X_fillPacket_62 : decode b_X_fillPacket 62 = .ok (.aload_n 0, 1) := by decide +kernel
theorem d_X_fillPacket_63 : decode b_X_fillPacket 63 = .ok (.getfield 42, 3) := by decide +kernel
theorem d_X_fillPacket_66 : decode b_X_fillPacket 66 = .ok (.invokevirtual 189, 3) := by decide +kernel
theorem d_X_fillPacket_69 : decode b_X_fillPacket 69 = .ok (.return_, 1) := by decide +kernel
theorem d_X_putHead_0 : decode b_X_putHead 0 = .ok (.aload_n 0, 1) := by decide +kernel
theorem d_X_putHead_1 : decode b_X_putHead 1 = .ok (.getfield 42, 3) := by decide +kernel
theorem d_X_putHead_4 : decode b_X_putHead 4 = .ok (.bipush 71, 2) := by decide +kernel
theorem d_X_putHead_6 : decode b_X_putHead 6 = .ok (.invokevirtual 179, 3) := by decide +kernel
theorem d_X_putHead_9 : decode b_X_putHead 9 = .ok (.aload_n 0, 1) := by decide +kernel
theorem d_X_putHead_10 : decode b_X_putHead 10 = .ok (.getfield 42, 3) := by decide +kernel
theorem d_X_putHead_13 : decode b_X_putHead 13 = .ok (.iload_n 3, 1) := by decide +kernel
theorem d_X_putHead_14 : decode b_X_putHead 14 = .ok (.ifCond .eq 9, 3) := by decide +kernel
theorem d_X_putHead_17 : decode b_X_putHead 17 = .ok (.sipush 128, 3) := by decide +kernel
theorem d_X_putHead_20 : decode b_X_putHead 20 = .ok (.goto 4, 3) := by decide +kernel
theorem d_X_putHead_23 : decode b_X_putHead 23 = .ok (.iconst 0, 1) := by decide +kernel
theorem d_X_putHead_24 : decode b_X_putHead 24 = .ok (.iload_n 2, 1) := by decide +kernel
theorem d_X_putHead_25 : decode b_X_putHead 25 = .ok (.ifCond .eq 8, 3) := by decide +kernel
theorem d_X_putHead_28 : decode b_X_putHead 28 = .ok (.bipush 64, 2) := by decide +kernel
theorem d_X_putHead_30 : decode b_X_putHead 30 = .ok (.goto 4, 3) := by decide +kernel
theorem d_X_putHead_33 : decode b_X_putHead 33 = .ok (.iconst 0, 1) := by decide +kernel
theorem d_X_putHead_34 : decode b_X_putHead 34 = .ok (.iadd, 1) := by decide +kernel
theorem d_X_putHead_35 : decode b_X_putHead 35 = .ok (.bipush 16, 2) := by decide +kernel
theorem d_X_putHead_37 : decode b_X_putHead 37 = .ok (.iload_n 1, 1) := by decide +kernel
theorem d_X_putHead_38 : decode b_X_putHead 38 = .ok (.imul, 1) := by decide +kernel
theorem d_X_putHead_39 : decode b_X_putHead 39 = .ok (.iadd, 1) := by decide +kernel
theorem d_X_putHead_40 : decode b_X_putHead 40 = .ok (.iload 4, 2) := by decide +kernel
theorem d_X_putHead_42 : decode b_X_putHead 42 = .ok (.iadd, 1) := by decide +kernel
theorem d_X_putHead_43 : decode b_X_putHead 43 = .ok (.invokevirtual 179, 3) := by decide +kernel
theorem d_X_putHead_46 : decode b_X_putHead 46 = .ok (.iload_n 2, 1) := by decide +kernel
theorem d_X_putHead_47 : decode b_X_putHead 47 = .ok (.ifCond .eq 14, 3) := by decide +kernel
theorem d_X_putHead_50 : decode b_X_putHead 50 = .ok (.aload_n 0, 1) := by decide +kernel
theorem d_X_putHead_51 : decode b_X_putHead 51 = .ok (.getfield 42, 3) := by decide +kernel
theorem d_X_putHead_54 : decode b_X_putHead 54 = .ok (.aload_n 0, 1) := by decide +kernel
theorem d_X_putHead_55 : decode b_X_putHead 55 = .ok (.getfield 53, 3) := by decide +kernel
theorem d_X_putHead_58 : decode b_X_putHead 58 = .ok (.invokevirtual 183, 3) := by decide +kernel
theorem d_X_putHead_61 : decode b_X_putHead 61 = .ok (.return_, 1) := by decide +kernel
theorem d_L_cell_0 : decode b_L_cell 0 = .ok (.iload_n 1, 1) := by decide +kernel
theorem d_L_cell_1 : decode b_L_cell 1 = .ok (.aload_n 0, 1) := by decide +kernel
theorem d_L_cell_2 : decode b_L_cell 2 = .ok (.arraylength, 1) := by decide +kernel
theorem d_L_cell_3 : decode b_L_cell 3 = .ok (.if_icmp .ge 9, 3) := by decide +kernel
theorem d_L_cell_6 : decode b_L_cell 6 = .ok (.aload_n 0, 1) := by decide +kernel
theorem d_L_cell_7 : decode b_L_cell 7 = .ok (.iload_n 1, 1) := by decide +kernel
theorem d_L_cell_8 : decode b_L_cell 8 = .ok (.iaload, 1) := by decide +kernel
theorem d_L_cell_9 : decode b_L_cell 9 = .ok (.goto 4, 3) := by decide +kernel
theorem d_L_cell_12 : decode b_L_cell 12 = .ok (.iconst 0, 1) := by decide +kernel
theorem d_L_cell_13 : decode b_L_cell 13 = .ok (.ireturn, 1) := by decide +kernel
theorem d_L_law_0 : decode code 0 = .ok (.new 7, 3) := by decide +kernel
theorem d_L_law_3 : decode code 3 = .ok (.dup, 1) := by decide +kernel
theorem d_L_law_4 : decode code 4 = .ok (.aload_n 0, 1) := by decide +kernel
theorem d_L_law_5 : decode code 5 = .ok (.iconst 0, 1) := by decide +kernel
theorem d_L_law_6 : decode code 6 = .ok (.invokestatic 9, 3) := by decide +kernel
theorem d_L_law_9 : decode code 9 = .ok (.aload_n 0, 1) := by decide +kernel
theorem d_L_law_10 : decode code 10 = .ok (.iconst 1, 1) := by decide +kernel
theorem d_L_law_11 : decode code 11 = .ok (.invokestatic 9, 3) := by decide +kernel
theorem d_L_law_14 : decode code 14 = .ok (.invokespecial 15, 3) := by decide +kernel
theorem d_L_law_17 : decode code 17 = .ok (.astore_n 1, 1) := by decide +kernel
theorem d_L_law_18 : decode code 18 = .ok (.new 18, 3) := by decide +kernel
theorem d_L_law_21 : decode code 21 = .ok (.dup, 1) := by decide +kernel
theorem d_L_law_22 : decode code 22 = .ok (.aload_n 0, 1) := by decide +kernel
theorem d_L_law_23 : decode code 23 = .ok (.iconst 0, 1) := by decide +kernel
theorem d_L_law_24 : decode code 24 = .ok (.invokestatic 9, 3) := by decide +kernel
theorem d_L_law_27 : decode code 27 = .ok (.aload_n 0, 1) := by decide +kernel
theorem d_L_law_28 : decode code 28 = .ok (.iconst 1, 1) := by decide +kernel
theorem d_L_law_29 : decode code 29 = .ok (.invokestatic 9, 3) := by decide +kernel
theorem d_L_law_32 : decode code 32 = .ok (.invokespecial 20, 3) := by decide +kernel
theorem d_L_law_35 : decode code 35 = .ok (.astore_n 2, 1) := by decide +kernel
theorem d_L_law_36 : decode code 36 = .ok (.iconst 2, 1) := by decide +kernel
theorem d_L_law_37 : decode code 37 = .ok (.istore_n 3, 1) := by decide +kernel
theorem d_L_law_38 : decode code 38 = .ok (.iload_n 3, 1) := by decide +kernel
theorem d_L_law_39 : decode code 39 = .ok (.aload_n 0, 1) := by decide +kernel
theorem d_L_law_40 : decode code 40 = .ok (.arraylength, 1) := by decide +kernel
theorem d_L_law_41 : decode code 41 = .ok (.iconst 5, 1) := by decide +kernel
theorem d_L_law_42 : decode code 42 = .ok (.isub, 1) := by decide +kernel
theorem d_L_law_43 : decode code 43 = .ok (.if_icmp .gt 447, 3) := by decide +kernel
theorem d_L_law_46 : decode code 46 = .ok (.aload_n 0, 1) := by decide +kernel
theorem d_L_law_47 : decode code 47 = .ok (.iload_n 3, 1) := by decide +kernel
theorem d_L_law_48 : decode code 48 = .ok (.iaload, 1) := by decide +kernel
theorem d_L_law_49 : decode code 49 = .ok (.bipush 15, 2) := by decide +kernel
theorem d_L_law_51 : decode code 51 = .ok (.iand, 1) := by decide +kernel
theorem d_L_law_52 : decode code 52 = .ok (.tableswitch 432 0 13 #[72, 125, 148, 171, 204, 227, 250, 273, 296, 319, 332, 343, 366, 399], 72) := by decide +kernel
theorem d_L_law_124 : decode code 124 = .ok (.aload_n 1, 1) := by decide +kernel
theorem d_L_law_125 : decode code 125 = .ok (.aload_n 0, 1) := by decide +kernel
theorem d_L_law_126 : decode code 126 = .ok (.iload_n 3, 1) := by decide +kernel
theorem d_L_law_127 : decode code 127 = .ok (.iconst 1, 1) := by decide +kernel
theorem d_L_law_128 : decode code 128 = .ok (.iadd, 1) := by decide +kernel
theorem d_L_law_129 : decode code 129 = .ok (.iaload, 1) := by decide +kernel
theorem d_L_law_130 : decode code 130 = .ok (.aload_n 0, 1) := by decide +kernel
theorem d_L_law_131 : decode code 131 = .ok (.iload_n 3, 1) := by decide +kernel
theorem d_L_law_132 : decode code 132 = .ok (.iconst 2, 1) := by decide +kernel
theorem d_L_law_133 : decode code 133 = .ok (.iadd, 1) := by decide +kernel
theorem d_L_law_134 : decode code 134 = .ok (.iaload, 1) := by decide +kernel
theorem d_L_law_135 : decode code 135 = .ok (.aload_n 0, 1) := by decide +kernel
theorem d_L_law_136 : decode code 136 = .ok (.iload_n 3, 1) := by decide +kernel
theorem d_L_law_137 : decode code 137 = .ok (.iconst 3, 1) := by decide +kernel
theorem d_L_law_138 : decode code 138 = .ok (.iadd, 1) := by decide +kernel
theorem d_L_law_139 : decode code 139 = .ok (.iaload, 1) := by decide +kernel
theorem d_L_law_140 : decode code 140 = .ok (.aload_n 0, 1) := by decide +kernel
theorem d_L_law_141 : decode code 141 = .ok (.iload_n 3, 1) := by decide +kernel
theorem d_L_law_142 : decode code 142 = .ok (.iconst 4, 1) := by decide +kernel
theorem d_L_law_143 : decode code 143 = .ok (.iadd, 1) := by decide +kernel
theorem d_L_law_144 : decode code 144 = .ok (.iaload, 1) := by decide +kernel
theorem d_L_law_145 : decode code 145 = .ok (.invokevirtual 21, 3) := by decide +kernel
theorem d_L_law_148 : decode code 148 = .ok (.aload_n 2, 1) := by decide +kernel
theorem d_L_law_149 : decode code 149 = .ok (.aload_n 0, 1) := by decide +kernel
theorem d_L_law_150 : decode code 150 = .ok (.iload_n 3, 1) := by decide +kernel
theorem d_L_law_151 : decode code 151 = .ok (.iconst 1, 1) := by decide +kernel
theorem d_L_law_152 : decode code 152 = .ok (.iadd, 1) := by decide +kernel
theorem d_L_law_153 : decode code 153 = .ok (.iaload, 1) := by decide +kernel
theorem d_L_law_154 : decode code 154 = .ok (.aload_n 0, 1) := by decide +kernel
theorem d_L_law_155 : decode code 155 = .ok (.iload_n 3, 1) := by decide +kernel
theorem d_L_law_156 : decode code 156 = .ok (.iconst 2, 1) := by decide +kernel
theorem d_L_law_157 : decode code 157 = .ok (.iadd, 1) := by decide +kernel
theorem d_L_law_158 : decode code 158 = .ok (.iaload, 1) := by decide +kernel
theorem d_L_law_159 : decode code 159 = .ok (.aload_n 0, 1) := by decide +kernel
theorem d_L_law_160 : decode code 160 = .ok (.iload_n 3, 1) := by decide +kernel
theorem d_L_law_161 : decode code 161 = .ok (.iconst 3, 1) := by decide +kernel
theorem d_L_law_162 : decode code 162 = .ok (.iadd, 1) := by decide +kernel
theorem d_L_law_163 : decode code 163 = .ok (.iaload, 1) := by decide +kernel
theorem d_L_law_164 : decode code 164 = .ok (.aload_n 0, 1) := by decide +kernel
theorem d_L_law_165 : decode code 165 = .ok (.iload_n 3, 1) := by decide +kernel
theorem d_L_law_166 : decode code 166 = .ok (.iconst 4, 1) := by decide +kernel
theorem d_L_law_167 : decode code 167 = .ok (.iadd, 1) := by decide +kernel
theorem d_L_law_168 : decode code 168 = .ok (.iaload, 1) := by decide +kernel
theorem d_L_law_169 : decode code 169 = .ok (.invokevirtual 25, 3) := by decide +kernel
theorem d_L_law_172 : decode code 172 = .ok (.if_icmp .eq 312, 3) := by decide +kernel
theorem d_L_law_175 : decode code 175 = .ok (.iconst 0, 1) := by decide +kernel
theorem d_L_law_176 : decode code 176 = .ok (.ireturn, 1) := by decide +kernel
theorem d_L_law_177 : decode code 177 = .ok (.aload_n 1, 1) := by decide +kernel
theorem d_L_law_178 : decode code 178 = .ok (.aload_n 0, 1) := by decide +kernel
theorem d_L_law_179 : decode code 179 = .ok (.iload_n 3, 1) := by decide +kernel
theorem d_L_law_180 : decode code 180 = .ok (.iconst 1, 1) := by decide +kernel
theorem d_L_law_181 : decode code 181 = .ok (.iadd, 1) := by decide +kernel
theorem d_L_law_182 : decode code 182 = .ok (.iaload, 1) := by decide +kernel
theorem d_L_law_183 : decode code 183 = .ok (.invokevirtual 26, 3) := by decide +kernel
theorem d_L_law_186 : decode code 186 = .ok (.aload_n 2, 1) := by decide +kernel
theorem d_L_law_187 : decode code 187 = .ok (.aload_n 0, 1) := by decide +kernel
theorem d_L_law_188 : decode code 188 = .ok (.iload_n 3, 1) := by decide +kernel
theorem d_L_law_189 : decode code 189 = .ok (.iconst 1, 1) := by decide +kernel
theorem d_L_law_190 : decode code 190 = .ok (.iadd, 1) := by decide +kernel
theorem d_L_law_191 : decode code 191 = .ok (.iaload, 1) := by decide +kernel
theorem d_L_law_192 : decode code 192 = .ok (.invokevirtual 30, 3) := by decide +kernel
theorem d_L_law_195 : decode code 195 = .ok (.if_icmp .eq 289, 3) := by decide +kernel
theorem d_L_law_198 : decode code 198 = .ok (.iconst 0, 1) := by decide +kernel
theorem d_L_law_199 : decode code 199 = .ok (.ireturn, 1) := by decide +kernel
theorem d_L_law_200 : decode code 200 = .ok (.aload_n 1, 1) := by decide +kernel
theorem d_L_law_201 : decode code 201 = .ok (.aload_n 0, 1) := by decide +kernel
theorem d_L_law_202 : decode code 202 = .ok (.iload_n 3, 1) := by decide +kernel
theorem d_L_law_203 : decode code 203 = .ok (.iconst 1, 1) := by decide +kernel
theorem d_L_law_204 : decode code 204 = .ok (.iadd, 1) := by decide +kernel
theorem d_L_law_205 : decode code 205 = .ok (.iaload, 1) := by decide +kernel
theorem d_L_law_206 : decode code 206 = .ok (.invokevirtual 31, 3) := by decide +kernel
theorem d_L_law_209 : decode code 209 = .ok (.aload_n 2, 1) := by decide +kernel
theorem d_L_law_210 : decode code 210 = .ok (.aload_n 0, 1) := by decide +kernel
theorem d_L_law_211 : decode code 211 = .ok (.iload_n 3, 1) := by decide +kernel
theorem d_L_law_212 : decode code 212 = .ok (.iconst 1, 1) := by decide +kernel
theorem d_L_law_213 : decode code 213 = .ok (.iadd, 1) := by decide +kernel
theorem d_L_law_214 : decode code 214 = .ok (.iaload, 1) := by decide +kernel
theorem d_L_law_215 : decode code 215 = .ok (.invokevirtual 34, 3) := by decide +kernel
theorem d_L_law_218 : decode code 218 = .ok (.if_icmp .eq 266, 3) := by decide +kernel
theorem d_L_law_221 : decode code 221 = .ok (.iconst 0, 1) := by decide +kernel
theorem d_L_law_222 : decode code 222 = .ok (.ireturn, 1) := by decide +kernel
theorem d_L_law_223 : decode code 223 = .ok (.aload_n 1, 1) := by decide +kernel
theorem d_L_law_224 : decode code 224 = .ok (.aload_n 0, 1) := by decide +kernel
theorem d_L_law_225 : decode code 225 = .ok (.iload_n 3, 1) := by decide +kernel
theorem d_L_law_226 : decode code 226 = .ok (.iconst 1, 1) := by decide +kernel
theorem d_L_law_227 : decode code 227 = .ok (.iadd, 1) := by decide +kernel
theorem d_L_law_228 : decode code 228 = .ok (.iaload, 1) := by decide +kernel
theorem d_L_law_229 : decode code 229 = .ok (.aload_n 0, 1) := by decide +kernel
theorem d_L_law_230 : decode code 230 = .ok (.iload_n 3, 1) := by decide +kernel
theorem d_L_law_231 : decode code 231 = .ok (.iconst 2, 1) := by decide +kernel
theorem d_L_law_232 : decode code 232 = .ok (.iadd, 1) := by decide +kernel
theorem d_L_law_233 : decode code 233 = .ok (.iaload, 1) := by decide +kernel
theorem d_L_law_234 : decode code 234 = .ok (.invokevirtual 35, 3) := by decide +kernel
theorem d_L_law_237 : decode code 237 = .ok (.aload_n 2, 1) := by decide +kernel
theorem d_L_law_238 : decode code 238 = .ok (.aload_n 0, 1) := by decide +kernel
theorem d_L_law_239 : decode code 239 = .ok (.iload_n 3, 1) := by decide +kernel
theorem d_L_law_240 : decode code 240 = .ok (.iconst 1, 1) := by decide +kernel
theorem d_L_law_241 : decode code 241 = .ok (.iadd, 1) := by decide +kernel
theorem d_L_law_242 : decode code 242 = .ok (.iaload, 1) := by decide +kernel
theorem d_L_law_243 : decode code 243 = .ok (.aload_n 0, 1) := by decide +kernel
theorem d_L_law_244 : decode code 244 = .ok (.iload_n 3, 1) := by decide +kernel
theorem d_L_law_245 : decode code 245 = .ok (.iconst 2, 1) := by decide +kernel
theorem d_L_law_246 : decode code 246 = .ok (.iadd, 1) := by decide +kernel
theorem d_L_law_247 : decode code 247 = .ok (.iaload, 1) := by decide +kernel
theorem d_L_law_248 : decode code 248 = .ok (.invokevirtual 39, 3) := by decide +kernel
theorem d_L_law_251 : decode code 251 = .ok (.if_icmp .eq 233, 3) := by decide +kernel
theorem d_L_law_254 : decode code 254 = .ok (.iconst 0, 1) := by decide +kernel
theorem d_L_law_255 : decode code 255 = .ok (.ireturn, 1) := by decide +kernel
theorem d_L_law_256 : decode code 256 = .ok (.aload_n 1, 1) := by decide +kernel
theorem d_L_law_257 : decode code 257 = .ok (.aload_n 0, 1) := by decide +kernel
theorem d_L_law_258 : decode code 258 = .ok (.iload_n 3, 1) := by decide +kernel
theorem d_L_law_259 : decode code 259 = .ok (.iconst 1, 1) := by decide +kernel
theorem d_L_law_260 : decode code 260 = .ok (.iadd, 1) := by decide +kernel
theorem d_L_law_261 : decode code 261 = .ok (.iaload, 1) := by decide +kernel
theorem d_L_law_262 : decode code 262 = .ok (.invokevirtual 40, 3) := by decide +kernel
theorem d_L_law_265 : decode code 265 = .ok (.aload_n 2, 1) := by decide +kernel
theorem d_L_law_266 : decode code 266 = .ok (.aload_n 0, 1) := by decide +kernel
theorem d_L_law_267 : decode code 267 = .ok (.iload_n 3, 1) := by decide +kernel
theorem d_L_law_268 : decode code 268 = .ok (.iconst 1, 1) := by decide +kernel
theorem d_L_law_269 : decode code 269 = .ok (.iadd, 1) := by decide +kernel
theorem d_L_law_270 : decode code 270 = .ok (.iaload, 1) := by decide +kernel
theorem d_L_law_271 : decode code 271 = .ok (.invokevirtual 43, 3) := by decide +kernel
theorem d_L_law_274 : decode code 274 = .ok (.if_icmp .eq 210, 3) := by decide +kernel
theorem d_L_law_277 : decode code 277 = .ok (.iconst 0, 1) := by decide +kernel
theorem d_L_law_278 : decode code 278 = .ok (.ireturn, 1) := by decide +kernel
theorem d_L_law_279 : decode code 279 = .ok (.aload_n 1, 1) := by decide +kernel
theorem d_L_law_280 : decode code 280 = .ok (.aload_n 0, 1) := by decide +kernel
theorem d_L_law_281 : decode code 281 = .ok (.iload_n 3, 1) := by decide +kernel
theorem d_L_law_282 : decode code 282 = .ok (.iconst 1, 1) := by decide +kernel
theorem d_L_law_283 : decode code 283 = .ok (.iadd, 1) := by decide +kernel
theorem d_L_law_284 : decode code 284 = .ok (.iaload, 1) := by decide +kernel
theorem d_L_law_285 : decode code 285 = .ok (.invokevirtual 44, 3) := by decide +kernel
theorem d_L_law_288 : decode code 288 = .ok (.aload_n 2, 1) := by decide +kernel
theorem d_L_law_289 : decode code 289 = .ok (.aload_n 0, 1) := by decide +kernel
theorem d_L_law_290 : decode code 290 = .ok (.iload_n 3, 1) := by decide +kernel
theorem d_L_law_291 : decode code 291 = .ok (.iconst 1, 1) := by decide +kernel
theorem d_L_law_292 : decode code 292 = .ok (.iadd, 1) := by decide +kernel
theorem d_L_law_293 : decode code 293 = .ok (.iaload, 1) := by decide +kernel
theorem d_L_law_294 : decode code 294 = .ok (.invokevirtual 47, 3) := by decide +kernel
theorem d_L_law_297 : decode code 297 = .ok (.if_icmp .eq 187, 3) := by decide +kernel
theorem d_L_law_300 : decode code 300 = .ok (.iconst 0, 1) := by decide +kernel
theorem d_L_law_301 : decode code 301 = .ok (.ireturn, 1) := by decide +kernel
theorem d_L_law_302 : decode code 302 = .ok (.aload_n 1, 1) := by decide +kernel
theorem d_L_law_303 : decode code 303 = .ok (.aload_n 0, 1) := by decide +kernel
theorem d_L_law_304 : decode code 304 = .ok (.iload_n 3, 1) := by decide +kernel
theorem d_L_law_305 : decode code 305 = .ok (.iconst 1, 1) := by decide +kernel
theorem d_L_law_306 : decode code 306 = .ok (.iadd, 1) := by decide +kernel
theorem d_L_law_307 : decode code 307 = .ok (.iaload, 1) := by decide +kernel
theorem d_L_law_308 : decode code 308 = .ok (.invokevirtual 48, 3) := by decide +kernel
theorem d_L_law_311 : decode code 311 = .ok (.aload_n 2, 1) := by decide +kernel
theorem d_L_law_312 : decode code 312 = .ok (.aload_n 0, 1) := by decide +kernel
theorem d_L_law_313 : decode code 313 = .ok (.iload_n 3, 1) := by decide +kernel
theorem d_L_law_314 : decode code 314 = .ok (.iconst 1, 1) := by decide +kernel
theorem d_L_law_315 : decode code 315 = .ok (.iadd, 1) := by decide +kernel
theorem d_L_law_316 : decode code 316 = .ok (.iaload, 1) := by decide +kernel
theorem d_L_law_317 : decode code 317 = .ok (.invokevirtual 51, 3) := by decide +kernel
theorem d_L_law_320 : decode code 320 = .ok (.if_icmp .eq 164, 3) := by decide +kernel
theorem d_L_law_323 : decode code 323 = .ok (.iconst 0, 1) := by decide +kernel
theorem d_L_law_324 : decode code 324 = .ok (.ireturn, 1) := by decide +kernel
theorem d_L_law_325 : decode code 325 = .ok (.aload_n 1, 1) := by decide +kernel
theorem d_L_law_326 : decode code 326 = .ok (.aload_n 0, 1) := by decide +kernel
theorem d_L_law_327 : decode code 327 = .ok (.iload_n 3, 1) := by decide +kernel
theorem d_L_law_328 : decode code 328 = .ok (.iconst 1, 1) := by decide +kernel
theorem d_L_law_329 : decode code 329 = .ok (.iadd, 1) := by decide +kernel
theorem d_L_law_330 : decode code 330 = .ok (.iaload, 1) := by decide +kernel
theorem d_L_law_331 : decode code 331 = .ok (.invokevirtual 52, 3) := by decide +kernel
theorem d_L_law_334 : decode code 334 = .ok (.aload_n 2, 1) := by decide +kernel
theorem d_L_law_335 : decode code 335 = .ok (.aload_n 0, 1) := by decide +kernel
theorem d_L_law_336 : decode code 336 = .ok (.iload_n 3, 1) := by decide +kernel
theorem d_L_law_337 : decode code 337 = .ok (.iconst 1, 1) := by decide +kernel
theorem d_L_law_338 : decode code 338 = .ok (.iadd, 1) := by decide +kernel
theorem d_L_law_339 : decode code 339 = .ok (.iaload, 1) := by decide +kernel
theorem d_L_law_340 : decode code 340 = .ok (.invokevirtual 55, 3) := by decide +kernel
theorem d_L_law_343 : decode code 343 = .ok (.if_icmp .eq 141, 3) := by decide +kernel
theorem d_L_law_346 : decode code 346 = .ok (.iconst 0, 1) := by decide +kernel
theorem d_L_law_347 : decode code 347 = .ok (.ireturn, 1) := by decide +kernel
theorem d_L_law_348 : decode code 348 = .ok (.aload_n 1, 1) := by decide +kernel
theorem d_L_law_349 : decode code 349 = .ok (.aload_n 0, 1) := by decide +kernel
theorem d_L_law_350 : decode code 350 = .ok (.iload_n 3, 1) := by decide +kernel
theorem d_L_law_351 : decode code 351 = .ok (.iconst 1, 1) := by decide +kernel
theorem d_L_law_352 : decode code 352 = .ok (.iadd, 1) := by decide +kernel
theorem d_L_law_353 : decode code 353 = .ok (.iaload, 1) := by decide +kernel
theorem d_L_law_354 : decode code 354 = .ok (.invokevirtual 56, 3) := by decide +kernel
theorem d_L_law_357 : decode code 357 = .ok (.aload_n 2, 1) := by decide +kernel
theorem d_L_law_358 : decode code 358 = .ok (.aload_n 0, 1) := by decide +kernel
theorem d_L_law_359 : decode code 359 = .ok (.iload_n 3, 1) := by decide +kernel
theorem d_L_law_360 : decode code 360 = .ok (.iconst 1, 1) := by decide +kernel
theorem d_L_law_361 : decode code 361 = .ok (.iadd, 1) := by decide +kernel
theorem d_L_law_362 : decode code 362 = .ok (.iaload, 1) := by decide +kernel
theorem d_L_law_363 : decode code 363 = .ok (.invokevirtual 59, 3) := by decide +kernel
theorem d_L_law_366 : decode code 366 = .ok (.if_icmp .eq 118, 3) := by decide +kernel
theorem d_L_law_369 : decode code 369 = .ok (.iconst 0, 1) := by decide +kernel
theorem d_L_law_370 : decode code 370 = .ok (.ireturn, 1) := by decide +kernel
theorem d_L_law_371 : decode code 371 = .ok (.aload_n 1, 1) := by decide +kernel
theorem d_L_law_372 : decode code 372 = .ok (.invokevirtual 60, 3) := by decide +kernel
theorem d_L_law_375 : decode code 375 = .ok (.aload_n 2, 1) := by decide +kernel
theorem d_L_law_376 : decode code 376 = .ok (.invokevirtual 64, 3) := by decide +kernel
theorem d_L_law_379 : decode code 379 = .ok (.if_icmp .eq 105, 3) := by decide +kernel
theorem d_L_law_382 : decode code 382 = .ok (.iconst 0, 1) := by decide +kernel
theorem d_L_law_383 : decode code 383 = .ok (.ireturn, 1) := by decide +kernel
theorem d_L_law_384 : decode code 384 = .ok (.aload_n 1, 1) := by decide +kernel
theorem d_L_law_385 : decode code 385 = .ok (.invokevirtual 65, 3) := by decide +kernel
theorem d_L_law_388 : decode code 388 = .ok (.aload_n 2, 1) := by decide +kernel
theorem d_L_law_389 : decode code 389 = .ok (.invokevirtual 68, 3) := by decide +kernel
theorem d_L_law_392 : decode code 392 = .ok (.goto 92, 3) := by decide +kernel
theorem d_L_law_395 : decode code 395 = .ok (.aload_n 1, 1) := by decide +kernel
theorem d_L_law_396 : decode code 396 = .ok (.aload_n 0, 1) := by decide +kernel
theorem d_L_law_397 : decode code 397 = .ok (.iload_n 3, 1) := by decide +kernel
theorem d_L_law_398 : decode code 398 = .ok (.iconst 1, 1) := by decide +kernel
theorem d_L_law_399 : decode code 399 = .ok (.iadd, 1) := by decide +kernel
theorem d_L_law_400 : decode code 400 = .ok (.iaload, 1) := by decide +kernel
theorem d_L_law_401 : decode code 401 = .ok (.invokevirtual 69, 3) := by decide +kernel
theorem d_L_law_404 : decode code 404 = .ok (.aload_n 2, 1) := by decide +kernel
theorem d_L_law_405 : decode code 405 = .ok (.aload_n 0, 1) := by decide +kernel
theorem d_L_law_406 : decode code 406 = .ok (.iload_n 3, 1) := by decide +kernel
theorem d_L_law_407 : decode code 407 = .ok (.iconst 1, 1) := by decide +kernel
theorem d_L_law_408 : decode code 408 = .ok (.iadd, 1) := by decide +kernel
theorem d_L_law_409 : decode code 409 = .ok (.iaload, 1) := by decide +kernel
theorem d_L_law_410 : decode code 410 = .ok (.invokevirtual 72, 3) := by decide +kernel
theorem d_L_law_413 : decode code 413 = .ok (.if_icmp .eq 71, 3) := by decide +kernel
theorem d_L_law_416 : decode code 416 = .ok (.iconst 0, 1) := by decide +kernel
theorem d_L_law_417 : decode code 417 = .ok (.ireturn, 1) := by decide +kernel
theorem d_L_law_418 : decode code 418 = .ok (.aload_n 1, 1) := by decide +kernel
theorem d_L_law_419 : decode code 419 = .ok (.aload_n 0, 1) := by decide +kernel
theorem d_L_law_420 : decode code 420 = .ok (.iload_n 3, 1) := by decide +kernel
theorem d_L_law_421 : decode code 421 = .ok (.iconst 1, 1) := by decide +kernel
theorem d_L_law_422 : decode code 422 = .ok (.iadd, 1) := by decide +kernel
theorem d_L_law_423 : decode code 423 = .ok (.iaload, 1) := by decide +kernel
theorem d_L_law_424 : decode code 424 = .ok (.aload_n 0, 1) := by decide +kernel

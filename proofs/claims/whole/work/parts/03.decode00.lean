theorem d_C_init_0 : decode b_C_init 0 = .ok (.aload_n 0, 1) := by decide +kernel
theorem d_C_init_1 : decode b_C_init 1 = .ok (.invokespecial 3, 3) := by decide +kernel
theorem d_C_init_4 : decode b_C_init 4 = .ok (.aload_n 0, 1) := by decide +kernel
theorem d_C_init_5 : decode b_C_init 5 = .ok (.bipush 60, 2) := by decide +kernel
theorem d_C_init_7 : decode b_C_init 7 = .ok (.newarray .int, 2) := by decide +kernel
theorem d_C_init_9 : decode b_C_init 9 = .ok (.putfield 9, 3) := by decide +kernel
theorem d_C_init_12 : decode b_C_init 12 = .ok (.aload_n 0, 1) := by decide +kernel
theorem d_C_init_13 : decode b_C_init 13 = .ok (.bipush 60, 2) := by decide +kernel
theorem d_C_init_15 : decode b_C_init 15 = .ok (.newarray .int, 2) := by decide +kernel
theorem d_C_init_17 : decode b_C_init 17 = .ok (.putfield 15, 3) := by decide +kernel
theorem d_C_init_20 : decode b_C_init 20 = .ok (.return_, 1) := by decide +kernel
theorem d_C_reset_0 : decode b_C_reset 0 = .ok (.aload_n 0, 1) := by decide +kernel
theorem d_C_reset_1 : decode b_C_reset 1 = .ok (.iconst 0, 1) := by decide +kernel
theorem d_C_reset_2 : decode b_C_reset 2 = .ok (.putfield 18, 3) := by decide +kernel
theorem d_C_reset_5 : decode b_C_reset 5 = .ok (.aload_n 0, 1) := by decide +kernel
theorem d_C_reset_6 : decode b_C_reset 6 = .ok (.iconst 0, 1) := by decide +kernel
theorem d_C_reset_7 : decode b_C_reset 7 = .ok (.putfield 22, 3) := by decide +kernel
theorem d_C_reset_10 : decode b_C_reset 10 = .ok (.aload_n 0, 1) := by decide +kernel
theorem d_C_reset_11 : decode b_C_reset 11 = .ok (.iconst 0, 1) := by decide +kernel
theorem d_C_reset_12 : decode b_C_reset 12 = .ok (.putfield 25, 3) := by decide +kernel
theorem d_C_reset_15 : decode b_C_reset 15 = .ok (.return_, 1) := by decide +kernel
theorem d_C_noteCounter_0 : decode b_C_noteCounter 0 = .ok (.aload_n 0, 1) := by decide +kernel
theorem d_C_noteCounter_1 : decode b_C_noteCounter 1 = .ok (.getfield 18, 3) := by decide +kernel
theorem d_C_noteCounter_4 : decode b_C_noteCounter 4 = .ok (.ifCond .eq 20, 3) := by decide +kernel
theorem d_C_noteCounter_7 : decode b_C_noteCounter 7 = .ok (.iload_n 1, 1) := by decide +kernel
theorem d_C_noteCounter_8 : decode b_C_noteCounter 8 = .ok (.aload_n 0, 1) := by decide +kernel
theorem d_C_noteCounter_9 : decode b_C_noteCounter 9 = .ok (.getfield 29, 3) := by decide +kernel
theorem d_C_noteCounter_12 : decode b_C_noteCounter 12 = .ok (.iconst 1, 1) := by decide +kernel
theorem d_C_noteCounter_13 : decode b_C_noteCounter 13 = .ok (.iadd, 1) := by decide +kernel
theorem d_C_noteCounter_14 : decode b_C_noteCounter 14 = .ok (.bipush 16, 2) := by decide +kernel
theorem d_C_noteCounter_16 : decode b_C_noteCounter 16 = .ok (.irem, 1) := by decide +kernel
theorem d_C_noteCounter_17 : decode b_C_noteCounter 17 = .ok (.if_icmp .eq 7, 3) := by decide +kernel
theorem d_C_noteCounter_20 : decode b_C_noteCounter 20 = .ok (.iconst 1, 1) := by decide +kernel
theorem d_C_noteCounter_21 : decode b_C_noteCounter 21 = .ok (.goto 4, 3) := by decide +kernel
theorem d_C_noteCounter_24 : decode b_C_noteCounter 24 = .ok (.iconst 0, 1) := by decide +kernel
theorem d_C_noteCounter_25 : decode b_C_noteCounter 25 = .ok (.istore_n 2, 1) := by decide +kernel
theorem d_C_noteCounter_26 : decode b_C_noteCounter 26 = .ok (.aload_n 0, 1) := by decide +kernel
theorem d_C_noteCounter_27 : decode b_C_noteCounter 27 = .ok (.iconst 1, 1) := by decide +kernel
theorem d_C_noteCounter_28 : decode b_C_noteCounter 28 = .ok (.putfield 18, 3) := by decide +kernel
theorem d_C_noteCounter_31 : decode b_C_noteCounter 31 = .ok (.aload_n 0, 1) := by decide +kernel
theorem d_C_noteCounter_32 : decode b_C_noteCounter 32 = .ok (.iload_n 1, 1) := by decide +kernel
theorem d_C_noteCounter_33 : decode b_C_noteCounter 33 = .ok (.putfield 29, 3) := by decide +kernel
theorem d_C_noteCounter_36 : decode b_C_noteCounter 36 = .ok (.iload_n 2, 1) := by decide +kernel
theorem d_C_noteCounter_37 : decode b_C_noteCounter 37 = .ok (.ireturn, 1) := by decide +kernel
theorem d_C_begin_0 : decode b_C_begin 0 = .ok (.aload_n 0, 1) := by decide +kernel
theorem d_C_begin_1 : decode b_C_begin 1 = .ok (.iconst 1, 1) := by decide +kernel
theorem d_C_begin_2 : decode b_C_begin 2 = .ok (.putfield 22, 3) := by decide +kernel
theorem d_C_begin_5 : decode b_C_begin 5 = .ok (.aload_n 0, 1) := by decide +kernel
theorem d_C_begin_6 : decode b_C_begin 6 = .ok (.iload_n 1, 1) := by decide +kernel
theorem d_C_begin_7 : decode b_C_begin 7 = .ok (.putfield 32, 3) := by decide +kernel
theorem d_C_begin_10 : decode b_C_begin 10 = .ok (.aload_n 0, 1) := by decide +kernel
theorem d_C_begin_11 : decode b_C_begin 11 = .ok (.iload_n 2, 1) := by decide +kernel
theorem d_C_begin_12 : decode b_C_begin 12 = .ok (.putfield 35, 3) := by decide +kernel
theorem d_C_begin_15 : decode b_C_begin 15 = .ok (.aload_n 0, 1) := by decide +kernel
theorem d_C_begin_16 : decode b_C_begin 16 = .ok (.iconst 0, 1) := by decide +kernel
theorem d_C_begin_17 : decode b_C_begin 17 = .ok (.putfield 38, 3) := by decide +kernel
theorem d_C_begin_20 : decode b_C_begin 20 = .ok (.return_, 1) := by decide +kernel
theorem d_C_fill_0 : decode b_C_fill 0 = .ok (.iload_n 2, 1) := by decide +kernel
theorem d_C_fill_1 : decode b_C_fill 1 = .ok (.istore_n 3, 1) := by decide +kernel
theorem d_C_fill_2 : decode b_C_fill 2 = .ok (.iload_n 3, 1) := by decide +kernel
theorem d_C_fill_3 : decode b_C_fill 3 = .ok (.bipush 16, 2) := by decide +kernel
theorem d_C_fill_5 : decode b_C_fill 5 = .ok (.if_icmp .ge 53, 3) := by decide +kernel
theorem d_C_fill_8 : decode b_C_fill 8 = .ok (.aload_n 0, 1) := by decide +kernel
theorem d_C_fill_9 : decode b_C_fill 9 = .ok (.getfield 38, 3) := by decide +kernel
theorem d_C_fill_12 : decode b_C_fill 12 = .ok (.aload_n 0, 1) := by decide +kernel
theorem d_C_fill_13 : decode b_C_fill 13 = .ok (.getfield 32, 3) := by decide +kernel
theorem d_C_fill_16 : decode b_C_fill 16 = .ok (.if_icmp .ge 42, 3) := by decide +kernel
theorem d_C_fill_19 : decode b_C_fill 19 = .ok (.aload_n 0, 1) := by decide +kernel
theorem d_C_fill_20 : decode b_C_fill 20 = .ok (.getfield 38, 3) := by decide +kernel
theorem d_C_fill_23 : decode b_C_fill 23 = .ok (.bipush 60, 2) := by decide +kernel
theorem d_C_fill_25 : decode b_C_fill 25 = .ok (.if_icmp .ge 33, 3) := by decide +kernel
theorem d_C_fill_28 : decode b_C_fill 28 = .ok (.aload_n 0, 1) := by decide +kernel
theorem d_C_fill_29 : decode b_C_fill 29 = .ok (.getfield 9, 3) := by decide +kernel
theorem d_C_fill_32 : decode b_C_fill 32 = .ok (.aload_n 0, 1) := by decide +kernel
theorem d_C_fill_33 : decode b_C_fill 33 = .ok (.getfield 38, 3) := by decide +kernel
theorem d_C_fill_36 : decode b_C_fill 36 = .ok (.aload_n 1, 1) := by decide +kernel
theorem d_C_fill_37 : decode b_C_fill 37 = .ok (.iload_n 3, 1) := by decide +kernel
theorem d_C_fill_38 : decode b_C_fill 38 = .ok (.invokevirtual 41, 3) := by decide +kernel
theorem d_C_fill_41 : decode b_C_fill 41 = .ok (.iastore, 1) := by decide +kernel
theorem d_C_fill_42 : decode b_C_fill 42 = .ok (.aload_n 0, 1) := by decide +kernel
theorem d_C_fill_43 : decode b_C_fill 43 = .ok (.dup, 1) := by decide +kernel
theorem d_C_fill_44 : decode b_C_fill 44 = .ok (.getfield 38, 3) := by decide +kernel
theorem d_C_fill_47 : decode b_C_fill 47 = .ok (.iconst 1, 1) := by decide +kernel
theorem d_C_fill_48 : decode b_C_fill 48 = .ok (.iadd, 1) := by decide +kernel
theorem d_C_fill_49 : decode b_C_fill 49 = .ok (.putfield 38, 3) := by decide +kernel
theorem d_C_fill_52 : decode b_C_fill 52 = .ok (.iinc 3 1, 3) := by decide +kernel
theorem d_C_fill_55 : decode b_C_fill 55 = .ok (.goto (-53), 3) := by decide +kernel
theorem d_C_fill_58 : decode b_C_fill 58 = .ok (.aload_n 0, 1) := by decide +kernel
theorem d_C_fill_59 : decode b_C_fill 59 = .ok (.getfield 38, 3) := by decide +kernel
theorem d_C_fill_62 : decode b_C_fill 62 = .ok (.aload_n 0, 1) := by decide +kernel
theorem d_C_fill_63 : decode b_C_fill 63 = .ok (.getfield 32, 3) := by decide +kernel
theorem d_C_fill_66 : decode b_C_fill 66 = .ok (.if_icmp .lt 7, 3) := by decide +kernel
theorem d_C_fill_69 : decode b_C_fill 69 = .ok (.iconst 1, 1) := by decide +kernel
theorem d_C_fill_70 : decode b_C_fill 70 = .ok (.goto 4, 3) := by decide +kernel
theorem d_C_fill_73 : decode b_C_fill 73 = .ok (.iconst 0, 1) := by decide +kernel
theorem d_C_fill_74 : decode b_C_fill 74 = .ok (.ireturn, 1) := by decide +kernel
theorem d_C_keepAsLatest_0 : decode b_C_keepAsLatest 0 = .ok (.aload_n 0, 1) := by decide +kernel
theorem d_C_keepAsLatest_1 : decode b_C_keepAsLatest 1 = .ok (.getfield 15, 3) := by decide +kernel
theorem d_C_keepAsLatest_4 : decode b_C_keepAsLatest 4 = .ok (.astore_n 1, 1) := by decide +kernel
theorem d_C_keepAsLatest_5 : decode b_C_keepAsLatest 5 = .ok (.aload_n 0, 1) := by decide +kernel
theorem d_C_keepAsLatest_6 : decode b_C_keepAsLatest 6 = .ok (.aload_n 0, 1) := by decide +kernel
theorem d_C_keepAsLatest_7 : decode b_C_keepAsLatest 7 = .ok (.getfield 9, 3) := by decide +kernel
theorem d_C_keepAsLatest_10 : decode b_C_keepAsLatest 10 = .ok (.putfield 15, 3) := by decide +kernel
theorem d_C_keepAsLatest_13 : decode b_C_keepAsLatest 13 = .ok (.aload_n 0, 1) := by decide +kernel
theorem d_C_keepAsLatest_14 : decode b_C_keepAsLatest 14 = .ok (.aload_n 1, 1) := by decide +kernel
theorem d_C_keepAsLatest_15 : decode b_C_keepAsLatest 15 = .ok (.putfield 9, 3) := by decide +kernel
theorem d_C_keepAsLatest_18 : decode b_C_keepAsLatest 18 = .ok (.aload_n 0, 1) := by decide +kernel
theorem d_C_keepAsLatest_19 : decode b_C_keepAsLatest 19 = .ok (.aload_n 0, 1) := by decide +kernel
theorem d_C_keepAsLatest_20 : decode b_C_keepAsLatest 20 = .ok (.getfield 32, 3) := by decide +kernel
theorem d_C_keepAsLatest_23 : decode b_C_keepAsLatest 23 = .ok (.putfield 47, 3) := by decide +kernel
theorem d_C_keepAsLatest_26 : decode b_C_keepAsLatest 26 = .ok (.aload_n 0, 1) := by decide +kernel
theorem d_C_keepAsLatest_27 : decode b_C_keepAsLatest 27 = .ok (.aload_n 0, 1) := by decide +kernel
theorem d_C_keepAsLatest_28 : decode b_C_keepAsLatest 28 = .ok (.getfield 35, 3) := by decide +kernel
theorem d_C_keepAsLatest_31 : decode b_C_keepAsLatest 31 = .ok (.putfield 50, 3) := by decide +kernel
theorem d_C_keepAsLatest_34 : decode b_C_keepAsLatest 34 = .ok (.aload_n 0, 1) := by decide +kernel
theorem d_C_keepAsLatest_35 : decode b_C_keepAsLatest 35 = .ok (.dup, 1) := by decide +kernel
theorem d_C_keepAsLatest_36 : decode b_C_keepAsLatest 36 = .ok (.getfield 25, 3) := by decide +kernel
theorem d_C_keepAsLatest_39 : decode b_C_keepAsLatest 39 = .ok (.iconst 1, 1) := by decide +kernel
theorem d_C_keepAsLatest_40 : decode b_C_keepAsLatest 40 = .ok (.iadd, 1) := by decide +kernel
theorem d_C_keepAsLatest_41 : decode b_C_keepAsLatest 41 = .ok (.putfield 25, 3) := by decide +kernel
theorem d_C_keepAsLatest_44 : decode b_C_keepAsLatest 44 = .ok (.aload_n 0, 1) := by decide +kernel
theorem d_C_keepAsLatest_45 : decode b_C_keepAsLatest 45 = .ok (.iconst 0, 1) := by decide +kernel
theorem d_C_keepAsLatest_46 : decode b_C_keepAsLatest 46 = .ok (.putfield 22, 3) := by decide +kernel
theorem d_C_keepAsLatest_49 : decode b_C_keepAsLatest 49 = .ok (.return_, 1) := by decide +kernel
theorem d_P_init_0 : decode b_P_init 0 = .ok (.aload_n 0, 1) := by decide +kernel
theorem d_P_init_1 : decode b_P_init 1 = .ok (.invokespecial 3, 3) := by decide +kernel
theorem d_P_init_4 : decode b_P_init 4 = .ok (.aload_n 0, 1) := by decide +kernel
theorem d_P_init_5 : decode b_P_init 5 = .ok (.bipush 16, 2) := by decide +kernel
theorem d_P_init_7 : decode b_P_init 7 = .ok (.newarray .int, 2) := by decide +kernel
theorem d_P_init_9 : decode b_P_init 9 = .ok (.putfield 9, 3) := by decide +kernel
theorem d_P_init_12 : decode b_P_init 12 = .ok (.return_, 1) := by decide +kernel
theorem d_P_clear_0 : decode b_P_clear 0 = .ok (.iconst 0, 1) := by decide +kernel
theorem d_P_clear_1 : decode b_P_clear 1 = .ok (.istore_n 1, 1) := by decide +kernel
theorem d_P_clear_2 : decode b_P_clear 2 = .ok (.iload_n 1, 1) := by decide +kernel
theorem d_P_clear_3 : decode b_P_clear 3 = .ok (.bipush 16, 2) := by decide +kernel
theorem d_P_clear_5 : decode b_P_clear 5 = .ok (.if_icmp .ge 18, 3) := by decide +kernel
theorem d_P_clear_8 : decode b_P_clear 8 = .ok (.aload_n 0, 1) := by decide +kernel
theorem d_P_clear_9 : decode b_P_clear 9 = .ok (.getfield 9, 3) := by decide +kernel
theorem d_P_clear_12 : decode b_P_clear 12 = .ok (.iload_n 1, 1) := by decide +kernel
theorem d_P_clear_13 : decode b_P_clear 13 = .ok (.sipush 255, 3) := by decide +kernel
theorem d_P_clear_16 : decode b_P_clear 16 = .ok (.iastore, 1) := by decide +kernel
theorem d_P_clear_17 : decode b_P_clear 17 = .ok (.iinc 1 1, 3) := by decide +kernel
theorem d_P_clear_20 : decode b_P_clear 20 = .ok (.goto (-18), 3) := by decide +kernel
theorem d_P_clear_23 : decode b_P_clear 23 = .ok (.aload_n 0, 1) := by decide +kernel
theorem d_P_clear_24 : decode b_P_clear 24 = .ok (.iconst 0, 1) := by decide +kernel
theorem d_P_clear_25 : decode b_P_clear 25 = .ok (.putfield 15, 3) := by decide +kernel
theorem d_P_clear_28 : decode b_P_clear 28 = .ok (.return_, 1) := by decide +kernel
theorem d_P_put_0 : decode b_P_put 0 = .ok (.aload_n 0, 1) := by decide +kernel
theorem d_P_put_1 : decode b_P_put 1 = .ok (.getfield 15, 3) := by decide +kernel
theorem d_P_put_4 : decode b_P_put 4 = .ok (.bipush 16, 2) := by decide +kernel
theorem d_P_put_6 : decode b_P_put 6 = .ok (.if_icmp .ge 27, 3) := by decide +kernel
theorem d_P_put_9 : decode b_P_put 9 = .ok (.aload_n 0, 1) := by decide +kernel
theorem d_P_put_10 : decode b_P_put 10 = .ok (.getfield 9, 3) := by decide +kernel
theorem d_P_put_13 : decode b_P_put 13 = .ok (.aload_n 0, 1) := by decide +kernel
theorem d_P_put_14 : decode b_P_put 14 = .ok (.getfield 15, 3) := by decide +kernel
theorem d_P_put_17 : decode b_P_put 17 = .ok (.iload_n 1, 1) := by decide +kernel
theorem d_P_put_18 : decode b_P_put 18 = .ok (.sipush 255, 3) := by decide +kernel
theorem d_P_put_21 : decode b_P_put 21 = .ok (.iand, 1) := by decide +kernel
theorem d_P_put_22 : decode b_P_put 22 = .ok (.iastore, 1) := by decide +kernel
theorem d_P_put_23 : decode b_P_put 23 = .ok (.aload_n 0, 1) := by decide +kernel
theorem d_P_put_24 : decode b_P_put 24 = .ok (.dup, 1) := by decide +kernel
theorem d_P_put_25 : decode b_P_put 25 = .ok (.getfield 15, 3) := by decide +kernel
theorem d_P_put_28 : decode b_P_put 28 = .ok (.iconst 1, 1) := by decide +kernel
theorem d_P_put_29 : decode b_P_put 29 = .ok (.iadd, 1) := by decide +kernel
theorem d_P_put_30 : decode b_P_put 30 = .ok (.putfield 15, 3) := by decide +kernel
theorem d_P_put_33 : decode b_P_put 33 = .ok (.return_, 1) := by decide +kernel
theorem d_P_putTime_0 : decode b_P_putTime 0 = .ok (.aload_n 0, 1) := by decide +kernel
theorem d_P_putTime_1 : decode b_P_putTime 1 = .ok (.iload_n 1, 1) := by decide +kernel
theorem d_P_putTime_2 : decode b_P_putTime 2 = .ok (.sipush 256, 3) := by decide +kernel
theorem d_P_putTime_5 : decode b_P_putTime 5 = .ok (.idiv, 1) := by decide +kernel
theorem d_P_putTime_6 : decode b_P_putTime 6 = .ok (.invokevirtual 19, 3) := by decide +kernel
theorem d_P_putTime_9 : decode b_P_putTime 9 = .ok (.aload_n 0, 1) := by decide +kernel
theorem d_P_putTime_10 : decode b_P_putTime 10 = .ok (.iload_n 1, 1) := by decide +kernel
theorem d_P_putTime_11 : decode b_P_putTime 11 = .ok (.invokevirtual 19, 3) := by decide +kernel
theorem d_P_putTime_14 : decode b_P_putTime 14 = .ok (.return_, 1) := by decide +kernel
theorem d_P_byteAt_0 : decode b_P_byteAt 0 = .ok (.iload_n 1, 1) := by decide +kernel
theorem d_P_byteAt_1 : decode b_P_byteAt 1 = .ok (.invokestatic 23, 3) := by decide +kernel
theorem d_P_byteAt_4 : decode b_P_byteAt 4 = .ok (.ifCond .eq 12, 3) := by decide +kernel
theorem d_P_byteAt_7 : decode b_P_byteAt 7 = .ok (.aload_n 0, 1) := by decide +kernel
theorem d_P_byteAt_8 : decode b_P_byteAt 8 = .ok (.getfield 9, 3) := by decide +kernel
theorem d_P_byteAt_11 : decode b_P_byteAt 11 = .ok (.iload_n 1, 1) := by decide +kernel
theorem d_P_byteAt_12 : decode b_P_byteAt 12 = .ok (.iaload, 1) := by decide +kernel
theorem d_P_byteAt_13 : decode b_P_byteAt 13 = .ok (.goto 6, 3) := by decide +kernel
theorem d_P_byteAt_16 : decode b_P_byteAt 16 = .ok (.sipush 255, 3) := by decide +kernel
theorem d_P_byteAt_19 : decode b_P_byteAt 19 = .ok (.ireturn, 1) := by decide +kernel
theorem d_P_timeAt_0 : decode b_P_timeAt 0 = .ok (.aload_n 0, 1) := by decide +kernel
theorem d_P_timeAt_1 : decode b_P_timeAt 1 = .ok (.iload_n 1, 1) := by decide +kernel
theorem d_P_timeAt_2 : decode b_P_timeAt 2 = .ok (.invokevirtual 27, 3) := by decide +kernel
theorem d_P_timeAt_5 : decode b_P_timeAt 5 = .ok (.sipush 256, 3) := by decide +kernel
theorem d_P_timeAt_8 : decode b_P_timeAt 8 = .ok (.imul, 1) := by decide +kernel
theorem d_P_timeAt_9 : decode b_P_timeAt 9 = .ok (.aload_n 0, 1) := by decide +kernel
theorem d_P_timeAt_10 : decode b_P_timeAt 10 = .ok (.iload_n 1, 1) := by decide +kernel
theorem d_P_timeAt_11 : decode b_P_timeAt 11 = .ok (.iconst 1, 1) := by decide +kernel
theorem d_P_timeAt_12 : decode b_P_timeAt 12 = .ok (.iadd, 1) := by decide +kernel
theorem d_P_timeAt_13 : decode b_P_timeAt 13 = .ok (.invokevirtual 27, 3) := by decide +kernel
theorem d_P_timeAt_16 : decode b_P_timeAt 16 = .ok (.iadd, 1) := by decide +kernel
theorem d_P_timeAt_17 : decode b_P_timeAt 17 = .ok (.ireturn, 1) := by decide +kernel
theorem d_P_copyFrom_0 : decode b_P_copyFrom 0 = .ok (.iconst 0, 1) := by decide +kernel
theorem d_P_copyFrom_1 : decode b_P_copyFrom 1 = .ok (.istore_n 2, 1) := by decide +kernel
theorem d_P_copyFrom_2 : decode b_P_copyFrom 2 = .ok (.iload_n 2, 1) := by decide +kernel
theorem d_P_copyFrom_3 : decode b_P_copyFrom 3 = .ok (.bipush 16, 2) := by decide +kernel
theorem d_P_copyFrom_5 : decode b_P_copyFrom 5 = .ok (.if_icmp .ge 21, 3) := by decide +kernel
theorem d_P_copyFrom_8 : decode b_P_copyFrom 8 = .ok (.aload_n 0, 1) := by decide +kernel
theorem d_P_copyFrom_9 : decode b_P_copyFrom 9 = .ok (.getfield 9, 3) := by decide +kernel
theorem d_P_copyFrom_12 : decode b_P_copyFrom 12 = .ok (.iload_n 2, 1) := by decide +kernel
theorem d_P_copyFrom_13 : decode b_P_copyFrom 13 = .ok (.aload_n 1, 1) := by decide +kernel
theorem d_P_copyFrom_14 : decode b_P_copyFrom 14 = .ok (.getfield 9, 3) := by decide +kernel
theorem d_P_copyFrom_17 : decode b_P_copyFrom 17 = .ok (.iload_n 2, 1) := by decide +kernel
theorem d_P_copyFrom_18 : decode b_P_copyFrom 18 = .ok (.iaload, 1) := by decide +kernel
theorem d_P_copyFrom_19 : decode b_P_copyFrom 19 = .ok (.iastore, 1) := by decide +kernel
theorem d_P_copyFrom_20 : decode b_P_copyFrom 20 = .ok (.iinc 2 1, 3) := by decide +kernel
theorem d_P_copyFrom_23 : decode b_P_copyFrom 23 = .ok (.goto (-21), 3) := by decide +kernel
theorem d_P_copyFrom_26 : decode b_P_copyFrom 26 = .ok (.return_, 1) := by decide +kernel
theorem d_P_flip_0 : decode b_P_flip 0 = .ok (.iload_n 1, 1) := by decide +kernel
theorem d_P_flip_1 : decode b_P_flip 1 = .ok (.invokestatic 23, 3) := by decide +kernel
theorem d_P_flip_4 : decode b_P_flip 4 = .ok (.ifCond .eq 13, 3) := by decide +kernel
theorem d_P_flip_7 : decode b_P_flip 7 = .ok (.aload_n 0, 1) := by decide +kernel
theorem d_P_flip_8 : decode b_P_flip 8 = .ok (.getfield 9, 3) := by decide +kernel
theorem d_P_flip_11 : decode b_P_flip 11 = .ok (.iload_n 1, 1) := by decide +kernel
theorem d_P_flip_12 : decode b_P_flip 12 = .ok (.dup2, 1) := by decide +kernel
theorem d_P_flip_13 : decode b_P_flip 13 = .ok (.iaload, 1) := by decide +kernel
theorem d_P_flip_14 : decode b_P_flip 14 = .ok (.iload_n 2, 1) := by decide +kernel
theorem d_P_flip_15 : decode b_P_flip 15 = .ok (.ixor, 1) := by decide +kernel
theorem d_P_flip_16 : decode b_P_flip 16 = .ok (.iastore, 1) := by decide +kernel
theorem d_P_flip_17 : decode b_P_flip 17 = .ok (.return_, 1) := by decide +kernel
theorem d_R_init_0 : decode b_R_init 0 = .ok (.aload_n 0, 1) := by decide +kernel
theorem d_R_init_1 : decode b_R_init 1 = .ok (.invokespecial 3, 3) := by decide +kernel
theorem d_R_init_4 : decode b_R_init 4 = .ok (.aload_n 0, 1) := by decide +kernel
theorem d_R_init_5 : decode b_R_init 5 = .ok (.iconst 3, 1) := by decide +kernel
theorem d_R_init_6 : decode b_R_init 6 = .ok (.anewarray 9, 3) := by decide +kernel
theorem d_R_init_9 : decode b_R_init 9 = .ok (.putfield 11, 3) := by decide +kernel
theorem d_R_init_12 : decode b_R_init 12 = .ok (.aload_n 0, 1) := by decide +kernel
theorem d_R_init_13 : decode b_R_init 13 = .ok (.bipush 6, 2) := by decide +kernel
theorem d_R_init_15 : decode b_R_init 15 = .ok (.newarray .int, 2) := by decide +kernel
theorem d_R_init_17 : decode b_R_init 17 = .ok (.putfield 17, 3) := by decide +kernel
theorem d_R_init_20 : decode b_R_init 20 = .ok (.iconst 0, 1) := by decide +kernel
theorem d_R_init_21 : decode b_R_init 21 = .ok (.istore_n 1, 1) := by decide +kernel
theorem d_R_init_22 : decode b_R_init 22 = .ok (.iload_n 1, 1) := by decide +kernel
theorem d_R_init_23 : decode b_R_init 23 = .ok (.iconst 3, 1) := by decide +kernel
theorem d_R_init_24 : decode b_R_init 24 = .ok (.if_icmp .ge 22, 3) := by decide +kernel
theorem d_R_init_27 : decode b_R_init 27 = .ok (.aload_n 0, 1) := by decide +kernel
theorem d_R_init_28 : decode b_R_init 28 = .ok (.getfield 11, 3) := by decide +kernel
theorem d_R_init_31 : decode b_R_init 31 = .ok (.iload_n 1, 1) := by decide +kernel
theorem d_R_init_32 : decode b_R_init 32 = .ok (.new 9, 3) := by decide +kernel
theorem d_R_init_35 : decode b_R_init 35 = .ok (.dup, 1) := by decide +kernel
theorem d_R_init_36 : decode b_R_init 36 = .ok (.invokespecial 21, 3) := by decide +kernel
theorem d_R_init_39 : decode b_R_init 39 = .ok (.aastore, 1) := by decide +kernel
theorem d_R_init_40 : decode b_R_init 40 = .ok (.iinc 1 1, 3) := by decide +kernel
theorem d_R_init_43 : decode b_R_init 43 = .ok (.goto (-21), 3) := by decide +kernel
theorem d_R_init_46 : decode b_R_init 46 = .ok (.return_, 1) := by decide +kernel
theorem d_R_reset_0 : decode b_R_reset 0 = .ok (.aload_n 0, 1) := by decide +kernel
theorem d_R_reset_1 : decode b_R_reset 1 = .ok (.iconst 0, 1) := by decide +kernel
theorem d_R_reset_2 : decode b_R_reset 2 = .ok (.putfield 22, 3) := by decide +kernel
theorem d_R_reset_5 : decode b_R_reset 5 = .ok (.aload_n 0, 1) := by decide +kernel
theorem d_R_reset_6 : decode b_R_reset 6 = .ok (.iconst 0, 1) := by decide +kernel
theorem d_R_reset_7 : decode b_R_reset 7 = .ok (.putfield 26, 3) := by decide +kernel
theorem d_R_reset_10 : decode b_R_reset 10 = .ok (.iconst 0, 1) := by decide +kernel
theorem d_R_reset_11 : decode b_R_reset 11 = .ok (.istore_n 1, 1) := by decide +kernel
theorem d_R_reset_12 : decode b_R_reset 12 = .ok (.iload_n 1, 1) := by decide +kernel
theorem d_R_reset_13 : decode b_R_reset 13 = .ok (.iconst 3, 1) := by decide +kernel
theorem d_R_reset_14 : decode b_R_reset 14 = .ok (.if_icmp .ge 18, 3) := by decide +kernel
theorem d_R_reset_17 : decode b_R_reset 17 = .ok (.aload_n 0, 1) := by decide +kernel
theorem d_R_reset_18 : decode b_R_reset 18 = .ok (.getfield 11, 3) := by decide +kernel
theorem d_R_reset_21 : decode b_R_reset 21 = .ok (.iload_n 1, 1) := by decide +kernel
theorem d_R_reset_22 : decode b_R_reset 22 = .ok (.aaload, 1) := by decide +kernel
theorem d_R_reset_23 : decode b_R_reset 23 = .ok (.invokevirtual 30, 3) := by decide +kernel
theorem d_R_reset_26 : decode b_R_reset 26 = .ok (.iinc 1 1, 3) := by decide +kernel
theorem d_R_reset_29 : decode b_R_reset 29 = .ok (.goto (-17), 3) := by decide +kernel
theorem d_R_reset_32 : decode b_R_reset 32 = .ok (.iconst 0, 1) := by decide +kernel
theorem d_R_reset_33 : decode b_R_reset 33 = .ok (.istore_n 1, 1) := by decide +kernel
theorem d_R_reset_34 : decode b_R_reset 34 = .ok (.iload_n 1, 1) := by decide +kernel
theorem d_R_reset_35 : decode b_R_reset 35 = .ok (.bipush 6, 2) := by decide +kernel
theorem d_R_reset_37 : decode b_R_reset 37 = .ok (.if_icmp .ge 16, 3) := by decide +kernel
theorem d_R_reset_40 : decode b_R_reset 40 = .ok (.aload_n 0, 1) := by decide +kernel
theorem d_R_reset_41 : decode b_R_reset 41 = .ok (.getfield 17, 3) := by decide +kernel
theorem d_R_reset_44 : decode b_R_reset 44 = .ok (.iload_n 1, 1) := by decide +kernel
theorem d_R_reset_45 : decode b_R_reset 45 = .ok (.iconst 0, 1) := by decide +kernel
theorem d_R_reset_46 : decode b_R_reset 46 = .ok (.iastore, 1) := by decide +kernel
theorem d_R_reset_47 : decode b_R_reset 47 = .ok (.iinc 1 1, 3) := by decide +kernel
theorem d_R_reset_50 : decode b_R_reset 50 = .ok (.goto (-16), 3) := by decide +kernel
theorem d_R_reset_53 : decode b_R_reset 53 = .ok (.return_, 1) := by decide +kernel
theorem d_R_take_0 : decode b_R_take 0 = .ok (.aload_n 1, 1) := by decide +kernel
theorem d_R_take_1 : decode b_R_take 1 = .ok (.iconst 0, 1) := by decide +kernel
theorem d_R_take_2 : decode b_R_take 2 = .ok (.invokevirtual 33, 3) := by decide +kernel
theorem d_R_take_5 : decode b_R_take 5 = .ok (.bipush 71, 2) := by decide +kernel
theorem d_R_take_7 : decode b_R_take 7 = .ok (.if_icmp .eq 18, 3) := by decide +kernel
theorem d_R_take_10 : decode b_R_take 10 = .ok (.aload_n 0, 1) := by decide +kernel
theorem d_R_take_11 : decode b_R_take 11 = .ok (.getfield 17, 3) := by decide +kernel
theorem d_R_take_14 : decode b_R_take 14 = .ok (.iconst 0, 1) := by decide +kernel
theorem d_R_take_15 : decode b_R_take 15 = .ok (.dup2, 1) := by decide +kernel
theorem d_R_take_16 : decode b_R_take 16 = .ok (.iaload, 1) := by decide +kernel
theorem d_R_take_17 : decode b_R_take 17 = .ok (.iconst 1, 1) := by decide +kernel
theorem d_R_take_18 : decode b_R_take 18 = .ok (.iadd, 1) := by decide +kernel
theorem d_R_take_19 : decode b_R_take 19 = .ok (.iastore, 1) := by decide +kernel
theorem d_R_take_20 : decode b_R_take 20 = .ok (.aload_n 0, 1) := by decide +kernel
theorem d_R_take_21 : decode b_R_take 21 = .ok (.invokevirtual 39, 3) := by decide +kernel
theorem d_R_take_24 : decode b_R_take 24 = .ok (.return_, 1) := by decide +kernel
theorem d_R_take_25 : decode b_R_take 25 = .ok (.aload_n 1, 1) := by decide +kernel
theorem d_R_take_26 : decode b_R_take 26 = .ok (.iconst 1, 1) := by decide +kernel
theorem d_R_take_27 : decode b_R_take 27 = .ok (.invokevirtual 33, 3) := by decide +kernel
theorem d_R_take_30 : decode b_R_take 30 = .ok (.istore_n 2, 1) := by decide +kernel
theorem d_R_take_31 : decode b_R_take 31 = .ok (.iconst 2, 1) := by decide +kernel
theorem d_R_take_32 : decode b_R_take 32 = .ok (.istore_n 3, 1) := by decide +kernel
theorem d_R_take_33 : decode b_R_take 33 = .ok (.iload_n 2, 1) := by decide +kernel
theorem d_R_take_34 : decode b_R_take 34 = .ok (.bipush 64, 2) := by decide +kernel
theorem d_R_take_36 : decode b_R_take 36 = .ok (.iand, 1) := by decide +kernel
theorem d_R_take_37 : decode b_R_take 37 = .ok (.ifCond .eq 23, 3) := by decide +kernel
theorem d_R_take_40 : decode b_R_take 40 = .ok (.aload_n 0, 1) := by decide +kernel
theorem d_R_take_41 : decode b_R_take 41 = .ok (.aload_n 1, 1) := by decide +kernel
theorem d_R_take_42 : decode b_R_take 42 = .ok (.iload_n 3, 1) := by decide +kernel
theorem d_R_take_43 : decode b_R_take 43 = .ok (.invokevirtual 42, 3) := by decide +kernel
theorem d_R_take_46 : decode b_R_take 46 = .ok (.putfield 26, 3) := by decide +kernel
theorem d_R_take_49 : decode b_R_take 49 = .ok (.aload_n 0, 1) := by decide +kernel
theorem d_R_take_50 : decode b_R_take 50 = .ok (.iconst 1, 1) := by decide +kernel
theorem d_R_take_51 : decode b_R_take 51 = .ok (.putfield 22, 3) := by decide +kernel
theorem d_R_take_54 : decode b_R_take 54 = .ok (.iinc 3 2, 3) := by decide +kernel
theorem d_R_take_57 : decode b_R_take 57 = .ok (.goto 7, 3) := by decide +kernel
theorem d_R_take_60 : decode b_R_take 60 = .ok (.aload_n 0, 1) := by decide +kernel
theorem d_R_take_61 : decode b_R_take 61 = .ok (.invokevirtual 39, 3) := by decide +kernel
theorem d_R_take_64 : decode b_R_take 64 = .ok (.iload_n 2, 1) := by decide +kernel
theorem d_R_take_65 : decode b_R_take 65 = .ok (.bipush 16, 2) := by decide +kernel
theorem d_R_take_67 : decode b_R_take 67 = .ok (.idiv, 1) := by decide +kernel
theorem d_R_take_68 : decode b_R_take 68 = .ok (.iconst 4, 1) := by decide +kernel
theorem d_R_take_69 : decode b_R_take 69 = .ok (.irem, 1) := by decide +kernel
theorem d_R_take_70 : decode b_R_take 70 = .ok (.istore 4, 2) := by decide +kernel
theorem d_R_take_72 : decode b_R_take 72 = .ok (.iload 4, 2) := by decide +kernel
theorem d_R_take_74 : decode b_R_take 74 = .ok (.invokestatic 45, 3) := by decide +kernel
theorem d_R_take_77 : decode b_R_take 77 = .ok (.ifCond .eq 16, 3) := by decide +kernel
theorem d_R_take_80 : decode b_R_take 80 = .ok (.aload_n 0, 1) := by decide +kernel
theorem d_R_take_81 : decode b_R_take 81 = .ok (.aload_n 0, 1) := by decide +kernel
theorem d_R_take_82 : decode b_R_take 82 = .ok (.getfield 11, 3) := by decide +kernel
theorem d_R_take_85 : decode b_R_take 85 = .ok (.iload 4, 2) := by decide +kernel
theorem d_R_take_87 : decode b_R_take 87 = .ok (.aaload, 1) := by decide +kernel
theorem d_R_take_88 : decode b_R_take 88 = .ok (.aload_n 1, 1) := by decide +kernel
theorem d_R_take_89 : decode b_R_take 89 = .ok (.iload_n 3, 1) := by decide +kernel
theorem d_R_take_90 : decode b_R_take 90 = .ok (.invokevirtual 49, 3) := by decide +kernel
theorem d_R_take_93 : decode b_R_take 93 = .ok (.return_, 1) := by decide +kernel
theorem d_R_takeOfStream_0 : decode b_R_takeOfStream 0 = .ok (.aload_n 2, 1) := by decide +kernel
theorem d_R_takeOfStream_1 : decode b_R_takeOfStream 1 = .ok (.iconst 1, 1) := by decide +kernel
theorem d_R_takeOfStream_2 : decode b_R_takeOfStream 2 = .ok (.invokevirtual 33, 3) := by decide +kernel
theorem d_R_takeOfStream_5 : decode b_R_takeOfStream 5 = .ok (.istore 4, 2) := by decide +kernel
theorem d_R_takeOfStream_7 : decode b_R_takeOfStream 7 = .ok (.aload_n 1, 1) := by decide +kernel
theorem d_R_takeOfStream_8 : decode b_R_takeOfStream 8 = .ok (.iload 4, 2) := by decide +kernel
theorem d_R_takeOfStream_10 : decode b_R_takeOfStream 10 = .ok (.bipush 16, 2) := by decide +kernel
theorem d_R_takeOfStream_12 : decode b_R_takeOfStream 12 = .ok (.irem, 1) := by decide +kernel
theorem d_R_takeOfStream_13 : decode b_R_takeOfStream 13 = .ok (.invokevirtual 53, 3) := by decide +kernel
theorem d_R_takeOfStream_16 : decode b_R_takeOfStream 16 = .ok (.ifCond .eq 18, 3) := by decide +kernel
theorem d_R_takeOfStream_19 : decode b_R_takeOfStream 19 = .ok (.aload_n 0, 1) := by decide +kernel
theorem d_R_takeOfStream_20 : decode b_R_takeOfStream 20 = .ok (.getfield 17, 3) := by decide +kernel
theorem d_R_takeOfStream_23 : decode b_R_takeOfStream 23 = .ok (.iconst 1, 1) := by decide +kernel
theorem d_R_takeOfStream_24 : decode b_R_takeOfStream 24 = .ok (.dup2, 1) := by decide +kernel
theorem d_R_takeOfStream_25 : decode b_R_takeOfStream 25 = .ok (.iaload, 1) := by decide +kernel
theorem d_R_takeOfStream_26 : decode b_R_takeOfStream 26 = .ok (.iconst 1, 1) := by decide +kernel
theorem d_R_takeOfStream_27 : decode b_R_takeOfStream 27 = .ok (.iadd, 1) := by decide +kernel
theorem d_R_takeOfStream_28 : decode b_R_takeOfStream 28 = .ok (.iastore, 1) := by decide +kernel
theorem d_R_takeOfStream_29 : decode b_R_takeOfStream 29 = .ok (.aload_n 0, 1) := by decide +kernel
theorem d_R_takeOfStream_30 : decode b_R_takeOfStream 30 = .ok (.aload_n 1, 1) := by decide +kernel
theorem d_R_takeOfStream_31 : decode b_R_takeOfStream 31 = .ok (.invokevirtual 56, 3) := by decide +kernel
theorem d_R_takeOfStream_34 : decode b_R_takeOfStream 34 = .ok (.iload_n 3, 1) := by decide +kernel
theorem d_R_takeOfStream_35 : decode b_R_takeOfStream 35 = .ok (.istore 5, 2) := by decide +kernel
theorem d_R_takeOfStream_37 : decode b_R_takeOfStream 37 = .ok (.iload 4, 2) := by decide +kernel
theorem d_R_takeOfStream_39 : decode b_R_takeOfStream 39 = .ok (.sipush 128, 3) := by decide +kernel
theorem d_R_takeOfStream_42 : decode b_R_takeOfStream 42 = .ok (.iand, 1) := by decide +kernel
theorem d_R_takeOfStream_43 : decode b_R_takeOfStream 43 = .ok (.ifCond .eq 18, 3) := by decide +kernel
theorem d_R_takeOfStream_46 : decode b_R_takeOfStream 46 = .ok (.aload_n 0, 1) := by decide +kernel
theorem d_R_takeOfStream_47 : decode b_R_takeOfStream 47 = .ok (.aload_n 1, 1) := by decide +kernel
theorem d_R_takeOfStream_48 : decode b_R_takeOfStream 48 = .ok (.invokevirtual 56, 3) := by decide +kernel
theorem d_R_takeOfStream_51 : decode b_R_takeOfStream 51 = .ok (.aload_n 0, 1) := by decide +kernel
theorem d_R_takeOfStream_52 : decode b_R_takeOfStream 52 = .ok (.aload_n 1, 1) := by decide +kernel
theorem d_R_takeOfStream_53 : decode b_R_takeOfStream 53 = .ok (.aload_n 2, 1) := by decide +kernel
theorem d_R_takeOfStream_54 : decode b_R_takeOfStream 54 = .ok (.iload_n 3, 1) := by decide +kernel
theorem d_R_takeOfStream_55 : decode b_R_takeOfStream 55 = .ok (.invokevirtual 60, 3) := by decide +kernel
theorem d_R_takeOfStream_58 : decode b_R_takeOfStream 58 = .ok (.iinc 5 3, 3) := by decide +kernel
theorem d_R_takeOfStream_61 : decode b_R_takeOfStream 61 = .ok (.aload_n 1, 1) := by decide +kernel
theorem d_R_takeOfStream_62 : decode b_R_takeOfStream 62 = .ok (.getfield 63, 3) := by decide +kernel
theorem d_R_takeOfStream_65 : decode b_R_takeOfStream 65 = .ok (.ifCond .eq 18, 3) := by decide +kernel
theorem d_R_takeOfStream_68 : decode b_R_takeOfStream 68 = .ok (.aload_n 1, 1) := by decide +kernel
theorem d_R_takeOfStream_69 : decode b_R_takeOfStream 69 = .ok (.aload_n 2, 1) := by decide +kernel
theorem d_R_takeOfStream_70 : decode b_R_takeOfStream 70 = .ok (.iload 5, 2) := by decide +kernel
theorem d_R_takeOfStream_72 : decode b_R_takeOfStream 72 = .ok (.invokevirtual 66, 3) := by decide +kernel
theorem d_R_takeOfStream_75 : decode b_R_takeOfStream 75 = .ok (.ifCond .eq 8, 3) := by decide +kernel
theorem d_R_takeOfStream_78 : decode b_R_takeOfStream 78 = .ok (.aload_n 0, 1) := by decide +kernel
theorem d_R_takeOfStream_79 : decode b_R_takeOfStream 79 = .ok (.aload_n 1, 1) := by decide +kernel
theorem d_R_takeOfStream_80 : decode b_R_takeOfStream 80 = .ok (.invokevirtual 70, 3) := by decide +kernel
theorem d_R_takeOfStream_83 : decode b_R_takeOfStream 83 = .ok (.return_, 1) := by decide +kernel
theorem d_R_beginUnit_0 : decode b_R_beginUnit 0 = .ok (.aload_n 2, 1) := by decide +kernel
theorem d_R_beginUnit_1 : decode b_R_beginUnit 1 = .ok (.iload_n 3, 1) := by decide +kernel
theorem d_R_beginUnit_2 : decode b_R_beginUnit 2 = .ok (.invokevirtual 33, 3) := by decide +kernel
theorem d_R_beginUnit_5 : decode b_R_beginUnit 5 = .ok (.istore 4, 2) := by decide +kernel
theorem d_R_beginUnit_7 : decode b_R_beginUnit 7 = .ok (.iload 4, 2) := by decide +kernel
theorem d_R_beginUnit_9 : decode b_R_beginUnit 9 = .ok (.iconst 1, 1) := by decide +kernel
theorem d_R_beginUnit_10 : decode b_R_beginUnit 10 = .ok (.if_icmp .lt 10, 3) := by decide +kernel
theorem d_R_beginUnit_13 : decode b_R_beginUnit 13 = .ok (.iload 4, 2) := by decide +kernel
theorem d_R_beginUnit_15 : decode b_R_beginUnit 15 = .ok (.bipush 60, 2) := by decide +kernel
theorem d_R_beginUnit_17 : decode b_R_beginUnit 17 = .ok (.if_icmp .le 16, 3) := by decide +kernel
theorem d_R_beginUnit_20 : decode b_R_beginUnit 20 = .ok (.aload_n 0, 1) := by decide +kernel
theorem d_R_beginUnit_21 : decode b_R_beginUnit 21 = .ok (.getfield 17, 3) := by decide +kernel
theorem d_R_beginUnit_24 : decode b_R_beginUnit 24 = .ok (.iconst 3, 1) := by decide +kernel
theorem d_R_beginUnit_25 : decode b_R_beginUnit 25 = .ok (.dup2, 1) := by decide +kernel
theorem d_R_beginUnit_26 : decode b_R_beginUnit 26 = .ok (.iaload, 1) := by decide +kernel

theorem d_R_beginUnit_27 : decode b_R_beginUnit 27 = .ok (.iconst 1, 1) := by decide +kernel
theorem d_R_beginUnit_28 : decode b_R_beginUnit 28 = .ok (.iadd, 1) := by decide +kernel
theorem d_R_beginUnit_29 : decode b_R_beginUnit 29 = .ok (.iastore, 1) := by decide +kernel
theorem d_R_beginUnit_30 : decode b_R_beginUnit 30 = .ok (.goto 16, 3) := by decide +kernel
theorem d_R_beginUnit_33 : decode b_R_beginUnit 33 = .ok (.aload_n 1, 1) := by decide +kernel
theorem d_R_beginUnit_34 : decode b_R_beginUnit 34 = .ok (.iload 4, 2) := by decide +kernel
theorem d_R_beginUnit_36 : decode b_R_beginUnit 36 = .ok (.aload_n 2, 1) := by decide +kernel
theorem d_R_beginUnit_37 : decode b_R_beginUnit 37 = .ok (.iload_n 3, 1) := by decide +kernel
theorem d_R_beginUnit_38 : decode b_R_beginUnit 38 = .ok (.iconst 1, 1) := by decide +kernel
theorem d_R_beginUnit_39 : decode b_R_beginUnit 39 = .ok (.iadd, 1) := by decide +kernel
theorem d_R_beginUnit_40 : decode b_R_beginUnit 40 = .ok (.invokevirtual 42, 3) := by decide +kernel
theorem d_R_beginUnit_43 : decode b_R_beginUnit 43 = .ok (.invokevirtual 73, 3) := by decide +kernel
theorem d_R_beginUnit_46 : decode b_R_beginUnit 46 = .ok (.return_, 1) := by decide +kernel
theorem d_R_breakUnit_0 : decode b_R_breakUnit 0 = .ok (.aload_n 1, 1) := by decide +kernel
theorem d_R_breakUnit_1 : decode b_R_breakUnit 1 = .ok (.getfield 63, 3) := by decide +kernel
theorem d_R_breakUnit_4 : decode b_R_breakUnit 4 = .ok (.ifCond .eq 18, 3) := by decide +kernel
theorem d_R_breakUnit_7 : decode b_R_breakUnit 7 = .ok (.aload_n 1, 1) := by decide +kernel
theorem d_R_breakUnit_8 : decode b_R_breakUnit 8 = .ok (.iconst 0, 1) := by decide +kernel
theorem d_R_breakUnit_9 : decode b_R_breakUnit 9 = .ok (.putfield 63, 3) := by decide +kernel
theorem d_R_breakUnit_12 : decode b_R_breakUnit 12 = .ok (.aload_n 0, 1) := by decide +kernel
theorem d_R_breakUnit_13 : decode b_R_breakUnit 13 = .ok (.getfield 17, 3) := by decide +kernel
theorem d_R_breakUnit_16 : decode b_R_breakUnit 16 = .ok (.iconst 2, 1) := by decide +kernel
theorem d_R_breakUnit_17 : decode b_R_breakUnit 17 = .ok (.dup2, 1) := by decide +kernel
theorem d_R_breakUnit_18 : decode b_R_breakUnit 18 = .ok (.iaload, 1) := by decide +kernel
theorem d_R_breakUnit_19 : decode b_R_breakUnit 19 = .ok (.iconst 1, 1) := by decide +kernel
theorem d_R_breakUnit_20 : decode b_R_breakUnit 20 = .ok (.iadd, 1) := by decide +kernel
theorem d_R_breakUnit_21 : decode b_R_breakUnit 21 = .ok (.iastore, 1) := by decide +kernel
theorem d_R_breakUnit_22 : decode b_R_breakUnit 22 = .ok (.return_, 1) := by decide +kernel
theorem d_R_finishUnit_0 : decode b_R_finishUnit 0 = .ok (.aload_n 1, 1) := by decide +kernel
theorem d_R_finishUnit_1 : decode b_R_finishUnit 1 = .ok (.invokevirtual 77, 3) := by decide +kernel
theorem d_R_finishUnit_4 : decode b_R_finishUnit 4 = .ok (.aload_n 0, 1) := by decide +kernel
theorem d_R_finishUnit_5 : decode b_R_finishUnit 5 = .ok (.getfield 17, 3) := by decide +kernel
theorem d_R_finishUnit_8 : decode b_R_finishUnit 8 = .ok (.iconst 4, 1) := by decide +kernel
theorem d_R_finishUnit_9 : decode b_R_finishUnit 9 = .ok (.dup2, 1) := by decide +kernel
theorem d_R_finishUnit_10 : decode b_R_finishUnit 10 = .ok (.iaload, 1) := by decide +kernel
theorem d_R_finishUnit_11 : decode b_R_finishUnit 11 = .ok (.iconst 1, 1) := by decide +kernel
theorem d_R_finishUnit_12 : decode b_R_finishUnit 12 = .ok (.iadd, 1) := by decide +kernel
theorem d_R_finishUnit_13 : decode b_R_finishUnit 13 = .ok (.iastore, 1) := by decide +kernel
theorem d_R_finishUnit_14 : decode b_R_finishUnit 14 = .ok (.aload_n 1, 1) := by decide +kernel
theorem d_R_finishUnit_15 : decode b_R_finishUnit 15 = .ok (.getfield 80, 3) := by decide +kernel
theorem d_R_finishUnit_18 : decode b_R_finishUnit 18 = .ok (.aload_n 0, 1) := by decide +kernel
theorem d_R_finishUnit_19 : decode b_R_finishUnit 19 = .ok (.getfield 26, 3) := by decide +kernel
theorem d_R_finishUnit_22 : decode b_R_finishUnit 22 = .ok (.isub, 1) := by decide +kernel
theorem d_R_finishUnit_23 : decode b_R_finishUnit 23 = .ok (.ldc 83, 2) := by decide +kernel
theorem d_R_finishUnit_25 : decode b_R_finishUnit 25 = .ok (.invokestatic 84, 3) := by decide +kernel
theorem d_R_finishUnit_28 : decode b_R_finishUnit 28 = .ok (.istore_n 2, 1) := by decide +kernel
theorem d_R_finishUnit_29 : decode b_R_finishUnit 29 = .ok (.aload_n 0, 1) := by decide +kernel
theorem d_R_finishUnit_30 : decode b_R_finishUnit 30 = .ok (.getfield 22, 3) := by decide +kernel
theorem d_R_finishUnit_33 : decode b_R_finishUnit 33 = .ok (.ifCond .eq 25, 3) := by decide +kernel
theorem d_R_finishUnit_36 : decode b_R_finishUnit 36 = .ok (.iload_n 2, 1) := by decide +kernel
theorem d_R_finishUnit_37 : decode b_R_finishUnit 37 = .ok (.iconst 1, 1) := by decide +kernel
theorem d_R_finishUnit_38 : decode b_R_finishUnit 38 = .ok (.if_icmp .lt 20, 3) := by decide +kernel
theorem d_R_finishUnit_41 : decode b_R_finishUnit 41 = .ok (.iload_n 2, 1) := by decide +kernel
theorem d_R_finishUnit_42 : decode b_R_finishUnit 42 = .ok (.sipush 32767, 3) := by decide +kernel
theorem d_R_finishUnit_45 : decode b_R_finishUnit 45 = .ok (.if_icmp .gt 13, 3) := by decide +kernel
theorem d_R_finishUnit_48 : decode b_R_finishUnit 48 = .ok (.aload_n 0, 1) := by decide +kernel
theorem d_R_finishUnit_49 : decode b_R_finishUnit 49 = .ok (.getfield 17, 3) := by decide +kernel
theorem d_R_finishUnit_52 : decode b_R_finishUnit 52 = .ok (.iconst 5, 1) := by decide +kernel
theorem d_R_finishUnit_53 : decode b_R_finishUnit 53 = .ok (.dup2, 1) := by decide +kernel
theorem d_R_finishUnit_54 : decode b_R_finishUnit 54 = .ok (.iaload, 1) := by decide +kernel
theorem d_R_finishUnit_55 : decode b_R_finishUnit 55 = .ok (.iconst 1, 1) := by decide +kernel
theorem d_R_finishUnit_56 : decode b_R_finishUnit 56 = .ok (.iadd, 1) := by decide +kernel
theorem d_R_finishUnit_57 : decode b_R_finishUnit 57 = .ok (.iastore, 1) := by decide +kernel
theorem d_R_finishUnit_58 : decode b_R_finishUnit 58 = .ok (.return_, 1) := by decide +kernel
theorem d_R_advanceClock_0 : decode b_R_advanceClock 0 = .ok (.aload_n 0, 1) := by decide +kernel
theorem d_R_advanceClock_1 : decode b_R_advanceClock 1 = .ok (.getfield 22, 3) := by decide +kernel
theorem d_R_advanceClock_4 : decode b_R_advanceClock 4 = .ok (.ifCond .eq 16, 3) := by decide +kernel
theorem d_R_advanceClock_7 : decode b_R_advanceClock 7 = .ok (.aload_n 0, 1) := by decide +kernel
theorem d_R_advanceClock_8 : decode b_R_advanceClock 8 = .ok (.aload_n 0, 1) := by decide +kernel
theorem d_R_advanceClock_9 : decode b_R_advanceClock 9 = .ok (.getfield 26, 3) := by decide +kernel
theorem d_R_advanceClock_12 : decode b_R_advanceClock 12 = .ok (.iconst 1, 1) := by decide +kernel
theorem d_R_advanceClock_13 : decode b_R_advanceClock 13 = .ok (.iadd, 1) := by decide +kernel
theorem d_R_advanceClock_14 : decode b_R_advanceClock 14 = .ok (.ldc 83, 2) := by decide +kernel
theorem d_R_advanceClock_16 : decode b_R_advanceClock 16 = .ok (.irem, 1) := by decide +kernel
theorem d_R_advanceClock_17 : decode b_R_advanceClock 17 = .ok (.putfield 26, 3) := by decide +kernel
theorem d_R_advanceClock_20 : decode b_R_advanceClock 20 = .ok (.return_, 1) := by decide +kernel
theorem d_S_init_0 : decode b_S_init 0 = .ok (.aload_n 0, 1) := by decide +kernel
theorem d_S_init_1 : decode b_S_init 1 = .ok (.invokespecial 3, 3) := by decide +kernel
theorem d_S_init_4 : decode b_S_init 4 = .ok (.aload_n 0, 1) := by decide +kernel
theorem d_S_init_5 : decode b_S_init 5 = .ok (.new 9, 3) := by decide +kernel
theorem d_S_init_8 : decode b_S_init 8 = .ok (.dup, 1) := by decide +kernel
theorem d_S_init_9 : decode b_S_init 9 = .ok (.invokespecial 11, 3) := by decide +kernel
theorem d_S_init_12 : decode b_S_init 12 = .ok (.putfield 12, 3) := by decide +kernel
theorem d_S_init_15 : decode b_S_init 15 = .ok (.aload_n 0, 1) := by decide +kernel
theorem d_S_init_16 : decode b_S_init 16 = .ok (.new 9, 3) := by decide +kernel
theorem d_S_init_19 : decode b_S_init 19 = .ok (.dup, 1) := by decide +kernel
theorem d_S_init_20 : decode b_S_init 20 = .ok (.invokespecial 11, 3) := by decide +kernel
theorem d_S_init_23 : decode b_S_init 23 = .ok (.putfield 18, 3) := by decide +kernel
theorem d_S_init_26 : decode b_S_init 26 = .ok (.return_, 1) := by decide +kernel
theorem d_S_beginTick_0 : decode b_S_beginTick 0 = .ok (.aload_n 0, 1) := by decide +kernel
theorem d_S_beginTick_1 : decode b_S_beginTick 1 = .ok (.iconst 0, 1) := by decide +kernel
theorem d_S_beginTick_2 : decode b_S_beginTick 2 = .ok (.aload_n 0, 1) := by decide +kernel
theorem d_S_beginTick_3 : decode b_S_beginTick 3 = .ok (.getfield 21, 3) := by decide +kernel
theorem d_S_beginTick_6 : decode b_S_beginTick 6 = .ok (.iload_n 2, 1) := by decide +kernel
theorem d_S_beginTick_7 : decode b_S_beginTick 7 = .ok (.isub, 1) := by decide +kernel
theorem d_S_beginTick_8 : decode b_S_beginTick 8 = .ok (.invokestatic 25, 3) := by decide +kernel
theorem d_S_beginTick_11 : decode b_S_beginTick 11 = .ok (.putfield 21, 3) := by decide +kernel
theorem d_S_beginTick_14 : decode b_S_beginTick 14 = .ok (.aload_n 0, 1) := by decide +kernel
theorem d_S_beginTick_15 : decode b_S_beginTick 15 = .ok (.getfield 18, 3) := by decide +kernel
theorem d_S_beginTick_18 : decode b_S_beginTick 18 = .ok (.iload_n 1, 1) := by decide +kernel
theorem d_S_beginTick_19 : decode b_S_beginTick 19 = .ok (.invokevirtual 31, 3) := by decide +kernel
theorem d_S_beginTick_22 : decode b_S_beginTick 22 = .ok (.ifCond .eq 26, 3) := by decide +kernel
theorem d_S_beginTick_25 : decode b_S_beginTick 25 = .ok (.aload_n 0, 1) := by decide +kernel
theorem d_S_beginTick_26 : decode b_S_beginTick 26 = .ok (.dup, 1) := by decide +kernel
theorem d_S_beginTick_27 : decode b_S_beginTick 27 = .ok (.getfield 35, 3) := by decide +kernel
theorem d_S_beginTick_30 : decode b_S_beginTick 30 = .ok (.aload_n 0, 1) := by decide +kernel
theorem d_S_beginTick_31 : decode b_S_beginTick 31 = .ok (.getfield 18, 3) := by decide +kernel
theorem d_S_beginTick_34 : decode b_S_beginTick 34 = .ok (.invokevirtual 38, 3) := by decide +kernel
theorem d_S_beginTick_37 : decode b_S_beginTick 37 = .ok (.isub, 1) := by decide +kernel
theorem d_S_beginTick_38 : decode b_S_beginTick 38 = .ok (.putfield 35, 3) := by decide +kernel
theorem d_S_beginTick_41 : decode b_S_beginTick 41 = .ok (.aload_n 0, 1) := by decide +kernel
theorem d_S_beginTick_42 : decode b_S_beginTick 42 = .ok (.getfield 18, 3) := by decide +kernel
theorem d_S_beginTick_45 : decode b_S_beginTick 45 = .ok (.invokevirtual 42, 3) := by decide +kernel
theorem d_S_beginTick_48 : decode b_S_beginTick 48 = .ok (.aload_n 0, 1) := by decide +kernel
theorem d_S_beginTick_49 : decode b_S_beginTick 49 = .ok (.getfield 12, 3) := by decide +kernel
theorem d_S_beginTick_52 : decode b_S_beginTick 52 = .ok (.iload_n 1, 1) := by decide +kernel
theorem d_S_beginTick_53 : decode b_S_beginTick 53 = .ok (.invokevirtual 31, 3) := by decide +kernel
theorem d_S_beginTick_56 : decode b_S_beginTick 56 = .ok (.ifCond .eq 30, 3) := by decide +kernel
theorem d_S_beginTick_59 : decode b_S_beginTick 59 = .ok (.aload_n 0, 1) := by decide +kernel
theorem d_S_beginTick_60 : decode b_S_beginTick 60 = .ok (.dup, 1) := by decide +kernel
theorem d_S_beginTick_61 : decode b_S_beginTick 61 = .ok (.getfield 35, 3) := by decide +kernel
theorem d_S_beginTick_64 : decode b_S_beginTick 64 = .ok (.aload_n 0, 1) := by decide +kernel
theorem d_S_beginTick_65 : decode b_S_beginTick 65 = .ok (.getfield 45, 3) := by decide +kernel
theorem d_S_beginTick_68 : decode b_S_beginTick 68 = .ok (.isub, 1) := by decide +kernel
theorem d_S_beginTick_69 : decode b_S_beginTick 69 = .ok (.putfield 35, 3) := by decide +kernel
theorem d_S_beginTick_72 : decode b_S_beginTick 72 = .ok (.aload_n 0, 1) := by decide +kernel
theorem d_S_beginTick_73 : decode b_S_beginTick 73 = .ok (.dup, 1) := by decide +kernel
theorem d_S_beginTick_74 : decode b_S_beginTick 74 = .ok (.getfield 48, 3) := by decide +kernel
theorem d_S_beginTick_77 : decode b_S_beginTick 77 = .ok (.iconst 1, 1) := by decide +kernel
theorem d_S_beginTick_78 : decode b_S_beginTick 78 = .ok (.iadd, 1) := by decide +kernel
theorem d_S_beginTick_79 : decode b_S_beginTick 79 = .ok (.putfield 48, 3) := by decide +kernel
theorem d_S_beginTick_82 : decode b_S_beginTick 82 = .ok (.aload_n 0, 1) := by decide +kernel
theorem d_S_beginTick_83 : decode b_S_beginTick 83 = .ok (.invokevirtual 51, 3) := by decide +kernel
theorem d_S_beginTick_86 : decode b_S_beginTick 86 = .ok (.return_, 1) := by decide +kernel
theorem d_S_isAtStart_0 : decode b_S_isAtStart 0 = .ok (.aload_n 0, 1) := by decide +kernel
theorem d_S_isAtStart_1 : decode b_S_isAtStart 1 = .ok (.getfield 45, 3) := by decide +kernel
theorem d_S_isAtStart_4 : decode b_S_isAtStart 4 = .ok (.ifCond .ne 7, 3) := by decide +kernel
theorem d_S_isAtStart_7 : decode b_S_isAtStart 7 = .ok (.iconst 1, 1) := by decide +kernel
theorem d_S_isAtStart_8 : decode b_S_isAtStart 8 = .ok (.goto 4, 3) := by decide +kernel
theorem d_S_isAtStart_11 : decode b_S_isAtStart 11 = .ok (.iconst 0, 1) := by decide +kernel
theorem d_S_isAtStart_12 : decode b_S_isAtStart 12 = .ok (.ireturn, 1) := by decide +kernel
theorem d_S_portion_0 : decode b_S_portion 0 = .ok (.bipush 14, 2) := by decide +kernel
theorem d_S_portion_2 : decode b_S_portion 2 = .ok (.iload_n 1, 1) := by decide +kernel
theorem d_S_portion_3 : decode b_S_portion 3 = .ok (.ifCond .eq 7, 3) := by decide +kernel
theorem d_S_portion_6 : decode b_S_portion 6 = .ok (.iconst 2, 1) := by decide +kernel
theorem d_S_portion_7 : decode b_S_portion 7 = .ok (.goto 4, 3) := by decide +kernel
theorem d_S_portion_10 : decode b_S_portion 10 = .ok (.iconst 0, 1) := by decide +kernel
theorem d_S_portion_11 : decode b_S_portion 11 = .ok (.isub, 1) := by decide +kernel
theorem d_S_portion_12 : decode b_S_portion 12 = .ok (.aload_n 0, 1) := by decide +kernel
theorem d_S_portion_13 : decode b_S_portion 13 = .ok (.invokevirtual 54, 3) := by decide +kernel
theorem d_S_portion_16 : decode b_S_portion 16 = .ok (.ifCond .eq 7, 3) := by decide +kernel
theorem d_S_portion_19 : decode b_S_portion 19 = .ok (.iconst 3, 1) := by decide +kernel
theorem d_S_portion_20 : decode b_S_portion 20 = .ok (.goto 4, 3) := by decide +kernel
theorem d_S_portion_23 : decode b_S_portion 23 = .ok (.iconst 0, 1) := by decide +kernel
theorem d_S_portion_24 : decode b_S_portion 24 = .ok (.isub, 1) := by decide +kernel
theorem d_S_portion_25 : decode b_S_portion 25 = .ok (.istore_n 2, 1) := by decide +kernel
theorem d_S_portion_26 : decode b_S_portion 26 = .ok (.iload_n 2, 1) := by decide +kernel
theorem d_S_portion_27 : decode b_S_portion 27 = .ok (.aload_n 0, 1) := by decide +kernel
theorem d_S_portion_28 : decode b_S_portion 28 = .ok (.getfield 12, 3) := by decide +kernel
theorem d_S_portion_31 : decode b_S_portion 31 = .ok (.invokevirtual 38, 3) := by decide +kernel
theorem d_S_portion_34 : decode b_S_portion 34 = .ok (.aload_n 0, 1) := by decide +kernel
theorem d_S_portion_35 : decode b_S_portion 35 = .ok (.getfield 45, 3) := by decide +kernel
theorem d_S_portion_38 : decode b_S_portion 38 = .ok (.isub, 1) := by decide +kernel
theorem d_S_portion_39 : decode b_S_portion 39 = .ok (.invokestatic 58, 3) := by decide +kernel
theorem d_S_portion_42 : decode b_S_portion 42 = .ok (.ireturn, 1) := by decide +kernel
theorem d_S_isReady_0 : decode b_S_isReady 0 = .ok (.aload_n 0, 1) := by decide +kernel
theorem d_S_isReady_1 : decode b_S_isReady 1 = .ok (.getfield 12, 3) := by decide +kernel
theorem d_S_isReady_4 : decode b_S_isReady 4 = .ok (.invokevirtual 61, 3) := by decide +kernel
theorem d_S_isReady_7 : decode b_S_isReady 7 = .ok (.ifCond .ne 20, 3) := by decide +kernel
theorem d_S_isReady_10 : decode b_S_isReady 10 = .ok (.aload_n 0, 1) := by decide +kernel
theorem d_S_isReady_11 : decode b_S_isReady 11 = .ok (.invokevirtual 54, 3) := by decide +kernel
theorem d_S_isReady_14 : decode b_S_isReady 14 = .ok (.ifCond .eq 15, 3) := by decide +kernel
theorem d_S_isReady_17 : decode b_S_isReady 17 = .ok (.aload_n 0, 1) := by decide +kernel
theorem d_S_isReady_18 : decode b_S_isReady 18 = .ok (.getfield 18, 3) := by decide +kernel
theorem d_S_isReady_21 : decode b_S_isReady 21 = .ok (.invokevirtual 64, 3) := by decide +kernel
theorem d_S_isReady_24 : decode b_S_isReady 24 = .ok (.ifCond .eq 5, 3) := by decide +kernel
theorem d_S_isReady_27 : decode b_S_isReady 27 = .ok (.iconst 0, 1) := by decide +kernel
theorem d_S_isReady_28 : decode b_S_isReady 28 = .ok (.ireturn, 1) := by decide +kernel
theorem d_S_isReady_29 : decode b_S_isReady 29 = .ok (.aload_n 0, 1) := by decide +kernel
theorem d_S_isReady_30 : decode b_S_isReady 30 = .ok (.iload_n 1, 1) := by decide +kernel
theorem d_S_isReady_31 : decode b_S_isReady 31 = .ok (.invokevirtual 67, 3) := by decide +kernel
theorem d_S_isReady_34 : decode b_S_isReady 34 = .ok (.istore_n 3, 1) := by decide +kernel
theorem d_S_isReady_35 : decode b_S_isReady 35 = .ok (.aload_n 0, 1) := by decide +kernel
theorem d_S_isReady_36 : decode b_S_isReady 36 = .ok (.getfield 21, 3) := by decide +kernel
theorem d_S_isReady_39 : decode b_S_isReady 39 = .ok (.iload_n 3, 1) := by decide +kernel
theorem d_S_isReady_40 : decode b_S_isReady 40 = .ok (.iadd, 1) := by decide +kernel
theorem d_S_isReady_41 : decode b_S_isReady 41 = .ok (.bipush 28, 2) := by decide +kernel
theorem d_S_isReady_43 : decode b_S_isReady 43 = .ok (.if_icmp .gt 17, 3) := by decide +kernel
theorem d_S_isReady_46 : decode b_S_isReady 46 = .ok (.aload_n 0, 1) := by decide +kernel
theorem d_S_isReady_47 : decode b_S_isReady 47 = .ok (.getfield 35, 3) := by decide +kernel
theorem d_S_isReady_50 : decode b_S_isReady 50 = .ok (.iload_n 3, 1) := by decide +kernel
theorem d_S_isReady_51 : decode b_S_isReady 51 = .ok (.iadd, 1) := by decide +kernel
theorem d_S_isReady_52 : decode b_S_isReady 52 = .ok (.iload_n 2, 1) := by decide +kernel
theorem d_S_isReady_53 : decode b_S_isReady 53 = .ok (.if_icmp .gt 7, 3) := by decide +kernel
theorem d_S_isReady_56 : decode b_S_isReady 56 = .ok (.iconst 1, 1) := by decide +kernel
theorem d_S_isReady_57 : decode b_S_isReady 57 = .ok (.goto 4, 3) := by decide +kernel
theorem d_S_isReady_60 : decode b_S_isReady 60 = .ok (.iconst 0, 1) := by decide +kernel
theorem d_S_isReady_61 : decode b_S_isReady 61 = .ok (.ireturn, 1) := by decide +kernel
theorem d_S_takeCounter_0 : decode b_S_takeCounter 0 = .ok (.aload_n 0, 1) := by decide +kernel
theorem d_S_takeCounter_1 : decode b_S_takeCounter 1 = .ok (.getfield 71, 3) := by decide +kernel
theorem d_S_takeCounter_4 : decode b_S_takeCounter 4 = .ok (.istore_n 1, 1) := by decide +kernel
theorem d_S_takeCounter_5 : decode b_S_takeCounter 5 = .ok (.aload_n 0, 1) := by decide +kernel
theorem d_S_takeCounter_6 : decode b_S_takeCounter 6 = .ok (.iload_n 1, 1) := by decide +kernel
theorem d_S_takeCounter_7 : decode b_S_takeCounter 7 = .ok (.iconst 1, 1) := by decide +kernel
theorem d_S_takeCounter_8 : decode b_S_takeCounter 8 = .ok (.iadd, 1) := by decide +kernel
theorem d_S_takeCounter_9 : decode b_S_takeCounter 9 = .ok (.bipush 16, 2) := by decide +kernel
theorem d_S_takeCounter_11 : decode b_S_takeCounter 11 = .ok (.irem, 1) := by decide +kernel
theorem d_S_takeCounter_12 : decode b_S_takeCounter 12 = .ok (.putfield 71, 3) := by decide +kernel
theorem d_S_takeCounter_15 : decode b_S_takeCounter 15 = .ok (.iload_n 1, 1) := by decide +kernel
theorem d_S_takeCounter_16 : decode b_S_takeCounter 16 = .ok (.ireturn, 1) := by decide +kernel
theorem d_S_sendBytes_0 : decode b_S_sendBytes 0 = .ok (.iconst 0, 1) := by decide +kernel
theorem d_S_sendBytes_1 : decode b_S_sendBytes 1 = .ok (.istore_n 3, 1) := by decide +kernel
theorem d_S_sendBytes_2 : decode b_S_sendBytes 2 = .ok (.iload_n 3, 1) := by decide +kernel
theorem d_S_sendBytes_3 : decode b_S_sendBytes 3 = .ok (.iload_n 1, 1) := by decide +kernel
theorem d_S_sendBytes_4 : decode b_S_sendBytes 4 = .ok (.if_icmp .ge 30, 3) := by decide +kernel
theorem d_S_sendBytes_7 : decode b_S_sendBytes 7 = .ok (.aload_n 2, 1) := by decide +kernel
theorem d_S_sendBytes_8 : decode b_S_sendBytes 8 = .ok (.aload_n 0, 1) := by decide +kernel
theorem d_S_sendBytes_9 : decode b_S_sendBytes 9 = .ok (.getfield 12, 3) := by decide +kernel
theorem d_S_sendBytes_12 : decode b_S_sendBytes 12 = .ok (.invokevirtual 74, 3) := by decide +kernel
theorem d_S_sendBytes_15 : decode b_S_sendBytes 15 = .ok (.bipush 7, 2) := by decide +kernel
theorem d_S_sendBytes_17 : decode b_S_sendBytes 17 = .ok (.aload_n 0, 1) := by decide +kernel
theorem d_S_sendBytes_18 : decode b_S_sendBytes 18 = .ok (.getfield 45, 3) := by decide +kernel
theorem d_S_sendBytes_21 : decode b_S_sendBytes 21 = .ok (.iload_n 3, 1) := by decide +kernel
theorem d_S_sendBytes_22 : decode b_S_sendBytes 22 = .ok (.iadd, 1) := by decide +kernel
theorem d_S_sendBytes_23 : decode b_S_sendBytes 23 = .ok (.imul, 1) := by decide +kernel
theorem d_S_sendBytes_24 : decode b_S_sendBytes 24 = .ok (.iadd, 1) := by decide +kernel
theorem d_S_sendBytes_25 : decode b_S_sendBytes 25 = .ok (.invokevirtual 77, 3) := by decide +kernel
theorem d_S_sendBytes_28 : decode b_S_sendBytes 28 = .ok (.iinc 3 1, 3) := by decide +kernel
theorem d_S_sendBytes_31 : decode b_S_sendBytes 31 = .ok (.goto (-29), 3) := by decide +kernel
theorem d_S_sendBytes_34 : decode b_S_sendBytes 34 = .ok (.aload_n 0, 1) := by decide +kernel
theorem d_S_sendBytes_35 : decode b_S_sendBytes 35 = .ok (.dup, 1) := by decide +kernel
theorem d_S_sendBytes_36 : decode b_S_sendBytes 36 = .ok (.getfield 45, 3) := by decide +kernel
theorem d_S_sendBytes_39 : decode b_S_sendBytes 39 = .ok (.iload_n 1, 1) := by decide +kernel
theorem d_S_sendBytes_40 : decode b_S_sendBytes 40 = .ok (.iadd, 1) := by decide +kernel
theorem d_S_sendBytes_41 : decode b_S_sendBytes 41 = .ok (.putfield 45, 3) := by decide +kernel
theorem d_S_sendBytes_44 : decode b_S_sendBytes 44 = .ok (.aload_n 0, 1) := by decide +kernel
theorem d_S_sendBytes_45 : decode b_S_sendBytes 45 = .ok (.dup, 1) := by decide +kernel
theorem d_S_sendBytes_46 : decode b_S_sendBytes 46 = .ok (.getfield 21, 3) := by decide +kernel
theorem d_S_sendBytes_49 : decode b_S_sendBytes 49 = .ok (.iload_n 1, 1) := by decide +kernel
theorem d_S_sendBytes_50 : decode b_S_sendBytes 50 = .ok (.iadd, 1) := by decide +kernel
theorem d_S_sendBytes_51 : decode b_S_sendBytes 51 = .ok (.putfield 21, 3) := by decide +kernel
theorem d_S_sendBytes_54 : decode b_S_sendBytes 54 = .ok (.aload_n 0, 1) := by decide +kernel
theorem d_S_sendBytes_55 : decode b_S_sendBytes 55 = .ok (.dup, 1) := by decide +kernel
theorem d_S_sendBytes_56 : decode b_S_sendBytes 56 = .ok (.getfield 35, 3) := by decide +kernel
theorem d_S_sendBytes_59 : decode b_S_sendBytes 59 = .ok (.iload_n 1, 1) := by decide +kernel
theorem d_S_sendBytes_60 : decode b_S_sendBytes 60 = .ok (.iadd, 1) := by decide +kernel
theorem d_S_sendBytes_61 : decode b_S_sendBytes 61 = .ok (.putfield 35, 3) := by decide +kernel
theorem d_S_sendBytes_64 : decode b_S_sendBytes 64 = .ok (.aload_n 0, 1) := by decide +kernel
theorem d_S_sendBytes_65 : decode b_S_sendBytes 65 = .ok (.getfield 45, 3) := by decide +kernel
theorem d_S_sendBytes_68 : decode b_S_sendBytes 68 = .ok (.aload_n 0, 1) := by decide +kernel
theorem d_S_sendBytes_69 : decode b_S_sendBytes 69 = .ok (.getfield 12, 3) := by decide +kernel
theorem d_S_sendBytes_72 : decode b_S_sendBytes 72 = .ok (.invokevirtual 38, 3) := by decide +kernel
theorem d_S_sendBytes_75 : decode b_S_sendBytes 75 = .ok (.if_icmp .lt 35, 3) := by decide +kernel
theorem d_S_sendBytes_78 : decode b_S_sendBytes 78 = .ok (.aload_n 0, 1) := by decide +kernel
theorem d_S_sendBytes_79 : decode b_S_sendBytes 79 = .ok (.getfield 18, 3) := by decide +kernel
theorem d_S_sendBytes_82 : decode b_S_sendBytes 82 = .ok (.aload_n 0, 1) := by decide +kernel
theorem d_S_sendBytes_83 : decode b_S_sendBytes 83 = .ok (.getfield 12, 3) := by decide +kernel
theorem d_S_sendBytes_86 : decode b_S_sendBytes 86 = .ok (.invokevirtual 38, 3) := by decide +kernel
theorem d_S_sendBytes_89 : decode b_S_sendBytes 89 = .ok (.aload_n 0, 1) := by decide +kernel
theorem d_S_sendBytes_90 : decode b_S_sendBytes 90 = .ok (.getfield 12, 3) := by decide +kernel
theorem d_S_sendBytes_93 : decode b_S_sendBytes 93 = .ok (.invokevirtual 83, 3) := by decide +kernel
theorem d_S_sendBytes_96 : decode b_S_sendBytes 96 = .ok (.aload_n 0, 1) := by decide +kernel
theorem d_S_sendBytes_97 : decode b_S_sendBytes 97 = .ok (.getfield 12, 3) := by decide +kernel
theorem d_S_sendBytes_100 : decode b_S_sendBytes 100 = .ok (.invokevirtual 74, 3) := by decide +kernel
theorem d_S_sendBytes_103 : decode b_S_sendBytes 103 = .ok (.invokevirtual 86, 3) := by decide +kernel
theorem d_S_sendBytes_106 : decode b_S_sendBytes 106 = .ok (.aload_n 0, 1) := by decide +kernel
theorem d_S_sendBytes_107 : decode b_S_sendBytes 107 = .ok (.invokevirtual 51, 3) := by decide +kernel
theorem d_S_sendBytes_110 : decode b_S_sendBytes 110 = .ok (.return_, 1) := by decide +kernel
theorem d_S_dropCurrent_0 : decode b_S_dropCurrent 0 = .ok (.aload_n 0, 1) := by decide +kernel
theorem d_S_dropCurrent_1 : decode b_S_dropCurrent 1 = .ok (.getfield 12, 3) := by decide +kernel
theorem d_S_dropCurrent_4 : decode b_S_dropCurrent 4 = .ok (.invokevirtual 42, 3) := by decide +kernel
theorem d_S_dropCurrent_7 : decode b_S_dropCurrent 7 = .ok (.aload_n 0, 1) := by decide +kernel
theorem d_S_dropCurrent_8 : decode b_S_dropCurrent 8 = .ok (.iconst 0, 1) := by decide +kernel
theorem d_S_dropCurrent_9 : decode b_S_dropCurrent 9 = .ok (.putfield 45, 3) := by decide +kernel
theorem d_S_dropCurrent_12 : decode b_S_dropCurrent 12 = .ok (.return_, 1) := by decide +kernel
theorem d_U_init_0 : decode b_U_init 0 = .ok (.aload_n 0, 1) := by decide +kernel
theorem d_U_init_1 : decode b_U_init 1 = .ok (.invokespecial 3, 3) := by decide +kernel
theorem d_U_init_4 : decode b_U_init 4 = .ok (.aload_n 0, 1) := by decide +kernel
theorem d_U_init_5 : decode b_U_init 5 = .ok (.bipush 8, 2) := by decide +kernel
theorem d_U_init_7 : decode b_U_init 7 = .ok (.newarray .int, 2) := by decide +kernel
theorem d_U_init_9 : decode b_U_init 9 = .ok (.putfield 9, 3) := by decide +kernel
theorem d_U_init_12 : decode b_U_init 12 = .ok (.aload_n 0, 1) := by decide +kernel
theorem d_U_init_13 : decode b_U_init 13 = .ok (.bipush 8, 2) := by decide +kernel
theorem d_U_init_15 : decode b_U_init 15 = .ok (.newarray .int, 2) := by decide +kernel
theorem d_U_init_17 : decode b_U_init 17 = .ok (.putfield 15, 3) := by decide +kernel
theorem d_U_init_20 : decode b_U_init 20 = .ok (.aload_n 0, 1) := by decide +kernel
theorem d_U_init_21 : decode b_U_init 21 = .ok (.bipush 8, 2) := by decide +kernel
theorem d_U_init_23 : decode b_U_init 23 = .ok (.newarray .int, 2) := by decide +kernel
theorem d_U_init_25 : decode b_U_init 25 = .ok (.putfield 18, 3) := by decide +kernel
theorem d_U_init_28 : decode b_U_init 28 = .ok (.return_, 1) := by decide +kernel
theorem d_U_isFull_0 : decode b_U_isFull 0 = .ok (.aload_n 0, 1) := by decide +kernel
theorem d_U_isFull_1 : decode b_U_isFull 1 = .ok (.getfield 21, 3) := by decide +kernel
theorem d_U_isFull_4 : decode b_U_isFull 4 = .ok (.bipush 8, 2) := by decide +kernel
theorem d_U_isFull_6 : decode b_U_isFull 6 = .ok (.if_icmp .lt 7, 3) := by decide +kernel
theorem d_U_isFull_9 : decode b_U_isFull 9 = .ok (.iconst 1, 1) := by decide +kernel
theorem d_U_isFull_10 : decode b_U_isFull 10 = .ok (.goto 4, 3) := by decide +kernel
theorem d_U_isFull_13 : decode b_U_isFull 13 = .ok (.iconst 0, 1) := by decide +kernel
theorem d_U_isFull_14 : decode b_U_isFull 14 = .ok (.ireturn, 1) := by decide +kernel
theorem d_U_isEmpty_0 : decode b_U_isEmpty 0 = .ok (.aload_n 0, 1) := by decide +kernel
theorem d_U_isEmpty_1 : decode b_U_isEmpty 1 = .ok (.getfield 21, 3) := by decide +kernel
theorem d_U_isEmpty_4 : decode b_U_isEmpty 4 = .ok (.ifCond .ne 7, 3) := by decide +kernel
theorem d_U_isEmpty_7 : decode b_U_isEmpty 7 = .ok (.iconst 1, 1) := by decide +kernel
theorem d_U_isEmpty_8 : decode b_U_isEmpty 8 = .ok (.goto 4, 3) := by decide +kernel
theorem d_U_isEmpty_11 : decode b_U_isEmpty 11 = .ok (.iconst 0, 1) := by decide +kernel
theorem d_U_isEmpty_12 : decode b_U_isEmpty 12 = .ok (.ireturn, 1) := by decide +kernel
theorem d_U_append_0 : decode b_U_append 0 = .ok (.aload_n 0, 1) := by decide +kernel
theorem d_U_append_1 : decode b_U_append 1 = .ok (.invokevirtual 25, 3) := by decide +kernel
theorem d_U_append_4 : decode b_U_append 4 = .ok (.ifCond .eq 4, 3) := by decide +kernel
theorem d_U_append_7 : decode b_U_append 7 = .ok (.return_, 1) := by decide +kernel
theorem d_U_append_8 : decode b_U_append 8 = .ok (.aload_n 0, 1) := by decide +kernel
theorem d_U_append_9 : decode b_U_append 9 = .ok (.getfield 9, 3) := by decide +kernel
theorem d_U_append_12 : decode b_U_append 12 = .ok (.aload_n 0, 1) := by decide +kernel
theorem d_U_append_13 : decode b_U_append 13 = .ok (.getfield 21, 3) := by decide +kernel
theorem d_U_append_16 : decode b_U_append 16 = .ok (.iload_n 1, 1) := by decide +kernel
theorem d_U_append_17 : decode b_U_append 17 = .ok (.iastore, 1) := by decide +kernel
theorem d_U_append_18 : decode b_U_append 18 = .ok (.aload_n 0, 1) := by decide +kernel
theorem d_U_append_19 : decode b_U_append 19 = .ok (.getfield 15, 3) := by decide +kernel
theorem d_U_append_22 : decode b_U_append 22 = .ok (.aload_n 0, 1) := by decide +kernel
theorem d_U_append_23 : decode b_U_append 23 = .ok (.getfield 21, 3) := by decide +kernel
theorem d_U_append_26 : decode b_U_append 26 = .ok (.iload_n 2, 1) := by decide +kernel
theorem d_U_append_27 : decode b_U_append 27 = .ok (.iastore, 1) := by decide +kernel
theorem d_U_append_28 : decode b_U_append 28 = .ok (.aload_n 0, 1) := by decide +kernel
theorem d_U_append_29 : decode b_U_append 29 = .ok (.getfield 18, 3) := by decide +kernel
theorem d_U_append_32 : decode b_U_append 32 = .ok (.aload_n 0, 1) := by decide +kernel
theorem d_U_append_33 : decode b_U_append 33 = .ok (.getfield 21, 3) := by decide +kernel
theorem d_U_append_36 : decode b_U_append 36 = .ok (.iload_n 3, 1) := by decide +kernel
theorem d_U_append_37 : decode b_U_append 37 = .ok (.iastore, 1) := by decide +kernel
theorem d_U_append_38 : decode b_U_append 38 = .ok (.aload_n 0, 1) := by decide +kernel
theorem d_U_append_39 : decode b_U_append 39 = .ok (.dup, 1) := by decide +kernel
theorem d_U_append_40 : decode b_U_append 40 = .ok (.getfield 21, 3) := by decide +kernel
theorem d_U_append_43 : decode b_U_append 43 = .ok (.iconst 1, 1) := by decide +kernel
theorem d_U_append_44 : decode b_U_append 44 = .ok (.iadd, 1) := by decide +kernel
theorem d_U_append_45 : decode b_U_append 45 = .ok (.putfield 21, 3) := by decide +kernel
theorem d_U_append_48 : decode b_U_append 48 = .ok (.return_, 1) := by decide +kernel
theorem d_U_firstSize_0 : decode b_U_firstSize 0 = .ok (.aload_n 0, 1) := by decide +kernel
theorem d_U_firstSize_1 : decode b_U_firstSize 1 = .ok (.getfield 9, 3) := by decide +kernel
theorem d_U_firstSize_4 : decode b_U_firstSize 4 = .ok (.iconst 0, 1) := by decide +kernel
theorem d_U_firstSize_5 : decode b_U_firstSize 5 = .ok (.iaload, 1) := by decide +kernel
theorem d_U_firstSize_6 : decode b_U_firstSize 6 = .ok (.ireturn, 1) := by decide +kernel
theorem d_U_firstDue_0 : decode b_U_firstDue 0 = .ok (.aload_n 0, 1) := by decide +kernel
theorem d_U_firstDue_1 : decode b_U_firstDue 1 = .ok (.getfield 15, 3) := by decide +kernel
theorem d_U_firstDue_4 : decode b_U_firstDue 4 = .ok (.iconst 0, 1) := by decide +kernel
theorem d_U_firstDue_5 : decode b_U_firstDue 5 = .ok (.iaload, 1) := by decide +kernel
theorem d_U_firstDue_6 : decode b_U_firstDue 6 = .ok (.ireturn, 1) := by decide +kernel
theorem d_U_firstSeed_0 : decode b_U_firstSeed 0 = .ok (.aload_n 0, 1) := by decide +kernel
theorem d_U_firstSeed_1 : decode b_U_firstSeed 1 = .ok (.getfield 18, 3) := by decide +kernel
theorem d_U_firstSeed_4 : decode b_U_firstSeed 4 = .ok (.iconst 0, 1) := by decide +kernel
theorem d_U_firstSeed_5 : decode b_U_firstSeed 5 = .ok (.iaload, 1) := by decide +kernel
theorem d_U_firstSeed_6 : decode b_U_firstSeed 6 = .ok (.ireturn, 1) := by decide +kernel
theorem d_U_isFirstDueAt_0 : decode b_U_isFirstDueAt 0 = .ok (.aload_n 0, 1) := by decide +kernel
theorem d_U_isFirstDueAt_1 : decode b_U_isFirstDueAt 1 = .ok (.invokevirtual 29, 3) := by decide +kernel
theorem d_U_isFirstDueAt_4 : decode b_U_isFirstDueAt 4 = .ok (.ifCond .ne 17, 3) := by decide +kernel
theorem d_U_isFirstDueAt_7 : decode b_U_isFirstDueAt 7 = .ok (.aload_n 0, 1) := by decide +kernel
theorem d_U_isFirstDueAt_8 : decode b_U_isFirstDueAt 8 = .ok (.getfield 15, 3) := by decide +kernel
theorem d_U_isFirstDueAt_11 : decode b_U_isFirstDueAt 11 = .ok (.iconst 0, 1) := by decide +kernel
theorem d_U_isFirstDueAt_12 : decode b_U_isFirstDueAt 12 = .ok (.iaload, 1) := by decide +kernel
theorem d_U_isFirstDueAt_13 : decode b_U_isFirstDueAt 13 = .ok (.iload_n 1, 1) := by decide +kernel
theorem d_U_isFirstDueAt_14 : decode b_U_isFirstDueAt 14 = .ok (.if_icmp .ne 7, 3) := by decide +kernel
theorem d_U_isFirstDueAt_17 : decode b_U_isFirstDueAt 17 = .ok (.iconst 1, 1) := by decide +kernel
theorem d_U_isFirstDueAt_18 : decode b_U_isFirstDueAt 18 = .ok (.goto 4, 3) := by decide +kernel
theorem d_U_isFirstDueAt_21 : decode b_U_isFirstDueAt 21 = .ok (.iconst 0, 1) := by decide +kernel
theorem d_U_isFirstDueAt_22 : decode b_U_isFirstDueAt 22 = .ok (.ireturn, 1) := by decide +kernel
theorem d_U_dropFirst_0 : decode b_U_dropFirst 0 = .ok (.aload_n 0, 1) := by decide +kernel
theorem d_U_dropFirst_1 : decode b_U_dropFirst 1 = .ok (.invokevirtual 29, 3) := by decide +kernel
theorem d_U_dropFirst_4 : decode b_U_dropFirst 4 = .ok (.ifCond .eq 4, 3) := by decide +kernel
theorem d_U_dropFirst_7 : decode b_U_dropFirst 7 = .ok (.return_, 1) := by decide +kernel
theorem d_U_dropFirst_8 : decode b_U_dropFirst 8 = .ok (.aload_n 0, 1) := by decide +kernel
theorem d_U_dropFirst_9 : decode b_U_dropFirst 9 = .ok (.dup, 1) := by decide +kernel
theorem d_U_dropFirst_10 : decode b_U_dropFirst 10 = .ok (.getfield 21, 3) := by decide +kernel
theorem d_U_dropFirst_13 : decode b_U_dropFirst 13 = .ok (.iconst 1, 1) := by decide +kernel
theorem d_U_dropFirst_14 : decode b_U_dropFirst 14 = .ok (.isub, 1) := by decide +kernel
theorem d_U_dropFirst_15 : decode b_U_dropFirst 15 = .ok (.putfield 21, 3) := by decide +kernel
theorem d_U_dropFirst_18 : decode b_U_dropFirst 18 = .ok (.iconst 0, 1) := by decide +kernel
theorem d_U_dropFirst_19 : decode b_U_dropFirst 19 = .ok (.istore_n 1, 1) := by decide +kernel
theorem d_U_dropFirst_20 : decode b_U_dropFirst 20 = .ok (.iload_n 1, 1) := by decide +kernel
theorem d_U_dropFirst_21 : decode b_U_dropFirst 21 = .ok (.aload_n 0, 1) := by decide +kernel
theorem d_U_dropFirst_22 : decode b_U_dropFirst 22 = .ok (.getfield 21, 3) := by decide +kernel
theorem d_U_dropFirst_25 : decode b_U_dropFirst 25 = .ok (.if_icmp .ge 51, 3) := by decide +kernel
theorem d_U_dropFirst_28 : decode b_U_dropFirst 28 = .ok (.aload_n 0, 1) := by decide +kernel
theorem d_U_dropFirst_29 : decode b_U_dropFirst 29 = .ok (.getfield 9, 3) := by decide +kernel
theorem d_U_dropFirst_32 : decode b_U_dropFirst 32 = .ok (.iload_n 1, 1) := by decide +kernel
theorem d_U_dropFirst_33 : decode b_U_dropFirst 33 = .ok (.aload_n 0, 1) := by decide +kernel
theorem d_U_dropFirst_34 : decode b_U_dropFirst 34 = .ok (.getfield 9, 3) := by decide +kernel
theorem d_U_dropFirst_37 : decode b_U_dropFirst 37 = .ok (.iload_n 1, 1) := by decide +kernel
theorem d_U_dropFirst_38 : decode b_U_dropFirst 38 = .ok (.iconst 1, 1) := by decide +kernel
theorem d_U_dropFirst_39 : decode b_U_dropFirst 39 = .ok (.iadd, 1) := by decide +kernel
theorem d_U_dropFirst_40 : decode b_U_dropFirst 40 = .ok (.iaload, 1) := by decide +kernel
theorem d_U_dropFirst_41 : decode b_U_dropFirst 41 = .ok (.iastore, 1) := by decide +kernel
theorem d_U_dropFirst_42 : decode b_U_dropFirst 42 = .ok (.aload_n 0, 1) := by decide +kernel
theorem d_U_dropFirst_43 : decode b_U_dropFirst 43 = .ok (.getfield 15, 3) := by decide +kernel
theorem d_U_dropFirst_46 : decode b_U_dropFirst 46 = .ok (.iload_n 1, 1) := by decide +kernel
theorem d_U_dropFirst_47 : decode b_U_dropFirst 47 = .ok (.aload_n 0, 1) := by decide +kernel
theorem d_U_dropFirst_48 : decode b_U_dropFirst 48 = .ok (.getfield 15, 3) := by decide +kernel
theorem d_U_dropFirst_51 : decode b_U_dropFirst 51 = .ok (.iload_n 1, 1) := by decide +kernel
theorem d_U_dropFirst_52 : decode b_U_dropFirst 52 = .ok (.iconst 1, 1) := by decide +kernel
theorem d_U_dropFirst_53 : decode b_U_dropFirst 53 = .ok (.iadd, 1) := by decide +kernel
theorem d_U_dropFirst_54 : decode b_U_dropFirst 54 = .ok (.iaload, 1) := by decide +kernel
theorem d_U_dropFirst_55 : decode b_U_dropFirst 55 = .ok (.iastore, 1) := by decide +kernel
theorem d_U_dropFirst_56 : decode b_U_dropFirst 56 = .ok (.aload_n 0, 1) := by decide +kernel
theorem d_U_dropFirst_57 : decode b_U_dropFirst 57 = .ok (.getfield 18, 3) := by decide +kernel

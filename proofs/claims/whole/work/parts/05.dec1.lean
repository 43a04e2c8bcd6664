theorem dX1_copyFrom_0 : decode (cr_by Y_X1_copyFrom) 0 = .ok (.aload_n 0, 1) := by decide +kernel
theorem dX1_copyFrom_1 : decode (cr_by Y_X1_copyFrom) 1 = .ok (.getfield 12, 3) := by decide +kernel
theorem dX1_copyFrom_4 : decode (cr_by Y_X1_copyFrom) 4 = .ok (.aload_n 1, 1) := by decide +kernel
theorem dX1_copyFrom_5 : decode (cr_by Y_X1_copyFrom) 5 = .ok (.getfield 12, 3) := by decide +kernel
theorem dX1_copyFrom_8 : decode (cr_by Y_X1_copyFrom) 8 = .ok (.invokevirtual 36, 3) := by decide +kernel
theorem dX1_copyFrom_11 : decode (cr_by Y_X1_copyFrom) 11 = .ok (.aload_n 0, 1) := by decide +kernel
theorem dX1_copyFrom_12 : decode (cr_by Y_X1_copyFrom) 12 = .ok (.getfield 21, 3) := by decide +kernel
theorem dX1_copyFrom_15 : decode (cr_by Y_X1_copyFrom) 15 = .ok (.aload_n 1, 1) := by decide +kernel
theorem dX1_copyFrom_16 : decode (cr_by Y_X1_copyFrom) 16 = .ok (.getfield 21, 3) := by decide +kernel
theorem dX1_copyFrom_19 : decode (cr_by Y_X1_copyFrom) 19 = .ok (.invokevirtual 40, 3) := by decide +kernel
theorem dX1_copyFrom_22 : decode (cr_by Y_X1_copyFrom) 22 = .ok (.aload_n 0, 1) := by decide +kernel
theorem dX1_copyFrom_23 : decode (cr_by Y_X1_copyFrom) 23 = .ok (.aload_n 1, 1) := by decide +kernel
theorem dX1_copyFrom_24 : decode (cr_by Y_X1_copyFrom) 24 = .ok (.getfield 43, 3) := by decide +kernel
theorem dX1_copyFrom_27 : decode (cr_by Y_X1_copyFrom) 27 = .ok (.putfield 43, 3) := by decide +kernel
theorem dX1_copyFrom_30 : decode (cr_by Y_X1_copyFrom) 30 = .ok (.aload_n 0, 1) := by decide +kernel
theorem dX1_copyFrom_31 : decode (cr_by Y_X1_copyFrom) 31 = .ok (.aload_n 1, 1) := by decide +kernel
theorem dX1_copyFrom_32 : decode (cr_by Y_X1_copyFrom) 32 = .ok (.getfield 46, 3) := by decide +kernel
theorem dX1_copyFrom_35 : decode (cr_by Y_X1_copyFrom) 35 = .ok (.putfield 46, 3) := by decide +kernel
theorem dX1_copyFrom_38 : decode (cr_by Y_X1_copyFrom) 38 = .ok (.aload_n 0, 1) := by decide +kernel
theorem dX1_copyFrom_39 : decode (cr_by Y_X1_copyFrom) 39 = .ok (.aload_n 1, 1) := by decide +kernel
theorem dX1_copyFrom_40 : decode (cr_by Y_X1_copyFrom) 40 = .ok (.getfield 32, 3) := by decide +kernel
theorem dX1_copyFrom_43 : decode (cr_by Y_X1_copyFrom) 43 = .ok (.putfield 32, 3) := by decide +kernel
theorem dX1_copyFrom_46 : decode (cr_by Y_X1_copyFrom) 46 = .ok (.return_, 1) := by decide +kernel
theorem dX1_goOn_0 : decode (cr_by Y_X1_goOn) 0 = .ok (.iconst 0, 1) := by decide +kernel
theorem dX1_goOn_1 : decode (cr_by Y_X1_goOn) 1 = .ok (.istore_n 2, 1) := by decide +kernel
theorem dX1_goOn_2 : decode (cr_by Y_X1_goOn) 2 = .ok (.iconst 1, 1) := by decide +kernel
theorem dX1_goOn_3 : decode (cr_by Y_X1_goOn) 3 = .ok (.istore_n 3, 1) := by decide +kernel
theorem dX1_goOn_4 : decode (cr_by Y_X1_goOn) 4 = .ok (.iload_n 3, 1) := by decide +kernel
theorem dX1_goOn_5 : decode (cr_by Y_X1_goOn) 5 = .ok (.iload_n 1, 1) := by decide +kernel
theorem dX1_goOn_6 : decode (cr_by Y_X1_goOn) 6 = .ok (.if_icmp .gt 30, 3) := by decide +kernel
theorem dX1_goOn_9 : decode (cr_by Y_X1_goOn) 9 = .ok (.iload_n 2, 1) := by decide +kernel
theorem dX1_goOn_10 : decode (cr_by Y_X1_goOn) 10 = .ok (.aload_n 0, 1) := by decide +kernel
theorem dX1_goOn_11 : decode (cr_by Y_X1_goOn) 11 = .ok (.invokevirtual 49, 3) := by decide +kernel
theorem dX1_goOn_14 : decode (cr_by Y_X1_goOn) 14 = .ok (.iadd, 1) := by decide +kernel
theorem dX1_goOn_15 : decode (cr_by Y_X1_goOn) 15 = .ok (.istore_n 2, 1) := by decide +kernel
theorem dX1_goOn_16 : decode (cr_by Y_X1_goOn) 16 = .ok (.iload_n 3, 1) := by decide +kernel
theorem dX1_goOn_17 : decode (cr_by Y_X1_goOn) 17 = .ok (.iconst 0, 1) := by decide +kernel
theorem dX1_goOn_18 : decode (cr_by Y_X1_goOn) 18 = .ok (.aload_n 0, 1) := by decide +kernel
theorem dX1_goOn_19 : decode (cr_by Y_X1_goOn) 19 = .ok (.iload_n 1, 1) := by decide +kernel
theorem dX1_goOn_20 : decode (cr_by Y_X1_goOn) 20 = .ok (.iload_n 3, 1) := by decide +kernel
theorem dX1_goOn_21 : decode (cr_by Y_X1_goOn) 21 = .ok (.isub, 1) := by decide +kernel
theorem dX1_goOn_22 : decode (cr_by Y_X1_goOn) 22 = .ok (.invokevirtual 53, 3) := by decide +kernel
theorem dX1_goOn_25 : decode (cr_by Y_X1_goOn) 25 = .ok (.invokestatic 57, 3) := by decide +kernel
theorem dX1_goOn_28 : decode (cr_by Y_X1_goOn) 28 = .ok (.iadd, 1) := by decide +kernel
theorem dX1_goOn_29 : decode (cr_by Y_X1_goOn) 29 = .ok (.istore_n 3, 1) := by decide +kernel
theorem dX1_goOn_30 : decode (cr_by Y_X1_goOn) 30 = .ok (.iinc 3 1, 3) := by decide +kernel
theorem dX1_goOn_33 : decode (cr_by Y_X1_goOn) 33 = .ok (.goto (-29), 3) := by decide +kernel
theorem dX1_goOn_36 : decode (cr_by Y_X1_goOn) 36 = .ok (.iload_n 2, 1) := by decide +kernel
theorem dX1_goOn_37 : decode (cr_by Y_X1_goOn) 37 = .ok (.ireturn, 1) := by decide +kernel
theorem dX1_ticksTillOn_0 : decode (cr_by Y_X1_ticksTillOn) 0 = .ok (.iconst 1, 1) := by decide +kernel
theorem dX1_ticksTillOn_1 : decode (cr_by Y_X1_ticksTillOn) 1 = .ok (.istore_n 2, 1) := by decide +kernel
theorem dX1_ticksTillOn_2 : decode (cr_by Y_X1_ticksTillOn) 2 = .ok (.iload_n 2, 1) := by decide +kernel
theorem dX1_ticksTillOn_3 : decode (cr_by Y_X1_ticksTillOn) 3 = .ok (.sipush 1000, 3) := by decide +kernel
theorem dX1_ticksTillOn_6 : decode (cr_by Y_X1_ticksTillOn) 6 = .ok (.if_icmp .gt 61, 3) := by decide +kernel
theorem dX1_ticksTillOn_9 : decode (cr_by Y_X1_ticksTillOn) 9 = .ok (.aload_n 0, 1) := by decide +kernel
theorem dX1_ticksTillOn_10 : decode (cr_by Y_X1_ticksTillOn) 10 = .ok (.invokevirtual 49, 3) := by decide +kernel
theorem dX1_ticksTillOn_13 : decode (cr_by Y_X1_ticksTillOn) 13 = .ok (.pop, 1) := by decide +kernel
theorem dX1_ticksTillOn_14 : decode (cr_by Y_X1_ticksTillOn) 14 = .ok (.aload_n 0, 1) := by decide +kernel
theorem dX1_ticksTillOn_15 : decode (cr_by Y_X1_ticksTillOn) 15 = .ok (.getfield 21, 3) := by decide +kernel
theorem dX1_ticksTillOn_18 : decode (cr_by Y_X1_ticksTillOn) 18 = .ok (.getfield 63, 3) := by decide +kernel
theorem dX1_ticksTillOn_21 : decode (cr_by Y_X1_ticksTillOn) 21 = .ok (.iload_n 1, 1) := by decide +kernel
theorem dX1_ticksTillOn_22 : decode (cr_by Y_X1_ticksTillOn) 22 = .ok (.iaload, 1) := by decide +kernel
theorem dX1_ticksTillOn_23 : decode (cr_by Y_X1_ticksTillOn) 23 = .ok (.iconst 1, 1) := by decide +kernel
theorem dX1_ticksTillOn_24 : decode (cr_by Y_X1_ticksTillOn) 24 = .ok (.if_icmp .ne 5, 3) := by decide +kernel
theorem dX1_ticksTillOn_27 : decode (cr_by Y_X1_ticksTillOn) 27 = .ok (.iload_n 2, 1) := by decide +kernel
theorem dX1_ticksTillOn_28 : decode (cr_by Y_X1_ticksTillOn) 28 = .ok (.ireturn, 1) := by decide +kernel
theorem dX1_ticksTillOn_29 : decode (cr_by Y_X1_ticksTillOn) 29 = .ok (.aload_n 0, 1) := by decide +kernel
theorem dX1_ticksTillOn_30 : decode (cr_by Y_X1_ticksTillOn) 30 = .ok (.getfield 21, 3) := by decide +kernel
theorem dX1_ticksTillOn_33 : decode (cr_by Y_X1_ticksTillOn) 33 = .ok (.getfield 63, 3) := by decide +kernel
theorem dX1_ticksTillOn_36 : decode (cr_by Y_X1_ticksTillOn) 36 = .ok (.iload_n 1, 1) := by decide +kernel
theorem dX1_ticksTillOn_37 : decode (cr_by Y_X1_ticksTillOn) 37 = .ok (.iaload, 1) := by decide +kernel
theorem dX1_ticksTillOn_38 : decode (cr_by Y_X1_ticksTillOn) 38 = .ok (.iconst 3, 1) := by decide +kernel
theorem dX1_ticksTillOn_39 : decode (cr_by Y_X1_ticksTillOn) 39 = .ok (.if_icmp .ne 6, 3) := by decide +kernel
theorem dX1_ticksTillOn_42 : decode (cr_by Y_X1_ticksTillOn) 42 = .ok (.bipush (-8), 2) := by decide +kernel
theorem dX1_ticksTillOn_44 : decode (cr_by Y_X1_ticksTillOn) 44 = .ok (.ireturn, 1) := by decide +kernel
theorem dX1_ticksTillOn_45 : decode (cr_by Y_X1_ticksTillOn) 45 = .ok (.iload_n 2, 1) := by decide +kernel
theorem dX1_ticksTillOn_46 : decode (cr_by Y_X1_ticksTillOn) 46 = .ok (.iconst 0, 1) := by decide +kernel
theorem dX1_ticksTillOn_47 : decode (cr_by Y_X1_ticksTillOn) 47 = .ok (.aload_n 0, 1) := by decide +kernel
theorem dX1_ticksTillOn_48 : decode (cr_by Y_X1_ticksTillOn) 48 = .ok (.sipush 1000, 3) := by decide +kernel
theorem dX1_ticksTillOn_51 : decode (cr_by Y_X1_ticksTillOn) 51 = .ok (.iload_n 2, 1) := by decide +kernel
theorem dX1_ticksTillOn_52 : decode (cr_by Y_X1_ticksTillOn) 52 = .ok (.isub, 1) := by decide +kernel
theorem dX1_ticksTillOn_53 : decode (cr_by Y_X1_ticksTillOn) 53 = .ok (.invokevirtual 53, 3) := by decide +kernel
theorem dX1_ticksTillOn_56 : decode (cr_by Y_X1_ticksTillOn) 56 = .ok (.invokestatic 57, 3) := by decide +kernel
theorem dX1_ticksTillOn_59 : decode (cr_by Y_X1_ticksTillOn) 59 = .ok (.iadd, 1) := by decide +kernel
theorem dX1_ticksTillOn_60 : decode (cr_by Y_X1_ticksTillOn) 60 = .ok (.istore_n 2, 1) := by decide +kernel
theorem dX1_ticksTillOn_61 : decode (cr_by Y_X1_ticksTillOn) 61 = .ok (.iinc 2 1, 3) := by decide +kernel
theorem dX1_ticksTillOn_64 : decode (cr_by Y_X1_ticksTillOn) 64 = .ok (.goto (-62), 3) := by decide +kernel
theorem dX1_ticksTillOn_67 : decode (cr_by Y_X1_ticksTillOn) 67 = .ok (.bipush (-9), 2) := by decide +kernel
theorem dX1_ticksTillOn_69 : decode (cr_by Y_X1_ticksTillOn) 69 = .ok (.ireturn, 1) := by decide +kernel
theorem dX1_passTick_0 : decode (cr_by Y_X1_passTick) 0 = .ok (.aload_n 0, 1) := by decide +kernel
theorem dX1_passTick_1 : decode (cr_by Y_X1_passTick) 1 = .ok (.getfield 12, 3) := by decide +kernel
theorem dX1_passTick_4 : decode (cr_by Y_X1_passTick) 4 = .ok (.iconst 1, 1) := by decide +kernel
theorem dX1_passTick_5 : decode (cr_by Y_X1_passTick) 5 = .ok (.invokevirtual 66, 3) := by decide +kernel
theorem dX1_passTick_8 : decode (cr_by Y_X1_passTick) 8 = .ok (.aload_n 0, 1) := by decide +kernel
theorem dX1_passTick_9 : decode (cr_by Y_X1_passTick) 9 = .ok (.dup, 1) := by decide +kernel
theorem dX1_passTick_10 : decode (cr_by Y_X1_passTick) 10 = .ok (.getfield 43, 3) := by decide +kernel
theorem dX1_passTick_13 : decode (cr_by Y_X1_passTick) 13 = .ok (.iconst 1, 1) := by decide +kernel
theorem dX1_passTick_14 : decode (cr_by Y_X1_passTick) 14 = .ok (.iadd, 1) := by decide +kernel
theorem dX1_passTick_15 : decode (cr_by Y_X1_passTick) 15 = .ok (.putfield 43, 3) := by decide +kernel
theorem dX1_passTick_18 : decode (cr_by Y_X1_passTick) 18 = .ok (.aload_n 0, 1) := by decide +kernel
theorem dX1_passTick_19 : decode (cr_by Y_X1_passTick) 19 = .ok (.invokevirtual 70, 3) := by decide +kernel
theorem dX1_passTick_22 : decode (cr_by Y_X1_passTick) 22 = .ok (.istore_n 1, 1) := by decide +kernel
theorem dX1_passTick_23 : decode (cr_by Y_X1_passTick) 23 = .ok (.aload_n 0, 1) := by decide +kernel
theorem dX1_passTick_24 : decode (cr_by Y_X1_passTick) 24 = .ok (.getfield 12, 3) := by decide +kernel
theorem dX1_passTick_27 : decode (cr_by Y_X1_passTick) 27 = .ok (.aload_n 0, 1) := by decide +kernel
theorem dX1_passTick_28 : decode (cr_by Y_X1_passTick) 28 = .ok (.getfield 43, 3) := by decide +kernel
theorem dX1_passTick_31 : decode (cr_by Y_X1_passTick) 31 = .ok (.invokevirtual 73, 3) := by decide +kernel
theorem dX1_passTick_34 : decode (cr_by Y_X1_passTick) 34 = .ok (.aload_n 0, 1) := by decide +kernel
theorem dX1_passTick_35 : decode (cr_by Y_X1_passTick) 35 = .ok (.getfield 21, 3) := by decide +kernel
theorem dX1_passTick_38 : decode (cr_by Y_X1_passTick) 38 = .ok (.aload_n 0, 1) := by decide +kernel
theorem dX1_passTick_39 : decode (cr_by Y_X1_passTick) 39 = .ok (.getfield 43, 3) := by decide +kernel
theorem dX1_passTick_42 : decode (cr_by Y_X1_passTick) 42 = .ok (.invokevirtual 76, 3) := by decide +kernel
theorem dX1_passTick_45 : decode (cr_by Y_X1_passTick) 45 = .ok (.aload_n 0, 1) := by decide +kernel
theorem dX1_passTick_46 : decode (cr_by Y_X1_passTick) 46 = .ok (.getfield 21, 3) := by decide +kernel
theorem dX1_passTick_49 : decode (cr_by Y_X1_passTick) 49 = .ok (.aload_n 0, 1) := by decide +kernel
theorem dX1_passTick_50 : decode (cr_by Y_X1_passTick) 50 = .ok (.getfield 43, 3) := by decide +kernel
theorem dX1_passTick_53 : decode (cr_by Y_X1_passTick) 53 = .ok (.invokevirtual 79, 3) := by decide +kernel
theorem dX1_passTick_56 : decode (cr_by Y_X1_passTick) 56 = .ok (.aload_n 0, 1) := by decide +kernel
theorem dX1_passTick_57 : decode (cr_by Y_X1_passTick) 57 = .ok (.invokevirtual 82, 3) := by decide +kernel
theorem dX1_passTick_60 : decode (cr_by Y_X1_passTick) 60 = .ok (.iload_n 1, 1) := by decide +kernel
theorem dX1_passTick_61 : decode (cr_by Y_X1_passTick) 61 = .ok (.ireturn, 1) := by decide +kernel
theorem dX1_skipQuietTicks_0 : decode (cr_by Y_X1_skipQuietTicks) 0 = .ok (.aload_n 0, 1) := by decide +kernel
theorem dX1_skipQuietTicks_1 : decode (cr_by Y_X1_skipQuietTicks) 1 = .ok (.invokevirtual 85, 3) := by decide +kernel
theorem dX1_skipQuietTicks_4 : decode (cr_by Y_X1_skipQuietTicks) 4 = .ok (.aload_n 0, 1) := by decide +kernel
theorem dX1_skipQuietTicks_5 : decode (cr_by Y_X1_skipQuietTicks) 5 = .ok (.getfield 43, 3) := by decide +kernel
theorem dX1_skipQuietTicks_8 : decode (cr_by Y_X1_skipQuietTicks) 8 = .ok (.isub, 1) := by decide +kernel
theorem dX1_skipQuietTicks_9 : decode (cr_by Y_X1_skipQuietTicks) 9 = .ok (.iconst 1, 1) := by decide +kernel
theorem dX1_skipQuietTicks_10 : decode (cr_by Y_X1_skipQuietTicks) 10 = .ok (.isub, 1) := by decide +kernel
theorem dX1_skipQuietTicks_11 : decode (cr_by Y_X1_skipQuietTicks) 11 = .ok (.istore_n 2, 1) := by decide +kernel
theorem dX1_skipQuietTicks_12 : decode (cr_by Y_X1_skipQuietTicks) 12 = .ok (.iconst 0, 1) := by decide +kernel
theorem dX1_skipQuietTicks_13 : decode (cr_by Y_X1_skipQuietTicks) 13 = .ok (.iload_n 2, 1) := by decide +kernel
theorem dX1_skipQuietTicks_14 : decode (cr_by Y_X1_skipQuietTicks) 14 = .ok (.iload_n 1, 1) := by decide +kernel
theorem dX1_skipQuietTicks_15 : decode (cr_by Y_X1_skipQuietTicks) 15 = .ok (.invokestatic 88, 3) := by decide +kernel
theorem dX1_skipQuietTicks_18 : decode (cr_by Y_X1_skipQuietTicks) 18 = .ok (.invokestatic 57, 3) := by decide +kernel
theorem dX1_skipQuietTicks_21 : decode (cr_by Y_X1_skipQuietTicks) 21 = .ok (.istore_n 3, 1) := by decide +kernel
theorem dX1_skipQuietTicks_22 : decode (cr_by Y_X1_skipQuietTicks) 22 = .ok (.aload_n 0, 1) := by decide +kernel
theorem dX1_skipQuietTicks_23 : decode (cr_by Y_X1_skipQuietTicks) 23 = .ok (.getfield 12, 3) := by decide +kernel
theorem dX1_skipQuietTicks_26 : decode (cr_by Y_X1_skipQuietTicks) 26 = .ok (.iload_n 3, 1) := by decide +kernel
theorem dX1_skipQuietTicks_27 : decode (cr_by Y_X1_skipQuietTicks) 27 = .ok (.invokevirtual 66, 3) := by decide +kernel
theorem dX1_skipQuietTicks_30 : decode (cr_by Y_X1_skipQuietTicks) 30 = .ok (.aload_n 0, 1) := by decide +kernel
theorem dX1_skipQuietTicks_31 : decode (cr_by Y_X1_skipQuietTicks) 31 = .ok (.dup, 1) := by decide +kernel
theorem dX1_skipQuietTicks_32 : decode (cr_by Y_X1_skipQuietTicks) 32 = .ok (.getfield 43, 3) := by decide +kernel
theorem dX1_skipQuietTicks_35 : decode (cr_by Y_X1_skipQuietTicks) 35 = .ok (.iload_n 3, 1) := by decide +kernel
theorem dX1_skipQuietTicks_36 : decode (cr_by Y_X1_skipQuietTicks) 36 = .ok (.iadd, 1) := by decide +kernel
theorem dX1_skipQuietTicks_37 : decode (cr_by Y_X1_skipQuietTicks) 37 = .ok (.putfield 43, 3) := by decide +kernel
theorem dX1_skipQuietTicks_40 : decode (cr_by Y_X1_skipQuietTicks) 40 = .ok (.iload_n 3, 1) := by decide +kernel
theorem dX1_skipQuietTicks_41 : decode (cr_by Y_X1_skipQuietTicks) 41 = .ok (.ireturn, 1) := by decide +kernel
theorem dX1_nextChange_0 : decode (cr_by Y_X1_nextChange) 0 = .ok (.aload_n 0, 1) := by decide +kernel
theorem dX1_nextChange_1 : decode (cr_by Y_X1_nextChange) 1 = .ok (.getfield 12, 3) := by decide +kernel
theorem dX1_nextChange_4 : decode (cr_by Y_X1_nextChange) 4 = .ok (.invokevirtual 91, 3) := by decide +kernel
theorem dX1_nextChange_7 : decode (cr_by Y_X1_nextChange) 7 = .ok (.istore_n 1, 1) := by decide +kernel
theorem dX1_nextChange_8 : decode (cr_by Y_X1_nextChange) 8 = .ok (.iconst 0, 1) := by decide +kernel
theorem dX1_nextChange_9 : decode (cr_by Y_X1_nextChange) 9 = .ok (.istore_n 2, 1) := by decide +kernel
theorem dX1_nextChange_10 : decode (cr_by Y_X1_nextChange) 10 = .ok (.iload_n 2, 1) := by decide +kernel
theorem dX1_nextChange_11 : decode (cr_by Y_X1_nextChange) 11 = .ok (.aload_n 0, 1) := by decide +kernel
theorem dX1_nextChange_12 : decode (cr_by Y_X1_nextChange) 12 = .ok (.getfield 21, 3) := by decide +kernel
theorem dX1_nextChange_15 : decode (cr_by Y_X1_nextChange) 15 = .ok (.getfield 94, 3) := by decide +kernel
theorem dX1_nextChange_18 : decode (cr_by Y_X1_nextChange) 18 = .ok (.if_icmp .ge 30, 3) := by decide +kernel
theorem dX1_nextChange_21 : decode (cr_by Y_X1_nextChange) 21 = .ok (.iload_n 1, 1) := by decide +kernel
theorem dX1_nextChange_22 : decode (cr_by Y_X1_nextChange) 22 = .ok (.aload_n 0, 1) := by decide +kernel
theorem dX1_nextChange_23 : decode (cr_by Y_X1_nextChange) 23 = .ok (.getfield 21, 3) := by decide +kernel
theorem dX1_nextChange_26 : decode (cr_by Y_X1_nextChange) 26 = .ok (.iload_n 2, 1) := by decide +kernel
theorem dX1_nextChange_27 : decode (cr_by Y_X1_nextChange) 27 = .ok (.aload_n 0, 1) := by decide +kernel
theorem dX1_nextChange_28 : decode (cr_by Y_X1_nextChange) 28 = .ok (.getfield 43, 3) := by decide +kernel
theorem dX1_nextChange_31 : decode (cr_by Y_X1_nextChange) 31 = .ok (.aload_n 0, 1) := by decide +kernel
theorem dX1_nextChange_32 : decode (cr_by Y_X1_nextChange) 32 = .ok (.getfield 32, 3) := by decide +kernel
theorem dX1_nextChange_35 : decode (cr_by Y_X1_nextChange) 35 = .ok (.invokevirtual 97, 3) := by decide +kernel
theorem dX1_nextChange_38 : decode (cr_by Y_X1_nextChange) 38 = .ok (.invokestatic 88, 3) := by decide +kernel
theorem dX1_nextChange_41 : decode (cr_by Y_X1_nextChange) 41 = .ok (.istore_n 1, 1) := by decide +kernel
theorem dX1_nextChange_42 : decode (cr_by Y_X1_nextChange) 42 = .ok (.iinc 2 1, 3) := by decide +kernel
theorem dX1_nextChange_45 : decode (cr_by Y_X1_nextChange) 45 = .ok (.goto (-35), 3) := by decide +kernel
theorem dX1_nextChange_48 : decode (cr_by Y_X1_nextChange) 48 = .ok (.iload_n 1, 1) := by decide +kernel
theorem dX1_nextChange_49 : decode (cr_by Y_X1_nextChange) 49 = .ok (.ireturn, 1) := by decide +kernel
theorem dX1_endCalls_0 : decode (cr_by Y_X1_endCalls) 0 = .ok (.iconst 0, 1) := by decide +kernel
theorem dX1_endCalls_1 : decode (cr_by Y_X1_endCalls) 1 = .ok (.istore_n 1, 1) := by decide +kernel
theorem dX1_endCalls_2 : decode (cr_by Y_X1_endCalls) 2 = .ok (.iconst 0, 1) := by decide +kernel
theorem dX1_endCalls_3 : decode (cr_by Y_X1_endCalls) 3 = .ok (.istore_n 2, 1) := by decide +kernel
theorem dX1_endCalls_4 : decode (cr_by Y_X1_endCalls) 4 = .ok (.iload_n 2, 1) := by decide +kernel
theorem dX1_endCalls_5 : decode (cr_by Y_X1_endCalls) 5 = .ok (.aload_n 0, 1) := by decide +kernel
theorem dX1_endCalls_6 : decode (cr_by Y_X1_endCalls) 6 = .ok (.getfield 21, 3) := by decide +kernel
theorem dX1_endCalls_9 : decode (cr_by Y_X1_endCalls) 9 = .ok (.getfield 94, 3) := by decide +kernel
theorem dX1_endCalls_12 : decode (cr_by Y_X1_endCalls) 12 = .ok (.if_icmp .ge 64, 3) := by decide +kernel
theorem dX1_endCalls_15 : decode (cr_by Y_X1_endCalls) 15 = .ok (.aload_n 0, 1) := by decide +kernel
theorem dX1_endCalls_16 : decode (cr_by Y_X1_endCalls) 16 = .ok (.getfield 21, 3) := by decide +kernel
theorem dX1_endCalls_19 : decode (cr_by Y_X1_endCalls) 19 = .ok (.getfield 63, 3) := by decide +kernel
theorem dX1_endCalls_22 : decode (cr_by Y_X1_endCalls) 22 = .ok (.iload_n 2, 1) := by decide +kernel
theorem dX1_endCalls_23 : decode (cr_by Y_X1_endCalls) 23 = .ok (.iaload, 1) := by decide +kernel
theorem dX1_endCalls_24 : decode (cr_by Y_X1_endCalls) 24 = .ok (.iconst 1, 1) := by decide +kernel
theorem dX1_endCalls_25 : decode (cr_by Y_X1_endCalls) 25 = .ok (.if_icmp .ne 45, 3) := by decide +kernel
theorem dX1_endCalls_28 : decode (cr_by Y_X1_endCalls) 28 = .ok (.aload_n 0, 1) := by decide +kernel
theorem dX1_endCalls_29 : decode (cr_by Y_X1_endCalls) 29 = .ok (.getfield 21, 3) := by decide +kernel
theorem dX1_endCalls_32 : decode (cr_by Y_X1_endCalls) 32 = .ok (.getfield 100, 3) := by decide +kernel
theorem dX1_endCalls_35 : decode (cr_by Y_X1_endCalls) 35 = .ok (.iload_n 2, 1) := by decide +kernel
theorem dX1_endCalls_36 : decode (cr_by Y_X1_endCalls) 36 = .ok (.iaload, 1) := by decide +kernel
theorem dX1_endCalls_37 : decode (cr_by Y_X1_endCalls) 37 = .ok (.aload_n 0, 1) := by decide +kernel
theorem dX1_endCalls_38 : decode (cr_by Y_X1_endCalls) 38 = .ok (.getfield 43, 3) := by decide +kernel
theorem dX1_endCalls_41 : decode (cr_by Y_X1_endCalls) 41 = .ok (.if_icmp .gt 29, 3) := by decide +kernel
theorem dX1_endCalls_44 : decode (cr_by Y_X1_endCalls) 44 = .ok (.aload_n 0, 1) := by decide +kernel
theorem dX1_endCalls_45 : decode (cr_by Y_X1_endCalls) 45 = .ok (.getfield 21, 3) := by decide +kernel
theorem dX1_endCalls_48 : decode (cr_by Y_X1_endCalls) 48 = .ok (.getfield 63, 3) := by decide +kernel
theorem dX1_endCalls_51 : decode (cr_by Y_X1_endCalls) 51 = .ok (.iload_n 2, 1) := by decide +kernel
theorem dX1_endCalls_52 : decode (cr_by Y_X1_endCalls) 52 = .ok (.iconst 2, 1) := by decide +kernel
theorem dX1_endCalls_53 : decode (cr_by Y_X1_endCalls) 53 = .ok (.iastore, 1) := by decide +kernel
theorem dX1_endCalls_54 : decode (cr_by Y_X1_endCalls) 54 = .ok (.aload_n 0, 1) := by decide +kernel
theorem dX1_endCalls_55 : decode (cr_by Y_X1_endCalls) 55 = .ok (.aload_n 0, 1) := by decide +kernel
theorem dX1_endCalls_56 : decode (cr_by Y_X1_endCalls) 56 = .ok (.getfield 21, 3) := by decide +kernel
theorem dX1_endCalls_59 : decode (cr_by Y_X1_endCalls) 59 = .ok (.getfield 103, 3) := by decide +kernel
theorem dX1_endCalls_62 : decode (cr_by Y_X1_endCalls) 62 = .ok (.iload_n 2, 1) := by decide +kernel
theorem dX1_endCalls_63 : decode (cr_by Y_X1_endCalls) 63 = .ok (.iaload, 1) := by decide +kernel
theorem dX1_endCalls_64 : decode (cr_by Y_X1_endCalls) 64 = .ok (.invokevirtual 106, 3) := by decide +kernel
theorem dX1_endCalls_67 : decode (cr_by Y_X1_endCalls) 67 = .ok (.iinc 1 1, 3) := by decide +kernel
theorem dX1_endCalls_70 : decode (cr_by Y_X1_endCalls) 70 = .ok (.iinc 2 1, 3) := by decide +kernel
theorem dX1_endCalls_73 : decode (cr_by Y_X1_endCalls) 73 = .ok (.goto (-69), 3) := by decide +kernel
theorem dX1_endCalls_76 : decode (cr_by Y_X1_endCalls) 76 = .ok (.iload_n 1, 1) := by decide +kernel
theorem dX1_endCalls_77 : decode (cr_by Y_X1_endCalls) 77 = .ok (.ireturn, 1) := by decide +kernel
theorem dX1_endWith_0 : decode (cr_by Y_X1_endWith) 0 = .ok (.aload_n 0, 1) := by decide +kernel
theorem dX1_endWith_1 : decode (cr_by Y_X1_endWith) 1 = .ok (.getfield 12, 3) := by decide +kernel
theorem dX1_endWith_4 : decode (cr_by Y_X1_endWith) 4 = .ok (.iload_n 1, 1) := by decide +kernel
theorem dX1_endWith_5 : decode (cr_by Y_X1_endWith) 5 = .ok (.invokevirtual 109, 3) := by decide +kernel
theorem dX1_endWith_8 : decode (cr_by Y_X1_endWith) 8 = .ok (.ifCond .eq 28, 3) := by decide +kernel
theorem dX1_endWith_11 : decode (cr_by Y_X1_endWith) 11 = .ok (.aload_n 0, 1) := by decide +kernel
theorem dX1_endWith_12 : decode (cr_by Y_X1_endWith) 12 = .ok (.getfield 12, 3) := by decide +kernel
theorem dX1_endWith_15 : decode (cr_by Y_X1_endWith) 15 = .ok (.getfield 113, 3) := by decide +kernel
theorem dX1_endWith_18 : decode (cr_by Y_X1_endWith) 18 = .ok (.iload_n 1, 1) := by decide +kernel
theorem dX1_endWith_19 : decode (cr_by Y_X1_endWith) 19 = .ok (.dup2, 1) := by decide +kernel
theorem dX1_endWith_20 : decode (cr_by Y_X1_endWith) 20 = .ok (.iaload, 1) := by decide +kernel
theorem dX1_endWith_21 : decode (cr_by Y_X1_endWith) 21 = .ok (.iconst 1, 1) := by decide +kernel
theorem dX1_endWith_22 : decode (cr_by Y_X1_endWith) 22 = .ok (.iadd, 1) := by decide +kernel
theorem dX1_endWith_23 : decode (cr_by Y_X1_endWith) 23 = .ok (.iastore, 1) := by decide +kernel
theorem dX1_endWith_24 : decode (cr_by Y_X1_endWith) 24 = .ok (.aload_n 0, 1) := by decide +kernel
theorem dX1_endWith_25 : decode (cr_by Y_X1_endWith) 25 = .ok (.getfield 12, 3) := by decide +kernel
theorem dX1_endWith_28 : decode (cr_by Y_X1_endWith) 28 = .ok (.iload_n 1, 1) := by decide +kernel
theorem dX1_endWith_29 : decode (cr_by Y_X1_endWith) 29 = .ok (.aload_n 0, 1) := by decide +kernel
theorem dX1_endWith_30 : decode (cr_by Y_X1_endWith) 30 = .ok (.getfield 43, 3) := by decide +kernel
theorem dX1_endWith_33 : decode (cr_by Y_X1_endWith) 33 = .ok (.invokevirtual 116, 3) := by decide +kernel
theorem dX1_endWith_36 : decode (cr_by Y_X1_endWith) 36 = .ok (.return_, 1) := by decide +kernel
theorem dX1_giveAll_0 : decode (cr_by Y_X1_giveAll) 0 = .ok (.iconst 0, 1) := by decide +kernel
theorem dX1_giveAll_1 : decode (cr_by Y_X1_giveAll) 1 = .ok (.istore_n 1, 1) := by decide +kernel
theorem dX1_giveAll_2 : decode (cr_by Y_X1_giveAll) 2 = .ok (.iload_n 1, 1) := by decide +kernel
theorem dX1_giveAll_3 : decode (cr_by Y_X1_giveAll) 3 = .ok (.aload_n 0, 1) := by decide +kernel
theorem dX1_giveAll_4 : decode (cr_by Y_X1_giveAll) 4 = .ok (.getfield 21, 3) := by decide +kernel
theorem dX1_giveAll_7 : decode (cr_by Y_X1_giveAll) 7 = .ok (.getfield 94, 3) := by decide +kernel
theorem dX1_giveAll_10 : decode (cr_by Y_X1_giveAll) 10 = .ok (.if_icmp .ge 54, 3) := by decide +kernel
theorem dX1_giveAll_13 : decode (cr_by Y_X1_giveAll) 13 = .ok (.aload_n 0, 1) := by decide +kernel
theorem dX1_giveAll_14 : decode (cr_by Y_X1_giveAll) 14 = .ok (.invokevirtual 120, 3) := by decide +kernel
theorem dX1_giveAll_17 : decode (cr_by Y_X1_giveAll) 17 = .ok (.istore_n 2, 1) := by decide +kernel
theorem dX1_giveAll_18 : decode (cr_by Y_X1_giveAll) 18 = .ok (.aload_n 0, 1) := by decide +kernel
theorem dX1_giveAll_19 : decode (cr_by Y_X1_giveAll) 19 = .ok (.getfield 21, 3) := by decide +kernel
theorem dX1_giveAll_22 : decode (cr_by Y_X1_giveAll) 22 = .ok (.iload_n 2, 1) := by decide +kernel
theorem dX1_giveAll_23 : decode (cr_by Y_X1_giveAll) 23 = .ok (.invokevirtual 123, 3) := by decide +kernel
theorem dX1_giveAll_26 : decode (cr_by Y_X1_giveAll) 26 = .ok (.ifCond .eq 11, 3) := by decide +kernel
theorem dX1_giveAll_29 : decode (cr_by Y_X1_giveAll) 29 = .ok (.aload_n 0, 1) := by decide +kernel
theorem dX1_giveAll_30 : decode (cr_by Y_X1_giveAll) 30 = .ok (.iload_n 2, 1) := by decide +kernel
theorem dX1_giveAll_31 : decode (cr_by Y_X1_giveAll) 31 = .ok (.invokevirtual 124, 3) := by decide +kernel
theorem dX1_giveAll_34 : decode (cr_by Y_X1_giveAll) 34 = .ok (.goto 5, 3) := by decide +kernel
theorem dX1_giveAll_37 : decode (cr_by Y_X1_giveAll) 37 = .ok (.bipush (-9), 2) := by decide +kernel
theorem dX1_giveAll_39 : decode (cr_by Y_X1_giveAll) 39 = .ok (.istore_n 3, 1) := by decide +kernel
theorem dX1_giveAll_40 : decode (cr_by Y_X1_giveAll) 40 = .ok (.aload_n 0, 1) := by decide +kernel
theorem dX1_giveAll_41 : decode (cr_by Y_X1_giveAll) 41 = .ok (.getfield 12, 3) := by decide +kernel
theorem dX1_giveAll_44 : decode (cr_by Y_X1_giveAll) 44 = .ok (.iload_n 3, 1) := by decide +kernel
theorem dX1_giveAll_45 : decode (cr_by Y_X1_giveAll) 45 = .ok (.invokevirtual 109, 3) := by decide +kernel
theorem dX1_giveAll_48 : decode (cr_by Y_X1_giveAll) 48 = .ok (.ifCond .ne 4, 3) := by decide +kernel
theorem dX1_giveAll_51 : decode (cr_by Y_X1_giveAll) 51 = .ok (.return_, 1) := by decide +kernel
theorem dX1_giveAll_52 : decode (cr_by Y_X1_giveAll) 52 = .ok (.aload_n 0, 1) := by decide +kernel
theorem dX1_giveAll_53 : decode (cr_by Y_X1_giveAll) 53 = .ok (.iload_n 2, 1) := by decide +kernel
theorem dX1_giveAll_54 : decode (cr_by Y_X1_giveAll) 54 = .ok (.iload_n 3, 1) := by decide +kernel
theorem dX1_giveAll_55 : decode (cr_by Y_X1_giveAll) 55 = .ok (.invokevirtual 127, 3) := by decide +kernel
theorem dX1_giveAll_58 : decode (cr_by Y_X1_giveAll) 58 = .ok (.iinc 1 1, 3) := by decide +kernel
theorem dX1_giveAll_61 : decode (cr_by Y_X1_giveAll) 61 = .ok (.goto (-59), 3) := by decide +kernel
theorem dX1_giveAll_64 : decode (cr_by Y_X1_giveAll) 64 = .ok (.return_, 1) := by decide +kernel
theorem dX1_give_0 : decode (cr_by Y_X1_give) 0 = .ok (.aload_n 0, 1) := by decide +kernel
theorem dX1_give_1 : decode (cr_by Y_X1_give) 1 = .ok (.getfield 21, 3) := by decide +kernel
theorem dX1_give_4 : decode (cr_by Y_X1_give) 4 = .ok (.getfield 130, 3) := by decide +kernel
theorem dX1_give_7 : decode (cr_by Y_X1_give) 7 = .ok (.iload_n 1, 1) := by decide +kernel
theorem dX1_give_8 : decode (cr_by Y_X1_give) 8 = .ok (.iaload, 1) := by decide +kernel
theorem dX1_give_9 : decode (cr_by Y_X1_give) 9 = .ok (.iconst 5, 1) := by decide +kernel
theorem dX1_give_10 : decode (cr_by Y_X1_give) 10 = .ok (.aload_n 0, 1) := by decide +kernel
theorem dX1_give_11 : decode (cr_by Y_X1_give) 11 = .ok (.getfield 12, 3) := by decide +kernel
theorem dX1_give_14 : decode (cr_by Y_X1_give) 14 = .ok (.iload_n 2, 1) := by decide +kernel
theorem dX1_give_15 : decode (cr_by Y_X1_give) 15 = .ok (.aload_n 0, 1) := by decide +kernel
theorem dX1_give_16 : decode (cr_by Y_X1_give) 16 = .ok (.getfield 21, 3) := by decide +kernel
theorem dX1_give_19 : decode (cr_by Y_X1_give) 19 = .ok (.getfield 133, 3) := by decide +kernel
theorem dX1_give_22 : decode (cr_by Y_X1_give) 22 = .ok (.iload_n 1, 1) := by decide +kernel
theorem dX1_give_23 : decode (cr_by Y_X1_give) 23 = .ok (.iaload, 1) := by decide +kernel
theorem dX1_give_24 : decode (cr_by Y_X1_give) 24 = .ok (.invokevirtual 136, 3) := by decide +kernel
theorem dX1_give_27 : decode (cr_by Y_X1_give) 27 = .ok (.isub, 1) := by decide +kernel
theorem dX1_give_28 : decode (cr_by Y_X1_give) 28 = .ok (.imul, 1) := by decide +kernel
theorem dX1_give_29 : decode (cr_by Y_X1_give) 29 = .ok (.istore_n 3, 1) := by decide +kernel
theorem dX1_give_30 : decode (cr_by Y_X1_give) 30 = .ok (.aload_n 0, 1) := by decide +kernel
theorem dX1_give_31 : decode (cr_by Y_X1_give) 31 = .ok (.getfield 21, 3) := by decide +kernel
theorem dX1_give_34 : decode (cr_by Y_X1_give) 34 = .ok (.iload_n 1, 1) := by decide +kernel
theorem dX1_give_35 : decode (cr_by Y_X1_give) 35 = .ok (.iload_n 2, 1) := by decide +kernel
theorem dX1_give_36 : decode (cr_by Y_X1_give) 36 = .ok (.aload_n 0, 1) := by decide +kernel
theorem dX1_give_37 : decode (cr_by Y_X1_give) 37 = .ok (.getfield 43, 3) := by decide +kernel
theorem dX1_give_40 : decode (cr_by Y_X1_give) 40 = .ok (.aload_n 0, 1) := by decide +kernel
theorem dX1_give_41 : decode (cr_by Y_X1_give) 41 = .ok (.getfield 43, 3) := by decide +kernel
theorem dX1_give_44 : decode (cr_by Y_X1_give) 44 = .ok (.iload_n 3, 1) := by decide +kernel
theorem dX1_give_45 : decode (cr_by Y_X1_give) 45 = .ok (.iconst 3, 1) := by decide +kernel
theorem dX1_give_46 : decode (cr_by Y_X1_give) 46 = .ok (.iadd, 1) := by decide +kernel
theorem dX1_give_47 : decode (cr_by Y_X1_give) 47 = .ok (.iconst 4, 1) := by decide +kernel
theorem dX1_give_48 : decode (cr_by Y_X1_give) 48 = .ok (.idiv, 1) := by decide +kernel
theorem dX1_give_49 : decode (cr_by Y_X1_give) 49 = .ok (.iadd, 1) := by decide +kernel
theorem dX1_give_50 : decode (cr_by Y_X1_give) 50 = .ok (.invokevirtual 139, 3) := by decide +kernel
theorem dX1_give_53 : decode (cr_by Y_X1_give) 53 = .ok (.aload_n 0, 1) := by decide +kernel
theorem dX1_give_54 : decode (cr_by Y_X1_give) 54 = .ok (.getfield 12, 3) := by decide +kernel
theorem dX1_give_57 : decode (cr_by Y_X1_give) 57 = .ok (.iload_n 2, 1) := by decide +kernel
theorem dX1_give_58 : decode (cr_by Y_X1_give) 58 = .ok (.aload_n 0, 1) := by decide +kernel
theorem dX1_give_59 : decode (cr_by Y_X1_give) 59 = .ok (.getfield 21, 3) := by decide +kernel
theorem dX1_give_62 : decode (cr_by Y_X1_give) 62 = .ok (.getfield 143, 3) := by decide +kernel
theorem dX1_give_65 : decode (cr_by Y_X1_give) 65 = .ok (.iload_n 1, 1) := by decide +kernel
theorem dX1_give_66 : decode (cr_by Y_X1_give) 66 = .ok (.iaload, 1) := by decide +kernel
theorem dX1_give_67 : decode (cr_by Y_X1_give) 67 = .ok (.aload_n 0, 1) := by decide +kernel
theorem dX1_give_68 : decode (cr_by Y_X1_give) 68 = .ok (.getfield 43, 3) := by decide +kernel
theorem dX1_give_71 : decode (cr_by Y_X1_give) 71 = .ok (.invokevirtual 146, 3) := by decide +kernel
theorem dX1_give_74 : decode (cr_by Y_X1_give) 74 = .ok (.return_, 1) := by decide +kernel
theorem dX1_nextToGive_0 : decode (cr_by Y_X1_nextToGive) 0 = .ok (.bipush (-9), 2) := by decide +kernel
theorem dX1_nextToGive_2 : decode (cr_by Y_X1_nextToGive) 2 = .ok (.istore_n 1, 1) := by decide +kernel
theorem dX1_nextToGive_3 : decode (cr_by Y_X1_nextToGive) 3 = .ok (.aload_n 0, 1) := by decide +kernel
theorem dX1_nextToGive_4 : decode (cr_by Y_X1_nextToGive) 4 = .ok (.invokevirtual 150, 3) := by decide +kernel
theorem dX1_nextToGive_7 : decode (cr_by Y_X1_nextToGive) 7 = .ok (.ifCond .ne 5, 3) := by decide +kernel
theorem dX1_nextToGive_10 : decode (cr_by Y_X1_nextToGive) 10 = .ok (.iload_n 1, 1) := by decide +kernel
theorem dX1_nextToGive_11 : decode (cr_by Y_X1_nextToGive) 11 = .ok (.ireturn, 1) := by decide +kernel
theorem dX1_nextToGive_12 : decode (cr_by Y_X1_nextToGive) 12 = .ok (.iconst 0, 1) := by decide +kernel
theorem dX1_nextToGive_13 : decode (cr_by Y_X1_nextToGive) 13 = .ok (.istore_n 2, 1) := by decide +kernel
theorem dX1_nextToGive_14 : decode (cr_by Y_X1_nextToGive) 14 = .ok (.iconst 0, 1) := by decide +kernel
theorem dX1_nextToGive_15 : decode (cr_by Y_X1_nextToGive) 15 = .ok (.istore_n 3, 1) := by decide +kernel
theorem dX1_nextToGive_16 : decode (cr_by Y_X1_nextToGive) 16 = .ok (.iload_n 3, 1) := by decide +kernel
theorem dX1_nextToGive_17 : decode (cr_by Y_X1_nextToGive) 17 = .ok (.aload_n 0, 1) := by decide +kernel
theorem dX1_nextToGive_18 : decode (cr_by Y_X1_nextToGive) 18 = .ok (.getfield 21, 3) := by decide +kernel
theorem dX1_nextToGive_21 : decode (cr_by Y_X1_nextToGive) 21 = .ok (.getfield 94, 3) := by decide +kernel
theorem dX1_nextToGive_24 : decode (cr_by Y_X1_nextToGive) 24 = .ok (.if_icmp .ge 56, 3) := by decide +kernel
theorem dX1_nextToGive_27 : decode (cr_by Y_X1_nextToGive) 27 = .ok (.aload_n 0, 1) := by decide +kernel
theorem dX1_nextToGive_28 : decode (cr_by Y_X1_nextToGive) 28 = .ok (.getfield 21, 3) := by decide +kernel
theorem dX1_nextToGive_31 : decode (cr_by Y_X1_nextToGive) 31 = .ok (.getfield 63, 3) := by decide +kernel
theorem dX1_nextToGive_34 : decode (cr_by Y_X1_nextToGive) 34 = .ok (.iload_n 3, 1) := by decide +kernel
theorem dX1_nextToGive_35 : decode (cr_by Y_X1_nextToGive) 35 = .ok (.iaload, 1) := by decide +kernel
theorem dX1_nextToGive_36 : decode (cr_by Y_X1_nextToGive) 36 = .ok (.ifCond .ne 38, 3) := by decide +kernel
theorem dX1_nextToGive_39 : decode (cr_by Y_X1_nextToGive) 39 = .ok (.aload_n 0, 1) := by decide +kernel
theorem dX1_nextToGive_40 : decode (cr_by Y_X1_nextToGive) 40 = .ok (.iload_n 3, 1) := by decide +kernel
theorem dX1_nextToGive_41 : decode (cr_by Y_X1_nextToGive) 41 = .ok (.invokevirtual 153, 3) := by decide +kernel
theorem dX1_nextToGive_44 : decode (cr_by Y_X1_nextToGive) 44 = .ok (.ifCond .ne 6, 3) := by decide +kernel
theorem dX1_nextToGive_47 : decode (cr_by Y_X1_nextToGive) 47 = .ok (.goto 27, 3) := by decide +kernel
theorem dX1_nextToGive_50 : decode (cr_by Y_X1_nextToGive) 50 = .ok (.aload_n 0, 1) := by decide +kernel
theorem dX1_nextToGive_51 : decode (cr_by Y_X1_nextToGive) 51 = .ok (.iload_n 3, 1) := by decide +kernel
theorem dX1_nextToGive_52 : decode (cr_by Y_X1_nextToGive) 52 = .ok (.invokevirtual 156, 3) := by decide +kernel
theorem dX1_nextToGive_55 : decode (cr_by Y_X1_nextToGive) 55 = .ok (.istore 4, 2) := by decide +kernel
theorem dX1_nextToGive_57 : decode (cr_by Y_X1_nextToGive) 57 = .ok (.iload_n 1, 1) := by decide +kernel
theorem dX1_nextToGive_58 : decode (cr_by Y_X1_nextToGive) 58 = .ok (.bipush (-9), 2) := by decide +kernel
theorem dX1_nextToGive_60 : decode (cr_by Y_X1_nextToGive) 60 = .ok (.if_icmp .eq 9, 3) := by decide +kernel
theorem dX1_nextToGive_63 : decode (cr_by Y_X1_nextToGive) 63 = .ok (.iload 4, 2) := by decide +kernel
theorem dX1_nextToGive_65 : decode (cr_by Y_X1_nextToGive) 65 = .ok (.iload_n 2, 1) := by decide +kernel
theorem dX1_nextToGive_66 : decode (cr_by Y_X1_nextToGive) 66 = .ok (.if_icmp .ge 8, 3) := by decide +kernel
theorem dX1_nextToGive_69 : decode (cr_by Y_X1_nextToGive) 69 = .ok (.iload_n 3, 1) := by decide +kernel
theorem dX1_nextToGive_70 : decode (cr_by Y_X1_nextToGive) 70 = .ok (.istore_n 1, 1) := by decide +kernel
theorem dX1_nextToGive_71 : decode (cr_by Y_X1_nextToGive) 71 = .ok (.iload 4, 2) := by decide +kernel
theorem dX1_nextToGive_73 : decode (cr_by Y_X1_nextToGive) 73 = .ok (.istore_n 2, 1) := by decide +kernel
theorem dX1_nextToGive_74 : decode (cr_by Y_X1_nextToGive) 74 = .ok (.iinc 3 1, 3) := by decide +kernel
theorem dX1_nextToGive_77 : decode (cr_by Y_X1_nextToGive) 77 = .ok (.goto (-61), 3) := by decide +kernel
theorem dX1_nextToGive_80 : decode (cr_by Y_X1_nextToGive) 80 = .ok (.iload_n 1, 1) := by decide +kernel
theorem dX1_nextToGive_81 : decode (cr_by Y_X1_nextToGive) 81 = .ok (.ireturn, 1) := by decide +kernel
theorem dX1_rankOf_0 : decode (cr_by Y_X1_rankOf) 0 = .ok (.aload_n 0, 1) := by decide +kernel
theorem dX1_rankOf_1 : decode (cr_by Y_X1_rankOf) 1 = .ok (.getfield 46, 3) := by decide +kernel
theorem dX1_rankOf_4 : decode (cr_by Y_X1_rankOf) 4 = .ok (.tableswitch 82 1 3 #[28, 47, 62], 28) := by decide +kernel
theorem dX1_rankOf_32 : decode (cr_by Y_X1_rankOf) 32 = .ok (.aload_n 0, 1) := by decide +kernel
theorem dX1_rankOf_33 : decode (cr_by Y_X1_rankOf) 33 = .ok (.getfield 21, 3) := by decide +kernel
theorem dX1_rankOf_36 : decode (cr_by Y_X1_rankOf) 36 = .ok (.getfield 143, 3) := by decide +kernel
theorem dX1_rankOf_39 : decode (cr_by Y_X1_rankOf) 39 = .ok (.iload_n 1, 1) := by decide +kernel
theorem dX1_rankOf_40 : decode (cr_by Y_X1_rankOf) 40 = .ok (.iaload, 1) := by decide +kernel
theorem dX1_rankOf_41 : decode (cr_by Y_X1_rankOf) 41 = .ok (.iconst 2, 1) := by decide +kernel
theorem dX1_rankOf_42 : decode (cr_by Y_X1_rankOf) 42 = .ok (.if_icmp .ne 7, 3) := by decide +kernel
theorem dX1_rankOf_45 : decode (cr_by Y_X1_rankOf) 45 = .ok (.iconst 0, 1) := by decide +kernel
theorem dX1_rankOf_46 : decode (cr_by Y_X1_rankOf) 46 = .ok (.goto 4, 3) := by decide +kernel
theorem dX1_rankOf_49 : decode (cr_by Y_X1_rankOf) 49 = .ok (.iconst 1, 1) := by decide +kernel
theorem dX1_rankOf_50 : decode (cr_by Y_X1_rankOf) 50 = .ok (.ireturn, 1) := by decide +kernel
theorem dX1_rankOf_51 : decode (cr_by Y_X1_rankOf) 51 = .ok (.aload_n 0, 1) := by decide +kernel
theorem dX1_rankOf_52 : decode (cr_by Y_X1_rankOf) 52 = .ok (.getfield 25, 3) := by decide +kernel
theorem dX1_rankOf_55 : decode (cr_by Y_X1_rankOf) 55 = .ok (.aload_n 0, 1) := by decide +kernel
theorem dX1_rankOf_56 : decode (cr_by Y_X1_rankOf) 56 = .ok (.getfield 21, 3) := by decide +kernel
theorem dX1_rankOf_59 : decode (cr_by Y_X1_rankOf) 59 = .ok (.getfield 133, 3) := by decide +kernel
theorem dX1_rankOf_62 : decode (cr_by Y_X1_rankOf) 62 = .ok (.iload_n 1, 1) := by decide +kernel
theorem dX1_rankOf_63 : decode (cr_by Y_X1_rankOf) 63 = .ok (.iaload, 1) := by decide +kernel
theorem dX1_rankOf_64 : decode (cr_by Y_X1_rankOf) 64 = .ok (.iaload, 1) := by decide +kernel
theorem dX1_rankOf_65 : decode (cr_by Y_X1_rankOf) 65 = .ok (.ireturn, 1) := by decide +kernel
theorem dX1_rankOf_66 : decode (cr_by Y_X1_rankOf) 66 = .ok (.aload_n 0, 1) := by decide +kernel
theorem dX1_rankOf_67 : decode (cr_by Y_X1_rankOf) 67 = .ok (.getfield 21, 3) := by decide +kernel
theorem dX1_rankOf_70 : decode (cr_by Y_X1_rankOf) 70 = .ok (.getfield 159, 3) := by decide +kernel
theorem dX1_rankOf_73 : decode (cr_by Y_X1_rankOf) 73 = .ok (.iload_n 1, 1) := by decide +kernel
theorem dX1_rankOf_74 : decode (cr_by Y_X1_rankOf) 74 = .ok (.iaload, 1) := by decide +kernel
theorem dX1_rankOf_75 : decode (cr_by Y_X1_rankOf) 75 = .ok (.aload_n 0, 1) := by decide +kernel
theorem dX1_rankOf_76 : decode (cr_by Y_X1_rankOf) 76 = .ok (.getfield 21, 3) := by decide +kernel
theorem dX1_rankOf_79 : decode (cr_by Y_X1_rankOf) 79 = .ok (.getfield 162, 3) := by decide +kernel
theorem dX1_rankOf_82 : decode (cr_by Y_X1_rankOf) 82 = .ok (.iload_n 1, 1) := by decide +kernel
theorem dX1_rankOf_83 : decode (cr_by Y_X1_rankOf) 83 = .ok (.iaload, 1) := by decide +kernel
theorem dX1_rankOf_84 : decode (cr_by Y_X1_rankOf) 84 = .ok (.iadd, 1) := by decide +kernel
theorem dX1_rankOf_85 : decode (cr_by Y_X1_rankOf) 85 = .ok (.ireturn, 1) := by decide +kernel
theorem dX1_rankOf_86 : decode (cr_by Y_X1_rankOf) 86 = .ok (.iconst 0, 1) := by decide +kernel
theorem dX1_rankOf_87 : decode (cr_by Y_X1_rankOf) 87 = .ok (.ireturn, 1) := by decide +kernel
theorem dX1_countTakers_0 : decode (cr_by Y_X1_countTakers) 0 = .ok (.iconst 0, 1) := by decide +kernel
theorem dX1_countTakers_1 : decode (cr_by Y_X1_countTakers) 1 = .ok (.istore_n 1, 1) := by decide +kernel
theorem dX1_countTakers_2 : decode (cr_by Y_X1_countTakers) 2 = .ok (.iconst 0, 1) := by decide +kernel
theorem dX1_countTakers_3 : decode (cr_by Y_X1_countTakers) 3 = .ok (.istore_n 2, 1) := by decide +kernel
theorem dX1_countTakers_4 : decode (cr_by Y_X1_countTakers) 4 = .ok (.iload_n 2, 1) := by decide +kernel
theorem dX1_countTakers_5 : decode (cr_by Y_X1_countTakers) 5 = .ok (.iconst 4, 1) := by decide +kernel
theorem dX1_countTakers_6 : decode (cr_by Y_X1_countTakers) 6 = .ok (.if_icmp .ge 107, 3) := by decide +kernel
theorem dX1_countTakers_9 : decode (cr_by Y_X1_countTakers) 9 = .ok (.aload_n 0, 1) := by decide +kernel
theorem dX1_countTakers_10 : decode (cr_by Y_X1_countTakers) 10 = .ok (.getfield 25, 3) := by decide +kernel
theorem dX1_countTakers_13 : decode (cr_by Y_X1_countTakers) 13 = .ok (.iload_n 2, 1) := by decide +kernel
theorem dX1_countTakers_14 : decode (cr_by Y_X1_countTakers) 14 = .ok (.iconst 0, 1) := by decide +kernel
theorem dX1_countTakers_15 : decode (cr_by Y_X1_countTakers) 15 = .ok (.iastore, 1) := by decide +kernel
theorem dX1_countTakers_16 : decode (cr_by Y_X1_countTakers) 16 = .ok (.aload_n 0, 1) := by decide +kernel
theorem dX1_countTakers_17 : decode (cr_by Y_X1_countTakers) 17 = .ok (.getfield 29, 3) := by decide +kernel
theorem dX1_countTakers_20 : decode (cr_by Y_X1_countTakers) 20 = .ok (.iload_n 2, 1) := by decide +kernel
theorem dX1_countTakers_21 : decode (cr_by Y_X1_countTakers) 21 = .ok (.iconst 0, 1) := by decide +kernel
theorem dX1_countTakers_22 : decode (cr_by Y_X1_countTakers) 22 = .ok (.iastore, 1) := by decide +kernel
theorem dX1_countTakers_23 : decode (cr_by Y_X1_countTakers) 23 = .ok (.iconst 0, 1) := by decide +kernel
theorem dX1_countTakers_24 : decode (cr_by Y_X1_countTakers) 24 = .ok (.istore_n 3, 1) := by decide +kernel
theorem dX1_countTakers_25 : decode (cr_by Y_X1_countTakers) 25 = .ok (.iload_n 3, 1) := by decide +kernel
theorem dX1_countTakers_26 : decode (cr_by Y_X1_countTakers) 26 = .ok (.aload_n 0, 1) := by decide +kernel
theorem dX1_countTakers_27 : decode (cr_by Y_X1_countTakers) 27 = .ok (.getfield 12, 3) := by decide +kernel
theorem dX1_countTakers_30 : decode (cr_by Y_X1_countTakers) 30 = .ok (.getfield 165, 3) := by decide +kernel
theorem dX1_countTakers_33 : decode (cr_by Y_X1_countTakers) 33 = .ok (.if_icmp .ge 58, 3) := by decide +kernel
theorem dX1_countTakers_36 : decode (cr_by Y_X1_countTakers) 36 = .ok (.aload_n 0, 1) := by decide +kernel
theorem dX1_countTakers_37 : decode (cr_by Y_X1_countTakers) 37 = .ok (.getfield 12, 3) := by decide +kernel
theorem dX1_countTakers_40 : decode (cr_by Y_X1_countTakers) 40 = .ok (.iload_n 3, 1) := by decide +kernel
theorem dX1_countTakers_41 : decode (cr_by Y_X1_countTakers) 41 = .ok (.iload_n 2, 1) := by decide +kernel
theorem dX1_countTakers_42 : decode (cr_by Y_X1_countTakers) 42 = .ok (.iconst 0, 1) := by decide +kernel
theorem dX1_countTakers_43 : decode (cr_by Y_X1_countTakers) 43 = .ok (.invokevirtual 166, 3) := by decide +kernel
theorem dX1_countTakers_46 : decode (cr_by Y_X1_countTakers) 46 = .ok (.ifCond .eq 16, 3) := by decide +kernel
theorem dX1_countTakers_49 : decode (cr_by Y_X1_countTakers) 49 = .ok (.aload_n 0, 1) := by decide +kernel
theorem dX1_countTakers_50 : decode (cr_by Y_X1_countTakers) 50 = .ok (.getfield 25, 3) := by decide +kernel
theorem dX1_countTakers_53 : decode (cr_by Y_X1_countTakers) 53 = .ok (.iload_n 2, 1) := by decide +kernel
theorem dX1_countTakers_54 : decode (cr_by Y_X1_countTakers) 54 = .ok (.dup2, 1) := by decide +kernel
theorem dX1_countTakers_55 : decode (cr_by Y_X1_countTakers) 55 = .ok (.iaload, 1) := by decide +kernel
theorem dX1_countTakers_56 : decode (cr_by Y_X1_countTakers) 56 = .ok (.iconst 1, 1) := by decide +kernel
theorem dX1_countTakers_57 : decode (cr_by Y_X1_countTakers) 57 = .ok (.iadd, 1) := by decide +kernel
theorem dX1_countTakers_58 : decode (cr_by Y_X1_countTakers) 58 = .ok (.iastore, 1) := by decide +kernel
theorem dX1_countTakers_59 : decode (cr_by Y_X1_countTakers) 59 = .ok (.goto 26, 3) := by decide +kernel
theorem dX1_countTakers_62 : decode (cr_by Y_X1_countTakers) 62 = .ok (.aload_n 0, 1) := by decide +kernel
theorem dX1_countTakers_63 : decode (cr_by Y_X1_countTakers) 63 = .ok (.getfield 12, 3) := by decide +kernel
theorem dX1_countTakers_66 : decode (cr_by Y_X1_countTakers) 66 = .ok (.iload_n 3, 1) := by decide +kernel
theorem dX1_countTakers_67 : decode (cr_by Y_X1_countTakers) 67 = .ok (.iload_n 2, 1) := by decide +kernel
theorem dX1_countTakers_68 : decode (cr_by Y_X1_countTakers) 68 = .ok (.iconst 1, 1) := by decide +kernel
theorem dX1_countTakers_69 : decode (cr_by Y_X1_countTakers) 69 = .ok (.invokevirtual 166, 3) := by decide +kernel
theorem dX1_countTakers_72 : decode (cr_by Y_X1_countTakers) 72 = .ok (.ifCond .eq 13, 3) := by decide +kernel
theorem dX1_countTakers_75 : decode (cr_by Y_X1_countTakers) 75 = .ok (.aload_n 0, 1) := by decide +kernel
theorem dX1_countTakers_76 : decode (cr_by Y_X1_countTakers) 76 = .ok (.getfield 29, 3) := by decide +kernel
theorem dX1_countTakers_79 : decode (cr_by Y_X1_countTakers) 79 = .ok (.iload_n 2, 1) := by decide +kernel
theorem dX1_countTakers_80 : decode (cr_by Y_X1_countTakers) 80 = .ok (.dup2, 1) := by decide +kernel
theorem dX1_countTakers_81 : decode (cr_by Y_X1_countTakers) 81 = .ok (.iaload, 1) := by decide +kernel
theorem dX1_countTakers_82 : decode (cr_by Y_X1_countTakers) 82 = .ok (.iconst 1, 1) := by decide +kernel
theorem dX1_countTakers_83 : decode (cr_by Y_X1_countTakers) 83 = .ok (.iadd, 1) := by decide +kernel
theorem dX1_countTakers_84 : decode (cr_by Y_X1_countTakers) 84 = .ok (.iastore, 1) := by decide +kernel
theorem dX1_countTakers_85 : decode (cr_by Y_X1_countTakers) 85 = .ok (.iinc 3 1, 3) := by decide +kernel
theorem dX1_countTakers_88 : decode (cr_by Y_X1_countTakers) 88 = .ok (.goto (-63), 3) := by decide +kernel
theorem dX1_countTakers_91 : decode (cr_by Y_X1_countTakers) 91 = .ok (.iload_n 1, 1) := by decide +kernel
theorem dX1_countTakers_92 : decode (cr_by Y_X1_countTakers) 92 = .ok (.aload_n 0, 1) := by decide +kernel
theorem dX1_countTakers_93 : decode (cr_by Y_X1_countTakers) 93 = .ok (.getfield 25, 3) := by decide +kernel
theorem dX1_countTakers_96 : decode (cr_by Y_X1_countTakers) 96 = .ok (.iload_n 2, 1) := by decide +kernel
theorem dX1_countTakers_97 : decode (cr_by Y_X1_countTakers) 97 = .ok (.iaload, 1) := by decide +kernel
theorem dX1_countTakers_98 : decode (cr_by Y_X1_countTakers) 98 = .ok (.aload_n 0, 1) := by decide +kernel
theorem dX1_countTakers_99 : decode (cr_by Y_X1_countTakers) 99 = .ok (.getfield 29, 3) := by decide +kernel
theorem dX1_countTakers_102 : decode (cr_by Y_X1_countTakers) 102 = .ok (.iload_n 2, 1) := by decide +kernel
theorem dX1_countTakers_103 : decode (cr_by Y_X1_countTakers) 103 = .ok (.iaload, 1) := by decide +kernel
theorem dX1_countTakers_104 : decode (cr_by Y_X1_countTakers) 104 = .ok (.iadd, 1) := by decide +kernel
theorem dX1_countTakers_105 : decode (cr_by Y_X1_countTakers) 105 = .ok (.iadd, 1) := by decide +kernel
theorem dX1_countTakers_106 : decode (cr_by Y_X1_countTakers) 106 = .ok (.istore_n 1, 1) := by decide +kernel
theorem dX1_countTakers_107 : decode (cr_by Y_X1_countTakers) 107 = .ok (.iinc 2 1, 3) := by decide +kernel
theorem dX1_countTakers_110 : decode (cr_by Y_X1_countTakers) 110 = .ok (.goto (-106), 3) := by decide +kernel
theorem dX1_countTakers_113 : decode (cr_by Y_X1_countTakers) 113 = .ok (.iload_n 1, 1) := by decide +kernel
theorem dX1_countTakers_114 : decode (cr_by Y_X1_countTakers) 114 = .ok (.ireturn, 1) := by decide +kernel
theorem dX1_isTakeable_0 : decode (cr_by Y_X1_isTakeable) 0 = .ok (.aload_n 0, 1) := by decide +kernel
theorem dX1_isTakeable_1 : decode (cr_by Y_X1_isTakeable) 1 = .ok (.getfield 21, 3) := by decide +kernel
theorem dX1_isTakeable_4 : decode (cr_by Y_X1_isTakeable) 4 = .ok (.getfield 133, 3) := by decide +kernel
theorem dX1_isTakeable_7 : decode (cr_by Y_X1_isTakeable) 7 = .ok (.iload_n 1, 1) := by decide +kernel
theorem dX1_isTakeable_8 : decode (cr_by Y_X1_isTakeable) 8 = .ok (.iaload, 1) := by decide +kernel
theorem dX1_isTakeable_9 : decode (cr_by Y_X1_isTakeable) 9 = .ok (.istore_n 2, 1) := by decide +kernel
theorem dX1_isTakeable_10 : decode (cr_by Y_X1_isTakeable) 10 = .ok (.aload_n 0, 1) := by decide +kernel
theorem dX1_isTakeable_11 : decode (cr_by Y_X1_isTakeable) 11 = .ok (.iload_n 1, 1) := by decide +kernel
theorem dX1_isTakeable_12 : decode (cr_by Y_X1_isTakeable) 12 = .ok (.invokevirtual 170, 3) := by decide +kernel
theorem dX1_isTakeable_15 : decode (cr_by Y_X1_isTakeable) 15 = .ok (.ifCond .eq 22, 3) := by decide +kernel
theorem dX1_isTakeable_18 : decode (cr_by Y_X1_isTakeable) 18 = .ok (.aload_n 0, 1) := by decide +kernel
theorem dX1_isTakeable_19 : decode (cr_by Y_X1_isTakeable) 19 = .ok (.getfield 12, 3) := by decide +kernel
theorem dX1_isTakeable_22 : decode (cr_by Y_X1_isTakeable) 22 = .ok (.aload_n 0, 1) := by decide +kernel
theorem dX1_isTakeable_23 : decode (cr_by Y_X1_isTakeable) 23 = .ok (.getfield 21, 3) := by decide +kernel
theorem dX1_isTakeable_26 : decode (cr_by Y_X1_isTakeable) 26 = .ok (.getfield 173, 3) := by decide +kernel
theorem dX1_isTakeable_29 : decode (cr_by Y_X1_isTakeable) 29 = .ok (.iload_n 1, 1) := by decide +kernel
theorem dX1_isTakeable_30 : decode (cr_by Y_X1_isTakeable) 30 = .ok (.iaload, 1) := by decide +kernel
theorem dX1_isTakeable_31 : decode (cr_by Y_X1_isTakeable) 31 = .ok (.iload_n 2, 1) := by decide +kernel
theorem dX1_isTakeable_32 : decode (cr_by Y_X1_isTakeable) 32 = .ok (.iconst 0, 1) := by decide +kernel
theorem dX1_isTakeable_33 : decode (cr_by Y_X1_isTakeable) 33 = .ok (.invokevirtual 166, 3) := by decide +kernel
theorem dX1_isTakeable_36 : decode (cr_by Y_X1_isTakeable) 36 = .ok (.ireturn, 1) := by decide +kernel
theorem dX1_isTakeable_37 : decode (cr_by Y_X1_isTakeable) 37 = .ok (.aload_n 0, 1) := by decide +kernel
theorem dX1_isTakeable_38 : decode (cr_by Y_X1_isTakeable) 38 = .ok (.getfield 25, 3) := by decide +kernel
theorem dX1_isTakeable_41 : decode (cr_by Y_X1_isTakeable) 41 = .ok (.iload_n 2, 1) := by decide +kernel
theorem dX1_isTakeable_42 : decode (cr_by Y_X1_isTakeable) 42 = .ok (.iaload, 1) := by decide +kernel
theorem dX1_isTakeable_43 : decode (cr_by Y_X1_isTakeable) 43 = .ok (.ifCond .gt 25, 3) := by decide +kernel
theorem dX1_isTakeable_46 : decode (cr_by Y_X1_isTakeable) 46 = .ok (.aload_n 0, 1) := by decide +kernel
theorem dX1_isTakeable_47 : decode (cr_by Y_X1_isTakeable) 47 = .ok (.getfield 21, 3) := by decide +kernel
theorem dX1_isTakeable_50 : decode (cr_by Y_X1_isTakeable) 50 = .ok (.getfield 143, 3) := by decide +kernel
theorem dX1_isTakeable_53 : decode (cr_by Y_X1_isTakeable) 53 = .ok (.iload_n 1, 1) := by decide +kernel
theorem dX1_isTakeable_54 : decode (cr_by Y_X1_isTakeable) 54 = .ok (.iaload, 1) := by decide +kernel
theorem dX1_isTakeable_55 : decode (cr_by Y_X1_isTakeable) 55 = .ok (.iconst 3, 1) := by decide +kernel
theorem dX1_isTakeable_56 : decode (cr_by Y_X1_isTakeable) 56 = .ok (.if_icmp .ne 16, 3) := by decide +kernel
theorem dX1_isTakeable_59 : decode (cr_by Y_X1_isTakeable) 59 = .ok (.aload_n 0, 1) := by decide +kernel
theorem dX1_isTakeable_60 : decode (cr_by Y_X1_isTakeable) 60 = .ok (.getfield 29, 3) := by decide +kernel
theorem dX1_isTakeable_63 : decode (cr_by Y_X1_isTakeable) 63 = .ok (.iload_n 2, 1) := by decide +kernel
theorem dX1_isTakeable_64 : decode (cr_by Y_X1_isTakeable) 64 = .ok (.iaload, 1) := by decide +kernel
theorem dX1_isTakeable_65 : decode (cr_by Y_X1_isTakeable) 65 = .ok (.ifCond .le 7, 3) := by decide +kernel
theorem dX1_isTakeable_68 : decode (cr_by Y_X1_isTakeable) 68 = .ok (.iconst 1, 1) := by decide +kernel
theorem dX1_isTakeable_69 : decode (cr_by Y_X1_isTakeable) 69 = .ok (.goto 4, 3) := by decide +kernel
theorem dX1_isTakeable_72 : decode (cr_by Y_X1_isTakeable) 72 = .ok (.iconst 0, 1) := by decide +kernel
theorem dX1_isTakeable_73 : decode (cr_by Y_X1_isTakeable) 73 = .ok (.ireturn, 1) := by decide +kernel
theorem dX1_isKeptForOwn_0 : decode (cr_by Y_X1_isKeptForOwn) 0 = .ok (.aload_n 0, 1) := by decide +kernel
theorem dX1_isKeptForOwn_1 : decode (cr_by Y_X1_isKeptForOwn) 1 = .ok (.getfield 21, 3) := by decide +kernel
theorem dX1_isKeptForOwn_4 : decode (cr_by Y_X1_isKeptForOwn) 4 = .ok (.getfield 143, 3) := by decide +kernel
theorem dX1_isKeptForOwn_7 : decode (cr_by Y_X1_isKeptForOwn) 7 = .ok (.iload_n 1, 1) := by decide +kernel
theorem dX1_isKeptForOwn_8 : decode (cr_by Y_X1_isKeptForOwn) 8 = .ok (.iaload, 1) := by decide +kernel
theorem dX1_isKeptForOwn_9 : decode (cr_by Y_X1_isKeptForOwn) 9 = .ok (.iconst 1, 1) := by decide +kernel
theorem dX1_isKeptForOwn_10 : decode (cr_by Y_X1_isKeptForOwn) 10 = .ok (.if_icmp .ne 28, 3) := by decide +kernel
theorem dX1_isKeptForOwn_13 : decode (cr_by Y_X1_isKeptForOwn) 13 = .ok (.aload_n 0, 1) := by decide +kernel
theorem dX1_isKeptForOwn_14 : decode (cr_by Y_X1_isKeptForOwn) 14 = .ok (.getfield 43, 3) := by decide +kernel
theorem dX1_isKeptForOwn_17 : decode (cr_by Y_X1_isKeptForOwn) 17 = .ok (.aload_n 0, 1) := by decide +kernel
theorem dX1_isKeptForOwn_18 : decode (cr_by Y_X1_isKeptForOwn) 18 = .ok (.getfield 21, 3) := by decide +kernel
theorem dX1_isKeptForOwn_21 : decode (cr_by Y_X1_isKeptForOwn) 21 = .ok (.getfield 159, 3) := by decide +kernel
theorem dX1_isKeptForOwn_24 : decode (cr_by Y_X1_isKeptForOwn) 24 = .ok (.iload_n 1, 1) := by decide +kernel
theorem dX1_isKeptForOwn_25 : decode (cr_by Y_X1_isKeptForOwn) 25 = .ok (.iaload, 1) := by decide +kernel
theorem dX1_isKeptForOwn_26 : decode (cr_by Y_X1_isKeptForOwn) 26 = .ok (.isub, 1) := by decide +kernel
theorem dX1_isKeptForOwn_27 : decode (cr_by Y_X1_isKeptForOwn) 27 = .ok (.aload_n 0, 1) := by decide +kernel
theorem dX1_isKeptForOwn_28 : decode (cr_by Y_X1_isKeptForOwn) 28 = .ok (.getfield 32, 3) := by decide +kernel
theorem dX1_isKeptForOwn_31 : decode (cr_by Y_X1_isKeptForOwn) 31 = .ok (.if_icmp .ge 7, 3) := by decide +kernel
theorem dX1_isKeptForOwn_34 : decode (cr_by Y_X1_isKeptForOwn) 34 = .ok (.iconst 1, 1) := by decide +kernel
theorem dX1_isKeptForOwn_35 : decode (cr_by Y_X1_isKeptForOwn) 35 = .ok (.goto 4, 3) := by decide +kernel
theorem dX1_isKeptForOwn_38 : decode (cr_by Y_X1_isKeptForOwn) 38 = .ok (.iconst 0, 1) := by decide +kernel
theorem dX1_isKeptForOwn_39 : decode (cr_by Y_X1_isKeptForOwn) 39 = .ok (.ireturn, 1) := by decide +kernel
theorem dX1_bestHelper_0 : decode (cr_by Y_X1_bestHelper) 0 = .ok (.aload_n 0, 1) := by decide +kernel
theorem dX1_bestHelper_1 : decode (cr_by Y_X1_bestHelper) 1 = .ok (.getfield 21, 3) := by decide +kernel
theorem dX1_bestHelper_4 : decode (cr_by Y_X1_bestHelper) 4 = .ok (.getfield 133, 3) := by decide +kernel
theorem dX1_bestHelper_7 : decode (cr_by Y_X1_bestHelper) 7 = .ok (.iload_n 1, 1) := by decide +kernel
theorem dX1_bestHelper_8 : decode (cr_by Y_X1_bestHelper) 8 = .ok (.iaload, 1) := by decide +kernel
theorem dX1_bestHelper_9 : decode (cr_by Y_X1_bestHelper) 9 = .ok (.istore_n 2, 1) := by decide +kernel
theorem dX1_bestHelper_10 : decode (cr_by Y_X1_bestHelper) 10 = .ok (.aload_n 0, 1) := by decide +kernel
theorem dX1_bestHelper_11 : decode (cr_by Y_X1_bestHelper) 11 = .ok (.getfield 21, 3) := by decide +kernel
theorem dX1_bestHelper_14 : decode (cr_by Y_X1_bestHelper) 14 = .ok (.getfield 143, 3) := by decide +kernel
theorem dX1_bestHelper_17 : decode (cr_by Y_X1_bestHelper) 17 = .ok (.iload_n 1, 1) := by decide +kernel
theorem dX1_bestHelper_18 : decode (cr_by Y_X1_bestHelper) 18 = .ok (.iaload, 1) := by decide +kernel
theorem dX1_bestHelper_19 : decode (cr_by Y_X1_bestHelper) 19 = .ok (.iconst 3, 1) := by decide +kernel
theorem dX1_bestHelper_20 : decode (cr_by Y_X1_bestHelper) 20 = .ok (.if_icmp .ne 7, 3) := by decide +kernel
theorem dX1_bestHelper_23 : decode (cr_by Y_X1_bestHelper) 23 = .ok (.iconst 1, 1) := by decide +kernel
theorem dX1_bestHelper_24 : decode (cr_by Y_X1_bestHelper) 24 = .ok (.goto 4, 3) := by decide +kernel
theorem dX1_bestHelper_27 : decode (cr_by Y_X1_bestHelper) 27 = .ok (.iconst 0, 1) := by decide +kernel
theorem dX1_bestHelper_28 : decode (cr_by Y_X1_bestHelper) 28 = .ok (.istore_n 3, 1) := by decide +kernel
theorem dX1_bestHelper_29 : decode (cr_by Y_X1_bestHelper) 29 = .ok (.aload_n 0, 1) := by decide +kernel
theorem dX1_bestHelper_30 : decode (cr_by Y_X1_bestHelper) 30 = .ok (.getfield 21, 3) := by decide +kernel
theorem dX1_bestHelper_33 : decode (cr_by Y_X1_bestHelper) 33 = .ok (.getfield 173, 3) := by decide +kernel
theorem dX1_bestHelper_36 : decode (cr_by Y_X1_bestHelper) 36 = .ok (.iload_n 1, 1) := by decide +kernel
theorem dX1_bestHelper_37 : decode (cr_by Y_X1_bestHelper) 37 = .ok (.iaload, 1) := by decide +kernel
theorem dX1_bestHelper_38 : decode (cr_by Y_X1_bestHelper) 38 = .ok (.istore 4, 2) := by decide +kernel
theorem dX1_bestHelper_40 : decode (cr_by Y_X1_bestHelper) 40 = .ok (.aload_n 0, 1) := by decide +kernel
theorem dX1_bestHelper_41 : decode (cr_by Y_X1_bestHelper) 41 = .ok (.getfield 12, 3) := by decide +kernel
theorem dX1_bestHelper_44 : decode (cr_by Y_X1_bestHelper) 44 = .ok (.iload 4, 2) := by decide +kernel
theorem dX1_bestHelper_46 : decode (cr_by Y_X1_bestHelper) 46 = .ok (.iload_n 2, 1) := by decide +kernel
theorem dX1_bestHelper_47 : decode (cr_by Y_X1_bestHelper) 47 = .ok (.iload_n 3, 1) := by decide +kernel
theorem dX1_bestHelper_48 : decode (cr_by Y_X1_bestHelper) 48 = .ok (.invokevirtual 166, 3) := by decide +kernel
theorem dX1_bestHelper_51 : decode (cr_by Y_X1_bestHelper) 51 = .ok (.ifCond .eq 6, 3) := by decide +kernel
theorem dX1_bestHelper_54 : decode (cr_by Y_X1_bestHelper) 54 = .ok (.iload 4, 2) := by decide +kernel
theorem dX1_bestHelper_56 : decode (cr_by Y_X1_bestHelper) 56 = .ok (.ireturn, 1) := by decide +kernel
theorem dX1_bestHelper_57 : decode (cr_by Y_X1_bestHelper) 57 = .ok (.aload_n 0, 1) := by decide +kernel
theorem dX1_bestHelper_58 : decode (cr_by Y_X1_bestHelper) 58 = .ok (.iload_n 1, 1) := by decide +kernel
theorem dX1_bestHelper_59 : decode (cr_by Y_X1_bestHelper) 59 = .ok (.invokevirtual 170, 3) := by decide +kernel
theorem dX1_bestHelper_62 : decode (cr_by Y_X1_bestHelper) 62 = .ok (.ifCond .eq 6, 3) := by decide +kernel
theorem dX1_bestHelper_65 : decode (cr_by Y_X1_bestHelper) 65 = .ok (.bipush (-9), 2) := by decide +kernel
theorem dX1_bestHelper_67 : decode (cr_by Y_X1_bestHelper) 67 = .ok (.ireturn, 1) := by decide +kernel
theorem dX1_bestHelper_68 : decode (cr_by Y_X1_bestHelper) 68 = .ok (.bipush (-9), 2) := by decide +kernel
theorem dX1_bestHelper_70 : decode (cr_by Y_X1_bestHelper) 70 = .ok (.istore 5, 2) := by decide +kernel
theorem dX1_bestHelper_72 : decode (cr_by Y_X1_bestHelper) 72 = .ok (.iconst 0, 1) := by decide +kernel
theorem dX1_bestHelper_73 : decode (cr_by Y_X1_bestHelper) 73 = .ok (.istore 6, 2) := by decide +kernel
theorem dX1_bestHelper_75 : decode (cr_by Y_X1_bestHelper) 75 = .ok (.iload 6, 2) := by decide +kernel
theorem dX1_bestHelper_77 : decode (cr_by Y_X1_bestHelper) 77 = .ok (.aload_n 0, 1) := by decide +kernel
theorem dX1_bestHelper_78 : decode (cr_by Y_X1_bestHelper) 78 = .ok (.getfield 12, 3) := by decide +kernel
theorem dX1_bestHelper_81 : decode (cr_by Y_X1_bestHelper) 81 = .ok (.getfield 165, 3) := by decide +kernel
theorem dX1_bestHelper_84 : decode (cr_by Y_X1_bestHelper) 84 = .ok (.if_icmp .ge 49, 3) := by decide +kernel
theorem dX1_bestHelper_87 : decode (cr_by Y_X1_bestHelper) 87 = .ok (.aload_n 0, 1) := by decide +kernel
theorem dX1_bestHelper_88 : decode (cr_by Y_X1_bestHelper) 88 = .ok (.getfield 12, 3) := by decide +kernel
theorem dX1_bestHelper_91 : decode (cr_by Y_X1_bestHelper) 91 = .ok (.iload 6, 2) := by decide +kernel
theorem dX1_bestHelper_93 : decode (cr_by Y_X1_bestHelper) 93 = .ok (.iload_n 2, 1) := by decide +kernel
theorem dX1_bestHelper_94 : decode (cr_by Y_X1_bestHelper) 94 = .ok (.iload_n 3, 1) := by decide +kernel
theorem dX1_bestHelper_95 : decode (cr_by Y_X1_bestHelper) 95 = .ok (.invokevirtual 166, 3) := by decide +kernel
theorem dX1_bestHelper_98 : decode (cr_by Y_X1_bestHelper) 98 = .ok (.ifCond .eq 29, 3) := by decide +kernel
theorem dX1_bestHelper_101 : decode (cr_by Y_X1_bestHelper) 101 = .ok (.iload 5, 2) := by decide +kernel
theorem dX1_bestHelper_103 : decode (cr_by Y_X1_bestHelper) 103 = .ok (.bipush (-9), 2) := by decide +kernel
theorem dX1_bestHelper_105 : decode (cr_by Y_X1_bestHelper) 105 = .ok (.if_icmp .eq 18, 3) := by decide +kernel
theorem dX1_bestHelper_108 : decode (cr_by Y_X1_bestHelper) 108 = .ok (.aload_n 0, 1) := by decide +kernel
theorem dX1_bestHelper_109 : decode (cr_by Y_X1_bestHelper) 109 = .ok (.getfield 12, 3) := by decide +kernel
theorem dX1_bestHelper_112 : decode (cr_by Y_X1_bestHelper) 112 = .ok (.iload 6, 2) := by decide +kernel
theorem dX1_bestHelper_114 : decode (cr_by Y_X1_bestHelper) 114 = .ok (.iload 5, 2) := by decide +kernel
theorem dX1_bestHelper_116 : decode (cr_by Y_X1_bestHelper) 116 = .ok (.iload_n 2, 1) := by decide +kernel
theorem dX1_bestHelper_117 : decode (cr_by Y_X1_bestHelper) 117 = .ok (.invokevirtual 176, 3) := by decide +kernel
theorem dX1_bestHelper_120 : decode (cr_by Y_X1_bestHelper) 120 = .ok (.ifCond .eq 7, 3) := by decide +kernel
theorem dX1_bestHelper_123 : decode (cr_by Y_X1_bestHelper) 123 = .ok (.iload 6, 2) := by decide +kernel
theorem dX1_bestHelper_125 : decode (cr_by Y_X1_bestHelper) 125 = .ok (.istore 5, 2) := by decide +kernel
theorem dX1_bestHelper_127 : decode (cr_by Y_X1_bestHelper) 127 = .ok (.iinc 6 1, 3) := by decide +kernel
theorem dX1_bestHelper_130 : decode (cr_by Y_X1_bestHelper) 130 = .ok (.goto (-55), 3) := by decide +kernel
theorem dX1_bestHelper_133 : decode (cr_by Y_X1_bestHelper) 133 = .ok (.iload 5, 2) := by decide +kernel
theorem dX1_bestHelper_135 : decode (cr_by Y_X1_bestHelper) 135 = .ok (.ireturn, 1) := by decide +kernel
theorem dX1_hindrance_0 : decode (cr_by Y_X1_hindrance) 0 = .ok (.aload_n 0, 1) := by decide +kernel
theorem dX1_hindrance_1 : decode (cr_by Y_X1_hindrance) 1 = .ok (.getfield 21, 3) := by decide +kernel
theorem dX1_hindrance_4 : decode (cr_by Y_X1_hindrance) 4 = .ok (.getfield 133, 3) := by decide +kernel
theorem dX1_hindrance_7 : decode (cr_by Y_X1_hindrance) 7 = .ok (.iload_n 1, 1) := by decide +kernel
theorem dX1_hindrance_8 : decode (cr_by Y_X1_hindrance) 8 = .ok (.iaload, 1) := by decide +kernel
theorem dX1_hindrance_9 : decode (cr_by Y_X1_hindrance) 9 = .ok (.istore_n 2, 1) := by decide +kernel
theorem dX1_hindrance_10 : decode (cr_by Y_X1_hindrance) 10 = .ok (.aload_n 0, 1) := by decide +kernel
theorem dX1_hindrance_11 : decode (cr_by Y_X1_hindrance) 11 = .ok (.getfield 12, 3) := by decide +kernel
theorem dX1_hindrance_14 : decode (cr_by Y_X1_hindrance) 14 = .ok (.iload_n 2, 1) := by decide +kernel
theorem dX1_hindrance_15 : decode (cr_by Y_X1_hindrance) 15 = .ok (.invokevirtual 180, 3) := by decide +kernel
theorem dX1_hindrance_18 : decode (cr_by Y_X1_hindrance) 18 = .ok (.ifCond .ne 5, 3) := by decide +kernel
theorem dX1_hindrance_21 : decode (cr_by Y_X1_hindrance) 21 = .ok (.iconst 1, 1) := by decide +kernel
theorem dX1_hindrance_22 : decode (cr_by Y_X1_hindrance) 22 = .ok (.ireturn, 1) := by decide +kernel
theorem dX1_hindrance_23 : decode (cr_by Y_X1_hindrance) 23 = .ok (.aload_n 0, 1) := by decide +kernel
theorem dX1_hindrance_24 : decode (cr_by Y_X1_hindrance) 24 = .ok (.getfield 12, 3) := by decide +kernel
theorem dX1_hindrance_27 : decode (cr_by Y_X1_hindrance) 27 = .ok (.iload_n 2, 1) := by decide +kernel
theorem dX1_hindrance_28 : decode (cr_by Y_X1_hindrance) 28 = .ok (.aload_n 0, 1) := by decide +kernel
theorem dX1_hindrance_29 : decode (cr_by Y_X1_hindrance) 29 = .ok (.getfield 21, 3) := by decide +kernel
theorem dX1_hindrance_32 : decode (cr_by Y_X1_hindrance) 32 = .ok (.getfield 143, 3) := by decide +kernel
theorem dX1_hindrance_35 : decode (cr_by Y_X1_hindrance) 35 = .ok (.iload_n 1, 1) := by decide +kernel
theorem dX1_hindrance_36 : decode (cr_by Y_X1_hindrance) 36 = .ok (.iaload, 1) := by decide +kernel
theorem dX1_hindrance_37 : decode (cr_by Y_X1_hindrance) 37 = .ok (.iconst 3, 1) := by decide +kernel
theorem dX1_hindrance_38 : decode (cr_by Y_X1_hindrance) 38 = .ok (.if_icmp .ne 7, 3) := by decide +kernel
theorem dX1_hindrance_41 : decode (cr_by Y_X1_hindrance) 41 = .ok (.iconst 1, 1) := by decide +kernel
theorem dX1_hindrance_42 : decode (cr_by Y_X1_hindrance) 42 = .ok (.goto 4, 3) := by decide +kernel
theorem dX1_hindrance_45 : decode (cr_by Y_X1_hindrance) 45 = .ok (.iconst 0, 1) := by decide +kernel
theorem dX1_hindrance_46 : decode (cr_by Y_X1_hindrance) 46 = .ok (.invokevirtual 183, 3) := by decide +kernel
theorem dX1_hindrance_49 : decode (cr_by Y_X1_hindrance) 49 = .ok (.ifCond .ne 5, 3) := by decide +kernel
theorem dX1_hindrance_52 : decode (cr_by Y_X1_hindrance) 52 = .ok (.iconst 2, 1) := by decide +kernel
theorem dX1_hindrance_53 : decode (cr_by Y_X1_hindrance) 53 = .ok (.ireturn, 1) := by decide +kernel
theorem dX1_hindrance_54 : decode (cr_by Y_X1_hindrance) 54 = .ok (.aload_n 0, 1) := by decide +kernel
theorem dX1_hindrance_55 : decode (cr_by Y_X1_hindrance) 55 = .ok (.iload_n 1, 1) := by decide +kernel
theorem dX1_hindrance_56 : decode (cr_by Y_X1_hindrance) 56 = .ok (.invokevirtual 170, 3) := by decide +kernel
theorem dX1_hindrance_59 : decode (cr_by Y_X1_hindrance) 59 = .ok (.ifCond .eq 28, 3) := by decide +kernel
theorem dX1_hindrance_62 : decode (cr_by Y_X1_hindrance) 62 = .ok (.aload_n 0, 1) := by decide +kernel
theorem dX1_hindrance_63 : decode (cr_by Y_X1_hindrance) 63 = .ok (.getfield 12, 3) := by decide +kernel
theorem dX1_hindrance_66 : decode (cr_by Y_X1_hindrance) 66 = .ok (.aload_n 0, 1) := by decide +kernel
theorem dX1_hindrance_67 : decode (cr_by Y_X1_hindrance) 67 = .ok (.getfield 21, 3) := by decide +kernel
theorem dX1_hindrance_70 : decode (cr_by Y_X1_hindrance) 70 = .ok (.getfield 173, 3) := by decide +kernel
theorem dX1_hindrance_73 : decode (cr_by Y_X1_hindrance) 73 = .ok (.iload_n 1, 1) := by decide +kernel
theorem dX1_hindrance_74 : decode (cr_by Y_X1_hindrance) 74 = .ok (.iaload, 1) := by decide +kernel
theorem dX1_hindrance_75 : decode (cr_by Y_X1_hindrance) 75 = .ok (.iload_n 2, 1) := by decide +kernel
theorem dX1_hindrance_76 : decode (cr_by Y_X1_hindrance) 76 = .ok (.iconst 0, 1) := by decide +kernel
theorem dX1_hindrance_77 : decode (cr_by Y_X1_hindrance) 77 = .ok (.invokevirtual 166, 3) := by decide +kernel
theorem dX1_hindrance_80 : decode (cr_by Y_X1_hindrance) 80 = .ok (.ifCond .ne 7, 3) := by decide +kernel
theorem dX1_hindrance_83 : decode (cr_by Y_X1_hindrance) 83 = .ok (.iconst 3, 1) := by decide +kernel
theorem dX1_hindrance_84 : decode (cr_by Y_X1_hindrance) 84 = .ok (.goto 4, 3) := by decide +kernel
theorem dX1_hindrance_87 : decode (cr_by Y_X1_hindrance) 87 = .ok (.iconst 4, 1) := by decide +kernel
theorem dX1_hindrance_88 : decode (cr_by Y_X1_hindrance) 88 = .ok (.ireturn, 1) := by decide +kernel

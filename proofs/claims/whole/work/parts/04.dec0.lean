theorem dX0_has_0 : decode (cr_by Y_X0_has) 0 = .ok (.iload_n 1, 1) := by decide +kernel
theorem dX0_has_1 : decode (cr_by Y_X0_has) 1 = .ok (.ifCond .lt 15, 3) := by decide +kernel
theorem dX0_has_4 : decode (cr_by Y_X0_has) 4 = .ok (.iload_n 1, 1) := by decide +kernel
theorem dX0_has_5 : decode (cr_by Y_X0_has) 5 = .ok (.aload_n 0, 1) := by decide +kernel
theorem dX0_has_6 : decode (cr_by Y_X0_has) 6 = .ok (.getfield 48, 3) := by decide +kernel
theorem dX0_has_9 : decode (cr_by Y_X0_has) 9 = .ok (.if_icmp .ge 7, 3) := by decide +kernel
theorem dX0_has_12 : decode (cr_by Y_X0_has) 12 = .ok (.iconst 1, 1) := by decide +kernel
theorem dX0_has_13 : decode (cr_by Y_X0_has) 13 = .ok (.goto 4, 3) := by decide +kernel
theorem dX0_has_16 : decode (cr_by Y_X0_has) 16 = .ok (.iconst 0, 1) := by decide +kernel
theorem dX0_has_17 : decode (cr_by Y_X0_has) 17 = .ok (.ireturn, 1) := by decide +kernel
theorem dX0_add_0 : decode (cr_by Y_X0_add) 0 = .ok (.aload_n 0, 1) := by decide +kernel
theorem dX0_add_1 : decode (cr_by Y_X0_add) 1 = .ok (.getfield 48, 3) := by decide +kernel
theorem dX0_add_4 : decode (cr_by Y_X0_add) 4 = .ok (.sipush 200, 3) := by decide +kernel
theorem dX0_add_7 : decode (cr_by Y_X0_add) 7 = .ok (.if_icmp .lt 6, 3) := by decide +kernel
theorem dX0_add_10 : decode (cr_by Y_X0_add) 10 = .ok (.bipush (-9), 2) := by decide +kernel
theorem dX0_add_12 : decode (cr_by Y_X0_add) 12 = .ok (.ireturn, 1) := by decide +kernel
theorem dX0_add_13 : decode (cr_by Y_X0_add) 13 = .ok (.aload_n 0, 1) := by decide +kernel
theorem dX0_add_14 : decode (cr_by Y_X0_add) 14 = .ok (.getfield 15, 3) := by decide +kernel
theorem dX0_add_17 : decode (cr_by Y_X0_add) 17 = .ok (.aload_n 0, 1) := by decide +kernel
theorem dX0_add_18 : decode (cr_by Y_X0_add) 18 = .ok (.getfield 48, 3) := by decide +kernel
theorem dX0_add_21 : decode (cr_by Y_X0_add) 21 = .ok (.iload_n 1, 1) := by decide +kernel
theorem dX0_add_22 : decode (cr_by Y_X0_add) 22 = .ok (.iastore, 1) := by decide +kernel
theorem dX0_add_23 : decode (cr_by Y_X0_add) 23 = .ok (.aload_n 0, 1) := by decide +kernel
theorem dX0_add_24 : decode (cr_by Y_X0_add) 24 = .ok (.getfield 18, 3) := by decide +kernel
theorem dX0_add_27 : decode (cr_by Y_X0_add) 27 = .ok (.aload_n 0, 1) := by decide +kernel
theorem dX0_add_28 : decode (cr_by Y_X0_add) 28 = .ok (.getfield 48, 3) := by decide +kernel
theorem dX0_add_31 : decode (cr_by Y_X0_add) 31 = .ok (.iload_n 2, 1) := by decide +kernel
theorem dX0_add_32 : decode (cr_by Y_X0_add) 32 = .ok (.iastore, 1) := by decide +kernel
theorem dX0_add_33 : decode (cr_by Y_X0_add) 33 = .ok (.aload_n 0, 1) := by decide +kernel
theorem dX0_add_34 : decode (cr_by Y_X0_add) 34 = .ok (.getfield 42, 3) := by decide +kernel
theorem dX0_add_37 : decode (cr_by Y_X0_add) 37 = .ok (.aload_n 0, 1) := by decide +kernel
theorem dX0_add_38 : decode (cr_by Y_X0_add) 38 = .ok (.getfield 48, 3) := by decide +kernel
theorem dX0_add_41 : decode (cr_by Y_X0_add) 41 = .ok (.bipush (-9), 2) := by decide +kernel
theorem dX0_add_43 : decode (cr_by Y_X0_add) 43 = .ok (.iastore, 1) := by decide +kernel
theorem dX0_add_44 : decode (cr_by Y_X0_add) 44 = .ok (.aload_n 0, 1) := by decide +kernel
theorem dX0_add_45 : decode (cr_by Y_X0_add) 45 = .ok (.getfield 45, 3) := by decide +kernel
theorem dX0_add_48 : decode (cr_by Y_X0_add) 48 = .ok (.aload_n 0, 1) := by decide +kernel
theorem dX0_add_49 : decode (cr_by Y_X0_add) 49 = .ok (.getfield 48, 3) := by decide +kernel
theorem dX0_add_52 : decode (cr_by Y_X0_add) 52 = .ok (.bipush (-9), 2) := by decide +kernel
theorem dX0_add_54 : decode (cr_by Y_X0_add) 54 = .ok (.iastore, 1) := by decide +kernel
theorem dX0_add_55 : decode (cr_by Y_X0_add) 55 = .ok (.aload_n 0, 1) := by decide +kernel
theorem dX0_add_56 : decode (cr_by Y_X0_add) 56 = .ok (.dup, 1) := by decide +kernel
theorem dX0_add_57 : decode (cr_by Y_X0_add) 57 = .ok (.getfield 48, 3) := by decide +kernel
theorem dX0_add_60 : decode (cr_by Y_X0_add) 60 = .ok (.dup_x1, 1) := by decide +kernel
theorem dX0_add_61 : decode (cr_by Y_X0_add) 61 = .ok (.iconst 1, 1) := by decide +kernel
theorem dX0_add_62 : decode (cr_by Y_X0_add) 62 = .ok (.iadd, 1) := by decide +kernel
theorem dX0_add_63 : decode (cr_by Y_X0_add) 63 = .ok (.putfield 48, 3) := by decide +kernel
theorem dX0_add_66 : decode (cr_by Y_X0_add) 66 = .ok (.ireturn, 1) := by decide +kernel
theorem dX0_describe_0 : decode (cr_by Y_X0_describe) 0 = .ok (.aload_n 0, 1) := by decide +kernel
theorem dX0_describe_1 : decode (cr_by Y_X0_describe) 1 = .ok (.getfield 21, 3) := by decide +kernel
theorem dX0_describe_4 : decode (cr_by Y_X0_describe) 4 = .ok (.iload_n 1, 1) := by decide +kernel
theorem dX0_describe_5 : decode (cr_by Y_X0_describe) 5 = .ok (.iload_n 2, 1) := by decide +kernel
theorem dX0_describe_6 : decode (cr_by Y_X0_describe) 6 = .ok (.iastore, 1) := by decide +kernel
theorem dX0_describe_7 : decode (cr_by Y_X0_describe) 7 = .ok (.aload_n 0, 1) := by decide +kernel
theorem dX0_describe_8 : decode (cr_by Y_X0_describe) 8 = .ok (.getfield 24, 3) := by decide +kernel
theorem dX0_describe_11 : decode (cr_by Y_X0_describe) 11 = .ok (.iload_n 1, 1) := by decide +kernel
theorem dX0_describe_12 : decode (cr_by Y_X0_describe) 12 = .ok (.iload_n 3, 1) := by decide +kernel
theorem dX0_describe_13 : decode (cr_by Y_X0_describe) 13 = .ok (.iastore, 1) := by decide +kernel
theorem dX0_describe_14 : decode (cr_by Y_X0_describe) 14 = .ok (.aload_n 0, 1) := by decide +kernel
theorem dX0_describe_15 : decode (cr_by Y_X0_describe) 15 = .ok (.getfield 27, 3) := by decide +kernel
theorem dX0_describe_18 : decode (cr_by Y_X0_describe) 18 = .ok (.iload_n 1, 1) := by decide +kernel
theorem dX0_describe_19 : decode (cr_by Y_X0_describe) 19 = .ok (.iload 4, 2) := by decide +kernel
theorem dX0_describe_21 : decode (cr_by Y_X0_describe) 21 = .ok (.iastore, 1) := by decide +kernel
theorem dX0_describe_22 : decode (cr_by Y_X0_describe) 22 = .ok (.return_, 1) := by decide +kernel
theorem dX0_arrive_0 : decode (cr_by Y_X0_arrive) 0 = .ok (.aload_n 0, 1) := by decide +kernel
theorem dX0_arrive_1 : decode (cr_by Y_X0_arrive) 1 = .ok (.getfield 30, 3) := by decide +kernel
theorem dX0_arrive_4 : decode (cr_by Y_X0_arrive) 4 = .ok (.iload_n 1, 1) := by decide +kernel
theorem dX0_arrive_5 : decode (cr_by Y_X0_arrive) 5 = .ok (.iload_n 2, 1) := by decide +kernel
theorem dX0_arrive_6 : decode (cr_by Y_X0_arrive) 6 = .ok (.iastore, 1) := by decide +kernel
theorem dX0_arrive_7 : decode (cr_by Y_X0_arrive) 7 = .ok (.aload_n 0, 1) := by decide +kernel
theorem dX0_arrive_8 : decode (cr_by Y_X0_arrive) 8 = .ok (.iload_n 1, 1) := by decide +kernel
theorem dX0_arrive_9 : decode (cr_by Y_X0_arrive) 9 = .ok (.iload_n 2, 1) := by decide +kernel
theorem dX0_arrive_10 : decode (cr_by Y_X0_arrive) 10 = .ok (.invokevirtual 52, 3) := by decide +kernel
theorem dX0_arrive_13 : decode (cr_by Y_X0_arrive) 13 = .ok (.return_, 1) := by decide +kernel
theorem dX0_waitAgain_0 : decode (cr_by Y_X0_waitAgain) 0 = .ok (.aload_n 0, 1) := by decide +kernel
theorem dX0_waitAgain_1 : decode (cr_by Y_X0_waitAgain) 1 = .ok (.getfield 9, 3) := by decide +kernel
theorem dX0_waitAgain_4 : decode (cr_by Y_X0_waitAgain) 4 = .ok (.iload_n 1, 1) := by decide +kernel
theorem dX0_waitAgain_5 : decode (cr_by Y_X0_waitAgain) 5 = .ok (.iconst 0, 1) := by decide +kernel
theorem dX0_waitAgain_6 : decode (cr_by Y_X0_waitAgain) 6 = .ok (.iastore, 1) := by decide +kernel
theorem dX0_waitAgain_7 : decode (cr_by Y_X0_waitAgain) 7 = .ok (.aload_n 0, 1) := by decide +kernel
theorem dX0_waitAgain_8 : decode (cr_by Y_X0_waitAgain) 8 = .ok (.getfield 33, 3) := by decide +kernel
theorem dX0_waitAgain_11 : decode (cr_by Y_X0_waitAgain) 11 = .ok (.iload_n 1, 1) := by decide +kernel
theorem dX0_waitAgain_12 : decode (cr_by Y_X0_waitAgain) 12 = .ok (.iload_n 2, 1) := by decide +kernel
theorem dX0_waitAgain_13 : decode (cr_by Y_X0_waitAgain) 13 = .ok (.iastore, 1) := by decide +kernel
theorem dX0_waitAgain_14 : decode (cr_by Y_X0_waitAgain) 14 = .ok (.aload_n 0, 1) := by decide +kernel
theorem dX0_waitAgain_15 : decode (cr_by Y_X0_waitAgain) 15 = .ok (.getfield 36, 3) := by decide +kernel
theorem dX0_waitAgain_18 : decode (cr_by Y_X0_waitAgain) 18 = .ok (.iload_n 1, 1) := by decide +kernel
theorem dX0_waitAgain_19 : decode (cr_by Y_X0_waitAgain) 19 = .ok (.bipush (-9), 2) := by decide +kernel
theorem dX0_waitAgain_21 : decode (cr_by Y_X0_waitAgain) 21 = .ok (.iastore, 1) := by decide +kernel
theorem dX0_waitAgain_22 : decode (cr_by Y_X0_waitAgain) 22 = .ok (.return_, 1) := by decide +kernel
theorem dX0_putBack_0 : decode (cr_by Y_X0_putBack) 0 = .ok (.aload_n 0, 1) := by decide +kernel
theorem dX0_putBack_1 : decode (cr_by Y_X0_putBack) 1 = .ok (.getfield 9, 3) := by decide +kernel
theorem dX0_putBack_4 : decode (cr_by Y_X0_putBack) 4 = .ok (.iload_n 1, 1) := by decide +kernel
theorem dX0_putBack_5 : decode (cr_by Y_X0_putBack) 5 = .ok (.iconst 4, 1) := by decide +kernel
theorem dX0_putBack_6 : decode (cr_by Y_X0_putBack) 6 = .ok (.iastore, 1) := by decide +kernel
theorem dX0_putBack_7 : decode (cr_by Y_X0_putBack) 7 = .ok (.aload_n 0, 1) := by decide +kernel
theorem dX0_putBack_8 : decode (cr_by Y_X0_putBack) 8 = .ok (.getfield 39, 3) := by decide +kernel
theorem dX0_putBack_11 : decode (cr_by Y_X0_putBack) 11 = .ok (.iload_n 1, 1) := by decide +kernel
theorem dX0_putBack_12 : decode (cr_by Y_X0_putBack) 12 = .ok (.iload_n 2, 1) := by decide +kernel
theorem dX0_putBack_13 : decode (cr_by Y_X0_putBack) 13 = .ok (.iastore, 1) := by decide +kernel
theorem dX0_putBack_14 : decode (cr_by Y_X0_putBack) 14 = .ok (.return_, 1) := by decide +kernel
theorem dX0_start_0 : decode (cr_by Y_X0_start) 0 = .ok (.aload_n 0, 1) := by decide +kernel
theorem dX0_start_1 : decode (cr_by Y_X0_start) 1 = .ok (.getfield 9, 3) := by decide +kernel
theorem dX0_start_4 : decode (cr_by Y_X0_start) 4 = .ok (.iload_n 1, 1) := by decide +kernel
theorem dX0_start_5 : decode (cr_by Y_X0_start) 5 = .ok (.iconst 1, 1) := by decide +kernel
theorem dX0_start_6 : decode (cr_by Y_X0_start) 6 = .ok (.iastore, 1) := by decide +kernel
theorem dX0_start_7 : decode (cr_by Y_X0_start) 7 = .ok (.aload_n 0, 1) := by decide +kernel
theorem dX0_start_8 : decode (cr_by Y_X0_start) 8 = .ok (.getfield 36, 3) := by decide +kernel
theorem dX0_start_11 : decode (cr_by Y_X0_start) 11 = .ok (.iload_n 1, 1) := by decide +kernel
theorem dX0_start_12 : decode (cr_by Y_X0_start) 12 = .ok (.iload_n 2, 1) := by decide +kernel
theorem dX0_start_13 : decode (cr_by Y_X0_start) 13 = .ok (.iastore, 1) := by decide +kernel
theorem dX0_start_14 : decode (cr_by Y_X0_start) 14 = .ok (.aload_n 0, 1) := by decide +kernel
theorem dX0_start_15 : decode (cr_by Y_X0_start) 15 = .ok (.getfield 39, 3) := by decide +kernel
theorem dX0_start_18 : decode (cr_by Y_X0_start) 18 = .ok (.iload_n 1, 1) := by decide +kernel
theorem dX0_start_19 : decode (cr_by Y_X0_start) 19 = .ok (.iload 4, 2) := by decide +kernel
theorem dX0_start_21 : decode (cr_by Y_X0_start) 21 = .ok (.iastore, 1) := by decide +kernel
theorem dX0_start_22 : decode (cr_by Y_X0_start) 22 = .ok (.aload_n 0, 1) := by decide +kernel
theorem dX0_start_23 : decode (cr_by Y_X0_start) 23 = .ok (.getfield 45, 3) := by decide +kernel
theorem dX0_start_26 : decode (cr_by Y_X0_start) 26 = .ok (.iload_n 1, 1) := by decide +kernel
theorem dX0_start_27 : decode (cr_by Y_X0_start) 27 = .ok (.iload_n 3, 1) := by decide +kernel
theorem dX0_start_28 : decode (cr_by Y_X0_start) 28 = .ok (.aload_n 0, 1) := by decide +kernel
theorem dX0_start_29 : decode (cr_by Y_X0_start) 29 = .ok (.getfield 33, 3) := by decide +kernel
theorem dX0_start_32 : decode (cr_by Y_X0_start) 32 = .ok (.iload_n 1, 1) := by decide +kernel
theorem dX0_start_33 : decode (cr_by Y_X0_start) 33 = .ok (.iaload, 1) := by decide +kernel
theorem dX0_start_34 : decode (cr_by Y_X0_start) 34 = .ok (.isub, 1) := by decide +kernel
theorem dX0_start_35 : decode (cr_by Y_X0_start) 35 = .ok (.iastore, 1) := by decide +kernel
theorem dX0_start_36 : decode (cr_by Y_X0_start) 36 = .ok (.aload_n 0, 1) := by decide +kernel
theorem dX0_start_37 : decode (cr_by Y_X0_start) 37 = .ok (.getfield 42, 3) := by decide +kernel
theorem dX0_start_40 : decode (cr_by Y_X0_start) 40 = .ok (.iload_n 1, 1) := by decide +kernel
theorem dX0_start_41 : decode (cr_by Y_X0_start) 41 = .ok (.iaload, 1) := by decide +kernel
theorem dX0_start_42 : decode (cr_by Y_X0_start) 42 = .ok (.ifCond .ge 15, 3) := by decide +kernel
theorem dX0_start_45 : decode (cr_by Y_X0_start) 45 = .ok (.aload_n 0, 1) := by decide +kernel
theorem dX0_start_46 : decode (cr_by Y_X0_start) 46 = .ok (.getfield 42, 3) := by decide +kernel
theorem dX0_start_49 : decode (cr_by Y_X0_start) 49 = .ok (.iload_n 1, 1) := by decide +kernel
theorem dX0_start_50 : decode (cr_by Y_X0_start) 50 = .ok (.aload_n 0, 1) := by decide +kernel
theorem dX0_start_51 : decode (cr_by Y_X0_start) 51 = .ok (.getfield 45, 3) := by decide +kernel
theorem dX0_start_54 : decode (cr_by Y_X0_start) 54 = .ok (.iload_n 1, 1) := by decide +kernel
theorem dX0_start_55 : decode (cr_by Y_X0_start) 55 = .ok (.iaload, 1) := by decide +kernel
theorem dX0_start_56 : decode (cr_by Y_X0_start) 56 = .ok (.iastore, 1) := by decide +kernel
theorem dX0_start_57 : decode (cr_by Y_X0_start) 57 = .ok (.return_, 1) := by decide +kernel
theorem dX0_ringBackDue_0 : decode (cr_by Y_X0_ringBackDue) 0 = .ok (.iconst 0, 1) := by decide +kernel
theorem dX0_ringBackDue_1 : decode (cr_by Y_X0_ringBackDue) 1 = .ok (.istore_n 2, 1) := by decide +kernel
theorem dX0_ringBackDue_2 : decode (cr_by Y_X0_ringBackDue) 2 = .ok (.iload_n 2, 1) := by decide +kernel
theorem dX0_ringBackDue_3 : decode (cr_by Y_X0_ringBackDue) 3 = .ok (.aload_n 0, 1) := by decide +kernel
theorem dX0_ringBackDue_4 : decode (cr_by Y_X0_ringBackDue) 4 = .ok (.getfield 48, 3) := by decide +kernel
theorem dX0_ringBackDue_7 : decode (cr_by Y_X0_ringBackDue) 7 = .ok (.if_icmp .ge 35, 3) := by decide +kernel
theorem dX0_ringBackDue_10 : decode (cr_by Y_X0_ringBackDue) 10 = .ok (.aload_n 0, 1) := by decide +kernel
theorem dX0_ringBackDue_11 : decode (cr_by Y_X0_ringBackDue) 11 = .ok (.getfield 9, 3) := by decide +kernel
theorem dX0_ringBackDue_14 : decode (cr_by Y_X0_ringBackDue) 14 = .ok (.iload_n 2, 1) := by decide +kernel
theorem dX0_ringBackDue_15 : decode (cr_by Y_X0_ringBackDue) 15 = .ok (.iaload, 1) := by decide +kernel
theorem dX0_ringBackDue_16 : decode (cr_by Y_X0_ringBackDue) 16 = .ok (.iconst 4, 1) := by decide +kernel
theorem dX0_ringBackDue_17 : decode (cr_by Y_X0_ringBackDue) 17 = .ok (.if_icmp .ne 19, 3) := by decide +kernel
theorem dX0_ringBackDue_20 : decode (cr_by Y_X0_ringBackDue) 20 = .ok (.aload_n 0, 1) := by decide +kernel
theorem dX0_ringBackDue_21 : decode (cr_by Y_X0_ringBackDue) 21 = .ok (.getfield 39, 3) := by decide +kernel
theorem dX0_ringBackDue_24 : decode (cr_by Y_X0_ringBackDue) 24 = .ok (.iload_n 2, 1) := by decide +kernel
theorem dX0_ringBackDue_25 : decode (cr_by Y_X0_ringBackDue) 25 = .ok (.iaload, 1) := by decide +kernel
theorem dX0_ringBackDue_26 : decode (cr_by Y_X0_ringBackDue) 26 = .ok (.iload_n 1, 1) := by decide +kernel
theorem dX0_ringBackDue_27 : decode (cr_by Y_X0_ringBackDue) 27 = .ok (.if_icmp .gt 9, 3) := by decide +kernel
theorem dX0_ringBackDue_30 : decode (cr_by Y_X0_ringBackDue) 30 = .ok (.aload_n 0, 1) := by decide +kernel
theorem dX0_ringBackDue_31 : decode (cr_by Y_X0_ringBackDue) 31 = .ok (.iload_n 2, 1) := by decide +kernel
theorem dX0_ringBackDue_32 : decode (cr_by Y_X0_ringBackDue) 32 = .ok (.iload_n 1, 1) := by decide +kernel
theorem dX0_ringBackDue_33 : decode (cr_by Y_X0_ringBackDue) 33 = .ok (.invokevirtual 52, 3) := by decide +kernel
theorem dX0_ringBackDue_36 : decode (cr_by Y_X0_ringBackDue) 36 = .ok (.iinc 2 1, 3) := by decide +kernel
theorem dX0_ringBackDue_39 : decode (cr_by Y_X0_ringBackDue) 39 = .ok (.goto (-37), 3) := by decide +kernel
theorem dX0_ringBackDue_42 : decode (cr_by Y_X0_ringBackDue) 42 = .ok (.return_, 1) := by decide +kernel
theorem dX0_loseImpatient_0 : decode (cr_by Y_X0_loseImpatient) 0 = .ok (.iconst 0, 1) := by decide +kernel
theorem dX0_loseImpatient_1 : decode (cr_by Y_X0_loseImpatient) 1 = .ok (.istore_n 2, 1) := by decide +kernel
theorem dX0_loseImpatient_2 : decode (cr_by Y_X0_loseImpatient) 2 = .ok (.iload_n 2, 1) := by decide +kernel
theorem dX0_loseImpatient_3 : decode (cr_by Y_X0_loseImpatient) 3 = .ok (.aload_n 0, 1) := by decide +kernel
theorem dX0_loseImpatient_4 : decode (cr_by Y_X0_loseImpatient) 4 = .ok (.getfield 48, 3) := by decide +kernel
theorem dX0_loseImpatient_7 : decode (cr_by Y_X0_loseImpatient) 7 = .ok (.if_icmp .ge 42, 3) := by decide +kernel
theorem dX0_loseImpatient_10 : decode (cr_by Y_X0_loseImpatient) 10 = .ok (.aload_n 0, 1) := by decide +kernel
theorem dX0_loseImpatient_11 : decode (cr_by Y_X0_loseImpatient) 11 = .ok (.getfield 9, 3) := by decide +kernel
theorem dX0_loseImpatient_14 : decode (cr_by Y_X0_loseImpatient) 14 = .ok (.iload_n 2, 1) := by decide +kernel
theorem dX0_loseImpatient_15 : decode (cr_by Y_X0_loseImpatient) 15 = .ok (.iaload, 1) := by decide +kernel
theorem dX0_loseImpatient_16 : decode (cr_by Y_X0_loseImpatient) 16 = .ok (.ifCond .ne 27, 3) := by decide +kernel
theorem dX0_loseImpatient_19 : decode (cr_by Y_X0_loseImpatient) 19 = .ok (.iload_n 1, 1) := by decide +kernel
theorem dX0_loseImpatient_20 : decode (cr_by Y_X0_loseImpatient) 20 = .ok (.aload_n 0, 1) := by decide +kernel
theorem dX0_loseImpatient_21 : decode (cr_by Y_X0_loseImpatient) 21 = .ok (.getfield 33, 3) := by decide +kernel
theorem dX0_loseImpatient_24 : decode (cr_by Y_X0_loseImpatient) 24 = .ok (.iload_n 2, 1) := by decide +kernel
theorem dX0_loseImpatient_25 : decode (cr_by Y_X0_loseImpatient) 25 = .ok (.iaload, 1) := by decide +kernel
theorem dX0_loseImpatient_26 : decode (cr_by Y_X0_loseImpatient) 26 = .ok (.isub, 1) := by decide +kernel
theorem dX0_loseImpatient_27 : decode (cr_by Y_X0_loseImpatient) 27 = .ok (.aload_n 0, 1) := by decide +kernel
theorem dX0_loseImpatient_28 : decode (cr_by Y_X0_loseImpatient) 28 = .ok (.getfield 27, 3) := by decide +kernel
theorem dX0_loseImpatient_31 : decode (cr_by Y_X0_loseImpatient) 31 = .ok (.iload_n 2, 1) := by decide +kernel
theorem dX0_loseImpatient_32 : decode (cr_by Y_X0_loseImpatient) 32 = .ok (.iaload, 1) := by decide +kernel
theorem dX0_loseImpatient_33 : decode (cr_by Y_X0_loseImpatient) 33 = .ok (.if_icmp .le 10, 3) := by decide +kernel
theorem dX0_loseImpatient_36 : decode (cr_by Y_X0_loseImpatient) 36 = .ok (.aload_n 0, 1) := by decide +kernel
theorem dX0_loseImpatient_37 : decode (cr_by Y_X0_loseImpatient) 37 = .ok (.getfield 9, 3) := by decide +kernel
theorem dX0_loseImpatient_40 : decode (cr_by Y_X0_loseImpatient) 40 = .ok (.iload_n 2, 1) := by decide +kernel
theorem dX0_loseImpatient_41 : decode (cr_by Y_X0_loseImpatient) 41 = .ok (.iconst 3, 1) := by decide +kernel
theorem dX0_loseImpatient_42 : decode (cr_by Y_X0_loseImpatient) 42 = .ok (.iastore, 1) := by decide +kernel
theorem dX0_loseImpatient_43 : decode (cr_by Y_X0_loseImpatient) 43 = .ok (.iinc 2 1, 3) := by decide +kernel
theorem dX0_loseImpatient_46 : decode (cr_by Y_X0_loseImpatient) 46 = .ok (.goto (-44), 3) := by decide +kernel
theorem dX0_loseImpatient_49 : decode (cr_by Y_X0_loseImpatient) 49 = .ok (.return_, 1) := by decide +kernel
theorem dX0_nextChange_0 : decode (cr_by Y_X0_nextChange) 0 = .ok (.aload_n 0, 1) := by decide +kernel
theorem dX0_nextChange_1 : decode (cr_by Y_X0_nextChange) 1 = .ok (.getfield 9, 3) := by decide +kernel
theorem dX0_nextChange_4 : decode (cr_by Y_X0_nextChange) 4 = .ok (.iload_n 1, 1) := by decide +kernel
theorem dX0_nextChange_5 : decode (cr_by Y_X0_nextChange) 5 = .ok (.iaload, 1) := by decide +kernel
theorem dX0_nextChange_6 : decode (cr_by Y_X0_nextChange) 6 = .ok (.iconst 1, 1) := by decide +kernel
theorem dX0_nextChange_7 : decode (cr_by Y_X0_nextChange) 7 = .ok (.if_icmp .eq 13, 3) := by decide +kernel
theorem dX0_nextChange_10 : decode (cr_by Y_X0_nextChange) 10 = .ok (.aload_n 0, 1) := by decide +kernel
theorem dX0_nextChange_11 : decode (cr_by Y_X0_nextChange) 11 = .ok (.getfield 9, 3) := by decide +kernel
theorem dX0_nextChange_14 : decode (cr_by Y_X0_nextChange) 14 = .ok (.iload_n 1, 1) := by decide +kernel
theorem dX0_nextChange_15 : decode (cr_by Y_X0_nextChange) 15 = .ok (.iaload, 1) := by decide +kernel
theorem dX0_nextChange_16 : decode (cr_by Y_X0_nextChange) 16 = .ok (.iconst 4, 1) := by decide +kernel
theorem dX0_nextChange_17 : decode (cr_by Y_X0_nextChange) 17 = .ok (.if_icmp .ne 10, 3) := by decide +kernel
theorem dX0_nextChange_20 : decode (cr_by Y_X0_nextChange) 20 = .ok (.aload_n 0, 1) := by decide +kernel
theorem dX0_nextChange_21 : decode (cr_by Y_X0_nextChange) 21 = .ok (.getfield 39, 3) := by decide +kernel
theorem dX0_nextChange_24 : decode (cr_by Y_X0_nextChange) 24 = .ok (.iload_n 1, 1) := by decide +kernel
theorem dX0_nextChange_25 : decode (cr_by Y_X0_nextChange) 25 = .ok (.iaload, 1) := by decide +kernel
theorem dX0_nextChange_26 : decode (cr_by Y_X0_nextChange) 26 = .ok (.ireturn, 1) := by decide +kernel
theorem dX0_nextChange_27 : decode (cr_by Y_X0_nextChange) 27 = .ok (.aload_n 0, 1) := by decide +kernel
theorem dX0_nextChange_28 : decode (cr_by Y_X0_nextChange) 28 = .ok (.getfield 9, 3) := by decide +kernel
theorem dX0_nextChange_31 : decode (cr_by Y_X0_nextChange) 31 = .ok (.iload_n 1, 1) := by decide +kernel
theorem dX0_nextChange_32 : decode (cr_by Y_X0_nextChange) 32 = .ok (.iaload, 1) := by decide +kernel
theorem dX0_nextChange_33 : decode (cr_by Y_X0_nextChange) 33 = .ok (.ifCond .eq 6, 3) := by decide +kernel
theorem dX0_nextChange_36 : decode (cr_by Y_X0_nextChange) 36 = .ok (.ldc 56, 2) := by decide +kernel
theorem dX0_nextChange_38 : decode (cr_by Y_X0_nextChange) 38 = .ok (.ireturn, 1) := by decide +kernel
theorem dX0_nextChange_39 : decode (cr_by Y_X0_nextChange) 39 = .ok (.aload_n 0, 1) := by decide +kernel
theorem dX0_nextChange_40 : decode (cr_by Y_X0_nextChange) 40 = .ok (.getfield 33, 3) := by decide +kernel
theorem dX0_nextChange_43 : decode (cr_by Y_X0_nextChange) 43 = .ok (.iload_n 1, 1) := by decide +kernel
theorem dX0_nextChange_44 : decode (cr_by Y_X0_nextChange) 44 = .ok (.iaload, 1) := by decide +kernel
theorem dX0_nextChange_45 : decode (cr_by Y_X0_nextChange) 45 = .ok (.aload_n 0, 1) := by decide +kernel
theorem dX0_nextChange_46 : decode (cr_by Y_X0_nextChange) 46 = .ok (.getfield 27, 3) := by decide +kernel
theorem dX0_nextChange_49 : decode (cr_by Y_X0_nextChange) 49 = .ok (.iload_n 1, 1) := by decide +kernel
theorem dX0_nextChange_50 : decode (cr_by Y_X0_nextChange) 50 = .ok (.iaload, 1) := by decide +kernel
theorem dX0_nextChange_51 : decode (cr_by Y_X0_nextChange) 51 = .ok (.iadd, 1) := by decide +kernel
theorem dX0_nextChange_52 : decode (cr_by Y_X0_nextChange) 52 = .ok (.iconst 1, 1) := by decide +kernel
theorem dX0_nextChange_53 : decode (cr_by Y_X0_nextChange) 53 = .ok (.iadd, 1) := by decide +kernel
theorem dX0_nextChange_54 : decode (cr_by Y_X0_nextChange) 54 = .ok (.istore 4, 2) := by decide +kernel
theorem dX0_nextChange_56 : decode (cr_by Y_X0_nextChange) 56 = .ok (.aload_n 0, 1) := by decide +kernel
theorem dX0_nextChange_57 : decode (cr_by Y_X0_nextChange) 57 = .ok (.getfield 33, 3) := by decide +kernel
theorem dX0_nextChange_60 : decode (cr_by Y_X0_nextChange) 60 = .ok (.iload_n 1, 1) := by decide +kernel
theorem dX0_nextChange_61 : decode (cr_by Y_X0_nextChange) 61 = .ok (.iaload, 1) := by decide +kernel
theorem dX0_nextChange_62 : decode (cr_by Y_X0_nextChange) 62 = .ok (.iload_n 3, 1) := by decide +kernel
theorem dX0_nextChange_63 : decode (cr_by Y_X0_nextChange) 63 = .ok (.iadd, 1) := by decide +kernel
theorem dX0_nextChange_64 : decode (cr_by Y_X0_nextChange) 64 = .ok (.istore 5, 2) := by decide +kernel
theorem dX0_nextChange_66 : decode (cr_by Y_X0_nextChange) 66 = .ok (.aload_n 0, 1) := by decide +kernel
theorem dX0_nextChange_67 : decode (cr_by Y_X0_nextChange) 67 = .ok (.getfield 15, 3) := by decide +kernel
theorem dX0_nextChange_70 : decode (cr_by Y_X0_nextChange) 70 = .ok (.iload_n 1, 1) := by decide +kernel
theorem dX0_nextChange_71 : decode (cr_by Y_X0_nextChange) 71 = .ok (.iaload, 1) := by decide +kernel
theorem dX0_nextChange_72 : decode (cr_by Y_X0_nextChange) 72 = .ok (.iconst 1, 1) := by decide +kernel
theorem dX0_nextChange_73 : decode (cr_by Y_X0_nextChange) 73 = .ok (.if_icmp .ne 19, 3) := by decide +kernel
theorem dX0_nextChange_76 : decode (cr_by Y_X0_nextChange) 76 = .ok (.iload 5, 2) := by decide +kernel
theorem dX0_nextChange_78 : decode (cr_by Y_X0_nextChange) 78 = .ok (.iload_n 2, 1) := by decide +kernel
theorem dX0_nextChange_79 : decode (cr_by Y_X0_nextChange) 79 = .ok (.if_icmp .le 13, 3) := by decide +kernel
theorem dX0_nextChange_82 : decode (cr_by Y_X0_nextChange) 82 = .ok (.iload 4, 2) := by decide +kernel
theorem dX0_nextChange_84 : decode (cr_by Y_X0_nextChange) 84 = .ok (.iload 5, 2) := by decide +kernel
theorem dX0_nextChange_86 : decode (cr_by Y_X0_nextChange) 86 = .ok (.invokestatic 57, 3) := by decide +kernel
theorem dX0_nextChange_89 : decode (cr_by Y_X0_nextChange) 89 = .ok (.goto 5, 3) := by decide +kernel
theorem dX0_nextChange_92 : decode (cr_by Y_X0_nextChange) 92 = .ok (.iload 4, 2) := by decide +kernel
theorem dX0_nextChange_94 : decode (cr_by Y_X0_nextChange) 94 = .ok (.ireturn, 1) := by decide +kernel
theorem dX0_firstWith_0 : decode (cr_by Y_X0_firstWith) 0 = .ok (.iconst 0, 1) := by decide +kernel
theorem dX0_firstWith_1 : decode (cr_by Y_X0_firstWith) 1 = .ok (.istore_n 2, 1) := by decide +kernel
theorem dX0_firstWith_2 : decode (cr_by Y_X0_firstWith) 2 = .ok (.iload_n 2, 1) := by decide +kernel
theorem dX0_firstWith_3 : decode (cr_by Y_X0_firstWith) 3 = .ok (.aload_n 0, 1) := by decide +kernel
theorem dX0_firstWith_4 : decode (cr_by Y_X0_firstWith) 4 = .ok (.getfield 48, 3) := by decide +kernel
theorem dX0_firstWith_7 : decode (cr_by Y_X0_firstWith) 7 = .ok (.if_icmp .ge 31, 3) := by decide +kernel
theorem dX0_firstWith_10 : decode (cr_by Y_X0_firstWith) 10 = .ok (.aload_n 0, 1) := by decide +kernel
theorem dX0_firstWith_11 : decode (cr_by Y_X0_firstWith) 11 = .ok (.getfield 9, 3) := by decide +kernel
theorem dX0_firstWith_14 : decode (cr_by Y_X0_firstWith) 14 = .ok (.iload_n 2, 1) := by decide +kernel
theorem dX0_firstWith_15 : decode (cr_by Y_X0_firstWith) 15 = .ok (.iaload, 1) := by decide +kernel
theorem dX0_firstWith_16 : decode (cr_by Y_X0_firstWith) 16 = .ok (.iconst 1, 1) := by decide +kernel
theorem dX0_firstWith_17 : decode (cr_by Y_X0_firstWith) 17 = .ok (.if_icmp .ne 15, 3) := by decide +kernel
theorem dX0_firstWith_20 : decode (cr_by Y_X0_firstWith) 20 = .ok (.aload_n 0, 1) := by decide +kernel
theorem dX0_firstWith_21 : decode (cr_by Y_X0_firstWith) 21 = .ok (.getfield 36, 3) := by decide +kernel
theorem dX0_firstWith_24 : decode (cr_by Y_X0_firstWith) 24 = .ok (.iload_n 2, 1) := by decide +kernel
theorem dX0_firstWith_25 : decode (cr_by Y_X0_firstWith) 25 = .ok (.iaload, 1) := by decide +kernel
theorem dX0_firstWith_26 : decode (cr_by Y_X0_firstWith) 26 = .ok (.iload_n 1, 1) := by decide +kernel
theorem dX0_firstWith_27 : decode (cr_by Y_X0_firstWith) 27 = .ok (.if_icmp .ne 5, 3) := by decide +kernel
theorem dX0_firstWith_30 : decode (cr_by Y_X0_firstWith) 30 = .ok (.iload_n 2, 1) := by decide +kernel
theorem dX0_firstWith_31 : decode (cr_by Y_X0_firstWith) 31 = .ok (.ireturn, 1) := by decide +kernel
theorem dX0_firstWith_32 : decode (cr_by Y_X0_firstWith) 32 = .ok (.iinc 2 1, 3) := by decide +kernel
theorem dX0_firstWith_35 : decode (cr_by Y_X0_firstWith) 35 = .ok (.goto (-33), 3) := by decide +kernel
theorem dX0_firstWith_38 : decode (cr_by Y_X0_firstWith) 38 = .ok (.bipush (-9), 2) := by decide +kernel
theorem dX0_firstWith_40 : decode (cr_by Y_X0_firstWith) 40 = .ok (.ireturn, 1) := by decide +kernel
theorem dX0_givenWithin_0 : decode (cr_by Y_X0_givenWithin) 0 = .ok (.iconst 0, 1) := by decide +kernel
theorem dX0_givenWithin_1 : decode (cr_by Y_X0_givenWithin) 1 = .ok (.istore_n 2, 1) := by decide +kernel
theorem dX0_givenWithin_2 : decode (cr_by Y_X0_givenWithin) 2 = .ok (.iconst 0, 1) := by decide +kernel
theorem dX0_givenWithin_3 : decode (cr_by Y_X0_givenWithin) 3 = .ok (.istore_n 3, 1) := by decide +kernel
theorem dX0_givenWithin_4 : decode (cr_by Y_X0_givenWithin) 4 = .ok (.iload_n 3, 1) := by decide +kernel
theorem dX0_givenWithin_5 : decode (cr_by Y_X0_givenWithin) 5 = .ok (.aload_n 0, 1) := by decide +kernel
theorem dX0_givenWithin_6 : decode (cr_by Y_X0_givenWithin) 6 = .ok (.getfield 48, 3) := by decide +kernel
theorem dX0_givenWithin_9 : decode (cr_by Y_X0_givenWithin) 9 = .ok (.if_icmp .ge 31, 3) := by decide +kernel
theorem dX0_givenWithin_12 : decode (cr_by Y_X0_givenWithin) 12 = .ok (.aload_n 0, 1) := by decide +kernel
theorem dX0_givenWithin_13 : decode (cr_by Y_X0_givenWithin) 13 = .ok (.getfield 42, 3) := by decide +kernel
theorem dX0_givenWithin_16 : decode (cr_by Y_X0_givenWithin) 16 = .ok (.iload_n 3, 1) := by decide +kernel
theorem dX0_givenWithin_17 : decode (cr_by Y_X0_givenWithin) 17 = .ok (.iaload, 1) := by decide +kernel
theorem dX0_givenWithin_18 : decode (cr_by Y_X0_givenWithin) 18 = .ok (.ifCond .lt 16, 3) := by decide +kernel
theorem dX0_givenWithin_21 : decode (cr_by Y_X0_givenWithin) 21 = .ok (.aload_n 0, 1) := by decide +kernel
theorem dX0_givenWithin_22 : decode (cr_by Y_X0_givenWithin) 22 = .ok (.getfield 42, 3) := by decide +kernel
theorem dX0_givenWithin_25 : decode (cr_by Y_X0_givenWithin) 25 = .ok (.iload_n 3, 1) := by decide +kernel
theorem dX0_givenWithin_26 : decode (cr_by Y_X0_givenWithin) 26 = .ok (.iaload, 1) := by decide +kernel
theorem dX0_givenWithin_27 : decode (cr_by Y_X0_givenWithin) 27 = .ok (.iload_n 1, 1) := by decide +kernel
theorem dX0_givenWithin_28 : decode (cr_by Y_X0_givenWithin) 28 = .ok (.if_icmp .gt 6, 3) := by decide +kernel
theorem dX0_givenWithin_31 : decode (cr_by Y_X0_givenWithin) 31 = .ok (.iinc 2 1, 3) := by decide +kernel
theorem dX0_givenWithin_34 : decode (cr_by Y_X0_givenWithin) 34 = .ok (.iinc 3 1, 3) := by decide +kernel
theorem dX0_givenWithin_37 : decode (cr_by Y_X0_givenWithin) 37 = .ok (.goto (-33), 3) := by decide +kernel
theorem dX0_givenWithin_40 : decode (cr_by Y_X0_givenWithin) 40 = .ok (.iload_n 2, 1) := by decide +kernel
theorem dX0_givenWithin_41 : decode (cr_by Y_X0_givenWithin) 41 = .ok (.ireturn, 1) := by decide +kernel
theorem dX0_countDoing_0 : decode (cr_by Y_X0_countDoing) 0 = .ok (.iconst 0, 1) := by decide +kernel
theorem dX0_countDoing_1 : decode (cr_by Y_X0_countDoing) 1 = .ok (.istore_n 2, 1) := by decide +kernel
theorem dX0_countDoing_2 : decode (cr_by Y_X0_countDoing) 2 = .ok (.iconst 0, 1) := by decide +kernel
theorem dX0_countDoing_3 : decode (cr_by Y_X0_countDoing) 3 = .ok (.istore_n 3, 1) := by decide +kernel
theorem dX0_countDoing_4 : decode (cr_by Y_X0_countDoing) 4 = .ok (.iload_n 3, 1) := by decide +kernel
theorem dX0_countDoing_5 : decode (cr_by Y_X0_countDoing) 5 = .ok (.aload_n 0, 1) := by decide +kernel
theorem dX0_countDoing_6 : decode (cr_by Y_X0_countDoing) 6 = .ok (.getfield 48, 3) := by decide +kernel
theorem dX0_countDoing_9 : decode (cr_by Y_X0_countDoing) 9 = .ok (.if_icmp .ge 22, 3) := by decide +kernel
theorem dX0_countDoing_12 : decode (cr_by Y_X0_countDoing) 12 = .ok (.aload_n 0, 1) := by decide +kernel
theorem dX0_countDoing_13 : decode (cr_by Y_X0_countDoing) 13 = .ok (.getfield 9, 3) := by decide +kernel
theorem dX0_countDoing_16 : decode (cr_by Y_X0_countDoing) 16 = .ok (.iload_n 3, 1) := by decide +kernel
theorem dX0_countDoing_17 : decode (cr_by Y_X0_countDoing) 17 = .ok (.iaload, 1) := by decide +kernel
theorem dX0_countDoing_18 : decode (cr_by Y_X0_countDoing) 18 = .ok (.iload_n 1, 1) := by decide +kernel
theorem dX0_countDoing_19 : decode (cr_by Y_X0_countDoing) 19 = .ok (.if_icmp .ne 6, 3) := by decide +kernel
theorem dX0_countDoing_22 : decode (cr_by Y_X0_countDoing) 22 = .ok (.iinc 2 1, 3) := by decide +kernel
theorem dX0_countDoing_25 : decode (cr_by Y_X0_countDoing) 25 = .ok (.iinc 3 1, 3) := by decide +kernel
theorem dX0_countDoing_28 : decode (cr_by Y_X0_countDoing) 28 = .ok (.goto (-24), 3) := by decide +kernel
theorem dX0_countDoing_31 : decode (cr_by Y_X0_countDoing) 31 = .ok (.iload_n 2, 1) := by decide +kernel
theorem dX0_countDoing_32 : decode (cr_by Y_X0_countDoing) 32 = .ok (.ireturn, 1) := by decide +kernel
theorem dX0_copyFrom_0 : decode (cr_by Y_X0_copyFrom) 0 = .ok (.aload_n 0, 1) := by decide +kernel
theorem dX0_copyFrom_1 : decode (cr_by Y_X0_copyFrom) 1 = .ok (.aload_n 1, 1) := by decide +kernel
theorem dX0_copyFrom_2 : decode (cr_by Y_X0_copyFrom) 2 = .ok (.getfield 48, 3) := by decide +kernel
theorem dX0_copyFrom_5 : decode (cr_by Y_X0_copyFrom) 5 = .ok (.putfield 48, 3) := by decide +kernel
theorem dX0_copyFrom_8 : decode (cr_by Y_X0_copyFrom) 8 = .ok (.aload_n 1, 1) := by decide +kernel
theorem dX0_copyFrom_9 : decode (cr_by Y_X0_copyFrom) 9 = .ok (.getfield 9, 3) := by decide +kernel
theorem dX0_copyFrom_12 : decode (cr_by Y_X0_copyFrom) 12 = .ok (.iconst 0, 1) := by decide +kernel
theorem dX0_copyFrom_13 : decode (cr_by Y_X0_copyFrom) 13 = .ok (.aload_n 0, 1) := by decide +kernel
theorem dX0_copyFrom_14 : decode (cr_by Y_X0_copyFrom) 14 = .ok (.getfield 9, 3) := by decide +kernel
theorem dX0_copyFrom_17 : decode (cr_by Y_X0_copyFrom) 17 = .ok (.iconst 0, 1) := by decide +kernel
theorem dX0_copyFrom_18 : decode (cr_by Y_X0_copyFrom) 18 = .ok (.aload_n 0, 1) := by decide +kernel
theorem dX0_copyFrom_19 : decode (cr_by Y_X0_copyFrom) 19 = .ok (.getfield 48, 3) := by decide +kernel
theorem dX0_copyFrom_22 : decode (cr_by Y_X0_copyFrom) 22 = .ok (.invokestatic 63, 3) := by decide +kernel
theorem dX0_copyFrom_25 : decode (cr_by Y_X0_copyFrom) 25 = .ok (.aload_n 1, 1) := by decide +kernel
theorem dX0_copyFrom_26 : decode (cr_by Y_X0_copyFrom) 26 = .ok (.getfield 15, 3) := by decide +kernel
theorem dX0_copyFrom_29 : decode (cr_by Y_X0_copyFrom) 29 = .ok (.iconst 0, 1) := by decide +kernel
theorem dX0_copyFrom_30 : decode (cr_by Y_X0_copyFrom) 30 = .ok (.aload_n 0, 1) := by decide +kernel
theorem dX0_copyFrom_31 : decode (cr_by Y_X0_copyFrom) 31 = .ok (.getfield 15, 3) := by decide +kernel
theorem dX0_copyFrom_34 : decode (cr_by Y_X0_copyFrom) 34 = .ok (.iconst 0, 1) := by decide +kernel
theorem dX0_copyFrom_35 : decode (cr_by Y_X0_copyFrom) 35 = .ok (.aload_n 0, 1) := by decide +kernel
theorem dX0_copyFrom_36 : decode (cr_by Y_X0_copyFrom) 36 = .ok (.getfield 48, 3) := by decide +kernel
theorem dX0_copyFrom_39 : decode (cr_by Y_X0_copyFrom) 39 = .ok (.invokestatic 63, 3) := by decide +kernel
theorem dX0_copyFrom_42 : decode (cr_by Y_X0_copyFrom) 42 = .ok (.aload_n 1, 1) := by decide +kernel
theorem dX0_copyFrom_43 : decode (cr_by Y_X0_copyFrom) 43 = .ok (.getfield 18, 3) := by decide +kernel
theorem dX0_copyFrom_46 : decode (cr_by Y_X0_copyFrom) 46 = .ok (.iconst 0, 1) := by decide +kernel
theorem dX0_copyFrom_47 : decode (cr_by Y_X0_copyFrom) 47 = .ok (.aload_n 0, 1) := by decide +kernel
theorem dX0_copyFrom_48 : decode (cr_by Y_X0_copyFrom) 48 = .ok (.getfield 18, 3) := by decide +kernel
theorem dX0_copyFrom_51 : decode (cr_by Y_X0_copyFrom) 51 = .ok (.iconst 0, 1) := by decide +kernel
theorem dX0_copyFrom_52 : decode (cr_by Y_X0_copyFrom) 52 = .ok (.aload_n 0, 1) := by decide +kernel
theorem dX0_copyFrom_53 : decode (cr_by Y_X0_copyFrom) 53 = .ok (.getfield 48, 3) := by decide +kernel
theorem dX0_copyFrom_56 : decode (cr_by Y_X0_copyFrom) 56 = .ok (.invokestatic 63, 3) := by decide +kernel
theorem dX0_copyFrom_59 : decode (cr_by Y_X0_copyFrom) 59 = .ok (.aload_n 1, 1) := by decide +kernel
theorem dX0_copyFrom_60 : decode (cr_by Y_X0_copyFrom) 60 = .ok (.getfield 21, 3) := by decide +kernel
theorem dX0_copyFrom_63 : decode (cr_by Y_X0_copyFrom) 63 = .ok (.iconst 0, 1) := by decide +kernel
theorem dX0_copyFrom_64 : decode (cr_by Y_X0_copyFrom) 64 = .ok (.aload_n 0, 1) := by decide +kernel
theorem dX0_copyFrom_65 : decode (cr_by Y_X0_copyFrom) 65 = .ok (.getfield 21, 3) := by decide +kernel
theorem dX0_copyFrom_68 : decode (cr_by Y_X0_copyFrom) 68 = .ok (.iconst 0, 1) := by decide +kernel
theorem dX0_copyFrom_69 : decode (cr_by Y_X0_copyFrom) 69 = .ok (.aload_n 0, 1) := by decide +kernel
theorem dX0_copyFrom_70 : decode (cr_by Y_X0_copyFrom) 70 = .ok (.getfield 48, 3) := by decide +kernel
theorem dX0_copyFrom_73 : decode (cr_by Y_X0_copyFrom) 73 = .ok (.invokestatic 63, 3) := by decide +kernel
theorem dX0_copyFrom_76 : decode (cr_by Y_X0_copyFrom) 76 = .ok (.aload_n 1, 1) := by decide +kernel
theorem dX0_copyFrom_77 : decode (cr_by Y_X0_copyFrom) 77 = .ok (.getfield 24, 3) := by decide +kernel
theorem dX0_copyFrom_80 : decode (cr_by Y_X0_copyFrom) 80 = .ok (.iconst 0, 1) := by decide +kernel
theorem dX0_copyFrom_81 : decode (cr_by Y_X0_copyFrom) 81 = .ok (.aload_n 0, 1) := by decide +kernel
theorem dX0_copyFrom_82 : decode (cr_by Y_X0_copyFrom) 82 = .ok (.getfield 24, 3) := by decide +kernel
theorem dX0_copyFrom_85 : decode (cr_by Y_X0_copyFrom) 85 = .ok (.iconst 0, 1) := by decide +kernel
theorem dX0_copyFrom_86 : decode (cr_by Y_X0_copyFrom) 86 = .ok (.aload_n 0, 1) := by decide +kernel
theorem dX0_copyFrom_87 : decode (cr_by Y_X0_copyFrom) 87 = .ok (.getfield 48, 3) := by decide +kernel
theorem dX0_copyFrom_90 : decode (cr_by Y_X0_copyFrom) 90 = .ok (.invokestatic 63, 3) := by decide +kernel
theorem dX0_copyFrom_93 : decode (cr_by Y_X0_copyFrom) 93 = .ok (.aload_n 1, 1) := by decide +kernel
theorem dX0_copyFrom_94 : decode (cr_by Y_X0_copyFrom) 94 = .ok (.getfield 27, 3) := by decide +kernel
theorem dX0_copyFrom_97 : decode (cr_by Y_X0_copyFrom) 97 = .ok (.iconst 0, 1) := by decide +kernel
theorem dX0_copyFrom_98 : decode (cr_by Y_X0_copyFrom) 98 = .ok (.aload_n 0, 1) := by decide +kernel
theorem dX0_copyFrom_99 : decode (cr_by Y_X0_copyFrom) 99 = .ok (.getfield 27, 3) := by decide +kernel
theorem dX0_copyFrom_102 : decode (cr_by Y_X0_copyFrom) 102 = .ok (.iconst 0, 1) := by decide +kernel
theorem dX0_copyFrom_103 : decode (cr_by Y_X0_copyFrom) 103 = .ok (.aload_n 0, 1) := by decide +kernel
theorem dX0_copyFrom_104 : decode (cr_by Y_X0_copyFrom) 104 = .ok (.getfield 48, 3) := by decide +kernel
theorem dX0_copyFrom_107 : decode (cr_by Y_X0_copyFrom) 107 = .ok (.invokestatic 63, 3) := by decide +kernel
theorem dX0_copyFrom_110 : decode (cr_by Y_X0_copyFrom) 110 = .ok (.aload_n 1, 1) := by decide +kernel
theorem dX0_copyFrom_111 : decode (cr_by Y_X0_copyFrom) 111 = .ok (.getfield 30, 3) := by decide +kernel
theorem dX0_copyFrom_114 : decode (cr_by Y_X0_copyFrom) 114 = .ok (.iconst 0, 1) := by decide +kernel
theorem dX0_copyFrom_115 : decode (cr_by Y_X0_copyFrom) 115 = .ok (.aload_n 0, 1) := by decide +kernel
theorem dX0_copyFrom_116 : decode (cr_by Y_X0_copyFrom) 116 = .ok (.getfield 30, 3) := by decide +kernel
theorem dX0_copyFrom_119 : decode (cr_by Y_X0_copyFrom) 119 = .ok (.iconst 0, 1) := by decide +kernel
theorem dX0_copyFrom_120 : decode (cr_by Y_X0_copyFrom) 120 = .ok (.aload_n 0, 1) := by decide +kernel
theorem dX0_copyFrom_121 : decode (cr_by Y_X0_copyFrom) 121 = .ok (.getfield 48, 3) := by decide +kernel
theorem dX0_copyFrom_124 : decode (cr_by Y_X0_copyFrom) 124 = .ok (.invokestatic 63, 3) := by decide +kernel
theorem dX0_copyFrom_127 : decode (cr_by Y_X0_copyFrom) 127 = .ok (.aload_n 1, 1) := by decide +kernel
theorem dX0_copyFrom_128 : decode (cr_by Y_X0_copyFrom) 128 = .ok (.getfield 33, 3) := by decide +kernel
theorem dX0_copyFrom_131 : decode (cr_by Y_X0_copyFrom) 131 = .ok (.iconst 0, 1) := by decide +kernel
theorem dX0_copyFrom_132 : decode (cr_by Y_X0_copyFrom) 132 = .ok (.aload_n 0, 1) := by decide +kernel
theorem dX0_copyFrom_133 : decode (cr_by Y_X0_copyFrom) 133 = .ok (.getfield 33, 3) := by decide +kernel
theorem dX0_copyFrom_136 : decode (cr_by Y_X0_copyFrom) 136 = .ok (.iconst 0, 1) := by decide +kernel
theorem dX0_copyFrom_137 : decode (cr_by Y_X0_copyFrom) 137 = .ok (.aload_n 0, 1) := by decide +kernel
theorem dX0_copyFrom_138 : decode (cr_by Y_X0_copyFrom) 138 = .ok (.getfield 48, 3) := by decide +kernel
theorem dX0_copyFrom_141 : decode (cr_by Y_X0_copyFrom) 141 = .ok (.invokestatic 63, 3) := by decide +kernel
theorem dX0_copyFrom_144 : decode (cr_by Y_X0_copyFrom) 144 = .ok (.aload_n 1, 1) := by decide +kernel
theorem dX0_copyFrom_145 : decode (cr_by Y_X0_copyFrom) 145 = .ok (.getfield 36, 3) := by decide +kernel
theorem dX0_copyFrom_148 : decode (cr_by Y_X0_copyFrom) 148 = .ok (.iconst 0, 1) := by decide +kernel
theorem dX0_copyFrom_149 : decode (cr_by Y_X0_copyFrom) 149 = .ok (.aload_n 0, 1) := by decide +kernel
theorem dX0_copyFrom_150 : decode (cr_by Y_X0_copyFrom) 150 = .ok (.getfield 36, 3) := by decide +kernel
theorem dX0_copyFrom_153 : decode (cr_by Y_X0_copyFrom) 153 = .ok (.iconst 0, 1) := by decide +kernel
theorem dX0_copyFrom_154 : decode (cr_by Y_X0_copyFrom) 154 = .ok (.aload_n 0, 1) := by decide +kernel
theorem dX0_copyFrom_155 : decode (cr_by Y_X0_copyFrom) 155 = .ok (.getfield 48, 3) := by decide +kernel
theorem dX0_copyFrom_158 : decode (cr_by Y_X0_copyFrom) 158 = .ok (.invokestatic 63, 3) := by decide +kernel
theorem dX0_copyFrom_161 : decode (cr_by Y_X0_copyFrom) 161 = .ok (.aload_n 1, 1) := by decide +kernel
theorem dX0_copyFrom_162 : decode (cr_by Y_X0_copyFrom) 162 = .ok (.getfield 39, 3) := by decide +kernel
theorem dX0_copyFrom_165 : decode (cr_by Y_X0_copyFrom) 165 = .ok (.iconst 0, 1) := by decide +kernel
theorem dX0_copyFrom_166 : decode (cr_by Y_X0_copyFrom) 166 = .ok (.aload_n 0, 1) := by decide +kernel
theorem dX0_copyFrom_167 : decode (cr_by Y_X0_copyFrom) 167 = .ok (.getfield 39, 3) := by decide +kernel
theorem dX0_copyFrom_170 : decode (cr_by Y_X0_copyFrom) 170 = .ok (.iconst 0, 1) := by decide +kernel
theorem dX0_copyFrom_171 : decode (cr_by Y_X0_copyFrom) 171 = .ok (.aload_n 0, 1) := by decide +kernel
theorem dX0_copyFrom_172 : decode (cr_by Y_X0_copyFrom) 172 = .ok (.getfield 48, 3) := by decide +kernel
theorem dX0_copyFrom_175 : decode (cr_by Y_X0_copyFrom) 175 = .ok (.invokestatic 63, 3) := by decide +kernel
theorem dX0_copyFrom_178 : decode (cr_by Y_X0_copyFrom) 178 = .ok (.aload_n 1, 1) := by decide +kernel
theorem dX0_copyFrom_179 : decode (cr_by Y_X0_copyFrom) 179 = .ok (.getfield 42, 3) := by decide +kernel
theorem dX0_copyFrom_182 : decode (cr_by Y_X0_copyFrom) 182 = .ok (.iconst 0, 1) := by decide +kernel
theorem dX0_copyFrom_183 : decode (cr_by Y_X0_copyFrom) 183 = .ok (.aload_n 0, 1) := by decide +kernel
theorem dX0_copyFrom_184 : decode (cr_by Y_X0_copyFrom) 184 = .ok (.getfield 42, 3) := by decide +kernel
theorem dX0_copyFrom_187 : decode (cr_by Y_X0_copyFrom) 187 = .ok (.iconst 0, 1) := by decide +kernel
theorem dX0_copyFrom_188 : decode (cr_by Y_X0_copyFrom) 188 = .ok (.aload_n 0, 1) := by decide +kernel
theorem dX0_copyFrom_189 : decode (cr_by Y_X0_copyFrom) 189 = .ok (.getfield 48, 3) := by decide +kernel
theorem dX0_copyFrom_192 : decode (cr_by Y_X0_copyFrom) 192 = .ok (.invokestatic 63, 3) := by decide +kernel
theorem dX0_copyFrom_195 : decode (cr_by Y_X0_copyFrom) 195 = .ok (.aload_n 1, 1) := by decide +kernel
theorem dX0_copyFrom_196 : decode (cr_by Y_X0_copyFrom) 196 = .ok (.getfield 45, 3) := by decide +kernel
theorem dX0_copyFrom_199 : decode (cr_by Y_X0_copyFrom) 199 = .ok (.iconst 0, 1) := by decide +kernel
theorem dX0_copyFrom_200 : decode (cr_by Y_X0_copyFrom) 200 = .ok (.aload_n 0, 1) := by decide +kernel
theorem dX0_copyFrom_201 : decode (cr_by Y_X0_copyFrom) 201 = .ok (.getfield 45, 3) := by decide +kernel
theorem dX0_copyFrom_204 : decode (cr_by Y_X0_copyFrom) 204 = .ok (.iconst 0, 1) := by decide +kernel
theorem dX0_copyFrom_205 : decode (cr_by Y_X0_copyFrom) 205 = .ok (.aload_n 0, 1) := by decide +kernel
theorem dX0_copyFrom_206 : decode (cr_by Y_X0_copyFrom) 206 = .ok (.getfield 48, 3) := by decide +kernel
theorem dX0_copyFrom_209 : decode (cr_by Y_X0_copyFrom) 209 = .ok (.invokestatic 63, 3) := by decide +kernel
theorem dX0_copyFrom_212 : decode (cr_by Y_X0_copyFrom) 212 = .ok (.return_, 1) := by decide +kernel

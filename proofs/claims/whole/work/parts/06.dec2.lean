theorem dX2_has_0 : decode (cr_by Y_X2_has) 0 = .ok (.iload_n 1, 1) := by decide +kernel
theorem dX2_has_1 : decode (cr_by Y_X2_has) 1 = .ok (.ifCond .lt 15, 3) := by decide +kernel
theorem dX2_has_4 : decode (cr_by Y_X2_has) 4 = .ok (.iload_n 1, 1) := by decide +kernel
theorem dX2_has_5 : decode (cr_by Y_X2_has) 5 = .ok (.aload_n 0, 1) := by decide +kernel
theorem dX2_has_6 : decode (cr_by Y_X2_has) 6 = .ok (.getfield 36, 3) := by decide +kernel
theorem dX2_has_9 : decode (cr_by Y_X2_has) 9 = .ok (.if_icmp .ge 7, 3) := by decide +kernel
theorem dX2_has_12 : decode (cr_by Y_X2_has) 12 = .ok (.iconst 1, 1) := by decide +kernel
theorem dX2_has_13 : decode (cr_by Y_X2_has) 13 = .ok (.goto 4, 3) := by decide +kernel
theorem dX2_has_16 : decode (cr_by Y_X2_has) 16 = .ok (.iconst 0, 1) := by decide +kernel
theorem dX2_has_17 : decode (cr_by Y_X2_has) 17 = .ok (.ireturn, 1) := by decide +kernel
theorem dX2_add_0 : decode (cr_by Y_X2_add) 0 = .ok (.aload_n 0, 1) := by decide +kernel
theorem dX2_add_1 : decode (cr_by Y_X2_add) 1 = .ok (.getfield 36, 3) := by decide +kernel
theorem dX2_add_4 : decode (cr_by Y_X2_add) 4 = .ok (.bipush 10, 2) := by decide +kernel
theorem dX2_add_6 : decode (cr_by Y_X2_add) 6 = .ok (.if_icmp .lt 6, 3) := by decide +kernel
theorem dX2_add_9 : decode (cr_by Y_X2_add) 9 = .ok (.bipush (-9), 2) := by decide +kernel
theorem dX2_add_11 : decode (cr_by Y_X2_add) 11 = .ok (.ireturn, 1) := by decide +kernel
theorem dX2_add_12 : decode (cr_by Y_X2_add) 12 = .ok (.aload_n 0, 1) := by decide +kernel
theorem dX2_add_13 : decode (cr_by Y_X2_add) 13 = .ok (.getfield 9, 3) := by decide +kernel
theorem dX2_add_16 : decode (cr_by Y_X2_add) 16 = .ok (.aload_n 0, 1) := by decide +kernel
theorem dX2_add_17 : decode (cr_by Y_X2_add) 17 = .ok (.getfield 36, 3) := by decide +kernel
theorem dX2_add_20 : decode (cr_by Y_X2_add) 20 = .ok (.iload_n 1, 1) := by decide +kernel
theorem dX2_add_21 : decode (cr_by Y_X2_add) 21 = .ok (.iastore, 1) := by decide +kernel
theorem dX2_add_22 : decode (cr_by Y_X2_add) 22 = .ok (.aload_n 0, 1) := by decide +kernel
theorem dX2_add_23 : decode (cr_by Y_X2_add) 23 = .ok (.getfield 15, 3) := by decide +kernel
theorem dX2_add_26 : decode (cr_by Y_X2_add) 26 = .ok (.aload_n 0, 1) := by decide +kernel
theorem dX2_add_27 : decode (cr_by Y_X2_add) 27 = .ok (.getfield 36, 3) := by decide +kernel
theorem dX2_add_30 : decode (cr_by Y_X2_add) 30 = .ok (.iconst 0, 1) := by decide +kernel
theorem dX2_add_31 : decode (cr_by Y_X2_add) 31 = .ok (.iastore, 1) := by decide +kernel
theorem dX2_add_32 : decode (cr_by Y_X2_add) 32 = .ok (.aload_n 0, 1) := by decide +kernel
theorem dX2_add_33 : decode (cr_by Y_X2_add) 33 = .ok (.getfield 18, 3) := by decide +kernel
theorem dX2_add_36 : decode (cr_by Y_X2_add) 36 = .ok (.aload_n 0, 1) := by decide +kernel
theorem dX2_add_37 : decode (cr_by Y_X2_add) 37 = .ok (.getfield 36, 3) := by decide +kernel
theorem dX2_add_40 : decode (cr_by Y_X2_add) 40 = .ok (.iload_n 2, 1) := by decide +kernel
theorem dX2_add_41 : decode (cr_by Y_X2_add) 41 = .ok (.iastore, 1) := by decide +kernel
theorem dX2_add_42 : decode (cr_by Y_X2_add) 42 = .ok (.aload_n 0, 1) := by decide +kernel
theorem dX2_add_43 : decode (cr_by Y_X2_add) 43 = .ok (.dup, 1) := by decide +kernel
theorem dX2_add_44 : decode (cr_by Y_X2_add) 44 = .ok (.getfield 36, 3) := by decide +kernel
theorem dX2_add_47 : decode (cr_by Y_X2_add) 47 = .ok (.dup_x1, 1) := by decide +kernel
theorem dX2_add_48 : decode (cr_by Y_X2_add) 48 = .ok (.iconst 1, 1) := by decide +kernel
theorem dX2_add_49 : decode (cr_by Y_X2_add) 49 = .ok (.iadd, 1) := by decide +kernel
theorem dX2_add_50 : decode (cr_by Y_X2_add) 50 = .ok (.putfield 36, 3) := by decide +kernel
theorem dX2_add_53 : decode (cr_by Y_X2_add) 53 = .ok (.ireturn, 1) := by decide +kernel
theorem dX2_become_0 : decode (cr_by Y_X2_become) 0 = .ok (.aload_n 0, 1) := by decide +kernel
theorem dX2_become_1 : decode (cr_by Y_X2_become) 1 = .ok (.getfield 15, 3) := by decide +kernel
theorem dX2_become_4 : decode (cr_by Y_X2_become) 4 = .ok (.iload_n 1, 1) := by decide +kernel
theorem dX2_become_5 : decode (cr_by Y_X2_become) 5 = .ok (.iload_n 2, 1) := by decide +kernel
theorem dX2_become_6 : decode (cr_by Y_X2_become) 6 = .ok (.iastore, 1) := by decide +kernel
theorem dX2_become_7 : decode (cr_by Y_X2_become) 7 = .ok (.aload_n 0, 1) := by decide +kernel
theorem dX2_become_8 : decode (cr_by Y_X2_become) 8 = .ok (.getfield 18, 3) := by decide +kernel
theorem dX2_become_11 : decode (cr_by Y_X2_become) 11 = .ok (.iload_n 1, 1) := by decide +kernel
theorem dX2_become_12 : decode (cr_by Y_X2_become) 12 = .ok (.iload_n 3, 1) := by decide +kernel
theorem dX2_become_13 : decode (cr_by Y_X2_become) 13 = .ok (.iastore, 1) := by decide +kernel
theorem dX2_become_14 : decode (cr_by Y_X2_become) 14 = .ok (.return_, 1) := by decide +kernel
theorem dX2_gradeFor_0 : decode (cr_by Y_X2_gradeFor) 0 = .ok (.aload_n 0, 1) := by decide +kernel
theorem dX2_gradeFor_1 : decode (cr_by Y_X2_gradeFor) 1 = .ok (.getfield 9, 3) := by decide +kernel
theorem dX2_gradeFor_4 : decode (cr_by Y_X2_gradeFor) 4 = .ok (.iload_n 1, 1) := by decide +kernel
theorem dX2_gradeFor_5 : decode (cr_by Y_X2_gradeFor) 5 = .ok (.iaload, 1) := by decide +kernel
theorem dX2_gradeFor_6 : decode (cr_by Y_X2_gradeFor) 6 = .ok (.iconst 2, 1) := by decide +kernel
theorem dX2_gradeFor_7 : decode (cr_by Y_X2_gradeFor) 7 = .ok (.iload_n 2, 1) := by decide +kernel
theorem dX2_gradeFor_8 : decode (cr_by Y_X2_gradeFor) 8 = .ok (.imul, 1) := by decide +kernel
theorem dX2_gradeFor_9 : decode (cr_by Y_X2_gradeFor) 9 = .ok (.ishr, 1) := by decide +kernel
theorem dX2_gradeFor_10 : decode (cr_by Y_X2_gradeFor) 10 = .ok (.iconst 3, 1) := by decide +kernel
theorem dX2_gradeFor_11 : decode (cr_by Y_X2_gradeFor) 11 = .ok (.iand, 1) := by decide +kernel
theorem dX2_gradeFor_12 : decode (cr_by Y_X2_gradeFor) 12 = .ok (.ireturn, 1) := by decide +kernel
theorem dX2_setGrade_0 : decode (cr_by Y_X2_setGrade) 0 = .ok (.aload_n 0, 1) := by decide +kernel
theorem dX2_setGrade_1 : decode (cr_by Y_X2_setGrade) 1 = .ok (.getfield 9, 3) := by decide +kernel
theorem dX2_setGrade_4 : decode (cr_by Y_X2_setGrade) 4 = .ok (.iload_n 1, 1) := by decide +kernel
theorem dX2_setGrade_5 : decode (cr_by Y_X2_setGrade) 5 = .ok (.aload_n 0, 1) := by decide +kernel
theorem dX2_setGrade_6 : decode (cr_by Y_X2_setGrade) 6 = .ok (.getfield 9, 3) := by decide +kernel
theorem dX2_setGrade_9 : decode (cr_by Y_X2_setGrade) 9 = .ok (.iload_n 1, 1) := by decide +kernel
theorem dX2_setGrade_10 : decode (cr_by Y_X2_setGrade) 10 = .ok (.iaload, 1) := by decide +kernel
theorem dX2_setGrade_11 : decode (cr_by Y_X2_setGrade) 11 = .ok (.iconst 3, 1) := by decide +kernel
theorem dX2_setGrade_12 : decode (cr_by Y_X2_setGrade) 12 = .ok (.iconst 2, 1) := by decide +kernel
theorem dX2_setGrade_13 : decode (cr_by Y_X2_setGrade) 13 = .ok (.iload_n 2, 1) := by decide +kernel
theorem dX2_setGrade_14 : decode (cr_by Y_X2_setGrade) 14 = .ok (.imul, 1) := by decide +kernel
theorem dX2_setGrade_15 : decode (cr_by Y_X2_setGrade) 15 = .ok (.ishl, 1) := by decide +kernel
theorem dX2_setGrade_16 : decode (cr_by Y_X2_setGrade) 16 = .ok (.iconst (-1), 1) := by decide +kernel
theorem dX2_setGrade_17 : decode (cr_by Y_X2_setGrade) 17 = .ok (.ixor, 1) := by decide +kernel
theorem dX2_setGrade_18 : decode (cr_by Y_X2_setGrade) 18 = .ok (.iand, 1) := by decide +kernel
theorem dX2_setGrade_19 : decode (cr_by Y_X2_setGrade) 19 = .ok (.iload_n 3, 1) := by decide +kernel
theorem dX2_setGrade_20 : decode (cr_by Y_X2_setGrade) 20 = .ok (.iconst 2, 1) := by decide +kernel
theorem dX2_setGrade_21 : decode (cr_by Y_X2_setGrade) 21 = .ok (.iload_n 2, 1) := by decide +kernel
theorem dX2_setGrade_22 : decode (cr_by Y_X2_setGrade) 22 = .ok (.imul, 1) := by decide +kernel
theorem dX2_setGrade_23 : decode (cr_by Y_X2_setGrade) 23 = .ok (.ishl, 1) := by decide +kernel
theorem dX2_setGrade_24 : decode (cr_by Y_X2_setGrade) 24 = .ok (.ior, 1) := by decide +kernel
theorem dX2_setGrade_25 : decode (cr_by Y_X2_setGrade) 25 = .ok (.iastore, 1) := by decide +kernel
theorem dX2_setGrade_26 : decode (cr_by Y_X2_setGrade) 26 = .ok (.return_, 1) := by decide +kernel
theorem dX2_sortsOf_0 : decode (cr_by Y_X2_sortsOf) 0 = .ok (.aload_n 0, 1) := by decide +kernel
theorem dX2_sortsOf_1 : decode (cr_by Y_X2_sortsOf) 1 = .ok (.getfield 9, 3) := by decide +kernel
theorem dX2_sortsOf_4 : decode (cr_by Y_X2_sortsOf) 4 = .ok (.iload_n 1, 1) := by decide +kernel
theorem dX2_sortsOf_5 : decode (cr_by Y_X2_sortsOf) 5 = .ok (.iaload, 1) := by decide +kernel
theorem dX2_sortsOf_6 : decode (cr_by Y_X2_sortsOf) 6 = .ok (.aload_n 0, 1) := by decide +kernel
theorem dX2_sortsOf_7 : decode (cr_by Y_X2_sortsOf) 7 = .ok (.getfield 9, 3) := by decide +kernel
theorem dX2_sortsOf_10 : decode (cr_by Y_X2_sortsOf) 10 = .ok (.iload_n 1, 1) := by decide +kernel
theorem dX2_sortsOf_11 : decode (cr_by Y_X2_sortsOf) 11 = .ok (.iaload, 1) := by decide +kernel
theorem dX2_sortsOf_12 : decode (cr_by Y_X2_sortsOf) 12 = .ok (.iconst 1, 1) := by decide +kernel
theorem dX2_sortsOf_13 : decode (cr_by Y_X2_sortsOf) 13 = .ok (.ishr, 1) := by decide +kernel
theorem dX2_sortsOf_14 : decode (cr_by Y_X2_sortsOf) 14 = .ok (.ior, 1) := by decide +kernel
theorem dX2_sortsOf_15 : decode (cr_by Y_X2_sortsOf) 15 = .ok (.bipush 85, 2) := by decide +kernel
theorem dX2_sortsOf_17 : decode (cr_by Y_X2_sortsOf) 17 = .ok (.iand, 1) := by decide +kernel
theorem dX2_sortsOf_18 : decode (cr_by Y_X2_sortsOf) 18 = .ok (.invokestatic 40, 3) := by decide +kernel
theorem dX2_sortsOf_21 : decode (cr_by Y_X2_sortsOf) 21 = .ok (.ireturn, 1) := by decide +kernel
theorem dX2_canTake_0 : decode (cr_by Y_X2_canTake) 0 = .ok (.iload_n 1, 1) := by decide +kernel
theorem dX2_canTake_1 : decode (cr_by Y_X2_canTake) 1 = .ok (.ifCond .lt 26, 3) := by decide +kernel
theorem dX2_canTake_4 : decode (cr_by Y_X2_canTake) 4 = .ok (.iload_n 1, 1) := by decide +kernel
theorem dX2_canTake_5 : decode (cr_by Y_X2_canTake) 5 = .ok (.aload_n 0, 1) := by decide +kernel
theorem dX2_canTake_6 : decode (cr_by Y_X2_canTake) 6 = .ok (.getfield 36, 3) := by decide +kernel
theorem dX2_canTake_9 : decode (cr_by Y_X2_canTake) 9 = .ok (.if_icmp .ge 18, 3) := by decide +kernel
theorem dX2_canTake_12 : decode (cr_by Y_X2_canTake) 12 = .ok (.aload_n 0, 1) := by decide +kernel
theorem dX2_canTake_13 : decode (cr_by Y_X2_canTake) 13 = .ok (.getfield 9, 3) := by decide +kernel
theorem dX2_canTake_16 : decode (cr_by Y_X2_canTake) 16 = .ok (.iload_n 1, 1) := by decide +kernel
theorem dX2_canTake_17 : decode (cr_by Y_X2_canTake) 17 = .ok (.iaload, 1) := by decide +kernel
theorem dX2_canTake_18 : decode (cr_by Y_X2_canTake) 18 = .ok (.iconst 2, 1) := by decide +kernel
theorem dX2_canTake_19 : decode (cr_by Y_X2_canTake) 19 = .ok (.iload_n 2, 1) := by decide +kernel
theorem dX2_canTake_20 : decode (cr_by Y_X2_canTake) 20 = .ok (.imul, 1) := by decide +kernel
theorem dX2_canTake_21 : decode (cr_by Y_X2_canTake) 21 = .ok (.ishr, 1) := by decide +kernel
theorem dX2_canTake_22 : decode (cr_by Y_X2_canTake) 22 = .ok (.iconst 3, 1) := by decide +kernel
theorem dX2_canTake_23 : decode (cr_by Y_X2_canTake) 23 = .ok (.iand, 1) := by decide +kernel
theorem dX2_canTake_24 : decode (cr_by Y_X2_canTake) 24 = .ok (.ifCond .ne 5, 3) := by decide +kernel
theorem dX2_canTake_27 : decode (cr_by Y_X2_canTake) 27 = .ok (.iconst 0, 1) := by decide +kernel
theorem dX2_canTake_28 : decode (cr_by Y_X2_canTake) 28 = .ok (.ireturn, 1) := by decide +kernel
theorem dX2_canTake_29 : decode (cr_by Y_X2_canTake) 29 = .ok (.aload_n 0, 1) := by decide +kernel
theorem dX2_canTake_30 : decode (cr_by Y_X2_canTake) 30 = .ok (.getfield 15, 3) := by decide +kernel
theorem dX2_canTake_33 : decode (cr_by Y_X2_canTake) 33 = .ok (.iload_n 1, 1) := by decide +kernel
theorem dX2_canTake_34 : decode (cr_by Y_X2_canTake) 34 = .ok (.iaload, 1) := by decide +kernel
theorem dX2_canTake_35 : decode (cr_by Y_X2_canTake) 35 = .ok (.iconst 1, 1) := by decide +kernel
theorem dX2_canTake_36 : decode (cr_by Y_X2_canTake) 36 = .ok (.if_icmp .ne 5, 3) := by decide +kernel
theorem dX2_canTake_39 : decode (cr_by Y_X2_canTake) 39 = .ok (.iconst 1, 1) := by decide +kernel
theorem dX2_canTake_40 : decode (cr_by Y_X2_canTake) 40 = .ok (.ireturn, 1) := by decide +kernel
theorem dX2_canTake_41 : decode (cr_by Y_X2_canTake) 41 = .ok (.iload_n 3, 1) := by decide +kernel
theorem dX2_canTake_42 : decode (cr_by Y_X2_canTake) 42 = .ok (.ifCond .eq 37, 3) := by decide +kernel
theorem dX2_canTake_45 : decode (cr_by Y_X2_canTake) 45 = .ok (.aload_n 0, 1) := by decide +kernel
theorem dX2_canTake_46 : decode (cr_by Y_X2_canTake) 46 = .ok (.getfield 15, 3) := by decide +kernel
theorem dX2_canTake_49 : decode (cr_by Y_X2_canTake) 49 = .ok (.iload_n 1, 1) := by decide +kernel
theorem dX2_canTake_50 : decode (cr_by Y_X2_canTake) 50 = .ok (.iaload, 1) := by decide +kernel
theorem dX2_canTake_51 : decode (cr_by Y_X2_canTake) 51 = .ok (.iconst 2, 1) := by decide +kernel
theorem dX2_canTake_52 : decode (cr_by Y_X2_canTake) 52 = .ok (.if_icmp .ne 27, 3) := by decide +kernel
theorem dX2_canTake_55 : decode (cr_by Y_X2_canTake) 55 = .ok (.aload_n 0, 1) := by decide +kernel
theorem dX2_canTake_56 : decode (cr_by Y_X2_canTake) 56 = .ok (.getfield 24, 3) := by decide +kernel
theorem dX2_canTake_59 : decode (cr_by Y_X2_canTake) 59 = .ok (.iload_n 1, 1) := by decide +kernel
theorem dX2_canTake_60 : decode (cr_by Y_X2_canTake) 60 = .ok (.iaload, 1) := by decide +kernel
theorem dX2_canTake_61 : decode (cr_by Y_X2_canTake) 61 = .ok (.iconst 3, 1) := by decide +kernel
theorem dX2_canTake_62 : decode (cr_by Y_X2_canTake) 62 = .ok (.if_icmp .ne 17, 3) := by decide +kernel
theorem dX2_canTake_65 : decode (cr_by Y_X2_canTake) 65 = .ok (.aload_n 0, 1) := by decide +kernel
theorem dX2_canTake_66 : decode (cr_by Y_X2_canTake) 66 = .ok (.getfield 21, 3) := by decide +kernel
theorem dX2_canTake_69 : decode (cr_by Y_X2_canTake) 69 = .ok (.iload_n 1, 1) := by decide +kernel
theorem dX2_canTake_70 : decode (cr_by Y_X2_canTake) 70 = .ok (.iaload, 1) := by decide +kernel
theorem dX2_canTake_71 : decode (cr_by Y_X2_canTake) 71 = .ok (.iconst 3, 1) := by decide +kernel
theorem dX2_canTake_72 : decode (cr_by Y_X2_canTake) 72 = .ok (.if_icmp .ge 7, 3) := by decide +kernel
theorem dX2_canTake_75 : decode (cr_by Y_X2_canTake) 75 = .ok (.iconst 1, 1) := by decide +kernel
theorem dX2_canTake_76 : decode (cr_by Y_X2_canTake) 76 = .ok (.goto 4, 3) := by decide +kernel
theorem dX2_canTake_79 : decode (cr_by Y_X2_canTake) 79 = .ok (.iconst 0, 1) := by decide +kernel
theorem dX2_canTake_80 : decode (cr_by Y_X2_canTake) 80 = .ok (.ireturn, 1) := by decide +kernel
theorem dX2_someCanTake_0 : decode (cr_by Y_X2_someCanTake) 0 = .ok (.iconst 0, 1) := by decide +kernel
theorem dX2_someCanTake_1 : decode (cr_by Y_X2_someCanTake) 1 = .ok (.istore_n 3, 1) := by decide +kernel
theorem dX2_someCanTake_2 : decode (cr_by Y_X2_someCanTake) 2 = .ok (.iload_n 3, 1) := by decide +kernel
theorem dX2_someCanTake_3 : decode (cr_by Y_X2_someCanTake) 3 = .ok (.aload_n 0, 1) := by decide +kernel
theorem dX2_someCanTake_4 : decode (cr_by Y_X2_someCanTake) 4 = .ok (.getfield 36, 3) := by decide +kernel
theorem dX2_someCanTake_7 : decode (cr_by Y_X2_someCanTake) 7 = .ok (.if_icmp .ge 21, 3) := by decide +kernel
theorem dX2_someCanTake_10 : decode (cr_by Y_X2_someCanTake) 10 = .ok (.aload_n 0, 1) := by decide +kernel
theorem dX2_someCanTake_11 : decode (cr_by Y_X2_someCanTake) 11 = .ok (.iload_n 3, 1) := by decide +kernel
theorem dX2_someCanTake_12 : decode (cr_by Y_X2_someCanTake) 12 = .ok (.iload_n 1, 1) := by decide +kernel
theorem dX2_someCanTake_13 : decode (cr_by Y_X2_someCanTake) 13 = .ok (.iload_n 2, 1) := by decide +kernel
theorem dX2_someCanTake_14 : decode (cr_by Y_X2_someCanTake) 14 = .ok (.invokevirtual 46, 3) := by decide +kernel
theorem dX2_someCanTake_17 : decode (cr_by Y_X2_someCanTake) 17 = .ok (.ifCond .eq 5, 3) := by decide +kernel
theorem dX2_someCanTake_20 : decode (cr_by Y_X2_someCanTake) 20 = .ok (.iconst 1, 1) := by decide +kernel
theorem dX2_someCanTake_21 : decode (cr_by Y_X2_someCanTake) 21 = .ok (.ireturn, 1) := by decide +kernel
theorem dX2_someCanTake_22 : decode (cr_by Y_X2_someCanTake) 22 = .ok (.iinc 3 1, 3) := by decide +kernel
theorem dX2_someCanTake_25 : decode (cr_by Y_X2_someCanTake) 25 = .ok (.goto (-23), 3) := by decide +kernel
theorem dX2_someCanTake_28 : decode (cr_by Y_X2_someCanTake) 28 = .ok (.iconst 0, 1) := by decide +kernel
theorem dX2_someCanTake_29 : decode (cr_by Y_X2_someCanTake) 29 = .ok (.ireturn, 1) := by decide +kernel
theorem dX2_someInHasGrade_0 : decode (cr_by Y_X2_someInHasGrade) 0 = .ok (.iconst 0, 1) := by decide +kernel
theorem dX2_someInHasGrade_1 : decode (cr_by Y_X2_someInHasGrade) 1 = .ok (.istore_n 2, 1) := by decide +kernel
theorem dX2_someInHasGrade_2 : decode (cr_by Y_X2_someInHasGrade) 2 = .ok (.iload_n 2, 1) := by decide +kernel
theorem dX2_someInHasGrade_3 : decode (cr_by Y_X2_someInHasGrade) 3 = .ok (.aload_n 0, 1) := by decide +kernel
theorem dX2_someInHasGrade_4 : decode (cr_by Y_X2_someInHasGrade) 4 = .ok (.getfield 36, 3) := by decide +kernel
theorem dX2_someInHasGrade_7 : decode (cr_by Y_X2_someInHasGrade) 7 = .ok (.if_icmp .ge 29, 3) := by decide +kernel
theorem dX2_someInHasGrade_10 : decode (cr_by Y_X2_someInHasGrade) 10 = .ok (.aload_n 0, 1) := by decide +kernel
theorem dX2_someInHasGrade_11 : decode (cr_by Y_X2_someInHasGrade) 11 = .ok (.getfield 15, 3) := by decide +kernel
theorem dX2_someInHasGrade_14 : decode (cr_by Y_X2_someInHasGrade) 14 = .ok (.iload_n 2, 1) := by decide +kernel
theorem dX2_someInHasGrade_15 : decode (cr_by Y_X2_someInHasGrade) 15 = .ok (.iaload, 1) := by decide +kernel
theorem dX2_someInHasGrade_16 : decode (cr_by Y_X2_someInHasGrade) 16 = .ok (.ifCond .eq 14, 3) := by decide +kernel
theorem dX2_someInHasGrade_19 : decode (cr_by Y_X2_someInHasGrade) 19 = .ok (.aload_n 0, 1) := by decide +kernel
theorem dX2_someInHasGrade_20 : decode (cr_by Y_X2_someInHasGrade) 20 = .ok (.iload_n 2, 1) := by decide +kernel
theorem dX2_someInHasGrade_21 : decode (cr_by Y_X2_someInHasGrade) 21 = .ok (.iload_n 1, 1) := by decide +kernel
theorem dX2_someInHasGrade_22 : decode (cr_by Y_X2_someInHasGrade) 22 = .ok (.invokevirtual 50, 3) := by decide +kernel
theorem dX2_someInHasGrade_25 : decode (cr_by Y_X2_someInHasGrade) 25 = .ok (.ifCond .le 5, 3) := by decide +kernel
theorem dX2_someInHasGrade_28 : decode (cr_by Y_X2_someInHasGrade) 28 = .ok (.iconst 1, 1) := by decide +kernel
theorem dX2_someInHasGrade_29 : decode (cr_by Y_X2_someInHasGrade) 29 = .ok (.ireturn, 1) := by decide +kernel
theorem dX2_someInHasGrade_30 : decode (cr_by Y_X2_someInHasGrade) 30 = .ok (.iinc 2 1, 3) := by decide +kernel
theorem dX2_someInHasGrade_33 : decode (cr_by Y_X2_someInHasGrade) 33 = .ok (.goto (-31), 3) := by decide +kernel
theorem dX2_someInHasGrade_36 : decode (cr_by Y_X2_someInHasGrade) 36 = .ok (.iconst 0, 1) := by decide +kernel
theorem dX2_someInHasGrade_37 : decode (cr_by Y_X2_someInHasGrade) 37 = .ok (.ireturn, 1) := by decide +kernel
theorem dX2_isBetter_0 : decode (cr_by Y_X2_isBetter) 0 = .ok (.aload_n 0, 1) := by decide +kernel
theorem dX2_isBetter_1 : decode (cr_by Y_X2_isBetter) 1 = .ok (.iload_n 1, 1) := by decide +kernel
theorem dX2_isBetter_2 : decode (cr_by Y_X2_isBetter) 2 = .ok (.iload_n 3, 1) := by decide +kernel
theorem dX2_isBetter_3 : decode (cr_by Y_X2_isBetter) 3 = .ok (.invokevirtual 50, 3) := by decide +kernel
theorem dX2_isBetter_6 : decode (cr_by Y_X2_isBetter) 6 = .ok (.aload_n 0, 1) := by decide +kernel
theorem dX2_isBetter_7 : decode (cr_by Y_X2_isBetter) 7 = .ok (.iload_n 2, 1) := by decide +kernel
theorem dX2_isBetter_8 : decode (cr_by Y_X2_isBetter) 8 = .ok (.iload_n 3, 1) := by decide +kernel
theorem dX2_isBetter_9 : decode (cr_by Y_X2_isBetter) 9 = .ok (.invokevirtual 50, 3) := by decide +kernel
theorem dX2_isBetter_12 : decode (cr_by Y_X2_isBetter) 12 = .ok (.isub, 1) := by decide +kernel
theorem dX2_isBetter_13 : decode (cr_by Y_X2_isBetter) 13 = .ok (.istore 4, 2) := by decide +kernel
theorem dX2_isBetter_15 : decode (cr_by Y_X2_isBetter) 15 = .ok (.iload 4, 2) := by decide +kernel
theorem dX2_isBetter_17 : decode (cr_by Y_X2_isBetter) 17 = .ok (.ifCond .eq 14, 3) := by decide +kernel
theorem dX2_isBetter_20 : decode (cr_by Y_X2_isBetter) 20 = .ok (.iload 4, 2) := by decide +kernel
theorem dX2_isBetter_22 : decode (cr_by Y_X2_isBetter) 22 = .ok (.ifCond .le 7, 3) := by decide +kernel
theorem dX2_isBetter_25 : decode (cr_by Y_X2_isBetter) 25 = .ok (.iconst 1, 1) := by decide +kernel
theorem dX2_isBetter_26 : decode (cr_by Y_X2_isBetter) 26 = .ok (.goto 4, 3) := by decide +kernel
theorem dX2_isBetter_29 : decode (cr_by Y_X2_isBetter) 29 = .ok (.iconst 0, 1) := by decide +kernel
theorem dX2_isBetter_30 : decode (cr_by Y_X2_isBetter) 30 = .ok (.ireturn, 1) := by decide +kernel
theorem dX2_isBetter_31 : decode (cr_by Y_X2_isBetter) 31 = .ok (.aload_n 0, 1) := by decide +kernel
theorem dX2_isBetter_32 : decode (cr_by Y_X2_isBetter) 32 = .ok (.iload_n 1, 1) := by decide +kernel
theorem dX2_isBetter_33 : decode (cr_by Y_X2_isBetter) 33 = .ok (.invokevirtual 54, 3) := by decide +kernel
theorem dX2_isBetter_36 : decode (cr_by Y_X2_isBetter) 36 = .ok (.aload_n 0, 1) := by decide +kernel
theorem dX2_isBetter_37 : decode (cr_by Y_X2_isBetter) 37 = .ok (.iload_n 2, 1) := by decide +kernel
theorem dX2_isBetter_38 : decode (cr_by Y_X2_isBetter) 38 = .ok (.invokevirtual 54, 3) := by decide +kernel
theorem dX2_isBetter_41 : decode (cr_by Y_X2_isBetter) 41 = .ok (.isub, 1) := by decide +kernel
theorem dX2_isBetter_42 : decode (cr_by Y_X2_isBetter) 42 = .ok (.istore 5, 2) := by decide +kernel
theorem dX2_isBetter_44 : decode (cr_by Y_X2_isBetter) 44 = .ok (.iload 5, 2) := by decide +kernel
theorem dX2_isBetter_46 : decode (cr_by Y_X2_isBetter) 46 = .ok (.ifCond .eq 14, 3) := by decide +kernel
theorem dX2_isBetter_49 : decode (cr_by Y_X2_isBetter) 49 = .ok (.iload 5, 2) := by decide +kernel
theorem dX2_isBetter_51 : decode (cr_by Y_X2_isBetter) 51 = .ok (.ifCond .ge 7, 3) := by decide +kernel
theorem dX2_isBetter_54 : decode (cr_by Y_X2_isBetter) 54 = .ok (.iconst 1, 1) := by decide +kernel
theorem dX2_isBetter_55 : decode (cr_by Y_X2_isBetter) 55 = .ok (.goto 4, 3) := by decide +kernel
theorem dX2_isBetter_58 : decode (cr_by Y_X2_isBetter) 58 = .ok (.iconst 0, 1) := by decide +kernel
theorem dX2_isBetter_59 : decode (cr_by Y_X2_isBetter) 59 = .ok (.ireturn, 1) := by decide +kernel
theorem dX2_isBetter_60 : decode (cr_by Y_X2_isBetter) 60 = .ok (.aload_n 0, 1) := by decide +kernel
theorem dX2_isBetter_61 : decode (cr_by Y_X2_isBetter) 61 = .ok (.getfield 15, 3) := by decide +kernel
theorem dX2_isBetter_64 : decode (cr_by Y_X2_isBetter) 64 = .ok (.iload_n 1, 1) := by decide +kernel
theorem dX2_isBetter_65 : decode (cr_by Y_X2_isBetter) 65 = .ok (.iaload, 1) := by decide +kernel
theorem dX2_isBetter_66 : decode (cr_by Y_X2_isBetter) 66 = .ok (.aload_n 0, 1) := by decide +kernel
theorem dX2_isBetter_67 : decode (cr_by Y_X2_isBetter) 67 = .ok (.getfield 15, 3) := by decide +kernel
theorem dX2_isBetter_70 : decode (cr_by Y_X2_isBetter) 70 = .ok (.iload_n 2, 1) := by decide +kernel
theorem dX2_isBetter_71 : decode (cr_by Y_X2_isBetter) 71 = .ok (.iaload, 1) := by decide +kernel
theorem dX2_isBetter_72 : decode (cr_by Y_X2_isBetter) 72 = .ok (.if_icmp .eq 19, 3) := by decide +kernel
theorem dX2_isBetter_75 : decode (cr_by Y_X2_isBetter) 75 = .ok (.aload_n 0, 1) := by decide +kernel
theorem dX2_isBetter_76 : decode (cr_by Y_X2_isBetter) 76 = .ok (.getfield 15, 3) := by decide +kernel
theorem dX2_isBetter_79 : decode (cr_by Y_X2_isBetter) 79 = .ok (.iload_n 1, 1) := by decide +kernel
theorem dX2_isBetter_80 : decode (cr_by Y_X2_isBetter) 80 = .ok (.iaload, 1) := by decide +kernel
theorem dX2_isBetter_81 : decode (cr_by Y_X2_isBetter) 81 = .ok (.iconst 1, 1) := by decide +kernel
theorem dX2_isBetter_82 : decode (cr_by Y_X2_isBetter) 82 = .ok (.if_icmp .ne 7, 3) := by decide +kernel
theorem dX2_isBetter_85 : decode (cr_by Y_X2_isBetter) 85 = .ok (.iconst 1, 1) := by decide +kernel
theorem dX2_isBetter_86 : decode (cr_by Y_X2_isBetter) 86 = .ok (.goto 4, 3) := by decide +kernel
theorem dX2_isBetter_89 : decode (cr_by Y_X2_isBetter) 89 = .ok (.iconst 0, 1) := by decide +kernel
theorem dX2_isBetter_90 : decode (cr_by Y_X2_isBetter) 90 = .ok (.ireturn, 1) := by decide +kernel
theorem dX2_isBetter_91 : decode (cr_by Y_X2_isBetter) 91 = .ok (.aload_n 0, 1) := by decide +kernel
theorem dX2_isBetter_92 : decode (cr_by Y_X2_isBetter) 92 = .ok (.getfield 18, 3) := by decide +kernel
theorem dX2_isBetter_95 : decode (cr_by Y_X2_isBetter) 95 = .ok (.iload_n 1, 1) := by decide +kernel
theorem dX2_isBetter_96 : decode (cr_by Y_X2_isBetter) 96 = .ok (.iaload, 1) := by decide +kernel
theorem dX2_isBetter_97 : decode (cr_by Y_X2_isBetter) 97 = .ok (.aload_n 0, 1) := by decide +kernel
theorem dX2_isBetter_98 : decode (cr_by Y_X2_isBetter) 98 = .ok (.getfield 18, 3) := by decide +kernel
theorem dX2_isBetter_101 : decode (cr_by Y_X2_isBetter) 101 = .ok (.iload_n 2, 1) := by decide +kernel
theorem dX2_isBetter_102 : decode (cr_by Y_X2_isBetter) 102 = .ok (.iaload, 1) := by decide +kernel
theorem dX2_isBetter_103 : decode (cr_by Y_X2_isBetter) 103 = .ok (.if_icmp .ge 7, 3) := by decide +kernel
theorem dX2_isBetter_106 : decode (cr_by Y_X2_isBetter) 106 = .ok (.iconst 1, 1) := by decide +kernel
theorem dX2_isBetter_107 : decode (cr_by Y_X2_isBetter) 107 = .ok (.goto 4, 3) := by decide +kernel
theorem dX2_isBetter_110 : decode (cr_by Y_X2_isBetter) 110 = .ok (.iconst 0, 1) := by decide +kernel
theorem dX2_isBetter_111 : decode (cr_by Y_X2_isBetter) 111 = .ok (.ireturn, 1) := by decide +kernel
theorem dX2_take_0 : decode (cr_by Y_X2_take) 0 = .ok (.aload_n 0, 1) := by decide +kernel
theorem dX2_take_1 : decode (cr_by Y_X2_take) 1 = .ok (.getfield 21, 3) := by decide +kernel
theorem dX2_take_4 : decode (cr_by Y_X2_take) 4 = .ok (.iload_n 1, 1) := by decide +kernel
theorem dX2_take_5 : decode (cr_by Y_X2_take) 5 = .ok (.dup2, 1) := by decide +kernel
theorem dX2_take_6 : decode (cr_by Y_X2_take) 6 = .ok (.iaload, 1) := by decide +kernel
theorem dX2_take_7 : decode (cr_by Y_X2_take) 7 = .ok (.iconst 1, 1) := by decide +kernel
theorem dX2_take_8 : decode (cr_by Y_X2_take) 8 = .ok (.iadd, 1) := by decide +kernel
theorem dX2_take_9 : decode (cr_by Y_X2_take) 9 = .ok (.iastore, 1) := by decide +kernel
theorem dX2_take_10 : decode (cr_by Y_X2_take) 10 = .ok (.aload_n 0, 1) := by decide +kernel
theorem dX2_take_11 : decode (cr_by Y_X2_take) 11 = .ok (.getfield 24, 3) := by decide +kernel
theorem dX2_take_14 : decode (cr_by Y_X2_take) 14 = .ok (.iload_n 1, 1) := by decide +kernel
theorem dX2_take_15 : decode (cr_by Y_X2_take) 15 = .ok (.iload_n 2, 1) := by decide +kernel
theorem dX2_take_16 : decode (cr_by Y_X2_take) 16 = .ok (.iastore, 1) := by decide +kernel
theorem dX2_take_17 : decode (cr_by Y_X2_take) 17 = .ok (.aload_n 0, 1) := by decide +kernel
theorem dX2_take_18 : decode (cr_by Y_X2_take) 18 = .ok (.iload_n 1, 1) := by decide +kernel
theorem dX2_take_19 : decode (cr_by Y_X2_take) 19 = .ok (.iconst 2, 1) := by decide +kernel
theorem dX2_take_20 : decode (cr_by Y_X2_take) 20 = .ok (.iload_n 3, 1) := by decide +kernel
theorem dX2_take_21 : decode (cr_by Y_X2_take) 21 = .ok (.invokevirtual 57, 3) := by decide +kernel
theorem dX2_take_24 : decode (cr_by Y_X2_take) 24 = .ok (.return_, 1) := by decide +kernel
theorem dX2_letGo_0 : decode (cr_by Y_X2_letGo) 0 = .ok (.aload_n 0, 1) := by decide +kernel
theorem dX2_letGo_1 : decode (cr_by Y_X2_letGo) 1 = .ok (.iload_n 1, 1) := by decide +kernel
theorem dX2_letGo_2 : decode (cr_by Y_X2_letGo) 2 = .ok (.invokevirtual 61, 3) := by decide +kernel
theorem dX2_letGo_5 : decode (cr_by Y_X2_letGo) 5 = .ok (.ifCond .ne 4, 3) := by decide +kernel
theorem dX2_letGo_8 : decode (cr_by Y_X2_letGo) 8 = .ok (.return_, 1) := by decide +kernel
theorem dX2_letGo_9 : decode (cr_by Y_X2_letGo) 9 = .ok (.aload_n 0, 1) := by decide +kernel
theorem dX2_letGo_10 : decode (cr_by Y_X2_letGo) 10 = .ok (.getfield 21, 3) := by decide +kernel
theorem dX2_letGo_13 : decode (cr_by Y_X2_letGo) 13 = .ok (.iload_n 1, 1) := by decide +kernel
theorem dX2_letGo_14 : decode (cr_by Y_X2_letGo) 14 = .ok (.dup2, 1) := by decide +kernel
theorem dX2_letGo_15 : decode (cr_by Y_X2_letGo) 15 = .ok (.iaload, 1) := by decide +kernel
theorem dX2_letGo_16 : decode (cr_by Y_X2_letGo) 16 = .ok (.iconst 1, 1) := by decide +kernel
theorem dX2_letGo_17 : decode (cr_by Y_X2_letGo) 17 = .ok (.isub, 1) := by decide +kernel
theorem dX2_letGo_18 : decode (cr_by Y_X2_letGo) 18 = .ok (.iastore, 1) := by decide +kernel
theorem dX2_letGo_19 : decode (cr_by Y_X2_letGo) 19 = .ok (.aload_n 0, 1) := by decide +kernel
theorem dX2_letGo_20 : decode (cr_by Y_X2_letGo) 20 = .ok (.iload_n 1, 1) := by decide +kernel
theorem dX2_letGo_21 : decode (cr_by Y_X2_letGo) 21 = .ok (.aload_n 0, 1) := by decide +kernel
theorem dX2_letGo_22 : decode (cr_by Y_X2_letGo) 22 = .ok (.getfield 21, 3) := by decide +kernel
theorem dX2_letGo_25 : decode (cr_by Y_X2_letGo) 25 = .ok (.iload_n 1, 1) := by decide +kernel
theorem dX2_letGo_26 : decode (cr_by Y_X2_letGo) 26 = .ok (.iaload, 1) := by decide +kernel
theorem dX2_letGo_27 : decode (cr_by Y_X2_letGo) 27 = .ok (.ifCond .le 7, 3) := by decide +kernel
theorem dX2_letGo_30 : decode (cr_by Y_X2_letGo) 30 = .ok (.iconst 2, 1) := by decide +kernel
theorem dX2_letGo_31 : decode (cr_by Y_X2_letGo) 31 = .ok (.goto 4, 3) := by decide +kernel
theorem dX2_letGo_34 : decode (cr_by Y_X2_letGo) 34 = .ok (.iconst 1, 1) := by decide +kernel
theorem dX2_letGo_35 : decode (cr_by Y_X2_letGo) 35 = .ok (.iload_n 2, 1) := by decide +kernel
theorem dX2_letGo_36 : decode (cr_by Y_X2_letGo) 36 = .ok (.invokevirtual 57, 3) := by decide +kernel
theorem dX2_letGo_39 : decode (cr_by Y_X2_letGo) 39 = .ok (.return_, 1) := by decide +kernel
theorem dX2_addBusyTicks_0 : decode (cr_by Y_X2_addBusyTicks) 0 = .ok (.iconst 0, 1) := by decide +kernel
theorem dX2_addBusyTicks_1 : decode (cr_by Y_X2_addBusyTicks) 1 = .ok (.istore_n 2, 1) := by decide +kernel
theorem dX2_addBusyTicks_2 : decode (cr_by Y_X2_addBusyTicks) 2 = .ok (.iload_n 2, 1) := by decide +kernel
theorem dX2_addBusyTicks_3 : decode (cr_by Y_X2_addBusyTicks) 3 = .ok (.aload_n 0, 1) := by decide +kernel
theorem dX2_addBusyTicks_4 : decode (cr_by Y_X2_addBusyTicks) 4 = .ok (.getfield 36, 3) := by decide +kernel
theorem dX2_addBusyTicks_7 : decode (cr_by Y_X2_addBusyTicks) 7 = .ok (.if_icmp .ge 29, 3) := by decide +kernel
theorem dX2_addBusyTicks_10 : decode (cr_by Y_X2_addBusyTicks) 10 = .ok (.aload_n 0, 1) := by decide +kernel
theorem dX2_addBusyTicks_11 : decode (cr_by Y_X2_addBusyTicks) 11 = .ok (.getfield 15, 3) := by decide +kernel
theorem dX2_addBusyTicks_14 : decode (cr_by Y_X2_addBusyTicks) 14 = .ok (.iload_n 2, 1) := by decide +kernel
theorem dX2_addBusyTicks_15 : decode (cr_by Y_X2_addBusyTicks) 15 = .ok (.iaload, 1) := by decide +kernel
theorem dX2_addBusyTicks_16 : decode (cr_by Y_X2_addBusyTicks) 16 = .ok (.iconst 2, 1) := by decide +kernel
theorem dX2_addBusyTicks_17 : decode (cr_by Y_X2_addBusyTicks) 17 = .ok (.if_icmp .ne 13, 3) := by decide +kernel
theorem dX2_addBusyTicks_20 : decode (cr_by Y_X2_addBusyTicks) 20 = .ok (.aload_n 0, 1) := by decide +kernel
theorem dX2_addBusyTicks_21 : decode (cr_by Y_X2_addBusyTicks) 21 = .ok (.getfield 30, 3) := by decide +kernel
theorem dX2_addBusyTicks_24 : decode (cr_by Y_X2_addBusyTicks) 24 = .ok (.iload_n 2, 1) := by decide +kernel
theorem dX2_addBusyTicks_25 : decode (cr_by Y_X2_addBusyTicks) 25 = .ok (.dup2, 1) := by decide +kernel
theorem dX2_addBusyTicks_26 : decode (cr_by Y_X2_addBusyTicks) 26 = .ok (.iaload, 1) := by decide +kernel
theorem dX2_addBusyTicks_27 : decode (cr_by Y_X2_addBusyTicks) 27 = .ok (.iload_n 1, 1) := by decide +kernel
theorem dX2_addBusyTicks_28 : decode (cr_by Y_X2_addBusyTicks) 28 = .ok (.iadd, 1) := by decide +kernel
theorem dX2_addBusyTicks_29 : decode (cr_by Y_X2_addBusyTicks) 29 = .ok (.iastore, 1) := by decide +kernel
theorem dX2_addBusyTicks_30 : decode (cr_by Y_X2_addBusyTicks) 30 = .ok (.iinc 2 1, 3) := by decide +kernel
theorem dX2_addBusyTicks_33 : decode (cr_by Y_X2_addBusyTicks) 33 = .ok (.goto (-31), 3) := by decide +kernel
theorem dX2_addBusyTicks_36 : decode (cr_by Y_X2_addBusyTicks) 36 = .ok (.return_, 1) := by decide +kernel
theorem dX2_endBreaks_0 : decode (cr_by Y_X2_endBreaks) 0 = .ok (.iconst 0, 1) := by decide +kernel
theorem dX2_endBreaks_1 : decode (cr_by Y_X2_endBreaks) 1 = .ok (.istore_n 2, 1) := by decide +kernel
theorem dX2_endBreaks_2 : decode (cr_by Y_X2_endBreaks) 2 = .ok (.iload_n 2, 1) := by decide +kernel
theorem dX2_endBreaks_3 : decode (cr_by Y_X2_endBreaks) 3 = .ok (.aload_n 0, 1) := by decide +kernel
theorem dX2_endBreaks_4 : decode (cr_by Y_X2_endBreaks) 4 = .ok (.getfield 36, 3) := by decide +kernel
theorem dX2_endBreaks_7 : decode (cr_by Y_X2_endBreaks) 7 = .ok (.if_icmp .ge 36, 3) := by decide +kernel
theorem dX2_endBreaks_10 : decode (cr_by Y_X2_endBreaks) 10 = .ok (.aload_n 0, 1) := by decide +kernel
theorem dX2_endBreaks_11 : decode (cr_by Y_X2_endBreaks) 11 = .ok (.getfield 15, 3) := by decide +kernel
theorem dX2_endBreaks_14 : decode (cr_by Y_X2_endBreaks) 14 = .ok (.iload_n 2, 1) := by decide +kernel
theorem dX2_endBreaks_15 : decode (cr_by Y_X2_endBreaks) 15 = .ok (.iaload, 1) := by decide +kernel
theorem dX2_endBreaks_16 : decode (cr_by Y_X2_endBreaks) 16 = .ok (.iconst 3, 1) := by decide +kernel
theorem dX2_endBreaks_17 : decode (cr_by Y_X2_endBreaks) 17 = .ok (.if_icmp .ne 20, 3) := by decide +kernel
theorem dX2_endBreaks_20 : decode (cr_by Y_X2_endBreaks) 20 = .ok (.aload_n 0, 1) := by decide +kernel
theorem dX2_endBreaks_21 : decode (cr_by Y_X2_endBreaks) 21 = .ok (.getfield 33, 3) := by decide +kernel
theorem dX2_endBreaks_24 : decode (cr_by Y_X2_endBreaks) 24 = .ok (.iload_n 2, 1) := by decide +kernel
theorem dX2_endBreaks_25 : decode (cr_by Y_X2_endBreaks) 25 = .ok (.iaload, 1) := by decide +kernel
theorem dX2_endBreaks_26 : decode (cr_by Y_X2_endBreaks) 26 = .ok (.iload_n 1, 1) := by decide +kernel
theorem dX2_endBreaks_27 : decode (cr_by Y_X2_endBreaks) 27 = .ok (.if_icmp .gt 10, 3) := by decide +kernel
theorem dX2_endBreaks_30 : decode (cr_by Y_X2_endBreaks) 30 = .ok (.aload_n 0, 1) := by decide +kernel
theorem dX2_endBreaks_31 : decode (cr_by Y_X2_endBreaks) 31 = .ok (.iload_n 2, 1) := by decide +kernel
theorem dX2_endBreaks_32 : decode (cr_by Y_X2_endBreaks) 32 = .ok (.iconst 1, 1) := by decide +kernel
theorem dX2_endBreaks_33 : decode (cr_by Y_X2_endBreaks) 33 = .ok (.iload_n 1, 1) := by decide +kernel
theorem dX2_endBreaks_34 : decode (cr_by Y_X2_endBreaks) 34 = .ok (.invokevirtual 57, 3) := by decide +kernel
theorem dX2_endBreaks_37 : decode (cr_by Y_X2_endBreaks) 37 = .ok (.iinc 2 1, 3) := by decide +kernel
theorem dX2_endBreaks_40 : decode (cr_by Y_X2_endBreaks) 40 = .ok (.goto (-38), 3) := by decide +kernel
theorem dX2_endBreaks_43 : decode (cr_by Y_X2_endBreaks) 43 = .ok (.return_, 1) := by decide +kernel
theorem dX2_nextBreakOver_0 : decode (cr_by Y_X2_nextBreakOver) 0 = .ok (.ldc 65, 2) := by decide +kernel
theorem dX2_nextBreakOver_2 : decode (cr_by Y_X2_nextBreakOver) 2 = .ok (.istore_n 1, 1) := by decide +kernel
theorem dX2_nextBreakOver_3 : decode (cr_by Y_X2_nextBreakOver) 3 = .ok (.iconst 0, 1) := by decide +kernel
theorem dX2_nextBreakOver_4 : decode (cr_by Y_X2_nextBreakOver) 4 = .ok (.istore_n 2, 1) := by decide +kernel
theorem dX2_nextBreakOver_5 : decode (cr_by Y_X2_nextBreakOver) 5 = .ok (.iload_n 2, 1) := by decide +kernel
theorem dX2_nextBreakOver_6 : decode (cr_by Y_X2_nextBreakOver) 6 = .ok (.aload_n 0, 1) := by decide +kernel
theorem dX2_nextBreakOver_7 : decode (cr_by Y_X2_nextBreakOver) 7 = .ok (.getfield 36, 3) := by decide +kernel
theorem dX2_nextBreakOver_10 : decode (cr_by Y_X2_nextBreakOver) 10 = .ok (.if_icmp .ge 30, 3) := by decide +kernel
theorem dX2_nextBreakOver_13 : decode (cr_by Y_X2_nextBreakOver) 13 = .ok (.aload_n 0, 1) := by decide +kernel
theorem dX2_nextBreakOver_14 : decode (cr_by Y_X2_nextBreakOver) 14 = .ok (.getfield 15, 3) := by decide +kernel
theorem dX2_nextBreakOver_17 : decode (cr_by Y_X2_nextBreakOver) 17 = .ok (.iload_n 2, 1) := by decide +kernel
theorem dX2_nextBreakOver_18 : decode (cr_by Y_X2_nextBreakOver) 18 = .ok (.iaload, 1) := by decide +kernel
theorem dX2_nextBreakOver_19 : decode (cr_by Y_X2_nextBreakOver) 19 = .ok (.iconst 3, 1) := by decide +kernel
theorem dX2_nextBreakOver_20 : decode (cr_by Y_X2_nextBreakOver) 20 = .ok (.if_icmp .ne 14, 3) := by decide +kernel
theorem dX2_nextBreakOver_23 : decode (cr_by Y_X2_nextBreakOver) 23 = .ok (.iload_n 1, 1) := by decide +kernel
theorem dX2_nextBreakOver_24 : decode (cr_by Y_X2_nextBreakOver) 24 = .ok (.aload_n 0, 1) := by decide +kernel
theorem dX2_nextBreakOver_25 : decode (cr_by Y_X2_nextBreakOver) 25 = .ok (.getfield 33, 3) := by decide +kernel
theorem dX2_nextBreakOver_28 : decode (cr_by Y_X2_nextBreakOver) 28 = .ok (.iload_n 2, 1) := by decide +kernel
theorem dX2_nextBreakOver_29 : decode (cr_by Y_X2_nextBreakOver) 29 = .ok (.iaload, 1) := by decide +kernel
theorem dX2_nextBreakOver_30 : decode (cr_by Y_X2_nextBreakOver) 30 = .ok (.invokestatic 66, 3) := by decide +kernel
theorem dX2_nextBreakOver_33 : decode (cr_by Y_X2_nextBreakOver) 33 = .ok (.istore_n 1, 1) := by decide +kernel
theorem dX2_nextBreakOver_34 : decode (cr_by Y_X2_nextBreakOver) 34 = .ok (.iinc 2 1, 3) := by decide +kernel
theorem dX2_nextBreakOver_37 : decode (cr_by Y_X2_nextBreakOver) 37 = .ok (.goto (-32), 3) := by decide +kernel
theorem dX2_nextBreakOver_40 : decode (cr_by Y_X2_nextBreakOver) 40 = .ok (.iload_n 1, 1) := by decide +kernel
theorem dX2_nextBreakOver_41 : decode (cr_by Y_X2_nextBreakOver) 41 = .ok (.ireturn, 1) := by decide +kernel
theorem dX2_countFree_0 : decode (cr_by Y_X2_countFree) 0 = .ok (.iconst 0, 1) := by decide +kernel
theorem dX2_countFree_1 : decode (cr_by Y_X2_countFree) 1 = .ok (.istore_n 1, 1) := by decide +kernel
theorem dX2_countFree_2 : decode (cr_by Y_X2_countFree) 2 = .ok (.iconst 0, 1) := by decide +kernel
theorem dX2_countFree_3 : decode (cr_by Y_X2_countFree) 3 = .ok (.istore_n 2, 1) := by decide +kernel
theorem dX2_countFree_4 : decode (cr_by Y_X2_countFree) 4 = .ok (.iload_n 2, 1) := by decide +kernel
theorem dX2_countFree_5 : decode (cr_by Y_X2_countFree) 5 = .ok (.aload_n 0, 1) := by decide +kernel
theorem dX2_countFree_6 : decode (cr_by Y_X2_countFree) 6 = .ok (.getfield 36, 3) := by decide +kernel
theorem dX2_countFree_9 : decode (cr_by Y_X2_countFree) 9 = .ok (.if_icmp .ge 22, 3) := by decide +kernel
theorem dX2_countFree_12 : decode (cr_by Y_X2_countFree) 12 = .ok (.aload_n 0, 1) := by decide +kernel
theorem dX2_countFree_13 : decode (cr_by Y_X2_countFree) 13 = .ok (.getfield 15, 3) := by decide +kernel
theorem dX2_countFree_16 : decode (cr_by Y_X2_countFree) 16 = .ok (.iload_n 2, 1) := by decide +kernel
theorem dX2_countFree_17 : decode (cr_by Y_X2_countFree) 17 = .ok (.iaload, 1) := by decide +kernel
theorem dX2_countFree_18 : decode (cr_by Y_X2_countFree) 18 = .ok (.iconst 1, 1) := by decide +kernel
theorem dX2_countFree_19 : decode (cr_by Y_X2_countFree) 19 = .ok (.if_icmp .ne 6, 3) := by decide +kernel
theorem dX2_countFree_22 : decode (cr_by Y_X2_countFree) 22 = .ok (.iinc 1 1, 3) := by decide +kernel
theorem dX2_countFree_25 : decode (cr_by Y_X2_countFree) 25 = .ok (.iinc 2 1, 3) := by decide +kernel
theorem dX2_countFree_28 : decode (cr_by Y_X2_countFree) 28 = .ok (.goto (-24), 3) := by decide +kernel
theorem dX2_countFree_31 : decode (cr_by Y_X2_countFree) 31 = .ok (.iload_n 1, 1) := by decide +kernel
theorem dX2_countFree_32 : decode (cr_by Y_X2_countFree) 32 = .ok (.ireturn, 1) := by decide +kernel
theorem dX2_copyFrom_0 : decode (cr_by Y_X2_copyFrom) 0 = .ok (.aload_n 0, 1) := by decide +kernel
theorem dX2_copyFrom_1 : decode (cr_by Y_X2_copyFrom) 1 = .ok (.aload_n 1, 1) := by decide +kernel
theorem dX2_copyFrom_2 : decode (cr_by Y_X2_copyFrom) 2 = .ok (.getfield 36, 3) := by decide +kernel
theorem dX2_copyFrom_5 : decode (cr_by Y_X2_copyFrom) 5 = .ok (.putfield 36, 3) := by decide +kernel
theorem dX2_copyFrom_8 : decode (cr_by Y_X2_copyFrom) 8 = .ok (.aload_n 1, 1) := by decide +kernel
theorem dX2_copyFrom_9 : decode (cr_by Y_X2_copyFrom) 9 = .ok (.getfield 9, 3) := by decide +kernel
theorem dX2_copyFrom_12 : decode (cr_by Y_X2_copyFrom) 12 = .ok (.iconst 0, 1) := by decide +kernel
theorem dX2_copyFrom_13 : decode (cr_by Y_X2_copyFrom) 13 = .ok (.aload_n 0, 1) := by decide +kernel
theorem dX2_copyFrom_14 : decode (cr_by Y_X2_copyFrom) 14 = .ok (.getfield 9, 3) := by decide +kernel
theorem dX2_copyFrom_17 : decode (cr_by Y_X2_copyFrom) 17 = .ok (.iconst 0, 1) := by decide +kernel
theorem dX2_copyFrom_18 : decode (cr_by Y_X2_copyFrom) 18 = .ok (.aload_n 0, 1) := by decide +kernel
theorem dX2_copyFrom_19 : decode (cr_by Y_X2_copyFrom) 19 = .ok (.getfield 36, 3) := by decide +kernel
theorem dX2_copyFrom_22 : decode (cr_by Y_X2_copyFrom) 22 = .ok (.invokestatic 71, 3) := by decide +kernel
theorem dX2_copyFrom_25 : decode (cr_by Y_X2_copyFrom) 25 = .ok (.aload_n 1, 1) := by decide +kernel
theorem dX2_copyFrom_26 : decode (cr_by Y_X2_copyFrom) 26 = .ok (.getfield 15, 3) := by decide +kernel
theorem dX2_copyFrom_29 : decode (cr_by Y_X2_copyFrom) 29 = .ok (.iconst 0, 1) := by decide +kernel
theorem dX2_copyFrom_30 : decode (cr_by Y_X2_copyFrom) 30 = .ok (.aload_n 0, 1) := by decide +kernel
theorem dX2_copyFrom_31 : decode (cr_by Y_X2_copyFrom) 31 = .ok (.getfield 15, 3) := by decide +kernel
theorem dX2_copyFrom_34 : decode (cr_by Y_X2_copyFrom) 34 = .ok (.iconst 0, 1) := by decide +kernel
theorem dX2_copyFrom_35 : decode (cr_by Y_X2_copyFrom) 35 = .ok (.aload_n 0, 1) := by decide +kernel
theorem dX2_copyFrom_36 : decode (cr_by Y_X2_copyFrom) 36 = .ok (.getfield 36, 3) := by decide +kernel
theorem dX2_copyFrom_39 : decode (cr_by Y_X2_copyFrom) 39 = .ok (.invokestatic 71, 3) := by decide +kernel
theorem dX2_copyFrom_42 : decode (cr_by Y_X2_copyFrom) 42 = .ok (.aload_n 1, 1) := by decide +kernel
theorem dX2_copyFrom_43 : decode (cr_by Y_X2_copyFrom) 43 = .ok (.getfield 18, 3) := by decide +kernel
theorem dX2_copyFrom_46 : decode (cr_by Y_X2_copyFrom) 46 = .ok (.iconst 0, 1) := by decide +kernel
theorem dX2_copyFrom_47 : decode (cr_by Y_X2_copyFrom) 47 = .ok (.aload_n 0, 1) := by decide +kernel
theorem dX2_copyFrom_48 : decode (cr_by Y_X2_copyFrom) 48 = .ok (.getfield 18, 3) := by decide +kernel
theorem dX2_copyFrom_51 : decode (cr_by Y_X2_copyFrom) 51 = .ok (.iconst 0, 1) := by decide +kernel
theorem dX2_copyFrom_52 : decode (cr_by Y_X2_copyFrom) 52 = .ok (.aload_n 0, 1) := by decide +kernel
theorem dX2_copyFrom_53 : decode (cr_by Y_X2_copyFrom) 53 = .ok (.getfield 36, 3) := by decide +kernel
theorem dX2_copyFrom_56 : decode (cr_by Y_X2_copyFrom) 56 = .ok (.invokestatic 71, 3) := by decide +kernel
theorem dX2_copyFrom_59 : decode (cr_by Y_X2_copyFrom) 59 = .ok (.aload_n 1, 1) := by decide +kernel
theorem dX2_copyFrom_60 : decode (cr_by Y_X2_copyFrom) 60 = .ok (.getfield 21, 3) := by decide +kernel
theorem dX2_copyFrom_63 : decode (cr_by Y_X2_copyFrom) 63 = .ok (.iconst 0, 1) := by decide +kernel
theorem dX2_copyFrom_64 : decode (cr_by Y_X2_copyFrom) 64 = .ok (.aload_n 0, 1) := by decide +kernel
theorem dX2_copyFrom_65 : decode (cr_by Y_X2_copyFrom) 65 = .ok (.getfield 21, 3) := by decide +kernel
theorem dX2_copyFrom_68 : decode (cr_by Y_X2_copyFrom) 68 = .ok (.iconst 0, 1) := by decide +kernel
theorem dX2_copyFrom_69 : decode (cr_by Y_X2_copyFrom) 69 = .ok (.aload_n 0, 1) := by decide +kernel
theorem dX2_copyFrom_70 : decode (cr_by Y_X2_copyFrom) 70 = .ok (.getfield 36, 3) := by decide +kernel
theorem dX2_copyFrom_73 : decode (cr_by Y_X2_copyFrom) 73 = .ok (.invokestatic 71, 3) := by decide +kernel
theorem dX2_copyFrom_76 : decode (cr_by Y_X2_copyFrom) 76 = .ok (.aload_n 1, 1) := by decide +kernel
theorem dX2_copyFrom_77 : decode (cr_by Y_X2_copyFrom) 77 = .ok (.getfield 24, 3) := by decide +kernel
theorem dX2_copyFrom_80 : decode (cr_by Y_X2_copyFrom) 80 = .ok (.iconst 0, 1) := by decide +kernel
theorem dX2_copyFrom_81 : decode (cr_by Y_X2_copyFrom) 81 = .ok (.aload_n 0, 1) := by decide +kernel
theorem dX2_copyFrom_82 : decode (cr_by Y_X2_copyFrom) 82 = .ok (.getfield 24, 3) := by decide +kernel
theorem dX2_copyFrom_85 : decode (cr_by Y_X2_copyFrom) 85 = .ok (.iconst 0, 1) := by decide +kernel
theorem dX2_copyFrom_86 : decode (cr_by Y_X2_copyFrom) 86 = .ok (.aload_n 0, 1) := by decide +kernel
theorem dX2_copyFrom_87 : decode (cr_by Y_X2_copyFrom) 87 = .ok (.getfield 36, 3) := by decide +kernel
theorem dX2_copyFrom_90 : decode (cr_by Y_X2_copyFrom) 90 = .ok (.invokestatic 71, 3) := by decide +kernel
theorem dX2_copyFrom_93 : decode (cr_by Y_X2_copyFrom) 93 = .ok (.aload_n 1, 1) := by decide +kernel
theorem dX2_copyFrom_94 : decode (cr_by Y_X2_copyFrom) 94 = .ok (.getfield 27, 3) := by decide +kernel
theorem dX2_copyFrom_97 : decode (cr_by Y_X2_copyFrom) 97 = .ok (.iconst 0, 1) := by decide +kernel
theorem dX2_copyFrom_98 : decode (cr_by Y_X2_copyFrom) 98 = .ok (.aload_n 0, 1) := by decide +kernel
theorem dX2_copyFrom_99 : decode (cr_by Y_X2_copyFrom) 99 = .ok (.getfield 27, 3) := by decide +kernel
theorem dX2_copyFrom_102 : decode (cr_by Y_X2_copyFrom) 102 = .ok (.iconst 0, 1) := by decide +kernel
theorem dX2_copyFrom_103 : decode (cr_by Y_X2_copyFrom) 103 = .ok (.aload_n 0, 1) := by decide +kernel
theorem dX2_copyFrom_104 : decode (cr_by Y_X2_copyFrom) 104 = .ok (.getfield 36, 3) := by decide +kernel
theorem dX2_copyFrom_107 : decode (cr_by Y_X2_copyFrom) 107 = .ok (.invokestatic 71, 3) := by decide +kernel
theorem dX2_copyFrom_110 : decode (cr_by Y_X2_copyFrom) 110 = .ok (.aload_n 1, 1) := by decide +kernel
theorem dX2_copyFrom_111 : decode (cr_by Y_X2_copyFrom) 111 = .ok (.getfield 30, 3) := by decide +kernel
theorem dX2_copyFrom_114 : decode (cr_by Y_X2_copyFrom) 114 = .ok (.iconst 0, 1) := by decide +kernel
theorem dX2_copyFrom_115 : decode (cr_by Y_X2_copyFrom) 115 = .ok (.aload_n 0, 1) := by decide +kernel
theorem dX2_copyFrom_116 : decode (cr_by Y_X2_copyFrom) 116 = .ok (.getfield 30, 3) := by decide +kernel
theorem dX2_copyFrom_119 : decode (cr_by Y_X2_copyFrom) 119 = .ok (.iconst 0, 1) := by decide +kernel
theorem dX2_copyFrom_120 : decode (cr_by Y_X2_copyFrom) 120 = .ok (.aload_n 0, 1) := by decide +kernel
theorem dX2_copyFrom_121 : decode (cr_by Y_X2_copyFrom) 121 = .ok (.getfield 36, 3) := by decide +kernel
theorem dX2_copyFrom_124 : decode (cr_by Y_X2_copyFrom) 124 = .ok (.invokestatic 71, 3) := by decide +kernel
theorem dX2_copyFrom_127 : decode (cr_by Y_X2_copyFrom) 127 = .ok (.aload_n 1, 1) := by decide +kernel
theorem dX2_copyFrom_128 : decode (cr_by Y_X2_copyFrom) 128 = .ok (.getfield 33, 3) := by decide +kernel
theorem dX2_copyFrom_131 : decode (cr_by Y_X2_copyFrom) 131 = .ok (.iconst 0, 1) := by decide +kernel
theorem dX2_copyFrom_132 : decode (cr_by Y_X2_copyFrom) 132 = .ok (.aload_n 0, 1) := by decide +kernel
theorem dX2_copyFrom_133 : decode (cr_by Y_X2_copyFrom) 133 = .ok (.getfield 33, 3) := by decide +kernel
theorem dX2_copyFrom_136 : decode (cr_by Y_X2_copyFrom) 136 = .ok (.iconst 0, 1) := by decide +kernel
theorem dX2_copyFrom_137 : decode (cr_by Y_X2_copyFrom) 137 = .ok (.aload_n 0, 1) := by decide +kernel
theorem dX2_copyFrom_138 : decode (cr_by Y_X2_copyFrom) 138 = .ok (.getfield 36, 3) := by decide +kernel
theorem dX2_copyFrom_141 : decode (cr_by Y_X2_copyFrom) 141 = .ok (.invokestatic 71, 3) := by decide +kernel
theorem dX2_copyFrom_144 : decode (cr_by Y_X2_copyFrom) 144 = .ok (.return_, 1) := by decide +kernel

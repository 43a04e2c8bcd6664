theorem dX5_refuse_0 : decode (cr_by Y_X5_refuse) 0 = .ok (.aload_n 0, 1) := by decide +kernel
theorem dX5_refuse_1 : decode (cr_by Y_X5_refuse) 1 = .ok (.getfield 7, 3) := by decide +kernel
theorem dX5_refuse_4 : decode (cr_by Y_X5_refuse) 4 = .ok (.iload_n 1, 1) := by decide +kernel
theorem dX5_refuse_5 : decode (cr_by Y_X5_refuse) 5 = .ok (.ineg, 1) := by decide +kernel
theorem dX5_refuse_6 : decode (cr_by Y_X5_refuse) 6 = .ok (.dup2, 1) := by decide +kernel
theorem dX5_refuse_7 : decode (cr_by Y_X5_refuse) 7 = .ok (.iaload, 1) := by decide +kernel
theorem dX5_refuse_8 : decode (cr_by Y_X5_refuse) 8 = .ok (.iconst 1, 1) := by decide +kernel
theorem dX5_refuse_9 : decode (cr_by Y_X5_refuse) 9 = .ok (.iadd, 1) := by decide +kernel
theorem dX5_refuse_10 : decode (cr_by Y_X5_refuse) 10 = .ok (.iastore, 1) := by decide +kernel
theorem dX5_refuse_11 : decode (cr_by Y_X5_refuse) 11 = .ok (.iload_n 1, 1) := by decide +kernel
theorem dX5_refuse_12 : decode (cr_by Y_X5_refuse) 12 = .ok (.ireturn, 1) := by decide +kernel
theorem dX5_isIn_0 : decode (cr_by Y_X5_isIn) 0 = .ok (.iload_n 0, 1) := by decide +kernel
theorem dX5_isIn_1 : decode (cr_by Y_X5_isIn) 1 = .ok (.ifCond .lt 12, 3) := by decide +kernel
theorem dX5_isIn_4 : decode (cr_by Y_X5_isIn) 4 = .ok (.iload_n 0, 1) := by decide +kernel
theorem dX5_isIn_5 : decode (cr_by Y_X5_isIn) 5 = .ok (.iload_n 1, 1) := by decide +kernel
theorem dX5_isIn_6 : decode (cr_by Y_X5_isIn) 6 = .ok (.if_icmp .ge 7, 3) := by decide +kernel
theorem dX5_isIn_9 : decode (cr_by Y_X5_isIn) 9 = .ok (.iconst 1, 1) := by decide +kernel
theorem dX5_isIn_10 : decode (cr_by Y_X5_isIn) 10 = .ok (.goto 4, 3) := by decide +kernel
theorem dX5_isIn_13 : decode (cr_by Y_X5_isIn) 13 = .ok (.iconst 0, 1) := by decide +kernel
theorem dX5_isIn_14 : decode (cr_by Y_X5_isIn) 14 = .ok (.ireturn, 1) := by decide +kernel
theorem dX5_gradeOf_0 : decode (cr_by Y_X5_gradeOf) 0 = .ok (.aload_n 0, 1) := by decide +kernel
theorem dX5_gradeOf_1 : decode (cr_by Y_X5_gradeOf) 1 = .ok (.getfield 23, 3) := by decide +kernel
theorem dX5_gradeOf_4 : decode (cr_by Y_X5_gradeOf) 4 = .ok (.iconst 4, 1) := by decide +kernel
theorem dX5_gradeOf_5 : decode (cr_by Y_X5_gradeOf) 5 = .ok (.iload_n 1, 1) := by decide +kernel
theorem dX5_gradeOf_6 : decode (cr_by Y_X5_gradeOf) 6 = .ok (.imul, 1) := by decide +kernel
theorem dX5_gradeOf_7 : decode (cr_by Y_X5_gradeOf) 7 = .ok (.iload_n 2, 1) := by decide +kernel
theorem dX5_gradeOf_8 : decode (cr_by Y_X5_gradeOf) 8 = .ok (.iadd, 1) := by decide +kernel
theorem dX5_gradeOf_9 : decode (cr_by Y_X5_gradeOf) 9 = .ok (.iaload, 1) := by decide +kernel
theorem dX5_gradeOf_10 : decode (cr_by Y_X5_gradeOf) 10 = .ok (.ireturn, 1) := by decide +kernel
theorem dX5_helper_0 : decode (cr_by Y_X5_helper) 0 = .ok (.iload_n 1, 1) := by decide +kernel
theorem dX5_helper_1 : decode (cr_by Y_X5_helper) 1 = .ok (.ifCond .ge 10, 3) := by decide +kernel
theorem dX5_helper_4 : decode (cr_by Y_X5_helper) 4 = .ok (.aload_n 0, 1) := by decide +kernel
theorem dX5_helper_5 : decode (cr_by Y_X5_helper) 5 = .ok (.bipush (-4), 2) := by decide +kernel
theorem dX5_helper_7 : decode (cr_by Y_X5_helper) 7 = .ok (.invokevirtual 120, 3) := by decide +kernel
theorem dX5_helper_10 : decode (cr_by Y_X5_helper) 10 = .ok (.ireturn, 1) := by decide +kernel
theorem dX5_helper_11 : decode (cr_by Y_X5_helper) 11 = .ok (.iload_n 1, 1) := by decide +kernel
theorem dX5_helper_12 : decode (cr_by Y_X5_helper) 12 = .ok (.sipush 255, 3) := by decide +kernel
theorem dX5_helper_15 : decode (cr_by Y_X5_helper) 15 = .ok (.if_icmp .gt 12, 3) := by decide +kernel
theorem dX5_helper_18 : decode (cr_by Y_X5_helper) 18 = .ok (.aload_n 0, 1) := by decide +kernel
theorem dX5_helper_19 : decode (cr_by Y_X5_helper) 19 = .ok (.getfield 124, 3) := by decide +kernel
theorem dX5_helper_22 : decode (cr_by Y_X5_helper) 22 = .ok (.bipush 10, 2) := by decide +kernel
theorem dX5_helper_24 : decode (cr_by Y_X5_helper) 24 = .ok (.if_icmp .ne 10, 3) := by decide +kernel
theorem dX5_helper_27 : decode (cr_by Y_X5_helper) 27 = .ok (.aload_n 0, 1) := by decide +kernel
theorem dX5_helper_28 : decode (cr_by Y_X5_helper) 28 = .ok (.bipush (-6), 2) := by decide +kernel
theorem dX5_helper_30 : decode (cr_by Y_X5_helper) 30 = .ok (.invokevirtual 120, 3) := by decide +kernel
theorem dX5_helper_33 : decode (cr_by Y_X5_helper) 33 = .ok (.ireturn, 1) := by decide +kernel
theorem dX5_helper_34 : decode (cr_by Y_X5_helper) 34 = .ok (.iconst 0, 1) := by decide +kernel
theorem dX5_helper_35 : decode (cr_by Y_X5_helper) 35 = .ok (.istore_n 2, 1) := by decide +kernel
theorem dX5_helper_36 : decode (cr_by Y_X5_helper) 36 = .ok (.iload_n 2, 1) := by decide +kernel
theorem dX5_helper_37 : decode (cr_by Y_X5_helper) 37 = .ok (.iconst 4, 1) := by decide +kernel
theorem dX5_helper_38 : decode (cr_by Y_X5_helper) 38 = .ok (.if_icmp .ge 29, 3) := by decide +kernel
theorem dX5_helper_41 : decode (cr_by Y_X5_helper) 41 = .ok (.aload_n 0, 1) := by decide +kernel
theorem dX5_helper_42 : decode (cr_by Y_X5_helper) 42 = .ok (.getfield 23, 3) := by decide +kernel
theorem dX5_helper_45 : decode (cr_by Y_X5_helper) 45 = .ok (.iconst 4, 1) := by decide +kernel
theorem dX5_helper_46 : decode (cr_by Y_X5_helper) 46 = .ok (.aload_n 0, 1) := by decide +kernel
theorem dX5_helper_47 : decode (cr_by Y_X5_helper) 47 = .ok (.getfield 124, 3) := by decide +kernel
theorem dX5_helper_50 : decode (cr_by Y_X5_helper) 50 = .ok (.imul, 1) := by decide +kernel
theorem dX5_helper_51 : decode (cr_by Y_X5_helper) 51 = .ok (.iload_n 2, 1) := by decide +kernel
theorem dX5_helper_52 : decode (cr_by Y_X5_helper) 52 = .ok (.iadd, 1) := by decide +kernel
theorem dX5_helper_53 : decode (cr_by Y_X5_helper) 53 = .ok (.iload_n 1, 1) := by decide +kernel
theorem dX5_helper_54 : decode (cr_by Y_X5_helper) 54 = .ok (.iconst 2, 1) := by decide +kernel
theorem dX5_helper_55 : decode (cr_by Y_X5_helper) 55 = .ok (.iload_n 2, 1) := by decide +kernel
theorem dX5_helper_56 : decode (cr_by Y_X5_helper) 56 = .ok (.imul, 1) := by decide +kernel
theorem dX5_helper_57 : decode (cr_by Y_X5_helper) 57 = .ok (.ishr, 1) := by decide +kernel
theorem dX5_helper_58 : decode (cr_by Y_X5_helper) 58 = .ok (.iconst 3, 1) := by decide +kernel
theorem dX5_helper_59 : decode (cr_by Y_X5_helper) 59 = .ok (.iand, 1) := by decide +kernel
theorem dX5_helper_60 : decode (cr_by Y_X5_helper) 60 = .ok (.iastore, 1) := by decide +kernel
theorem dX5_helper_61 : decode (cr_by Y_X5_helper) 61 = .ok (.iinc 2 1, 3) := by decide +kernel
theorem dX5_helper_64 : decode (cr_by Y_X5_helper) 64 = .ok (.goto (-28), 3) := by decide +kernel
theorem dX5_helper_67 : decode (cr_by Y_X5_helper) 67 = .ok (.aload_n 0, 1) := by decide +kernel
theorem dX5_helper_68 : decode (cr_by Y_X5_helper) 68 = .ok (.getfield 29, 3) := by decide +kernel
theorem dX5_helper_71 : decode (cr_by Y_X5_helper) 71 = .ok (.aload_n 0, 1) := by decide +kernel
theorem dX5_helper_72 : decode (cr_by Y_X5_helper) 72 = .ok (.getfield 124, 3) := by decide +kernel
theorem dX5_helper_75 : decode (cr_by Y_X5_helper) 75 = .ok (.aload_n 0, 1) := by decide +kernel
theorem dX5_helper_76 : decode (cr_by Y_X5_helper) 76 = .ok (.getfield 127, 3) := by decide +kernel
theorem dX5_helper_79 : decode (cr_by Y_X5_helper) 79 = .ok (.iastore, 1) := by decide +kernel
theorem dX5_helper_80 : decode (cr_by Y_X5_helper) 80 = .ok (.aload_n 0, 1) := by decide +kernel
theorem dX5_helper_81 : decode (cr_by Y_X5_helper) 81 = .ok (.dup, 1) := by decide +kernel
theorem dX5_helper_82 : decode (cr_by Y_X5_helper) 82 = .ok (.getfield 124, 3) := by decide +kernel
theorem dX5_helper_85 : decode (cr_by Y_X5_helper) 85 = .ok (.iconst 1, 1) := by decide +kernel
theorem dX5_helper_86 : decode (cr_by Y_X5_helper) 86 = .ok (.iadd, 1) := by decide +kernel
theorem dX5_helper_87 : decode (cr_by Y_X5_helper) 87 = .ok (.putfield 124, 3) := by decide +kernel
theorem dX5_helper_90 : decode (cr_by Y_X5_helper) 90 = .ok (.aload_n 0, 1) := by decide +kernel
theorem dX5_helper_91 : decode (cr_by Y_X5_helper) 91 = .ok (.getfield 124, 3) := by decide +kernel
theorem dX5_helper_94 : decode (cr_by Y_X5_helper) 94 = .ok (.iconst 1, 1) := by decide +kernel
theorem dX5_helper_95 : decode (cr_by Y_X5_helper) 95 = .ok (.isub, 1) := by decide +kernel
theorem dX5_helper_96 : decode (cr_by Y_X5_helper) 96 = .ok (.ireturn, 1) := by decide +kernel
theorem dX5_grade_0 : decode (cr_by Y_X5_grade) 0 = .ok (.iload_n 1, 1) := by decide +kernel
theorem dX5_grade_1 : decode (cr_by Y_X5_grade) 1 = .ok (.aload_n 0, 1) := by decide +kernel
theorem dX5_grade_2 : decode (cr_by Y_X5_grade) 2 = .ok (.getfield 124, 3) := by decide +kernel
theorem dX5_grade_5 : decode (cr_by Y_X5_grade) 5 = .ok (.invokestatic 130, 3) := by decide +kernel
theorem dX5_grade_8 : decode (cr_by Y_X5_grade) 8 = .ok (.ifCond .eq 11, 3) := by decide +kernel
theorem dX5_grade_11 : decode (cr_by Y_X5_grade) 11 = .ok (.iload_n 2, 1) := by decide +kernel
theorem dX5_grade_12 : decode (cr_by Y_X5_grade) 12 = .ok (.iconst 4, 1) := by decide +kernel
theorem dX5_grade_13 : decode (cr_by Y_X5_grade) 13 = .ok (.invokestatic 130, 3) := by decide +kernel
theorem dX5_grade_16 : decode (cr_by Y_X5_grade) 16 = .ok (.ifCond .ne 9, 3) := by decide +kernel
theorem dX5_grade_19 : decode (cr_by Y_X5_grade) 19 = .ok (.aload_n 0, 1) := by decide +kernel
theorem dX5_grade_20 : decode (cr_by Y_X5_grade) 20 = .ok (.iconst (-1), 1) := by decide +kernel
theorem dX5_grade_21 : decode (cr_by Y_X5_grade) 21 = .ok (.invokevirtual 120, 3) := by decide +kernel
theorem dX5_grade_24 : decode (cr_by Y_X5_grade) 24 = .ok (.ireturn, 1) := by decide +kernel
theorem dX5_grade_25 : decode (cr_by Y_X5_grade) 25 = .ok (.iload_n 3, 1) := by decide +kernel
theorem dX5_grade_26 : decode (cr_by Y_X5_grade) 26 = .ok (.ifCond .ge 10, 3) := by decide +kernel
theorem dX5_grade_29 : decode (cr_by Y_X5_grade) 29 = .ok (.aload_n 0, 1) := by decide +kernel
theorem dX5_grade_30 : decode (cr_by Y_X5_grade) 30 = .ok (.bipush (-4), 2) := by decide +kernel
theorem dX5_grade_32 : decode (cr_by Y_X5_grade) 32 = .ok (.invokevirtual 120, 3) := by decide +kernel
theorem dX5_grade_35 : decode (cr_by Y_X5_grade) 35 = .ok (.ireturn, 1) := by decide +kernel
theorem dX5_grade_36 : decode (cr_by Y_X5_grade) 36 = .ok (.iload_n 3, 1) := by decide +kernel
theorem dX5_grade_37 : decode (cr_by Y_X5_grade) 37 = .ok (.iconst 3, 1) := by decide +kernel
theorem dX5_grade_38 : decode (cr_by Y_X5_grade) 38 = .ok (.if_icmp .le 10, 3) := by decide +kernel
theorem dX5_grade_41 : decode (cr_by Y_X5_grade) 41 = .ok (.aload_n 0, 1) := by decide +kernel
theorem dX5_grade_42 : decode (cr_by Y_X5_grade) 42 = .ok (.bipush (-6), 2) := by decide +kernel
theorem dX5_grade_44 : decode (cr_by Y_X5_grade) 44 = .ok (.invokevirtual 120, 3) := by decide +kernel
theorem dX5_grade_47 : decode (cr_by Y_X5_grade) 47 = .ok (.ireturn, 1) := by decide +kernel
theorem dX5_grade_48 : decode (cr_by Y_X5_grade) 48 = .ok (.aload_n 0, 1) := by decide +kernel
theorem dX5_grade_49 : decode (cr_by Y_X5_grade) 49 = .ok (.iload_n 1, 1) := by decide +kernel
theorem dX5_grade_50 : decode (cr_by Y_X5_grade) 50 = .ok (.iload_n 2, 1) := by decide +kernel
theorem dX5_grade_51 : decode (cr_by Y_X5_grade) 51 = .ok (.invokevirtual 134, 3) := by decide +kernel
theorem dX5_grade_54 : decode (cr_by Y_X5_grade) 54 = .ok (.istore 4, 2) := by decide +kernel
theorem dX5_grade_56 : decode (cr_by Y_X5_grade) 56 = .ok (.aload_n 0, 1) := by decide +kernel
theorem dX5_grade_57 : decode (cr_by Y_X5_grade) 57 = .ok (.getfield 23, 3) := by decide +kernel
theorem dX5_grade_60 : decode (cr_by Y_X5_grade) 60 = .ok (.iconst 4, 1) := by decide +kernel
theorem dX5_grade_61 : decode (cr_by Y_X5_grade) 61 = .ok (.iload_n 1, 1) := by decide +kernel
theorem dX5_grade_62 : decode (cr_by Y_X5_grade) 62 = .ok (.imul, 1) := by decide +kernel
theorem dX5_grade_63 : decode (cr_by Y_X5_grade) 63 = .ok (.iload_n 2, 1) := by decide +kernel
theorem dX5_grade_64 : decode (cr_by Y_X5_grade) 64 = .ok (.iadd, 1) := by decide +kernel
theorem dX5_grade_65 : decode (cr_by Y_X5_grade) 65 = .ok (.iload_n 3, 1) := by decide +kernel
theorem dX5_grade_66 : decode (cr_by Y_X5_grade) 66 = .ok (.iastore, 1) := by decide +kernel
theorem dX5_grade_67 : decode (cr_by Y_X5_grade) 67 = .ok (.iload 4, 2) := by decide +kernel
theorem dX5_grade_69 : decode (cr_by Y_X5_grade) 69 = .ok (.ireturn, 1) := by decide +kernel
theorem dX5_becomes_0 : decode (cr_by Y_X5_becomes) 0 = .ok (.aload_n 0, 1) := by decide +kernel
theorem dX5_becomes_1 : decode (cr_by Y_X5_becomes) 1 = .ok (.getfield 26, 3) := by decide +kernel
theorem dX5_becomes_4 : decode (cr_by Y_X5_becomes) 4 = .ok (.iload_n 1, 1) := by decide +kernel
theorem dX5_becomes_5 : decode (cr_by Y_X5_becomes) 5 = .ok (.iload_n 2, 1) := by decide +kernel
theorem dX5_becomes_6 : decode (cr_by Y_X5_becomes) 6 = .ok (.iastore, 1) := by decide +kernel
theorem dX5_becomes_7 : decode (cr_by Y_X5_becomes) 7 = .ok (.aload_n 0, 1) := by decide +kernel
theorem dX5_becomes_8 : decode (cr_by Y_X5_becomes) 8 = .ok (.getfield 29, 3) := by decide +kernel
theorem dX5_becomes_11 : decode (cr_by Y_X5_becomes) 11 = .ok (.iload_n 1, 1) := by decide +kernel
theorem dX5_becomes_12 : decode (cr_by Y_X5_becomes) 12 = .ok (.aload_n 0, 1) := by decide +kernel
theorem dX5_becomes_13 : decode (cr_by Y_X5_becomes) 13 = .ok (.getfield 127, 3) := by decide +kernel
theorem dX5_becomes_16 : decode (cr_by Y_X5_becomes) 16 = .ok (.iastore, 1) := by decide +kernel
theorem dX5_becomes_17 : decode (cr_by Y_X5_becomes) 17 = .ok (.return_, 1) := by decide +kernel
theorem dX5_duty_0 : decode (cr_by Y_X5_duty) 0 = .ok (.iload_n 1, 1) := by decide +kernel
theorem dX5_duty_1 : decode (cr_by Y_X5_duty) 1 = .ok (.aload_n 0, 1) := by decide +kernel
theorem dX5_duty_2 : decode (cr_by Y_X5_duty) 2 = .ok (.getfield 124, 3) := by decide +kernel
theorem dX5_duty_5 : decode (cr_by Y_X5_duty) 5 = .ok (.invokestatic 130, 3) := by decide +kernel
theorem dX5_duty_8 : decode (cr_by Y_X5_duty) 8 = .ok (.ifCond .ne 9, 3) := by decide +kernel
theorem dX5_duty_11 : decode (cr_by Y_X5_duty) 11 = .ok (.aload_n 0, 1) := by decide +kernel
theorem dX5_duty_12 : decode (cr_by Y_X5_duty) 12 = .ok (.iconst (-1), 1) := by decide +kernel
theorem dX5_duty_13 : decode (cr_by Y_X5_duty) 13 = .ok (.invokevirtual 120, 3) := by decide +kernel
theorem dX5_duty_16 : decode (cr_by Y_X5_duty) 16 = .ok (.ireturn, 1) := by decide +kernel
theorem dX5_duty_17 : decode (cr_by Y_X5_duty) 17 = .ok (.aload_n 0, 1) := by decide +kernel
theorem dX5_duty_18 : decode (cr_by Y_X5_duty) 18 = .ok (.getfield 26, 3) := by decide +kernel
theorem dX5_duty_21 : decode (cr_by Y_X5_duty) 21 = .ok (.iload_n 1, 1) := by decide +kernel
theorem dX5_duty_22 : decode (cr_by Y_X5_duty) 22 = .ok (.iaload, 1) := by decide +kernel
theorem dX5_duty_23 : decode (cr_by Y_X5_duty) 23 = .ok (.ifCond .eq 10, 3) := by decide +kernel
theorem dX5_duty_26 : decode (cr_by Y_X5_duty) 26 = .ok (.aload_n 0, 1) := by decide +kernel
theorem dX5_duty_27 : decode (cr_by Y_X5_duty) 27 = .ok (.bipush (-2), 2) := by decide +kernel
theorem dX5_duty_29 : decode (cr_by Y_X5_duty) 29 = .ok (.invokevirtual 120, 3) := by decide +kernel
theorem dX5_duty_32 : decode (cr_by Y_X5_duty) 32 = .ok (.ireturn, 1) := by decide +kernel
theorem dX5_duty_33 : decode (cr_by Y_X5_duty) 33 = .ok (.aload_n 0, 1) := by decide +kernel
theorem dX5_duty_34 : decode (cr_by Y_X5_duty) 34 = .ok (.iload_n 1, 1) := by decide +kernel
theorem dX5_duty_35 : decode (cr_by Y_X5_duty) 35 = .ok (.iconst 1, 1) := by decide +kernel
theorem dX5_duty_36 : decode (cr_by Y_X5_duty) 36 = .ok (.invokevirtual 138, 3) := by decide +kernel
theorem dX5_duty_39 : decode (cr_by Y_X5_duty) 39 = .ok (.iconst 1, 1) := by decide +kernel
theorem dX5_duty_40 : decode (cr_by Y_X5_duty) 40 = .ok (.ireturn, 1) := by decide +kernel
theorem dX5_out_0 : decode (cr_by Y_X5_out) 0 = .ok (.iload_n 1, 1) := by decide +kernel
theorem dX5_out_1 : decode (cr_by Y_X5_out) 1 = .ok (.aload_n 0, 1) := by decide +kernel
theorem dX5_out_2 : decode (cr_by Y_X5_out) 2 = .ok (.getfield 124, 3) := by decide +kernel
theorem dX5_out_5 : decode (cr_by Y_X5_out) 5 = .ok (.invokestatic 130, 3) := by decide +kernel
theorem dX5_out_8 : decode (cr_by Y_X5_out) 8 = .ok (.ifCond .ne 9, 3) := by decide +kernel
theorem dX5_out_11 : decode (cr_by Y_X5_out) 11 = .ok (.aload_n 0, 1) := by decide +kernel
theorem dX5_out_12 : decode (cr_by Y_X5_out) 12 = .ok (.iconst (-1), 1) := by decide +kernel
theorem dX5_out_13 : decode (cr_by Y_X5_out) 13 = .ok (.invokevirtual 120, 3) := by decide +kernel
theorem dX5_out_16 : decode (cr_by Y_X5_out) 16 = .ok (.ireturn, 1) := by decide +kernel
theorem dX5_out_17 : decode (cr_by Y_X5_out) 17 = .ok (.aload_n 0, 1) := by decide +kernel
theorem dX5_out_18 : decode (cr_by Y_X5_out) 18 = .ok (.getfield 26, 3) := by decide +kernel
theorem dX5_out_21 : decode (cr_by Y_X5_out) 21 = .ok (.iload_n 1, 1) := by decide +kernel
theorem dX5_out_22 : decode (cr_by Y_X5_out) 22 = .ok (.iaload, 1) := by decide +kernel
theorem dX5_out_23 : decode (cr_by Y_X5_out) 23 = .ok (.iconst 1, 1) := by decide +kernel
theorem dX5_out_24 : decode (cr_by Y_X5_out) 24 = .ok (.if_icmp .eq 20, 3) := by decide +kernel
theorem dX5_out_27 : decode (cr_by Y_X5_out) 27 = .ok (.aload_n 0, 1) := by decide +kernel
theorem dX5_out_28 : decode (cr_by Y_X5_out) 28 = .ok (.getfield 26, 3) := by decide +kernel
theorem dX5_out_31 : decode (cr_by Y_X5_out) 31 = .ok (.iload_n 1, 1) := by decide +kernel
theorem dX5_out_32 : decode (cr_by Y_X5_out) 32 = .ok (.iaload, 1) := by decide +kernel
theorem dX5_out_33 : decode (cr_by Y_X5_out) 33 = .ok (.iconst 3, 1) := by decide +kernel
theorem dX5_out_34 : decode (cr_by Y_X5_out) 34 = .ok (.if_icmp .eq 10, 3) := by decide +kernel
theorem dX5_out_37 : decode (cr_by Y_X5_out) 37 = .ok (.aload_n 0, 1) := by decide +kernel
theorem dX5_out_38 : decode (cr_by Y_X5_out) 38 = .ok (.bipush (-2), 2) := by decide +kernel
theorem dX5_out_40 : decode (cr_by Y_X5_out) 40 = .ok (.invokevirtual 120, 3) := by decide +kernel
theorem dX5_out_43 : decode (cr_by Y_X5_out) 43 = .ok (.ireturn, 1) := by decide +kernel
theorem dX5_out_44 : decode (cr_by Y_X5_out) 44 = .ok (.aload_n 0, 1) := by decide +kernel
theorem dX5_out_45 : decode (cr_by Y_X5_out) 45 = .ok (.iload_n 1, 1) := by decide +kernel
theorem dX5_out_46 : decode (cr_by Y_X5_out) 46 = .ok (.iconst 0, 1) := by decide +kernel
theorem dX5_out_47 : decode (cr_by Y_X5_out) 47 = .ok (.invokevirtual 138, 3) := by decide +kernel
theorem dX5_out_50 : decode (cr_by Y_X5_out) 50 = .ok (.iconst 1, 1) := by decide +kernel
theorem dX5_out_51 : decode (cr_by Y_X5_out) 51 = .ok (.ireturn, 1) := by decide +kernel
theorem dX5_pause_0 : decode (cr_by Y_X5_pause) 0 = .ok (.iload_n 1, 1) := by decide +kernel
theorem dX5_pause_1 : decode (cr_by Y_X5_pause) 1 = .ok (.aload_n 0, 1) := by decide +kernel
theorem dX5_pause_2 : decode (cr_by Y_X5_pause) 2 = .ok (.getfield 124, 3) := by decide +kernel
theorem dX5_pause_5 : decode (cr_by Y_X5_pause) 5 = .ok (.invokestatic 130, 3) := by decide +kernel
theorem dX5_pause_8 : decode (cr_by Y_X5_pause) 8 = .ok (.ifCond .ne 9, 3) := by decide +kernel
theorem dX5_pause_11 : decode (cr_by Y_X5_pause) 11 = .ok (.aload_n 0, 1) := by decide +kernel
theorem dX5_pause_12 : decode (cr_by Y_X5_pause) 12 = .ok (.iconst (-1), 1) := by decide +kernel
theorem dX5_pause_13 : decode (cr_by Y_X5_pause) 13 = .ok (.invokevirtual 120, 3) := by decide +kernel
theorem dX5_pause_16 : decode (cr_by Y_X5_pause) 16 = .ok (.ireturn, 1) := by decide +kernel
theorem dX5_pause_17 : decode (cr_by Y_X5_pause) 17 = .ok (.aload_n 0, 1) := by decide +kernel
theorem dX5_pause_18 : decode (cr_by Y_X5_pause) 18 = .ok (.getfield 26, 3) := by decide +kernel
theorem dX5_pause_21 : decode (cr_by Y_X5_pause) 21 = .ok (.iload_n 1, 1) := by decide +kernel
theorem dX5_pause_22 : decode (cr_by Y_X5_pause) 22 = .ok (.iaload, 1) := by decide +kernel
theorem dX5_pause_23 : decode (cr_by Y_X5_pause) 23 = .ok (.iconst 1, 1) := by decide +kernel
theorem dX5_pause_24 : decode (cr_by Y_X5_pause) 24 = .ok (.if_icmp .eq 10, 3) := by decide +kernel
theorem dX5_pause_27 : decode (cr_by Y_X5_pause) 27 = .ok (.aload_n 0, 1) := by decide +kernel
theorem dX5_pause_28 : decode (cr_by Y_X5_pause) 28 = .ok (.bipush (-2), 2) := by decide +kernel
theorem dX5_pause_30 : decode (cr_by Y_X5_pause) 30 = .ok (.invokevirtual 120, 3) := by decide +kernel
theorem dX5_pause_33 : decode (cr_by Y_X5_pause) 33 = .ok (.ireturn, 1) := by decide +kernel
theorem dX5_pause_34 : decode (cr_by Y_X5_pause) 34 = .ok (.iload_n 2, 1) := by decide +kernel
theorem dX5_pause_35 : decode (cr_by Y_X5_pause) 35 = .ok (.iconst 1, 1) := by decide +kernel
theorem dX5_pause_36 : decode (cr_by Y_X5_pause) 36 = .ok (.if_icmp .ge 10, 3) := by decide +kernel
theorem dX5_pause_39 : decode (cr_by Y_X5_pause) 39 = .ok (.aload_n 0, 1) := by decide +kernel
theorem dX5_pause_40 : decode (cr_by Y_X5_pause) 40 = .ok (.bipush (-4), 2) := by decide +kernel
theorem dX5_pause_42 : decode (cr_by Y_X5_pause) 42 = .ok (.invokevirtual 120, 3) := by decide +kernel
theorem dX5_pause_45 : decode (cr_by Y_X5_pause) 45 = .ok (.ireturn, 1) := by decide +kernel
theorem dX5_pause_46 : decode (cr_by Y_X5_pause) 46 = .ok (.iload_n 2, 1) := by decide +kernel
theorem dX5_pause_47 : decode (cr_by Y_X5_pause) 47 = .ok (.sipush 5000, 3) := by decide +kernel
theorem dX5_pause_50 : decode (cr_by Y_X5_pause) 50 = .ok (.if_icmp .le 10, 3) := by decide +kernel
theorem dX5_pause_53 : decode (cr_by Y_X5_pause) 53 = .ok (.aload_n 0, 1) := by decide +kernel
theorem dX5_pause_54 : decode (cr_by Y_X5_pause) 54 = .ok (.bipush (-6), 2) := by decide +kernel
theorem dX5_pause_56 : decode (cr_by Y_X5_pause) 56 = .ok (.invokevirtual 120, 3) := by decide +kernel
theorem dX5_pause_59 : decode (cr_by Y_X5_pause) 59 = .ok (.ireturn, 1) := by decide +kernel
theorem dX5_pause_60 : decode (cr_by Y_X5_pause) 60 = .ok (.aload_n 0, 1) := by decide +kernel
theorem dX5_pause_61 : decode (cr_by Y_X5_pause) 61 = .ok (.iload_n 1, 1) := by decide +kernel
theorem dX5_pause_62 : decode (cr_by Y_X5_pause) 62 = .ok (.iconst 3, 1) := by decide +kernel
theorem dX5_pause_63 : decode (cr_by Y_X5_pause) 63 = .ok (.invokevirtual 138, 3) := by decide +kernel
theorem dX5_pause_66 : decode (cr_by Y_X5_pause) 66 = .ok (.aload_n 0, 1) := by decide +kernel
theorem dX5_pause_67 : decode (cr_by Y_X5_pause) 67 = .ok (.getfield 32, 3) := by decide +kernel
theorem dX5_pause_70 : decode (cr_by Y_X5_pause) 70 = .ok (.iload_n 1, 1) := by decide +kernel
theorem dX5_pause_71 : decode (cr_by Y_X5_pause) 71 = .ok (.aload_n 0, 1) := by decide +kernel
theorem dX5_pause_72 : decode (cr_by Y_X5_pause) 72 = .ok (.getfield 127, 3) := by decide +kernel
theorem dX5_pause_75 : decode (cr_by Y_X5_pause) 75 = .ok (.iload_n 2, 1) := by decide +kernel
theorem dX5_pause_76 : decode (cr_by Y_X5_pause) 76 = .ok (.iadd, 1) := by decide +kernel
theorem dX5_pause_77 : decode (cr_by Y_X5_pause) 77 = .ok (.iastore, 1) := by decide +kernel
theorem dX5_pause_78 : decode (cr_by Y_X5_pause) 78 = .ok (.aload_n 0, 1) := by decide +kernel
theorem dX5_pause_79 : decode (cr_by Y_X5_pause) 79 = .ok (.getfield 32, 3) := by decide +kernel
theorem dX5_pause_82 : decode (cr_by Y_X5_pause) 82 = .ok (.iload_n 1, 1) := by decide +kernel
theorem dX5_pause_83 : decode (cr_by Y_X5_pause) 83 = .ok (.iaload, 1) := by decide +kernel
theorem dX5_pause_84 : decode (cr_by Y_X5_pause) 84 = .ok (.ireturn, 1) := by decide +kernel
theorem dX5_call_0 : decode (cr_by Y_X5_call) 0 = .ok (.iload_n 1, 1) := by decide +kernel
theorem dX5_call_1 : decode (cr_by Y_X5_call) 1 = .ok (.iconst 4, 1) := by decide +kernel
theorem dX5_call_2 : decode (cr_by Y_X5_call) 2 = .ok (.invokestatic 130, 3) := by decide +kernel
theorem dX5_call_5 : decode (cr_by Y_X5_call) 5 = .ok (.ifCond .eq 28, 3) := by decide +kernel
theorem dX5_call_8 : decode (cr_by Y_X5_call) 8 = .ok (.iload_n 2, 1) := by decide +kernel
theorem dX5_call_9 : decode (cr_by Y_X5_call) 9 = .ok (.iconst 4, 1) := by decide +kernel
theorem dX5_call_10 : decode (cr_by Y_X5_call) 10 = .ok (.invokestatic 130, 3) := by decide +kernel
theorem dX5_call_13 : decode (cr_by Y_X5_call) 13 = .ok (.ifCond .eq 20, 3) := by decide +kernel
theorem dX5_call_16 : decode (cr_by Y_X5_call) 16 = .ok (.iload_n 1, 1) := by decide +kernel
theorem dX5_call_17 : decode (cr_by Y_X5_call) 17 = .ok (.iconst 1, 1) := by decide +kernel
theorem dX5_call_18 : decode (cr_by Y_X5_call) 18 = .ok (.if_icmp .ne 21, 3) := by decide +kernel
theorem dX5_call_21 : decode (cr_by Y_X5_call) 21 = .ok (.iload 5, 2) := by decide +kernel
theorem dX5_call_23 : decode (cr_by Y_X5_call) 23 = .ok (.aload_n 0, 1) := by decide +kernel
theorem dX5_call_24 : decode (cr_by Y_X5_call) 24 = .ok (.getfield 124, 3) := by decide +kernel
theorem dX5_call_27 : decode (cr_by Y_X5_call) 27 = .ok (.invokestatic 130, 3) := by decide +kernel
theorem dX5_call_30 : decode (cr_by Y_X5_call) 30 = .ok (.ifCond .ne 9, 3) := by decide +kernel
theorem dX5_call_33 : decode (cr_by Y_X5_call) 33 = .ok (.aload_n 0, 1) := by decide +kernel
theorem dX5_call_34 : decode (cr_by Y_X5_call) 34 = .ok (.iconst (-1), 1) := by decide +kernel
theorem dX5_call_35 : decode (cr_by Y_X5_call) 35 = .ok (.invokevirtual 120, 3) := by decide +kernel
theorem dX5_call_38 : decode (cr_by Y_X5_call) 38 = .ok (.ireturn, 1) := by decide +kernel
theorem dX5_call_39 : decode (cr_by Y_X5_call) 39 = .ok (.iload_n 3, 1) := by decide +kernel
theorem dX5_call_40 : decode (cr_by Y_X5_call) 40 = .ok (.iconst 1, 1) := by decide +kernel
theorem dX5_call_41 : decode (cr_by Y_X5_call) 41 = .ok (.if_icmp .lt 8, 3) := by decide +kernel
theorem dX5_call_44 : decode (cr_by Y_X5_call) 44 = .ok (.iload 4, 2) := by decide +kernel
theorem dX5_call_46 : decode (cr_by Y_X5_call) 46 = .ok (.ifCond .ge 10, 3) := by decide +kernel
theorem dX5_call_49 : decode (cr_by Y_X5_call) 49 = .ok (.aload_n 0, 1) := by decide +kernel
theorem dX5_call_50 : decode (cr_by Y_X5_call) 50 = .ok (.bipush (-4), 2) := by decide +kernel
theorem dX5_call_52 : decode (cr_by Y_X5_call) 52 = .ok (.invokevirtual 120, 3) := by decide +kernel
theorem dX5_call_55 : decode (cr_by Y_X5_call) 55 = .ok (.ireturn, 1) := by decide +kernel
theorem dX5_call_56 : decode (cr_by Y_X5_call) 56 = .ok (.iload_n 3, 1) := by decide +kernel
theorem dX5_call_57 : decode (cr_by Y_X5_call) 57 = .ok (.sipush 1000, 3) := by decide +kernel
theorem dX5_call_60 : decode (cr_by Y_X5_call) 60 = .ok (.if_icmp .gt 21, 3) := by decide +kernel
theorem dX5_call_63 : decode (cr_by Y_X5_call) 63 = .ok (.iload 4, 2) := by decide +kernel
theorem dX5_call_65 : decode (cr_by Y_X5_call) 65 = .ok (.sipush 5000, 3) := by decide +kernel
theorem dX5_call_68 : decode (cr_by Y_X5_call) 68 = .ok (.if_icmp .gt 13, 3) := by decide +kernel
theorem dX5_call_71 : decode (cr_by Y_X5_call) 71 = .ok (.aload_n 0, 1) := by decide +kernel
theorem dX5_call_72 : decode (cr_by Y_X5_call) 72 = .ok (.getfield 142, 3) := by decide +kernel
theorem dX5_call_75 : decode (cr_by Y_X5_call) 75 = .ok (.sipush 200, 3) := by decide +kernel
theorem dX5_call_78 : decode (cr_by Y_X5_call) 78 = .ok (.if_icmp .ne 10, 3) := by decide +kernel
theorem dX5_call_81 : decode (cr_by Y_X5_call) 81 = .ok (.aload_n 0, 1) := by decide +kernel
theorem dX5_call_82 : decode (cr_by Y_X5_call) 82 = .ok (.bipush (-6), 2) := by decide +kernel
theorem dX5_call_84 : decode (cr_by Y_X5_call) 84 = .ok (.invokevirtual 120, 3) := by decide +kernel
theorem dX5_call_87 : decode (cr_by Y_X5_call) 87 = .ok (.ireturn, 1) := by decide +kernel
theorem dX5_call_88 : decode (cr_by Y_X5_call) 88 = .ok (.aload_n 0, 1) := by decide +kernel
theorem dX5_call_89 : decode (cr_by Y_X5_call) 89 = .ok (.getfield 142, 3) := by decide +kernel
theorem dX5_call_92 : decode (cr_by Y_X5_call) 92 = .ok (.istore 6, 2) := by decide +kernel
theorem dX5_call_94 : decode (cr_by Y_X5_call) 94 = .ok (.aload_n 0, 1) := by decide +kernel
theorem dX5_call_95 : decode (cr_by Y_X5_call) 95 = .ok (.dup, 1) := by decide +kernel
theorem dX5_call_96 : decode (cr_by Y_X5_call) 96 = .ok (.getfield 142, 3) := by decide +kernel
theorem dX5_call_99 : decode (cr_by Y_X5_call) 99 = .ok (.iconst 1, 1) := by decide +kernel
theorem dX5_call_100 : decode (cr_by Y_X5_call) 100 = .ok (.iadd, 1) := by decide +kernel
theorem dX5_call_101 : decode (cr_by Y_X5_call) 101 = .ok (.putfield 142, 3) := by decide +kernel
theorem dX5_call_104 : decode (cr_by Y_X5_call) 104 = .ok (.aload_n 0, 1) := by decide +kernel
theorem dX5_call_105 : decode (cr_by Y_X5_call) 105 = .ok (.getfield 41, 3) := by decide +kernel
theorem dX5_call_108 : decode (cr_by Y_X5_call) 108 = .ok (.iload 6, 2) := by decide +kernel
theorem dX5_call_110 : decode (cr_by Y_X5_call) 110 = .ok (.iload_n 1, 1) := by decide +kernel
theorem dX5_call_111 : decode (cr_by Y_X5_call) 111 = .ok (.iastore, 1) := by decide +kernel
theorem dX5_call_112 : decode (cr_by Y_X5_call) 112 = .ok (.aload_n 0, 1) := by decide +kernel
theorem dX5_call_113 : decode (cr_by Y_X5_call) 113 = .ok (.getfield 44, 3) := by decide +kernel
theorem dX5_call_116 : decode (cr_by Y_X5_call) 116 = .ok (.iload 6, 2) := by decide +kernel
theorem dX5_call_118 : decode (cr_by Y_X5_call) 118 = .ok (.iload_n 2, 1) := by decide +kernel
theorem dX5_call_119 : decode (cr_by Y_X5_call) 119 = .ok (.iastore, 1) := by decide +kernel
theorem dX5_call_120 : decode (cr_by Y_X5_call) 120 = .ok (.aload_n 0, 1) := by decide +kernel
theorem dX5_call_121 : decode (cr_by Y_X5_call) 121 = .ok (.getfield 47, 3) := by decide +kernel
theorem dX5_call_124 : decode (cr_by Y_X5_call) 124 = .ok (.iload 6, 2) := by decide +kernel
theorem dX5_call_126 : decode (cr_by Y_X5_call) 126 = .ok (.iload_n 3, 1) := by decide +kernel
theorem dX5_call_127 : decode (cr_by Y_X5_call) 127 = .ok (.iastore, 1) := by decide +kernel
theorem dX5_call_128 : decode (cr_by Y_X5_call) 128 = .ok (.aload_n 0, 1) := by decide +kernel
theorem dX5_call_129 : decode (cr_by Y_X5_call) 129 = .ok (.getfield 50, 3) := by decide +kernel
theorem dX5_call_132 : decode (cr_by Y_X5_call) 132 = .ok (.iload 6, 2) := by decide +kernel
theorem dX5_call_134 : decode (cr_by Y_X5_call) 134 = .ok (.iload 4, 2) := by decide +kernel
theorem dX5_call_136 : decode (cr_by Y_X5_call) 136 = .ok (.iastore, 1) := by decide +kernel
theorem dX5_call_137 : decode (cr_by Y_X5_call) 137 = .ok (.aload_n 0, 1) := by decide +kernel
theorem dX5_call_138 : decode (cr_by Y_X5_call) 138 = .ok (.getfield 53, 3) := by decide +kernel
theorem dX5_call_141 : decode (cr_by Y_X5_call) 141 = .ok (.iload 6, 2) := by decide +kernel
theorem dX5_call_143 : decode (cr_by Y_X5_call) 143 = .ok (.aload_n 0, 1) := by decide +kernel
theorem dX5_call_144 : decode (cr_by Y_X5_call) 144 = .ok (.getfield 127, 3) := by decide +kernel
theorem dX5_call_147 : decode (cr_by Y_X5_call) 147 = .ok (.iastore, 1) := by decide +kernel
theorem dX5_call_148 : decode (cr_by Y_X5_call) 148 = .ok (.aload_n 0, 1) := by decide +kernel
theorem dX5_call_149 : decode (cr_by Y_X5_call) 149 = .ok (.getfield 56, 3) := by decide +kernel
theorem dX5_call_152 : decode (cr_by Y_X5_call) 152 = .ok (.iload 6, 2) := by decide +kernel
theorem dX5_call_154 : decode (cr_by Y_X5_call) 154 = .ok (.iload_n 1, 1) := by decide +kernel
theorem dX5_call_155 : decode (cr_by Y_X5_call) 155 = .ok (.iconst 1, 1) := by decide +kernel
theorem dX5_call_156 : decode (cr_by Y_X5_call) 156 = .ok (.if_icmp .ne 8, 3) := by decide +kernel
theorem dX5_call_159 : decode (cr_by Y_X5_call) 159 = .ok (.iload 5, 2) := by decide +kernel
theorem dX5_call_161 : decode (cr_by Y_X5_call) 161 = .ok (.goto 5, 3) := by decide +kernel
theorem dX5_call_164 : decode (cr_by Y_X5_call) 164 = .ok (.bipush (-9), 2) := by decide +kernel
theorem dX5_call_166 : decode (cr_by Y_X5_call) 166 = .ok (.iastore, 1) := by decide +kernel
theorem dX5_call_167 : decode (cr_by Y_X5_call) 167 = .ok (.aload_n 0, 1) := by decide +kernel
theorem dX5_call_168 : decode (cr_by Y_X5_call) 168 = .ok (.getfield 59, 3) := by decide +kernel
theorem dX5_call_171 : decode (cr_by Y_X5_call) 171 = .ok (.iload 6, 2) := by decide +kernel
theorem dX5_call_173 : decode (cr_by Y_X5_call) 173 = .ok (.iconst 0, 1) := by decide +kernel
theorem dX5_call_174 : decode (cr_by Y_X5_call) 174 = .ok (.iastore, 1) := by decide +kernel
theorem dX5_call_175 : decode (cr_by Y_X5_call) 175 = .ok (.aload_n 0, 1) := by decide +kernel
theorem dX5_call_176 : decode (cr_by Y_X5_call) 176 = .ok (.getfield 62, 3) := by decide +kernel
theorem dX5_call_179 : decode (cr_by Y_X5_call) 179 = .ok (.iload 6, 2) := by decide +kernel
theorem dX5_call_181 : decode (cr_by Y_X5_call) 181 = .ok (.aload_n 0, 1) := by decide +kernel
theorem dX5_call_182 : decode (cr_by Y_X5_call) 182 = .ok (.getfield 127, 3) := by decide +kernel
theorem dX5_call_185 : decode (cr_by Y_X5_call) 185 = .ok (.iastore, 1) := by decide +kernel
theorem dX5_call_186 : decode (cr_by Y_X5_call) 186 = .ok (.aload_n 0, 1) := by decide +kernel
theorem dX5_call_187 : decode (cr_by Y_X5_call) 187 = .ok (.getfield 65, 3) := by decide +kernel
theorem dX5_call_190 : decode (cr_by Y_X5_call) 190 = .ok (.iload 6, 2) := by decide +kernel
theorem dX5_call_192 : decode (cr_by Y_X5_call) 192 = .ok (.bipush (-9), 2) := by decide +kernel
theorem dX5_call_194 : decode (cr_by Y_X5_call) 194 = .ok (.iastore, 1) := by decide +kernel
theorem dX5_call_195 : decode (cr_by Y_X5_call) 195 = .ok (.aload_n 0, 1) := by decide +kernel
theorem dX5_call_196 : decode (cr_by Y_X5_call) 196 = .ok (.getfield 68, 3) := by decide +kernel
theorem dX5_call_199 : decode (cr_by Y_X5_call) 199 = .ok (.iload 6, 2) := by decide +kernel
theorem dX5_call_201 : decode (cr_by Y_X5_call) 201 = .ok (.bipush (-9), 2) := by decide +kernel
theorem dX5_call_203 : decode (cr_by Y_X5_call) 203 = .ok (.iastore, 1) := by decide +kernel
theorem dX5_call_204 : decode (cr_by Y_X5_call) 204 = .ok (.aload_n 0, 1) := by decide +kernel
theorem dX5_call_205 : decode (cr_by Y_X5_call) 205 = .ok (.getfield 71, 3) := by decide +kernel
theorem dX5_call_208 : decode (cr_by Y_X5_call) 208 = .ok (.iload 6, 2) := by decide +kernel
theorem dX5_call_210 : decode (cr_by Y_X5_call) 210 = .ok (.bipush (-9), 2) := by decide +kernel
theorem dX5_call_212 : decode (cr_by Y_X5_call) 212 = .ok (.iastore, 1) := by decide +kernel
theorem dX5_call_213 : decode (cr_by Y_X5_call) 213 = .ok (.aload_n 0, 1) := by decide +kernel
theorem dX5_call_214 : decode (cr_by Y_X5_call) 214 = .ok (.getfield 74, 3) := by decide +kernel
theorem dX5_call_217 : decode (cr_by Y_X5_call) 217 = .ok (.iload 6, 2) := by decide +kernel
theorem dX5_call_219 : decode (cr_by Y_X5_call) 219 = .ok (.bipush (-9), 2) := by decide +kernel
theorem dX5_call_221 : decode (cr_by Y_X5_call) 221 = .ok (.iastore, 1) := by decide +kernel
theorem dX5_call_222 : decode (cr_by Y_X5_call) 222 = .ok (.iload 6, 2) := by decide +kernel
theorem dX5_call_224 : decode (cr_by Y_X5_call) 224 = .ok (.ireturn, 1) := by decide +kernel
theorem dX5_rule_0 : decode (cr_by Y_X5_rule) 0 = .ok (.iload_n 1, 1) := by decide +kernel
theorem dX5_rule_1 : decode (cr_by Y_X5_rule) 1 = .ok (.iconst 4, 1) := by decide +kernel
theorem dX5_rule_2 : decode (cr_by Y_X5_rule) 2 = .ok (.invokestatic 130, 3) := by decide +kernel
theorem dX5_rule_5 : decode (cr_by Y_X5_rule) 5 = .ok (.ifCond .ne 9, 3) := by decide +kernel
theorem dX5_rule_8 : decode (cr_by Y_X5_rule) 8 = .ok (.aload_n 0, 1) := by decide +kernel
theorem dX5_rule_9 : decode (cr_by Y_X5_rule) 9 = .ok (.iconst (-1), 1) := by decide +kernel
theorem dX5_rule_10 : decode (cr_by Y_X5_rule) 10 = .ok (.invokevirtual 120, 3) := by decide +kernel
theorem dX5_rule_13 : decode (cr_by Y_X5_rule) 13 = .ok (.ireturn, 1) := by decide +kernel
theorem dX5_rule_14 : decode (cr_by Y_X5_rule) 14 = .ok (.aload_n 0, 1) := by decide +kernel
theorem dX5_rule_15 : decode (cr_by Y_X5_rule) 15 = .ok (.getfield 145, 3) := by decide +kernel
theorem dX5_rule_18 : decode (cr_by Y_X5_rule) 18 = .ok (.istore_n 2, 1) := by decide +kernel
theorem dX5_rule_19 : decode (cr_by Y_X5_rule) 19 = .ok (.aload_n 0, 1) := by decide +kernel
theorem dX5_rule_20 : decode (cr_by Y_X5_rule) 20 = .ok (.iload_n 1, 1) := by decide +kernel
theorem dX5_rule_21 : decode (cr_by Y_X5_rule) 21 = .ok (.putfield 145, 3) := by decide +kernel
theorem dX5_rule_24 : decode (cr_by Y_X5_rule) 24 = .ok (.iload_n 2, 1) := by decide +kernel
theorem dX5_rule_25 : decode (cr_by Y_X5_rule) 25 = .ok (.ireturn, 1) := by decide +kernel
theorem dX5_prefer_0 : decode (cr_by Y_X5_prefer) 0 = .ok (.iload_n 1, 1) := by decide +kernel
theorem dX5_prefer_1 : decode (cr_by Y_X5_prefer) 1 = .ok (.ifCond .ge 10, 3) := by decide +kernel
theorem dX5_prefer_4 : decode (cr_by Y_X5_prefer) 4 = .ok (.aload_n 0, 1) := by decide +kernel
theorem dX5_prefer_5 : decode (cr_by Y_X5_prefer) 5 = .ok (.bipush (-4), 2) := by decide +kernel
theorem dX5_prefer_7 : decode (cr_by Y_X5_prefer) 7 = .ok (.invokevirtual 120, 3) := by decide +kernel
theorem dX5_prefer_10 : decode (cr_by Y_X5_prefer) 10 = .ok (.ireturn, 1) := by decide +kernel
theorem dX5_prefer_11 : decode (cr_by Y_X5_prefer) 11 = .ok (.iload_n 1, 1) := by decide +kernel
theorem dX5_prefer_12 : decode (cr_by Y_X5_prefer) 12 = .ok (.sipush 1000, 3) := by decide +kernel
theorem dX5_prefer_15 : decode (cr_by Y_X5_prefer) 15 = .ok (.if_icmp .le 10, 3) := by decide +kernel
theorem dX5_prefer_18 : decode (cr_by Y_X5_prefer) 18 = .ok (.aload_n 0, 1) := by decide +kernel
theorem dX5_prefer_19 : decode (cr_by Y_X5_prefer) 19 = .ok (.bipush (-6), 2) := by decide +kernel
theorem dX5_prefer_21 : decode (cr_by Y_X5_prefer) 21 = .ok (.invokevirtual 120, 3) := by decide +kernel
theorem dX5_prefer_24 : decode (cr_by Y_X5_prefer) 24 = .ok (.ireturn, 1) := by decide +kernel
theorem dX5_prefer_25 : decode (cr_by Y_X5_prefer) 25 = .ok (.aload_n 0, 1) := by decide +kernel
theorem dX5_prefer_26 : decode (cr_by Y_X5_prefer) 26 = .ok (.getfield 19, 3) := by decide +kernel
theorem dX5_prefer_29 : decode (cr_by Y_X5_prefer) 29 = .ok (.istore_n 2, 1) := by decide +kernel
theorem dX5_prefer_30 : decode (cr_by Y_X5_prefer) 30 = .ok (.aload_n 0, 1) := by decide +kernel
theorem dX5_prefer_31 : decode (cr_by Y_X5_prefer) 31 = .ok (.iload_n 1, 1) := by decide +kernel
theorem dX5_prefer_32 : decode (cr_by Y_X5_prefer) 32 = .ok (.putfield 19, 3) := by decide +kernel
theorem dX5_prefer_35 : decode (cr_by Y_X5_prefer) 35 = .ok (.iload_n 2, 1) := by decide +kernel
theorem dX5_prefer_36 : decode (cr_by Y_X5_prefer) 36 = .ok (.ireturn, 1) := by decide +kernel
theorem dX5_ring_0 : decode (cr_by Y_X5_ring) 0 = .ok (.iload_n 1, 1) := by decide +kernel
theorem dX5_ring_1 : decode (cr_by Y_X5_ring) 1 = .ok (.aload_n 0, 1) := by decide +kernel
theorem dX5_ring_2 : decode (cr_by Y_X5_ring) 2 = .ok (.getfield 142, 3) := by decide +kernel
theorem dX5_ring_5 : decode (cr_by Y_X5_ring) 5 = .ok (.invokestatic 130, 3) := by decide +kernel
theorem dX5_ring_8 : decode (cr_by Y_X5_ring) 8 = .ok (.ifCond .ne 9, 3) := by decide +kernel
theorem dX5_ring_11 : decode (cr_by Y_X5_ring) 11 = .ok (.aload_n 0, 1) := by decide +kernel
theorem dX5_ring_12 : decode (cr_by Y_X5_ring) 12 = .ok (.iconst (-1), 1) := by decide +kernel
theorem dX5_ring_13 : decode (cr_by Y_X5_ring) 13 = .ok (.invokevirtual 120, 3) := by decide +kernel
theorem dX5_ring_16 : decode (cr_by Y_X5_ring) 16 = .ok (.ireturn, 1) := by decide +kernel
theorem dX5_ring_17 : decode (cr_by Y_X5_ring) 17 = .ok (.aload_n 0, 1) := by decide +kernel
theorem dX5_ring_18 : decode (cr_by Y_X5_ring) 18 = .ok (.getfield 59, 3) := by decide +kernel
theorem dX5_ring_21 : decode (cr_by Y_X5_ring) 21 = .ok (.iload_n 1, 1) := by decide +kernel
theorem dX5_ring_22 : decode (cr_by Y_X5_ring) 22 = .ok (.iaload, 1) := by decide +kernel
theorem dX5_ring_23 : decode (cr_by Y_X5_ring) 23 = .ok (.ifCond .eq 10, 3) := by decide +kernel
theorem dX5_ring_26 : decode (cr_by Y_X5_ring) 26 = .ok (.aload_n 0, 1) := by decide +kernel
theorem dX5_ring_27 : decode (cr_by Y_X5_ring) 27 = .ok (.bipush (-2), 2) := by decide +kernel
theorem dX5_ring_29 : decode (cr_by Y_X5_ring) 29 = .ok (.invokevirtual 120, 3) := by decide +kernel
theorem dX5_ring_32 : decode (cr_by Y_X5_ring) 32 = .ok (.ireturn, 1) := by decide +kernel
theorem dX5_ring_33 : decode (cr_by Y_X5_ring) 33 = .ok (.iload_n 2, 1) := by decide +kernel
theorem dX5_ring_34 : decode (cr_by Y_X5_ring) 34 = .ok (.iconst 1, 1) := by decide +kernel
theorem dX5_ring_35 : decode (cr_by Y_X5_ring) 35 = .ok (.if_icmp .ge 10, 3) := by decide +kernel
theorem dX5_ring_38 : decode (cr_by Y_X5_ring) 38 = .ok (.aload_n 0, 1) := by decide +kernel
theorem dX5_ring_39 : decode (cr_by Y_X5_ring) 39 = .ok (.bipush (-4), 2) := by decide +kernel
theorem dX5_ring_41 : decode (cr_by Y_X5_ring) 41 = .ok (.invokevirtual 120, 3) := by decide +kernel
theorem dX5_ring_44 : decode (cr_by Y_X5_ring) 44 = .ok (.ireturn, 1) := by decide +kernel
theorem dX5_ring_45 : decode (cr_by Y_X5_ring) 45 = .ok (.iload_n 2, 1) := by decide +kernel
theorem dX5_ring_46 : decode (cr_by Y_X5_ring) 46 = .ok (.sipush 5000, 3) := by decide +kernel
theorem dX5_ring_49 : decode (cr_by Y_X5_ring) 49 = .ok (.if_icmp .le 10, 3) := by decide +kernel
theorem dX5_ring_52 : decode (cr_by Y_X5_ring) 52 = .ok (.aload_n 0, 1) := by decide +kernel
theorem dX5_ring_53 : decode (cr_by Y_X5_ring) 53 = .ok (.bipush (-6), 2) := by decide +kernel
theorem dX5_ring_55 : decode (cr_by Y_X5_ring) 55 = .ok (.invokevirtual 120, 3) := by decide +kernel
theorem dX5_ring_58 : decode (cr_by Y_X5_ring) 58 = .ok (.ireturn, 1) := by decide +kernel
theorem dX5_ring_59 : decode (cr_by Y_X5_ring) 59 = .ok (.aload_n 0, 1) := by decide +kernel
theorem dX5_ring_60 : decode (cr_by Y_X5_ring) 60 = .ok (.getfield 59, 3) := by decide +kernel
theorem dX5_ring_63 : decode (cr_by Y_X5_ring) 63 = .ok (.iload_n 1, 1) := by decide +kernel
theorem dX5_ring_64 : decode (cr_by Y_X5_ring) 64 = .ok (.iconst 4, 1) := by decide +kernel
theorem dX5_ring_65 : decode (cr_by Y_X5_ring) 65 = .ok (.iastore, 1) := by decide +kernel
theorem dX5_ring_66 : decode (cr_by Y_X5_ring) 66 = .ok (.aload_n 0, 1) := by decide +kernel
theorem dX5_ring_67 : decode (cr_by Y_X5_ring) 67 = .ok (.getfield 68, 3) := by decide +kernel
theorem dX5_ring_70 : decode (cr_by Y_X5_ring) 70 = .ok (.iload_n 1, 1) := by decide +kernel
theorem dX5_ring_71 : decode (cr_by Y_X5_ring) 71 = .ok (.aload_n 0, 1) := by decide +kernel
theorem dX5_ring_72 : decode (cr_by Y_X5_ring) 72 = .ok (.getfield 127, 3) := by decide +kernel
theorem dX5_ring_75 : decode (cr_by Y_X5_ring) 75 = .ok (.iload_n 2, 1) := by decide +kernel
theorem dX5_ring_76 : decode (cr_by Y_X5_ring) 76 = .ok (.iadd, 1) := by decide +kernel
theorem dX5_ring_77 : decode (cr_by Y_X5_ring) 77 = .ok (.iastore, 1) := by decide +kernel
theorem dX5_ring_78 : decode (cr_by Y_X5_ring) 78 = .ok (.aload_n 0, 1) := by decide +kernel
theorem dX5_ring_79 : decode (cr_by Y_X5_ring) 79 = .ok (.getfield 68, 3) := by decide +kernel
theorem dX5_ring_82 : decode (cr_by Y_X5_ring) 82 = .ok (.iload_n 1, 1) := by decide +kernel
theorem dX5_ring_83 : decode (cr_by Y_X5_ring) 83 = .ok (.iaload, 1) := by decide +kernel
theorem dX5_ring_84 : decode (cr_by Y_X5_ring) 84 = .ok (.ireturn, 1) := by decide +kernel
theorem dX5_loses_0 : decode (cr_by Y_X5_loses) 0 = .ok (.aload_n 0, 1) := by decide +kernel
theorem dX5_loses_1 : decode (cr_by Y_X5_loses) 1 = .ok (.getfield 77, 3) := by decide +kernel
theorem dX5_loses_4 : decode (cr_by Y_X5_loses) 4 = .ok (.iload_n 1, 1) := by decide +kernel
theorem dX5_loses_5 : decode (cr_by Y_X5_loses) 5 = .ok (.dup2, 1) := by decide +kernel
theorem dX5_loses_6 : decode (cr_by Y_X5_loses) 6 = .ok (.iaload, 1) := by decide +kernel
theorem dX5_loses_7 : decode (cr_by Y_X5_loses) 7 = .ok (.iconst 1, 1) := by decide +kernel
theorem dX5_loses_8 : decode (cr_by Y_X5_loses) 8 = .ok (.isub, 1) := by decide +kernel
theorem dX5_loses_9 : decode (cr_by Y_X5_loses) 9 = .ok (.iastore, 1) := by decide +kernel
theorem dX5_loses_10 : decode (cr_by Y_X5_loses) 10 = .ok (.aload_n 0, 1) := by decide +kernel
theorem dX5_loses_11 : decode (cr_by Y_X5_loses) 11 = .ok (.iload_n 1, 1) := by decide +kernel
theorem dX5_loses_12 : decode (cr_by Y_X5_loses) 12 = .ok (.aload_n 0, 1) := by decide +kernel
theorem dX5_loses_13 : decode (cr_by Y_X5_loses) 13 = .ok (.getfield 77, 3) := by decide +kernel
theorem dX5_loses_16 : decode (cr_by Y_X5_loses) 16 = .ok (.iload_n 1, 1) := by decide +kernel
theorem dX5_loses_17 : decode (cr_by Y_X5_loses) 17 = .ok (.iaload, 1) := by decide +kernel
theorem dX5_loses_18 : decode (cr_by Y_X5_loses) 18 = .ok (.ifCond .ne 7, 3) := by decide +kernel
theorem dX5_loses_21 : decode (cr_by Y_X5_loses) 21 = .ok (.iconst 1, 1) := by decide +kernel
theorem dX5_loses_22 : decode (cr_by Y_X5_loses) 22 = .ok (.goto 4, 3) := by decide +kernel
theorem dX5_loses_25 : decode (cr_by Y_X5_loses) 25 = .ok (.iconst 2, 1) := by decide +kernel
theorem dX5_loses_26 : decode (cr_by Y_X5_loses) 26 = .ok (.invokevirtual 138, 3) := by decide +kernel
theorem dX5_loses_29 : decode (cr_by Y_X5_loses) 29 = .ok (.return_, 1) := by decide +kernel
theorem dX5_pass_0 : decode (cr_by Y_X5_pass) 0 = .ok (.iload_n 1, 1) := by decide +kernel
theorem dX5_pass_1 : decode (cr_by Y_X5_pass) 1 = .ok (.aload_n 0, 1) := by decide +kernel
theorem dX5_pass_2 : decode (cr_by Y_X5_pass) 2 = .ok (.getfield 142, 3) := by decide +kernel
theorem dX5_pass_5 : decode (cr_by Y_X5_pass) 5 = .ok (.invokestatic 130, 3) := by decide +kernel
theorem dX5_pass_8 : decode (cr_by Y_X5_pass) 8 = .ok (.ifCond .eq 11, 3) := by decide +kernel
theorem dX5_pass_11 : decode (cr_by Y_X5_pass) 11 = .ok (.iload_n 2, 1) := by decide +kernel
theorem dX5_pass_12 : decode (cr_by Y_X5_pass) 12 = .ok (.iconst 4, 1) := by decide +kernel
theorem dX5_pass_13 : decode (cr_by Y_X5_pass) 13 = .ok (.invokestatic 130, 3) := by decide +kernel
theorem dX5_pass_16 : decode (cr_by Y_X5_pass) 16 = .ok (.ifCond .ne 9, 3) := by decide +kernel
theorem dX5_pass_19 : decode (cr_by Y_X5_pass) 19 = .ok (.aload_n 0, 1) := by decide +kernel
theorem dX5_pass_20 : decode (cr_by Y_X5_pass) 20 = .ok (.iconst (-1), 1) := by decide +kernel
theorem dX5_pass_21 : decode (cr_by Y_X5_pass) 21 = .ok (.invokevirtual 120, 3) := by decide +kernel
theorem dX5_pass_24 : decode (cr_by Y_X5_pass) 24 = .ok (.ireturn, 1) := by decide +kernel
theorem dX5_pass_25 : decode (cr_by Y_X5_pass) 25 = .ok (.aload_n 0, 1) := by decide +kernel
theorem dX5_pass_26 : decode (cr_by Y_X5_pass) 26 = .ok (.getfield 59, 3) := by decide +kernel
theorem dX5_pass_29 : decode (cr_by Y_X5_pass) 29 = .ok (.iload_n 1, 1) := by decide +kernel
theorem dX5_pass_30 : decode (cr_by Y_X5_pass) 30 = .ok (.iaload, 1) := by decide +kernel
theorem dX5_pass_31 : decode (cr_by Y_X5_pass) 31 = .ok (.iconst 1, 1) := by decide +kernel
theorem dX5_pass_32 : decode (cr_by Y_X5_pass) 32 = .ok (.if_icmp .eq 10, 3) := by decide +kernel
theorem dX5_pass_35 : decode (cr_by Y_X5_pass) 35 = .ok (.aload_n 0, 1) := by decide +kernel
theorem dX5_pass_36 : decode (cr_by Y_X5_pass) 36 = .ok (.bipush (-2), 2) := by decide +kernel
theorem dX5_pass_38 : decode (cr_by Y_X5_pass) 38 = .ok (.invokevirtual 120, 3) := by decide +kernel
theorem dX5_pass_41 : decode (cr_by Y_X5_pass) 41 = .ok (.ireturn, 1) := by decide +kernel
theorem dX5_pass_42 : decode (cr_by Y_X5_pass) 42 = .ok (.iload_n 3, 1) := by decide +kernel
theorem dX5_pass_43 : decode (cr_by Y_X5_pass) 43 = .ok (.iconst 1, 1) := by decide +kernel
theorem dX5_pass_44 : decode (cr_by Y_X5_pass) 44 = .ok (.if_icmp .ge 10, 3) := by decide +kernel
theorem dX5_pass_47 : decode (cr_by Y_X5_pass) 47 = .ok (.aload_n 0, 1) := by decide +kernel
theorem dX5_pass_48 : decode (cr_by Y_X5_pass) 48 = .ok (.bipush (-4), 2) := by decide +kernel
theorem dX5_pass_50 : decode (cr_by Y_X5_pass) 50 = .ok (.invokevirtual 120, 3) := by decide +kernel
theorem dX5_pass_53 : decode (cr_by Y_X5_pass) 53 = .ok (.ireturn, 1) := by decide +kernel
theorem dX5_pass_54 : decode (cr_by Y_X5_pass) 54 = .ok (.iload_n 3, 1) := by decide +kernel
theorem dX5_pass_55 : decode (cr_by Y_X5_pass) 55 = .ok (.sipush 1000, 3) := by decide +kernel
theorem dX5_pass_58 : decode (cr_by Y_X5_pass) 58 = .ok (.if_icmp .le 10, 3) := by decide +kernel
theorem dX5_pass_61 : decode (cr_by Y_X5_pass) 61 = .ok (.aload_n 0, 1) := by decide +kernel
theorem dX5_pass_62 : decode (cr_by Y_X5_pass) 62 = .ok (.bipush (-6), 2) := by decide +kernel
theorem dX5_pass_64 : decode (cr_by Y_X5_pass) 64 = .ok (.invokevirtual 120, 3) := by decide +kernel
theorem dX5_pass_67 : decode (cr_by Y_X5_pass) 67 = .ok (.ireturn, 1) := by decide +kernel
theorem dX5_pass_68 : decode (cr_by Y_X5_pass) 68 = .ok (.aload_n 0, 1) := by decide +kernel
theorem dX5_pass_69 : decode (cr_by Y_X5_pass) 69 = .ok (.getfield 65, 3) := by decide +kernel
theorem dX5_pass_72 : decode (cr_by Y_X5_pass) 72 = .ok (.iload_n 1, 1) := by decide +kernel
theorem dX5_pass_73 : decode (cr_by Y_X5_pass) 73 = .ok (.iaload, 1) := by decide +kernel
theorem dX5_pass_74 : decode (cr_by Y_X5_pass) 74 = .ok (.istore 4, 2) := by decide +kernel
theorem dX5_pass_76 : decode (cr_by Y_X5_pass) 76 = .ok (.aload_n 0, 1) := by decide +kernel
theorem dX5_pass_77 : decode (cr_by Y_X5_pass) 77 = .ok (.getfield 59, 3) := by decide +kernel
theorem dX5_pass_80 : decode (cr_by Y_X5_pass) 80 = .ok (.iload_n 1, 1) := by decide +kernel
theorem dX5_pass_81 : decode (cr_by Y_X5_pass) 81 = .ok (.iconst 0, 1) := by decide +kernel
theorem dX5_pass_82 : decode (cr_by Y_X5_pass) 82 = .ok (.iastore, 1) := by decide +kernel
theorem dX5_pass_83 : decode (cr_by Y_X5_pass) 83 = .ok (.aload_n 0, 1) := by decide +kernel
theorem dX5_pass_84 : decode (cr_by Y_X5_pass) 84 = .ok (.getfield 44, 3) := by decide +kernel
theorem dX5_pass_87 : decode (cr_by Y_X5_pass) 87 = .ok (.iload_n 1, 1) := by decide +kernel
theorem dX5_pass_88 : decode (cr_by Y_X5_pass) 88 = .ok (.iload_n 2, 1) := by decide +kernel
theorem dX5_pass_89 : decode (cr_by Y_X5_pass) 89 = .ok (.iastore, 1) := by decide +kernel
theorem dX5_pass_90 : decode (cr_by Y_X5_pass) 90 = .ok (.aload_n 0, 1) := by decide +kernel
theorem dX5_pass_91 : decode (cr_by Y_X5_pass) 91 = .ok (.getfield 47, 3) := by decide +kernel
theorem dX5_pass_94 : decode (cr_by Y_X5_pass) 94 = .ok (.iload_n 1, 1) := by decide +kernel
theorem dX5_pass_95 : decode (cr_by Y_X5_pass) 95 = .ok (.iload_n 3, 1) := by decide +kernel
theorem dX5_pass_96 : decode (cr_by Y_X5_pass) 96 = .ok (.iastore, 1) := by decide +kernel
theorem dX5_pass_97 : decode (cr_by Y_X5_pass) 97 = .ok (.aload_n 0, 1) := by decide +kernel
theorem dX5_pass_98 : decode (cr_by Y_X5_pass) 98 = .ok (.getfield 62, 3) := by decide +kernel
theorem dX5_pass_101 : decode (cr_by Y_X5_pass) 101 = .ok (.iload_n 1, 1) := by decide +kernel
theorem dX5_pass_102 : decode (cr_by Y_X5_pass) 102 = .ok (.aload_n 0, 1) := by decide +kernel
theorem dX5_pass_103 : decode (cr_by Y_X5_pass) 103 = .ok (.getfield 127, 3) := by decide +kernel
theorem dX5_pass_106 : decode (cr_by Y_X5_pass) 106 = .ok (.iastore, 1) := by decide +kernel
theorem dX5_pass_107 : decode (cr_by Y_X5_pass) 107 = .ok (.aload_n 0, 1) := by decide +kernel
theorem dX5_pass_108 : decode (cr_by Y_X5_pass) 108 = .ok (.getfield 65, 3) := by decide +kernel
theorem dX5_pass_111 : decode (cr_by Y_X5_pass) 111 = .ok (.iload_n 1, 1) := by decide +kernel
theorem dX5_pass_112 : decode (cr_by Y_X5_pass) 112 = .ok (.bipush (-9), 2) := by decide +kernel
theorem dX5_pass_114 : decode (cr_by Y_X5_pass) 114 = .ok (.iastore, 1) := by decide +kernel
theorem dX5_pass_115 : decode (cr_by Y_X5_pass) 115 = .ok (.aload_n 0, 1) := by decide +kernel
theorem dX5_pass_116 : decode (cr_by Y_X5_pass) 116 = .ok (.getfield 68, 3) := by decide +kernel
theorem dX5_pass_119 : decode (cr_by Y_X5_pass) 119 = .ok (.iload_n 1, 1) := by decide +kernel
theorem dX5_pass_120 : decode (cr_by Y_X5_pass) 120 = .ok (.bipush (-9), 2) := by decide +kernel
theorem dX5_pass_122 : decode (cr_by Y_X5_pass) 122 = .ok (.iastore, 1) := by decide +kernel
theorem dX5_pass_123 : decode (cr_by Y_X5_pass) 123 = .ok (.aload_n 0, 1) := by decide +kernel
theorem dX5_pass_124 : decode (cr_by Y_X5_pass) 124 = .ok (.iload 4, 2) := by decide +kernel
theorem dX5_pass_126 : decode (cr_by Y_X5_pass) 126 = .ok (.invokevirtual 148, 3) := by decide +kernel
theorem dX5_pass_129 : decode (cr_by Y_X5_pass) 129 = .ok (.iload 4, 2) := by decide +kernel
theorem dX5_pass_131 : decode (cr_by Y_X5_pass) 131 = .ok (.ireturn, 1) := by decide +kernel
theorem dX5_leave_0 : decode (cr_by Y_X5_leave) 0 = .ok (.iload_n 1, 1) := by decide +kernel
theorem dX5_leave_1 : decode (cr_by Y_X5_leave) 1 = .ok (.aload_n 0, 1) := by decide +kernel
theorem dX5_leave_2 : decode (cr_by Y_X5_leave) 2 = .ok (.getfield 142, 3) := by decide +kernel
theorem dX5_leave_5 : decode (cr_by Y_X5_leave) 5 = .ok (.invokestatic 130, 3) := by decide +kernel
theorem dX5_leave_8 : decode (cr_by Y_X5_leave) 8 = .ok (.ifCond .ne 9, 3) := by decide +kernel
theorem dX5_leave_11 : decode (cr_by Y_X5_leave) 11 = .ok (.aload_n 0, 1) := by decide +kernel
theorem dX5_leave_12 : decode (cr_by Y_X5_leave) 12 = .ok (.iconst (-1), 1) := by decide +kernel
theorem dX5_leave_13 : decode (cr_by Y_X5_leave) 13 = .ok (.invokevirtual 120, 3) := by decide +kernel
theorem dX5_leave_16 : decode (cr_by Y_X5_leave) 16 = .ok (.ireturn, 1) := by decide +kernel
theorem dX5_leave_17 : decode (cr_by Y_X5_leave) 17 = .ok (.aload_n 0, 1) := by decide +kernel
theorem dX5_leave_18 : decode (cr_by Y_X5_leave) 18 = .ok (.getfield 59, 3) := by decide +kernel
theorem dX5_leave_21 : decode (cr_by Y_X5_leave) 21 = .ok (.iload_n 1, 1) := by decide +kernel
theorem dX5_leave_22 : decode (cr_by Y_X5_leave) 22 = .ok (.iaload, 1) := by decide +kernel
theorem dX5_leave_23 : decode (cr_by Y_X5_leave) 23 = .ok (.ifCond .eq 20, 3) := by decide +kernel
theorem dX5_leave_26 : decode (cr_by Y_X5_leave) 26 = .ok (.aload_n 0, 1) := by decide +kernel
theorem dX5_leave_27 : decode (cr_by Y_X5_leave) 27 = .ok (.getfield 59, 3) := by decide +kernel
theorem dX5_leave_30 : decode (cr_by Y_X5_leave) 30 = .ok (.iload_n 1, 1) := by decide +kernel
theorem dX5_leave_31 : decode (cr_by Y_X5_leave) 31 = .ok (.iaload, 1) := by decide +kernel
theorem dX5_leave_32 : decode (cr_by Y_X5_leave) 32 = .ok (.iconst 4, 1) := by decide +kernel
theorem dX5_leave_33 : decode (cr_by Y_X5_leave) 33 = .ok (.if_icmp .eq 10, 3) := by decide +kernel
theorem dX5_leave_36 : decode (cr_by Y_X5_leave) 36 = .ok (.aload_n 0, 1) := by decide +kernel
theorem dX5_leave_37 : decode (cr_by Y_X5_leave) 37 = .ok (.bipush (-2), 2) := by decide +kernel
theorem dX5_leave_39 : decode (cr_by Y_X5_leave) 39 = .ok (.invokevirtual 120, 3) := by decide +kernel
theorem dX5_leave_42 : decode (cr_by Y_X5_leave) 42 = .ok (.ireturn, 1) := by decide +kernel
theorem dX5_leave_43 : decode (cr_by Y_X5_leave) 43 = .ok (.aload_n 0, 1) := by decide +kernel
theorem dX5_leave_44 : decode (cr_by Y_X5_leave) 44 = .ok (.getfield 59, 3) := by decide +kernel
theorem dX5_leave_47 : decode (cr_by Y_X5_leave) 47 = .ok (.iload_n 1, 1) := by decide +kernel
theorem dX5_leave_48 : decode (cr_by Y_X5_leave) 48 = .ok (.iconst 3, 1) := by decide +kernel
theorem dX5_leave_49 : decode (cr_by Y_X5_leave) 49 = .ok (.iastore, 1) := by decide +kernel
theorem dX5_leave_50 : decode (cr_by Y_X5_leave) 50 = .ok (.aload_n 0, 1) := by decide +kernel
theorem dX5_leave_51 : decode (cr_by Y_X5_leave) 51 = .ok (.getfield 68, 3) := by decide +kernel
theorem dX5_leave_54 : decode (cr_by Y_X5_leave) 54 = .ok (.iload_n 1, 1) := by decide +kernel
theorem dX5_leave_55 : decode (cr_by Y_X5_leave) 55 = .ok (.bipush (-9), 2) := by decide +kernel
theorem dX5_leave_57 : decode (cr_by Y_X5_leave) 57 = .ok (.iastore, 1) := by decide +kernel
theorem dX5_leave_58 : decode (cr_by Y_X5_leave) 58 = .ok (.iconst 1, 1) := by decide +kernel
theorem dX5_leave_59 : decode (cr_by Y_X5_leave) 59 = .ok (.ireturn, 1) := by decide +kernel
theorem dX5_urge_0 : decode (cr_by Y_X5_urge) 0 = .ok (.iload_n 1, 1) := by decide +kernel
theorem dX5_urge_1 : decode (cr_by Y_X5_urge) 1 = .ok (.aload_n 0, 1) := by decide +kernel
theorem dX5_urge_2 : decode (cr_by Y_X5_urge) 2 = .ok (.getfield 142, 3) := by decide +kernel
theorem dX5_urge_5 : decode (cr_by Y_X5_urge) 5 = .ok (.invokestatic 130, 3) := by decide +kernel
theorem dX5_urge_8 : decode (cr_by Y_X5_urge) 8 = .ok (.ifCond .ne 9, 3) := by decide +kernel
theorem dX5_urge_11 : decode (cr_by Y_X5_urge) 11 = .ok (.aload_n 0, 1) := by decide +kernel
theorem dX5_urge_12 : decode (cr_by Y_X5_urge) 12 = .ok (.iconst (-1), 1) := by decide +kernel
theorem dX5_urge_13 : decode (cr_by Y_X5_urge) 13 = .ok (.invokevirtual 120, 3) := by decide +kernel
theorem dX5_urge_16 : decode (cr_by Y_X5_urge) 16 = .ok (.ireturn, 1) := by decide +kernel
theorem dX5_urge_17 : decode (cr_by Y_X5_urge) 17 = .ok (.aload_n 0, 1) := by decide +kernel
theorem dX5_urge_18 : decode (cr_by Y_X5_urge) 18 = .ok (.getfield 59, 3) := by decide +kernel
theorem dX5_urge_21 : decode (cr_by Y_X5_urge) 21 = .ok (.iload_n 1, 1) := by decide +kernel
theorem dX5_urge_22 : decode (cr_by Y_X5_urge) 22 = .ok (.iaload, 1) := by decide +kernel
theorem dX5_urge_23 : decode (cr_by Y_X5_urge) 23 = .ok (.ifCond .ne 23, 3) := by decide +kernel
theorem dX5_urge_26 : decode (cr_by Y_X5_urge) 26 = .ok (.aload_n 0, 1) := by decide +kernel
theorem dX5_urge_27 : decode (cr_by Y_X5_urge) 27 = .ok (.getfield 41, 3) := by decide +kernel
theorem dX5_urge_30 : decode (cr_by Y_X5_urge) 30 = .ok (.iload_n 1, 1) := by decide +kernel
theorem dX5_urge_31 : decode (cr_by Y_X5_urge) 31 = .ok (.iaload, 1) := by decide +kernel
theorem dX5_urge_32 : decode (cr_by Y_X5_urge) 32 = .ok (.iconst 2, 1) := by decide +kernel
theorem dX5_urge_33 : decode (cr_by Y_X5_urge) 33 = .ok (.if_icmp .eq 13, 3) := by decide +kernel
theorem dX5_urge_36 : decode (cr_by Y_X5_urge) 36 = .ok (.aload_n 0, 1) := by decide +kernel
theorem dX5_urge_37 : decode (cr_by Y_X5_urge) 37 = .ok (.getfield 41, 3) := by decide +kernel
theorem dX5_urge_40 : decode (cr_by Y_X5_urge) 40 = .ok (.iload_n 1, 1) := by decide +kernel
theorem dX5_urge_41 : decode (cr_by Y_X5_urge) 41 = .ok (.iaload, 1) := by decide +kernel
theorem dX5_urge_42 : decode (cr_by Y_X5_urge) 42 = .ok (.iconst 3, 1) := by decide +kernel
theorem dX5_urge_43 : decode (cr_by Y_X5_urge) 43 = .ok (.if_icmp .ne 10, 3) := by decide +kernel
theorem dX5_urge_46 : decode (cr_by Y_X5_urge) 46 = .ok (.aload_n 0, 1) := by decide +kernel
theorem dX5_urge_47 : decode (cr_by Y_X5_urge) 47 = .ok (.bipush (-2), 2) := by decide +kernel
theorem dX5_urge_49 : decode (cr_by Y_X5_urge) 49 = .ok (.invokevirtual 120, 3) := by decide +kernel
theorem dX5_urge_52 : decode (cr_by Y_X5_urge) 52 = .ok (.ireturn, 1) := by decide +kernel
theorem dX5_urge_53 : decode (cr_by Y_X5_urge) 53 = .ok (.aload_n 0, 1) := by decide +kernel
theorem dX5_urge_54 : decode (cr_by Y_X5_urge) 54 = .ok (.getfield 41, 3) := by decide +kernel
theorem dX5_urge_57 : decode (cr_by Y_X5_urge) 57 = .ok (.iload_n 1, 1) := by decide +kernel
theorem dX5_urge_58 : decode (cr_by Y_X5_urge) 58 = .ok (.iconst 2, 1) := by decide +kernel
theorem dX5_urge_59 : decode (cr_by Y_X5_urge) 59 = .ok (.iastore, 1) := by decide +kernel
theorem dX5_urge_60 : decode (cr_by Y_X5_urge) 60 = .ok (.aload_n 0, 1) := by decide +kernel
theorem dX5_urge_61 : decode (cr_by Y_X5_urge) 61 = .ok (.getfield 56, 3) := by decide +kernel
theorem dX5_urge_64 : decode (cr_by Y_X5_urge) 64 = .ok (.iload_n 1, 1) := by decide +kernel
theorem dX5_urge_65 : decode (cr_by Y_X5_urge) 65 = .ok (.bipush (-9), 2) := by decide +kernel
theorem dX5_urge_67 : decode (cr_by Y_X5_urge) 67 = .ok (.iastore, 1) := by decide +kernel
theorem dX5_urge_68 : decode (cr_by Y_X5_urge) 68 = .ok (.iconst 1, 1) := by decide +kernel
theorem dX5_urge_69 : decode (cr_by Y_X5_urge) 69 = .ok (.ireturn, 1) := by decide +kernel
theorem dX5_waitedOf_0 : decode (cr_by Y_X5_waitedOf) 0 = .ok (.aload_n 0, 1) := by decide +kernel
theorem dX5_waitedOf_1 : decode (cr_by Y_X5_waitedOf) 1 = .ok (.getfield 127, 3) := by decide +kernel
theorem dX5_waitedOf_4 : decode (cr_by Y_X5_waitedOf) 4 = .ok (.aload_n 0, 1) := by decide +kernel
theorem dX5_waitedOf_5 : decode (cr_by Y_X5_waitedOf) 5 = .ok (.getfield 62, 3) := by decide +kernel
theorem dX5_waitedOf_8 : decode (cr_by Y_X5_waitedOf) 8 = .ok (.iload_n 1, 1) := by decide +kernel
theorem dX5_waitedOf_9 : decode (cr_by Y_X5_waitedOf) 9 = .ok (.iaload, 1) := by decide +kernel
theorem dX5_waitedOf_10 : decode (cr_by Y_X5_waitedOf) 10 = .ok (.isub, 1) := by decide +kernel
theorem dX5_waitedOf_11 : decode (cr_by Y_X5_waitedOf) 11 = .ok (.ireturn, 1) := by decide +kernel
theorem dX5_hasRoom_0 : decode (cr_by Y_X5_hasRoom) 0 = .ok (.aload_n 0, 1) := by decide +kernel
theorem dX5_hasRoom_1 : decode (cr_by Y_X5_hasRoom) 1 = .ok (.getfield 83, 3) := by decide +kernel
theorem dX5_hasRoom_4 : decode (cr_by Y_X5_hasRoom) 4 = .ok (.iload_n 1, 1) := by decide +kernel
theorem dX5_hasRoom_5 : decode (cr_by Y_X5_hasRoom) 5 = .ok (.baload, 1) := by decide +kernel
theorem dX5_hasRoom_6 : decode (cr_by Y_X5_hasRoom) 6 = .ok (.ifCond .eq 17, 3) := by decide +kernel
theorem dX5_hasRoom_9 : decode (cr_by Y_X5_hasRoom) 9 = .ok (.aload_n 0, 1) := by decide +kernel
theorem dX5_hasRoom_10 : decode (cr_by Y_X5_hasRoom) 10 = .ok (.getfield 77, 3) := by decide +kernel
theorem dX5_hasRoom_13 : decode (cr_by Y_X5_hasRoom) 13 = .ok (.iload_n 1, 1) := by decide +kernel
theorem dX5_hasRoom_14 : decode (cr_by Y_X5_hasRoom) 14 = .ok (.iaload, 1) := by decide +kernel
theorem dX5_hasRoom_15 : decode (cr_by Y_X5_hasRoom) 15 = .ok (.iconst 3, 1) := by decide +kernel
theorem dX5_hasRoom_16 : decode (cr_by Y_X5_hasRoom) 16 = .ok (.if_icmp .ge 7, 3) := by decide +kernel
theorem dX5_hasRoom_19 : decode (cr_by Y_X5_hasRoom) 19 = .ok (.iconst 1, 1) := by decide +kernel
theorem dX5_hasRoom_20 : decode (cr_by Y_X5_hasRoom) 20 = .ok (.goto 4, 3) := by decide +kernel
theorem dX5_hasRoom_23 : decode (cr_by Y_X5_hasRoom) 23 = .ok (.iconst 0, 1) := by decide +kernel
theorem dX5_hasRoom_24 : decode (cr_by Y_X5_hasRoom) 24 = .ok (.ireturn, 1) := by decide +kernel
theorem dX5_may_0 : decode (cr_by Y_X5_may) 0 = .ok (.aload_n 0, 1) := by decide +kernel
theorem dX5_may_1 : decode (cr_by Y_X5_may) 1 = .ok (.getfield 59, 3) := by decide +kernel
theorem dX5_may_4 : decode (cr_by Y_X5_may) 4 = .ok (.iload_n 2, 1) := by decide +kernel
theorem dX5_may_5 : decode (cr_by Y_X5_may) 5 = .ok (.iaload, 1) := by decide +kernel
theorem dX5_may_6 : decode (cr_by Y_X5_may) 6 = .ok (.ifCond .ne 17, 3) := by decide +kernel
theorem dX5_may_9 : decode (cr_by Y_X5_may) 9 = .ok (.aload_n 0, 1) := by decide +kernel
theorem dX5_may_10 : decode (cr_by Y_X5_may) 10 = .ok (.iload_n 1, 1) := by decide +kernel
theorem dX5_may_11 : decode (cr_by Y_X5_may) 11 = .ok (.aload_n 0, 1) := by decide +kernel
theorem dX5_may_12 : decode (cr_by Y_X5_may) 12 = .ok (.getfield 44, 3) := by decide +kernel
theorem dX5_may_15 : decode (cr_by Y_X5_may) 15 = .ok (.iload_n 2, 1) := by decide +kernel
theorem dX5_may_16 : decode (cr_by Y_X5_may) 16 = .ok (.iaload, 1) := by decide +kernel
theorem dX5_may_17 : decode (cr_by Y_X5_may) 17 = .ok (.invokevirtual 134, 3) := by decide +kernel
theorem dX5_may_20 : decode (cr_by Y_X5_may) 20 = .ok (.ifCond .ne 5, 3) := by decide +kernel
theorem dX5_may_23 : decode (cr_by Y_X5_may) 23 = .ok (.iconst 0, 1) := by decide +kernel
theorem dX5_may_24 : decode (cr_by Y_X5_may) 24 = .ok (.ireturn, 1) := by decide +kernel
theorem dX5_may_25 : decode (cr_by Y_X5_may) 25 = .ok (.aload_n 0, 1) := by decide +kernel
theorem dX5_may_26 : decode (cr_by Y_X5_may) 26 = .ok (.getfield 26, 3) := by decide +kernel
theorem dX5_may_29 : decode (cr_by Y_X5_may) 29 = .ok (.iload_n 1, 1) := by decide +kernel
theorem dX5_may_30 : decode (cr_by Y_X5_may) 30 = .ok (.iaload, 1) := by decide +kernel
theorem dX5_may_31 : decode (cr_by Y_X5_may) 31 = .ok (.iconst 1, 1) := by decide +kernel
theorem dX5_may_32 : decode (cr_by Y_X5_may) 32 = .ok (.if_icmp .eq 33, 3) := by decide +kernel
theorem dX5_may_35 : decode (cr_by Y_X5_may) 35 = .ok (.aload_n 0, 1) := by decide +kernel
theorem dX5_may_36 : decode (cr_by Y_X5_may) 36 = .ok (.getfield 26, 3) := by decide +kernel
theorem dX5_may_39 : decode (cr_by Y_X5_may) 39 = .ok (.iload_n 1, 1) := by decide +kernel
theorem dX5_may_40 : decode (cr_by Y_X5_may) 40 = .ok (.iaload, 1) := by decide +kernel
theorem dX5_may_41 : decode (cr_by Y_X5_may) 41 = .ok (.iconst 2, 1) := by decide +kernel
theorem dX5_may_42 : decode (cr_by Y_X5_may) 42 = .ok (.if_icmp .ne 21, 3) := by decide +kernel
theorem dX5_may_45 : decode (cr_by Y_X5_may) 45 = .ok (.aload_n 0, 1) := by decide +kernel
theorem dX5_may_46 : decode (cr_by Y_X5_may) 46 = .ok (.getfield 41, 3) := by decide +kernel
theorem dX5_may_49 : decode (cr_by Y_X5_may) 49 = .ok (.iload_n 2, 1) := by decide +kernel
theorem dX5_may_50 : decode (cr_by Y_X5_may) 50 = .ok (.iaload, 1) := by decide +kernel
theorem dX5_may_51 : decode (cr_by Y_X5_may) 51 = .ok (.iconst 3, 1) := by decide +kernel
theorem dX5_may_52 : decode (cr_by Y_X5_may) 52 = .ok (.if_icmp .ne 11, 3) := by decide +kernel
theorem dX5_may_55 : decode (cr_by Y_X5_may) 55 = .ok (.aload_n 0, 1) := by decide +kernel
theorem dX5_may_56 : decode (cr_by Y_X5_may) 56 = .ok (.iload_n 1, 1) := by decide +kernel
theorem dX5_may_57 : decode (cr_by Y_X5_may) 57 = .ok (.invokevirtual 152, 3) := by decide +kernel
theorem dX5_may_60 : decode (cr_by Y_X5_may) 60 = .ok (.ifCond .ne 5, 3) := by decide +kernel
theorem dX5_may_63 : decode (cr_by Y_X5_may) 63 = .ok (.iconst 0, 1) := by decide +kernel
theorem dX5_may_64 : decode (cr_by Y_X5_may) 64 = .ok (.ireturn, 1) := by decide +kernel
theorem dX5_may_65 : decode (cr_by Y_X5_may) 65 = .ok (.aload_n 0, 1) := by decide +kernel
theorem dX5_may_66 : decode (cr_by Y_X5_may) 66 = .ok (.getfield 41, 3) := by decide +kernel
theorem dX5_may_69 : decode (cr_by Y_X5_may) 69 = .ok (.iload_n 2, 1) := by decide +kernel
theorem dX5_may_70 : decode (cr_by Y_X5_may) 70 = .ok (.iaload, 1) := by decide +kernel
theorem dX5_may_71 : decode (cr_by Y_X5_may) 71 = .ok (.iconst 1, 1) := by decide +kernel
theorem dX5_may_72 : decode (cr_by Y_X5_may) 72 = .ok (.if_icmp .ne 25, 3) := by decide +kernel
theorem dX5_may_75 : decode (cr_by Y_X5_may) 75 = .ok (.aload_n 0, 1) := by decide +kernel
theorem dX5_may_76 : decode (cr_by Y_X5_may) 76 = .ok (.iload_n 2, 1) := by decide +kernel
theorem dX5_may_77 : decode (cr_by Y_X5_may) 77 = .ok (.invokevirtual 156, 3) := by decide +kernel
theorem dX5_may_80 : decode (cr_by Y_X5_may) 80 = .ok (.aload_n 0, 1) := by decide +kernel
theorem dX5_may_81 : decode (cr_by Y_X5_may) 81 = .ok (.getfield 19, 3) := by decide +kernel
theorem dX5_may_84 : decode (cr_by Y_X5_may) 84 = .ok (.if_icmp .ge 13, 3) := by decide +kernel
theorem dX5_may_87 : decode (cr_by Y_X5_may) 87 = .ok (.aload_n 0, 1) := by decide +kernel
theorem dX5_may_88 : decode (cr_by Y_X5_may) 88 = .ok (.getfield 56, 3) := by decide +kernel
theorem dX5_may_91 : decode (cr_by Y_X5_may) 91 = .ok (.iload_n 2, 1) := by decide +kernel
theorem dX5_may_92 : decode (cr_by Y_X5_may) 92 = .ok (.iaload, 1) := by decide +kernel
theorem dX5_may_93 : decode (cr_by Y_X5_may) 93 = .ok (.iload_n 1, 1) := by decide +kernel
theorem dX5_may_94 : decode (cr_by Y_X5_may) 94 = .ok (.if_icmp .ne 7, 3) := by decide +kernel
theorem dX5_may_97 : decode (cr_by Y_X5_may) 97 = .ok (.iconst 1, 1) := by decide +kernel
theorem dX5_may_98 : decode (cr_by Y_X5_may) 98 = .ok (.goto 4, 3) := by decide +kernel
theorem dX5_may_101 : decode (cr_by Y_X5_may) 101 = .ok (.iconst 0, 1) := by decide +kernel
theorem dX5_may_102 : decode (cr_by Y_X5_may) 102 = .ok (.ireturn, 1) := by decide +kernel
theorem dX5_isTakeable_0 : decode (cr_by Y_X5_isTakeable) 0 = .ok (.iconst 0, 1) := by decide +kernel
theorem dX5_isTakeable_1 : decode (cr_by Y_X5_isTakeable) 1 = .ok (.istore_n 2, 1) := by decide +kernel
theorem dX5_isTakeable_2 : decode (cr_by Y_X5_isTakeable) 2 = .ok (.iconst 0, 1) := by decide +kernel
theorem dX5_isTakeable_3 : decode (cr_by Y_X5_isTakeable) 3 = .ok (.istore_n 3, 1) := by decide +kernel
theorem dX5_isTakeable_4 : decode (cr_by Y_X5_isTakeable) 4 = .ok (.iload_n 3, 1) := by decide +kernel
theorem dX5_isTakeable_5 : decode (cr_by Y_X5_isTakeable) 5 = .ok (.aload_n 0, 1) := by decide +kernel
theorem dX5_isTakeable_6 : decode (cr_by Y_X5_isTakeable) 6 = .ok (.getfield 124, 3) := by decide +kernel
theorem dX5_isTakeable_9 : decode (cr_by Y_X5_isTakeable) 9 = .ok (.if_icmp .ge 20, 3) := by decide +kernel
theorem dX5_isTakeable_12 : decode (cr_by Y_X5_isTakeable) 12 = .ok (.iload_n 2, 1) := by decide +kernel
theorem dX5_isTakeable_13 : decode (cr_by Y_X5_isTakeable) 13 = .ok (.ifCond .ne 16, 3) := by decide +kernel
theorem dX5_isTakeable_16 : decode (cr_by Y_X5_isTakeable) 16 = .ok (.aload_n 0, 1) := by decide +kernel
theorem dX5_isTakeable_17 : decode (cr_by Y_X5_isTakeable) 17 = .ok (.iload_n 3, 1) := by decide +kernel
theorem dX5_isTakeable_18 : decode (cr_by Y_X5_isTakeable) 18 = .ok (.iload_n 1, 1) := by decide +kernel
theorem dX5_isTakeable_19 : decode (cr_by Y_X5_isTakeable) 19 = .ok (.invokevirtual 159, 3) := by decide +kernel
theorem dX5_isTakeable_22 : decode (cr_by Y_X5_isTakeable) 22 = .ok (.istore_n 2, 1) := by decide +kernel
theorem dX5_isTakeable_23 : decode (cr_by Y_X5_isTakeable) 23 = .ok (.iinc 3 1, 3) := by decide +kernel
theorem dX5_isTakeable_26 : decode (cr_by Y_X5_isTakeable) 26 = .ok (.goto (-22), 3) := by decide +kernel
theorem dX5_isTakeable_29 : decode (cr_by Y_X5_isTakeable) 29 = .ok (.iload_n 2, 1) := by decide +kernel
theorem dX5_isTakeable_30 : decode (cr_by Y_X5_isTakeable) 30 = .ok (.ireturn, 1) := by decide +kernel
theorem dX5_freeFor_0 : decode (cr_by Y_X5_freeFor) 0 = .ok (.iconst 0, 1) := by decide +kernel
theorem dX5_freeFor_1 : decode (cr_by Y_X5_freeFor) 1 = .ok (.istore_n 2, 1) := by decide +kernel
theorem dX5_freeFor_2 : decode (cr_by Y_X5_freeFor) 2 = .ok (.iconst 0, 1) := by decide +kernel
theorem dX5_freeFor_3 : decode (cr_by Y_X5_freeFor) 3 = .ok (.istore_n 3, 1) := by decide +kernel
theorem dX5_freeFor_4 : decode (cr_by Y_X5_freeFor) 4 = .ok (.iload_n 3, 1) := by decide +kernel
theorem dX5_freeFor_5 : decode (cr_by Y_X5_freeFor) 5 = .ok (.aload_n 0, 1) := by decide +kernel
theorem dX5_freeFor_6 : decode (cr_by Y_X5_freeFor) 6 = .ok (.getfield 124, 3) := by decide +kernel
theorem dX5_freeFor_9 : decode (cr_by Y_X5_freeFor) 9 = .ok (.if_icmp .ge 36, 3) := by decide +kernel
theorem dX5_freeFor_12 : decode (cr_by Y_X5_freeFor) 12 = .ok (.iload_n 2, 1) := by decide +kernel
theorem dX5_freeFor_13 : decode (cr_by Y_X5_freeFor) 13 = .ok (.aload_n 0, 1) := by decide +kernel
theorem dX5_freeFor_14 : decode (cr_by Y_X5_freeFor) 14 = .ok (.getfield 26, 3) := by decide +kernel
theorem dX5_freeFor_17 : decode (cr_by Y_X5_freeFor) 17 = .ok (.iload_n 3, 1) := by decide +kernel
theorem dX5_freeFor_18 : decode (cr_by Y_X5_freeFor) 18 = .ok (.iaload, 1) := by decide +kernel
theorem dX5_freeFor_19 : decode (cr_by Y_X5_freeFor) 19 = .ok (.iconst 1, 1) := by decide +kernel
theorem dX5_freeFor_20 : decode (cr_by Y_X5_freeFor) 20 = .ok (.if_icmp .ne 16, 3) := by decide +kernel
theorem dX5_freeFor_23 : decode (cr_by Y_X5_freeFor) 23 = .ok (.aload_n 0, 1) := by decide +kernel
theorem dX5_freeFor_24 : decode (cr_by Y_X5_freeFor) 24 = .ok (.iload_n 3, 1) := by decide +kernel
theorem dX5_freeFor_25 : decode (cr_by Y_X5_freeFor) 25 = .ok (.iload_n 1, 1) := by decide +kernel
theorem dX5_freeFor_26 : decode (cr_by Y_X5_freeFor) 26 = .ok (.invokevirtual 134, 3) := by decide +kernel
theorem dX5_freeFor_29 : decode (cr_by Y_X5_freeFor) 29 = .ok (.ifCond .le 7, 3) := by decide +kernel
theorem dX5_freeFor_32 : decode (cr_by Y_X5_freeFor) 32 = .ok (.iconst 1, 1) := by decide +kernel
theorem dX5_freeFor_33 : decode (cr_by Y_X5_freeFor) 33 = .ok (.goto 4, 3) := by decide +kernel
theorem dX5_freeFor_36 : decode (cr_by Y_X5_freeFor) 36 = .ok (.iconst 0, 1) := by decide +kernel
theorem dX5_freeFor_37 : decode (cr_by Y_X5_freeFor) 37 = .ok (.iadd, 1) := by decide +kernel
theorem dX5_freeFor_38 : decode (cr_by Y_X5_freeFor) 38 = .ok (.istore_n 2, 1) := by decide +kernel
theorem dX5_freeFor_39 : decode (cr_by Y_X5_freeFor) 39 = .ok (.iinc 3 1, 3) := by decide +kernel
theorem dX5_freeFor_42 : decode (cr_by Y_X5_freeFor) 42 = .ok (.goto (-38), 3) := by decide +kernel
theorem dX5_freeFor_45 : decode (cr_by Y_X5_freeFor) 45 = .ok (.iload_n 2, 1) := by decide +kernel
theorem dX5_freeFor_46 : decode (cr_by Y_X5_freeFor) 46 = .ok (.ireturn, 1) := by decide +kernel
theorem dX5_rankOf_0 : decode (cr_by Y_X5_rankOf) 0 = .ok (.aload_n 0, 1) := by decide +kernel
theorem dX5_rankOf_1 : decode (cr_by Y_X5_rankOf) 1 = .ok (.getfield 145, 3) := by decide +kernel
theorem dX5_rankOf_4 : decode (cr_by Y_X5_rankOf) 4 = .ok (.tableswitch 68 1 3 #[28, 44, 55], 28) := by decide +kernel
theorem dX5_rankOf_32 : decode (cr_by Y_X5_rankOf) 32 = .ok (.aload_n 0, 1) := by decide +kernel
theorem dX5_rankOf_33 : decode (cr_by Y_X5_rankOf) 33 = .ok (.getfield 41, 3) := by decide +kernel
theorem dX5_rankOf_36 : decode (cr_by Y_X5_rankOf) 36 = .ok (.iload_n 1, 1) := by decide +kernel
theorem dX5_rankOf_37 : decode (cr_by Y_X5_rankOf) 37 = .ok (.iaload, 1) := by decide +kernel
theorem dX5_rankOf_38 : decode (cr_by Y_X5_rankOf) 38 = .ok (.iconst 2, 1) := by decide +kernel
theorem dX5_rankOf_39 : decode (cr_by Y_X5_rankOf) 39 = .ok (.if_icmp .ne 7, 3) := by decide +kernel
theorem dX5_rankOf_42 : decode (cr_by Y_X5_rankOf) 42 = .ok (.iconst 0, 1) := by decide +kernel
theorem dX5_rankOf_43 : decode (cr_by Y_X5_rankOf) 43 = .ok (.goto 4, 3) := by decide +kernel
theorem dX5_rankOf_46 : decode (cr_by Y_X5_rankOf) 46 = .ok (.iconst 1, 1) := by decide +kernel
theorem dX5_rankOf_47 : decode (cr_by Y_X5_rankOf) 47 = .ok (.ireturn, 1) := by decide +kernel
theorem dX5_rankOf_48 : decode (cr_by Y_X5_rankOf) 48 = .ok (.aload_n 0, 1) := by decide +kernel
theorem dX5_rankOf_49 : decode (cr_by Y_X5_rankOf) 49 = .ok (.aload_n 0, 1) := by decide +kernel
theorem dX5_rankOf_50 : decode (cr_by Y_X5_rankOf) 50 = .ok (.getfield 44, 3) := by decide +kernel
theorem dX5_rankOf_53 : decode (cr_by Y_X5_rankOf) 53 = .ok (.iload_n 1, 1) := by decide +kernel
theorem dX5_rankOf_54 : decode (cr_by Y_X5_rankOf) 54 = .ok (.iaload, 1) := by decide +kernel
theorem dX5_rankOf_55 : decode (cr_by Y_X5_rankOf) 55 = .ok (.invokevirtual 162, 3) := by decide +kernel
theorem dX5_rankOf_58 : decode (cr_by Y_X5_rankOf) 58 = .ok (.ireturn, 1) := by decide +kernel
theorem dX5_rankOf_59 : decode (cr_by Y_X5_rankOf) 59 = .ok (.aload_n 0, 1) := by decide +kernel
theorem dX5_rankOf_60 : decode (cr_by Y_X5_rankOf) 60 = .ok (.getfield 50, 3) := by decide +kernel
theorem dX5_rankOf_63 : decode (cr_by Y_X5_rankOf) 63 = .ok (.iload_n 1, 1) := by decide +kernel
theorem dX5_rankOf_64 : decode (cr_by Y_X5_rankOf) 64 = .ok (.iaload, 1) := by decide +kernel
theorem dX5_rankOf_65 : decode (cr_by Y_X5_rankOf) 65 = .ok (.aload_n 0, 1) := by decide +kernel
theorem dX5_rankOf_66 : decode (cr_by Y_X5_rankOf) 66 = .ok (.iload_n 1, 1) := by decide +kernel
theorem dX5_rankOf_67 : decode (cr_by Y_X5_rankOf) 67 = .ok (.invokevirtual 156, 3) := by decide +kernel
theorem dX5_rankOf_70 : decode (cr_by Y_X5_rankOf) 70 = .ok (.isub, 1) := by decide +kernel
theorem dX5_rankOf_71 : decode (cr_by Y_X5_rankOf) 71 = .ok (.ireturn, 1) := by decide +kernel
theorem dX5_rankOf_72 : decode (cr_by Y_X5_rankOf) 72 = .ok (.iconst 0, 1) := by decide +kernel
theorem dX5_rankOf_73 : decode (cr_by Y_X5_rankOf) 73 = .ok (.ireturn, 1) := by decide +kernel
theorem dX5_nextCall_0 : decode (cr_by Y_X5_nextCall) 0 = .ok (.iconst (-1), 1) := by decide +kernel
theorem dX5_nextCall_1 : decode (cr_by Y_X5_nextCall) 1 = .ok (.istore_n 1, 1) := by decide +kernel
theorem dX5_nextCall_2 : decode (cr_by Y_X5_nextCall) 2 = .ok (.iconst 0, 1) := by decide +kernel
theorem dX5_nextCall_3 : decode (cr_by Y_X5_nextCall) 3 = .ok (.istore_n 2, 1) := by decide +kernel
theorem dX5_nextCall_4 : decode (cr_by Y_X5_nextCall) 4 = .ok (.iload_n 2, 1) := by decide +kernel
theorem dX5_nextCall_5 : decode (cr_by Y_X5_nextCall) 5 = .ok (.aload_n 0, 1) := by decide +kernel
theorem dX5_nextCall_6 : decode (cr_by Y_X5_nextCall) 6 = .ok (.getfield 142, 3) := by decide +kernel
theorem dX5_nextCall_9 : decode (cr_by Y_X5_nextCall) 9 = .ok (.if_icmp .ge 45, 3) := by decide +kernel
theorem dX5_nextCall_12 : decode (cr_by Y_X5_nextCall) 12 = .ok (.aload_n 0, 1) := by decide +kernel
theorem dX5_nextCall_13 : decode (cr_by Y_X5_nextCall) 13 = .ok (.getfield 59, 3) := by decide +kernel
theorem dX5_nextCall_16 : decode (cr_by Y_X5_nextCall) 16 = .ok (.iload_n 2, 1) := by decide +kernel
theorem dX5_nextCall_17 : decode (cr_by Y_X5_nextCall) 17 = .ok (.iaload, 1) := by decide +kernel
theorem dX5_nextCall_18 : decode (cr_by Y_X5_nextCall) 18 = .ok (.ifCond .ne 30, 3) := by decide +kernel
theorem dX5_nextCall_21 : decode (cr_by Y_X5_nextCall) 21 = .ok (.aload_n 0, 1) := by decide +kernel
theorem dX5_nextCall_22 : decode (cr_by Y_X5_nextCall) 22 = .ok (.iload_n 2, 1) := by decide +kernel
theorem dX5_nextCall_23 : decode (cr_by Y_X5_nextCall) 23 = .ok (.invokevirtual 165, 3) := by decide +kernel
theorem dX5_nextCall_26 : decode (cr_by Y_X5_nextCall) 26 = .ok (.ifCond .eq 22, 3) := by decide +kernel
theorem dX5_nextCall_29 : decode (cr_by Y_X5_nextCall) 29 = .ok (.iload_n 1, 1) := by decide +kernel
theorem dX5_nextCall_30 : decode (cr_by Y_X5_nextCall) 30 = .ok (.ifCond .lt 16, 3) := by decide +kernel
theorem dX5_nextCall_33 : decode (cr_by Y_X5_nextCall) 33 = .ok (.aload_n 0, 1) := by decide +kernel
theorem dX5_nextCall_34 : decode (cr_by Y_X5_nextCall) 34 = .ok (.iload_n 2, 1) := by decide +kernel
theorem dX5_nextCall_35 : decode (cr_by Y_X5_nextCall) 35 = .ok (.invokevirtual 168, 3) := by decide +kernel
theorem dX5_nextCall_38 : decode (cr_by Y_X5_nextCall) 38 = .ok (.aload_n 0, 1) := by decide +kernel
theorem dX5_nextCall_39 : decode (cr_by Y_X5_nextCall) 39 = .ok (.iload_n 1, 1) := by decide +kernel
theorem dX5_nextCall_40 : decode (cr_by Y_X5_nextCall) 40 = .ok (.invokevirtual 168, 3) := by decide +kernel
theorem dX5_nextCall_43 : decode (cr_by Y_X5_nextCall) 43 = .ok (.if_icmp .ge 5, 3) := by decide +kernel
theorem dX5_nextCall_46 : decode (cr_by Y_X5_nextCall) 46 = .ok (.iload_n 2, 1) := by decide +kernel
theorem dX5_nextCall_47 : decode (cr_by Y_X5_nextCall) 47 = .ok (.istore_n 1, 1) := by decide +kernel
theorem dX5_nextCall_48 : decode (cr_by Y_X5_nextCall) 48 = .ok (.iinc 2 1, 3) := by decide +kernel
theorem dX5_nextCall_51 : decode (cr_by Y_X5_nextCall) 51 = .ok (.goto (-47), 3) := by decide +kernel
theorem dX5_nextCall_54 : decode (cr_by Y_X5_nextCall) 54 = .ok (.iload_n 1, 1) := by decide +kernel
theorem dX5_nextCall_55 : decode (cr_by Y_X5_nextCall) 55 = .ok (.ireturn, 1) := by decide +kernel
theorem dX5_sortsOf_0 : decode (cr_by Y_X5_sortsOf) 0 = .ok (.iconst 0, 1) := by decide +kernel
theorem dX5_sortsOf_1 : decode (cr_by Y_X5_sortsOf) 1 = .ok (.istore_n 2, 1) := by decide +kernel
theorem dX5_sortsOf_2 : decode (cr_by Y_X5_sortsOf) 2 = .ok (.iconst 0, 1) := by decide +kernel
theorem dX5_sortsOf_3 : decode (cr_by Y_X5_sortsOf) 3 = .ok (.istore_n 3, 1) := by decide +kernel
theorem dX5_sortsOf_4 : decode (cr_by Y_X5_sortsOf) 4 = .ok (.iload_n 3, 1) := by decide +kernel
theorem dX5_sortsOf_5 : decode (cr_by Y_X5_sortsOf) 5 = .ok (.iconst 4, 1) := by decide +kernel
theorem dX5_sortsOf_6 : decode (cr_by Y_X5_sortsOf) 6 = .ok (.if_icmp .ge 26, 3) := by decide +kernel
theorem dX5_sortsOf_9 : decode (cr_by Y_X5_sortsOf) 9 = .ok (.iload_n 2, 1) := by decide +kernel
theorem dX5_sortsOf_10 : decode (cr_by Y_X5_sortsOf) 10 = .ok (.aload_n 0, 1) := by decide +kernel
theorem dX5_sortsOf_11 : decode (cr_by Y_X5_sortsOf) 11 = .ok (.iload_n 1, 1) := by decide +kernel
theorem dX5_sortsOf_12 : decode (cr_by Y_X5_sortsOf) 12 = .ok (.iload_n 3, 1) := by decide +kernel
theorem dX5_sortsOf_13 : decode (cr_by Y_X5_sortsOf) 13 = .ok (.invokevirtual 134, 3) := by decide +kernel
theorem dX5_sortsOf_16 : decode (cr_by Y_X5_sortsOf) 16 = .ok (.ifCond .le 7, 3) := by decide +kernel
theorem dX5_sortsOf_19 : decode (cr_by Y_X5_sortsOf) 19 = .ok (.iconst 1, 1) := by decide +kernel
theorem dX5_sortsOf_20 : decode (cr_by Y_X5_sortsOf) 20 = .ok (.goto 4, 3) := by decide +kernel
theorem dX5_sortsOf_23 : decode (cr_by Y_X5_sortsOf) 23 = .ok (.iconst 0, 1) := by decide +kernel
theorem dX5_sortsOf_24 : decode (cr_by Y_X5_sortsOf) 24 = .ok (.iadd, 1) := by decide +kernel
theorem dX5_sortsOf_25 : decode (cr_by Y_X5_sortsOf) 25 = .ok (.istore_n 2, 1) := by decide +kernel
theorem dX5_sortsOf_26 : decode (cr_by Y_X5_sortsOf) 26 = .ok (.iinc 3 1, 3) := by decide +kernel
theorem dX5_sortsOf_29 : decode (cr_by Y_X5_sortsOf) 29 = .ok (.goto (-25), 3) := by decide +kernel
theorem dX5_sortsOf_32 : decode (cr_by Y_X5_sortsOf) 32 = .ok (.iload_n 2, 1) := by decide +kernel
theorem dX5_sortsOf_33 : decode (cr_by Y_X5_sortsOf) 33 = .ok (.ireturn, 1) := by decide +kernel
theorem dX5_isAhead_0 : decode (cr_by Y_X5_isAhead) 0 = .ok (.aload_n 0, 1) := by decide +kernel
theorem dX5_isAhead_1 : decode (cr_by Y_X5_isAhead) 1 = .ok (.iload_n 1, 1) := by decide +kernel
theorem dX5_isAhead_2 : decode (cr_by Y_X5_isAhead) 2 = .ok (.iload_n 3, 1) := by decide +kernel
theorem dX5_isAhead_3 : decode (cr_by Y_X5_isAhead) 3 = .ok (.invokevirtual 134, 3) := by decide +kernel
theorem dX5_isAhead_6 : decode (cr_by Y_X5_isAhead) 6 = .ok (.aload_n 0, 1) := by decide +kernel
theorem dX5_isAhead_7 : decode (cr_by Y_X5_isAhead) 7 = .ok (.iload_n 2, 1) := by decide +kernel
theorem dX5_isAhead_8 : decode (cr_by Y_X5_isAhead) 8 = .ok (.iload_n 3, 1) := by decide +kernel
theorem dX5_isAhead_9 : decode (cr_by Y_X5_isAhead) 9 = .ok (.invokevirtual 134, 3) := by decide +kernel
theorem dX5_isAhead_12 : decode (cr_by Y_X5_isAhead) 12 = .ok (.if_icmp .eq 24, 3) := by decide +kernel
theorem dX5_isAhead_15 : decode (cr_by Y_X5_isAhead) 15 = .ok (.aload_n 0, 1) := by decide +kernel
theorem dX5_isAhead_16 : decode (cr_by Y_X5_isAhead) 16 = .ok (.iload_n 1, 1) := by decide +kernel
theorem dX5_isAhead_17 : decode (cr_by Y_X5_isAhead) 17 = .ok (.iload_n 3, 1) := by decide +kernel
theorem dX5_isAhead_18 : decode (cr_by Y_X5_isAhead) 18 = .ok (.invokevirtual 134, 3) := by decide +kernel
theorem dX5_isAhead_21 : decode (cr_by Y_X5_isAhead) 21 = .ok (.aload_n 0, 1) := by decide +kernel
theorem dX5_isAhead_22 : decode (cr_by Y_X5_isAhead) 22 = .ok (.iload_n 2, 1) := by decide +kernel
theorem dX5_isAhead_23 : decode (cr_by Y_X5_isAhead) 23 = .ok (.iload_n 3, 1) := by decide +kernel
theorem dX5_isAhead_24 : decode (cr_by Y_X5_isAhead) 24 = .ok (.invokevirtual 134, 3) := by decide +kernel
theorem dX5_isAhead_27 : decode (cr_by Y_X5_isAhead) 27 = .ok (.if_icmp .le 7, 3) := by decide +kernel
theorem dX5_isAhead_30 : decode (cr_by Y_X5_isAhead) 30 = .ok (.iconst 1, 1) := by decide +kernel
theorem dX5_isAhead_31 : decode (cr_by Y_X5_isAhead) 31 = .ok (.goto 4, 3) := by decide +kernel
theorem dX5_isAhead_34 : decode (cr_by Y_X5_isAhead) 34 = .ok (.iconst 0, 1) := by decide +kernel
theorem dX5_isAhead_35 : decode (cr_by Y_X5_isAhead) 35 = .ok (.ireturn, 1) := by decide +kernel
theorem dX5_isAhead_36 : decode (cr_by Y_X5_isAhead) 36 = .ok (.aload_n 0, 1) := by decide +kernel
theorem dX5_isAhead_37 : decode (cr_by Y_X5_isAhead) 37 = .ok (.iload_n 1, 1) := by decide +kernel
theorem dX5_isAhead_38 : decode (cr_by Y_X5_isAhead) 38 = .ok (.invokevirtual 171, 3) := by decide +kernel
theorem dX5_isAhead_41 : decode (cr_by Y_X5_isAhead) 41 = .ok (.aload_n 0, 1) := by decide +kernel
theorem dX5_isAhead_42 : decode (cr_by Y_X5_isAhead) 42 = .ok (.iload_n 2, 1) := by decide +kernel
theorem dX5_isAhead_43 : decode (cr_by Y_X5_isAhead) 43 = .ok (.invokevirtual 171, 3) := by decide +kernel
theorem dX5_isAhead_46 : decode (cr_by Y_X5_isAhead) 46 = .ok (.if_icmp .eq 22, 3) := by decide +kernel
theorem dX5_isAhead_49 : decode (cr_by Y_X5_isAhead) 49 = .ok (.aload_n 0, 1) := by decide +kernel
theorem dX5_isAhead_50 : decode (cr_by Y_X5_isAhead) 50 = .ok (.iload_n 1, 1) := by decide +kernel
theorem dX5_isAhead_51 : decode (cr_by Y_X5_isAhead) 51 = .ok (.invokevirtual 171, 3) := by decide +kernel
theorem dX5_isAhead_54 : decode (cr_by Y_X5_isAhead) 54 = .ok (.aload_n 0, 1) := by decide +kernel
theorem dX5_isAhead_55 : decode (cr_by Y_X5_isAhead) 55 = .ok (.iload_n 2, 1) := by decide +kernel
theorem dX5_isAhead_56 : decode (cr_by Y_X5_isAhead) 56 = .ok (.invokevirtual 171, 3) := by decide +kernel
theorem dX5_isAhead_59 : decode (cr_by Y_X5_isAhead) 59 = .ok (.if_icmp .ge 7, 3) := by decide +kernel
theorem dX5_isAhead_62 : decode (cr_by Y_X5_isAhead) 62 = .ok (.iconst 1, 1) := by decide +kernel
theorem dX5_isAhead_63 : decode (cr_by Y_X5_isAhead) 63 = .ok (.goto 4, 3) := by decide +kernel
theorem dX5_isAhead_66 : decode (cr_by Y_X5_isAhead) 66 = .ok (.iconst 0, 1) := by decide +kernel
theorem dX5_isAhead_67 : decode (cr_by Y_X5_isAhead) 67 = .ok (.ireturn, 1) := by decide +kernel
theorem dX5_isAhead_68 : decode (cr_by Y_X5_isAhead) 68 = .ok (.aload_n 0, 1) := by decide +kernel
theorem dX5_isAhead_69 : decode (cr_by Y_X5_isAhead) 69 = .ok (.getfield 26, 3) := by decide +kernel
theorem dX5_isAhead_72 : decode (cr_by Y_X5_isAhead) 72 = .ok (.iload_n 1, 1) := by decide +kernel
theorem dX5_isAhead_73 : decode (cr_by Y_X5_isAhead) 73 = .ok (.iaload, 1) := by decide +kernel
theorem dX5_isAhead_74 : decode (cr_by Y_X5_isAhead) 74 = .ok (.aload_n 0, 1) := by decide +kernel
theorem dX5_isAhead_75 : decode (cr_by Y_X5_isAhead) 75 = .ok (.getfield 26, 3) := by decide +kernel
theorem dX5_isAhead_78 : decode (cr_by Y_X5_isAhead) 78 = .ok (.iload_n 2, 1) := by decide +kernel
theorem dX5_isAhead_79 : decode (cr_by Y_X5_isAhead) 79 = .ok (.iaload, 1) := by decide +kernel
theorem dX5_isAhead_80 : decode (cr_by Y_X5_isAhead) 80 = .ok (.if_icmp .eq 19, 3) := by decide +kernel
theorem dX5_isAhead_83 : decode (cr_by Y_X5_isAhead) 83 = .ok (.aload_n 0, 1) := by decide +kernel
theorem dX5_isAhead_84 : decode (cr_by Y_X5_isAhead) 84 = .ok (.getfield 26, 3) := by decide +kernel
theorem dX5_isAhead_87 : decode (cr_by Y_X5_isAhead) 87 = .ok (.iload_n 1, 1) := by decide +kernel
theorem dX5_isAhead_88 : decode (cr_by Y_X5_isAhead) 88 = .ok (.iaload, 1) := by decide +kernel
theorem dX5_isAhead_89 : decode (cr_by Y_X5_isAhead) 89 = .ok (.iconst 1, 1) := by decide +kernel
theorem dX5_isAhead_90 : decode (cr_by Y_X5_isAhead) 90 = .ok (.if_icmp .ne 7, 3) := by decide +kernel
theorem dX5_isAhead_93 : decode (cr_by Y_X5_isAhead) 93 = .ok (.iconst 1, 1) := by decide +kernel
theorem dX5_isAhead_94 : decode (cr_by Y_X5_isAhead) 94 = .ok (.goto 4, 3) := by decide +kernel
theorem dX5_isAhead_97 : decode (cr_by Y_X5_isAhead) 97 = .ok (.iconst 0, 1) := by decide +kernel
theorem dX5_isAhead_98 : decode (cr_by Y_X5_isAhead) 98 = .ok (.ireturn, 1) := by decide +kernel
theorem dX5_isAhead_99 : decode (cr_by Y_X5_isAhead) 99 = .ok (.aload_n 0, 1) := by decide +kernel
theorem dX5_isAhead_100 : decode (cr_by Y_X5_isAhead) 100 = .ok (.getfield 29, 3) := by decide +kernel
theorem dX5_isAhead_103 : decode (cr_by Y_X5_isAhead) 103 = .ok (.iload_n 1, 1) := by decide +kernel
theorem dX5_isAhead_104 : decode (cr_by Y_X5_isAhead) 104 = .ok (.iaload, 1) := by decide +kernel
theorem dX5_isAhead_105 : decode (cr_by Y_X5_isAhead) 105 = .ok (.aload_n 0, 1) := by decide +kernel
theorem dX5_isAhead_106 : decode (cr_by Y_X5_isAhead) 106 = .ok (.getfield 29, 3) := by decide +kernel
theorem dX5_isAhead_109 : decode (cr_by Y_X5_isAhead) 109 = .ok (.iload_n 2, 1) := by decide +kernel
theorem dX5_isAhead_110 : decode (cr_by Y_X5_isAhead) 110 = .ok (.iaload, 1) := by decide +kernel
theorem dX5_isAhead_111 : decode (cr_by Y_X5_isAhead) 111 = .ok (.if_icmp .ge 7, 3) := by decide +kernel
theorem dX5_isAhead_114 : decode (cr_by Y_X5_isAhead) 114 = .ok (.iconst 1, 1) := by decide +kernel
theorem dX5_isAhead_115 : decode (cr_by Y_X5_isAhead) 115 = .ok (.goto 4, 3) := by decide +kernel
theorem dX5_isAhead_118 : decode (cr_by Y_X5_isAhead) 118 = .ok (.iconst 0, 1) := by decide +kernel
theorem dX5_isAhead_119 : decode (cr_by Y_X5_isAhead) 119 = .ok (.ireturn, 1) := by decide +kernel
theorem dX5_helperFor_0 : decode (cr_by Y_X5_helperFor) 0 = .ok (.aload_n 0, 1) := by decide +kernel
theorem dX5_helperFor_1 : decode (cr_by Y_X5_helperFor) 1 = .ok (.getfield 56, 3) := by decide +kernel
theorem dX5_helperFor_4 : decode (cr_by Y_X5_helperFor) 4 = .ok (.iload_n 1, 1) := by decide +kernel
theorem dX5_helperFor_5 : decode (cr_by Y_X5_helperFor) 5 = .ok (.iaload, 1) := by decide +kernel
theorem dX5_helperFor_6 : decode (cr_by Y_X5_helperFor) 6 = .ok (.ifCond .lt 24, 3) := by decide +kernel
theorem dX5_helperFor_9 : decode (cr_by Y_X5_helperFor) 9 = .ok (.aload_n 0, 1) := by decide +kernel
theorem dX5_helperFor_10 : decode (cr_by Y_X5_helperFor) 10 = .ok (.aload_n 0, 1) := by decide +kernel
theorem dX5_helperFor_11 : decode (cr_by Y_X5_helperFor) 11 = .ok (.getfield 56, 3) := by decide +kernel
theorem dX5_helperFor_14 : decode (cr_by Y_X5_helperFor) 14 = .ok (.iload_n 1, 1) := by decide +kernel
theorem dX5_helperFor_15 : decode (cr_by Y_X5_helperFor) 15 = .ok (.iaload, 1) := by decide +kernel
theorem dX5_helperFor_16 : decode (cr_by Y_X5_helperFor) 16 = .ok (.iload_n 1, 1) := by decide +kernel
theorem dX5_helperFor_17 : decode (cr_by Y_X5_helperFor) 17 = .ok (.invokevirtual 159, 3) := by decide +kernel
theorem dX5_helperFor_20 : decode (cr_by Y_X5_helperFor) 20 = .ok (.ifCond .eq 10, 3) := by decide +kernel
theorem dX5_helperFor_23 : decode (cr_by Y_X5_helperFor) 23 = .ok (.aload_n 0, 1) := by decide +kernel
theorem dX5_helperFor_24 : decode (cr_by Y_X5_helperFor) 24 = .ok (.getfield 56, 3) := by decide +kernel
theorem dX5_helperFor_27 : decode (cr_by Y_X5_helperFor) 27 = .ok (.iload_n 1, 1) := by decide +kernel
theorem dX5_helperFor_28 : decode (cr_by Y_X5_helperFor) 28 = .ok (.iaload, 1) := by decide +kernel
theorem dX5_helperFor_29 : decode (cr_by Y_X5_helperFor) 29 = .ok (.ireturn, 1) := by decide +kernel
theorem dX5_helperFor_30 : decode (cr_by Y_X5_helperFor) 30 = .ok (.iconst (-1), 1) := by decide +kernel
theorem dX5_helperFor_31 : decode (cr_by Y_X5_helperFor) 31 = .ok (.istore_n 2, 1) := by decide +kernel
theorem dX5_helperFor_32 : decode (cr_by Y_X5_helperFor) 32 = .ok (.iconst 0, 1) := by decide +kernel
theorem dX5_helperFor_33 : decode (cr_by Y_X5_helperFor) 33 = .ok (.istore_n 3, 1) := by decide +kernel
theorem dX5_helperFor_34 : decode (cr_by Y_X5_helperFor) 34 = .ok (.iload_n 3, 1) := by decide +kernel
theorem dX5_helperFor_35 : decode (cr_by Y_X5_helperFor) 35 = .ok (.aload_n 0, 1) := by decide +kernel
theorem dX5_helperFor_36 : decode (cr_by Y_X5_helperFor) 36 = .ok (.getfield 124, 3) := by decide +kernel
theorem dX5_helperFor_39 : decode (cr_by Y_X5_helperFor) 39 = .ok (.if_icmp .ge 39, 3) := by decide +kernel
theorem dX5_helperFor_42 : decode (cr_by Y_X5_helperFor) 42 = .ok (.aload_n 0, 1) := by decide +kernel
theorem dX5_helperFor_43 : decode (cr_by Y_X5_helperFor) 43 = .ok (.iload_n 3, 1) := by decide +kernel
theorem dX5_helperFor_44 : decode (cr_by Y_X5_helperFor) 44 = .ok (.iload_n 1, 1) := by decide +kernel
theorem dX5_helperFor_45 : decode (cr_by Y_X5_helperFor) 45 = .ok (.invokevirtual 159, 3) := by decide +kernel
theorem dX5_helperFor_48 : decode (cr_by Y_X5_helperFor) 48 = .ok (.ifCond .eq 24, 3) := by decide +kernel
theorem dX5_helperFor_51 : decode (cr_by Y_X5_helperFor) 51 = .ok (.iload_n 2, 1) := by decide +kernel
theorem dX5_helperFor_52 : decode (cr_by Y_X5_helperFor) 52 = .ok (.ifCond .lt 18, 3) := by decide +kernel
theorem dX5_helperFor_55 : decode (cr_by Y_X5_helperFor) 55 = .ok (.aload_n 0, 1) := by decide +kernel
theorem dX5_helperFor_56 : decode (cr_by Y_X5_helperFor) 56 = .ok (.iload_n 3, 1) := by decide +kernel
theorem dX5_helperFor_57 : decode (cr_by Y_X5_helperFor) 57 = .ok (.iload_n 2, 1) := by decide +kernel
theorem dX5_helperFor_58 : decode (cr_by Y_X5_helperFor) 58 = .ok (.aload_n 0, 1) := by decide +kernel
theorem dX5_helperFor_59 : decode (cr_by Y_X5_helperFor) 59 = .ok (.getfield 44, 3) := by decide +kernel
theorem dX5_helperFor_62 : decode (cr_by Y_X5_helperFor) 62 = .ok (.iload_n 1, 1) := by decide +kernel
theorem dX5_helperFor_63 : decode (cr_by Y_X5_helperFor) 63 = .ok (.iaload, 1) := by decide +kernel
theorem dX5_helperFor_64 : decode (cr_by Y_X5_helperFor) 64 = .ok (.invokevirtual 174, 3) := by decide +kernel
theorem dX5_helperFor_67 : decode (cr_by Y_X5_helperFor) 67 = .ok (.ifCond .eq 5, 3) := by decide +kernel
theorem dX5_helperFor_70 : decode (cr_by Y_X5_helperFor) 70 = .ok (.iload_n 3, 1) := by decide +kernel
theorem dX5_helperFor_71 : decode (cr_by Y_X5_helperFor) 71 = .ok (.istore_n 2, 1) := by decide +kernel
theorem dX5_helperFor_72 : decode (cr_by Y_X5_helperFor) 72 = .ok (.iinc 3 1, 3) := by decide +kernel
theorem dX5_helperFor_75 : decode (cr_by Y_X5_helperFor) 75 = .ok (.goto (-41), 3) := by decide +kernel
theorem dX5_helperFor_78 : decode (cr_by Y_X5_helperFor) 78 = .ok (.iload_n 2, 1) := by decide +kernel
theorem dX5_helperFor_79 : decode (cr_by Y_X5_helperFor) 79 = .ok (.ireturn, 1) := by decide +kernel
theorem dX5_give_0 : decode (cr_by Y_X5_give) 0 = .ok (.aload_n 0, 1) := by decide +kernel
theorem dX5_give_1 : decode (cr_by Y_X5_give) 1 = .ok (.invokevirtual 178, 3) := by decide +kernel
theorem dX5_give_4 : decode (cr_by Y_X5_give) 4 = .ok (.istore_n 1, 1) := by decide +kernel
theorem dX5_give_5 : decode (cr_by Y_X5_give) 5 = .ok (.iload_n 1, 1) := by decide +kernel
theorem dX5_give_6 : decode (cr_by Y_X5_give) 6 = .ok (.ifCond .lt 137, 3) := by decide +kernel
theorem dX5_give_9 : decode (cr_by Y_X5_give) 9 = .ok (.aload_n 0, 1) := by decide +kernel
theorem dX5_give_10 : decode (cr_by Y_X5_give) 10 = .ok (.iload_n 1, 1) := by decide +kernel
theorem dX5_give_11 : decode (cr_by Y_X5_give) 11 = .ok (.invokevirtual 182, 3) := by decide +kernel
theorem dX5_give_14 : decode (cr_by Y_X5_give) 14 = .ok (.istore_n 2, 1) := by decide +kernel
theorem dX5_give_15 : decode (cr_by Y_X5_give) 15 = .ok (.aload_n 0, 1) := by decide +kernel
theorem dX5_give_16 : decode (cr_by Y_X5_give) 16 = .ok (.getfield 71, 3) := by decide +kernel
theorem dX5_give_19 : decode (cr_by Y_X5_give) 19 = .ok (.iload_n 1, 1) := by decide +kernel
theorem dX5_give_20 : decode (cr_by Y_X5_give) 20 = .ok (.aload_n 0, 1) := by decide +kernel
theorem dX5_give_21 : decode (cr_by Y_X5_give) 21 = .ok (.iload_n 1, 1) := by decide +kernel
theorem dX5_give_22 : decode (cr_by Y_X5_give) 22 = .ok (.invokevirtual 156, 3) := by decide +kernel
theorem dX5_give_25 : decode (cr_by Y_X5_give) 25 = .ok (.iastore, 1) := by decide +kernel
theorem dX5_give_26 : decode (cr_by Y_X5_give) 26 = .ok (.aload_n 0, 1) := by decide +kernel
theorem dX5_give_27 : decode (cr_by Y_X5_give) 27 = .ok (.getfield 74, 3) := by decide +kernel
theorem dX5_give_30 : decode (cr_by Y_X5_give) 30 = .ok (.iload_n 1, 1) := by decide +kernel
theorem dX5_give_31 : decode (cr_by Y_X5_give) 31 = .ok (.iaload, 1) := by decide +kernel
theorem dX5_give_32 : decode (cr_by Y_X5_give) 32 = .ok (.bipush (-9), 2) := by decide +kernel
theorem dX5_give_34 : decode (cr_by Y_X5_give) 34 = .ok (.if_icmp .ne 15, 3) := by decide +kernel
theorem dX5_give_37 : decode (cr_by Y_X5_give) 37 = .ok (.aload_n 0, 1) := by decide +kernel
theorem dX5_give_38 : decode (cr_by Y_X5_give) 38 = .ok (.getfield 74, 3) := by decide +kernel
theorem dX5_give_41 : decode (cr_by Y_X5_give) 41 = .ok (.iload_n 1, 1) := by decide +kernel
theorem dX5_give_42 : decode (cr_by Y_X5_give) 42 = .ok (.aload_n 0, 1) := by decide +kernel
theorem dX5_give_43 : decode (cr_by Y_X5_give) 43 = .ok (.getfield 71, 3) := by decide +kernel
theorem dX5_give_46 : decode (cr_by Y_X5_give) 46 = .ok (.iload_n 1, 1) := by decide +kernel
theorem dX5_give_47 : decode (cr_by Y_X5_give) 47 = .ok (.iaload, 1) := by decide +kernel
theorem dX5_give_48 : decode (cr_by Y_X5_give) 48 = .ok (.iastore, 1) := by decide +kernel
theorem dX5_give_49 : decode (cr_by Y_X5_give) 49 = .ok (.aload_n 0, 1) := by decide +kernel
theorem dX5_give_50 : decode (cr_by Y_X5_give) 50 = .ok (.getfield 59, 3) := by decide +kernel
theorem dX5_give_53 : decode (cr_by Y_X5_give) 53 = .ok (.iload_n 1, 1) := by decide +kernel
theorem dX5_give_54 : decode (cr_by Y_X5_give) 54 = .ok (.iconst 1, 1) := by decide +kernel
theorem dX5_give_55 : decode (cr_by Y_X5_give) 55 = .ok (.iastore, 1) := by decide +kernel
theorem dX5_give_56 : decode (cr_by Y_X5_give) 56 = .ok (.aload_n 0, 1) := by decide +kernel
theorem dX5_give_57 : decode (cr_by Y_X5_give) 57 = .ok (.getfield 65, 3) := by decide +kernel
theorem dX5_give_60 : decode (cr_by Y_X5_give) 60 = .ok (.iload_n 1, 1) := by decide +kernel
theorem dX5_give_61 : decode (cr_by Y_X5_give) 61 = .ok (.iload_n 2, 1) := by decide +kernel
theorem dX5_give_62 : decode (cr_by Y_X5_give) 62 = .ok (.iastore, 1) := by decide +kernel
theorem dX5_give_63 : decode (cr_by Y_X5_give) 63 = .ok (.aload_n 0, 1) := by decide +kernel
theorem dX5_give_64 : decode (cr_by Y_X5_give) 64 = .ok (.getfield 68, 3) := by decide +kernel
theorem dX5_give_67 : decode (cr_by Y_X5_give) 67 = .ok (.iload_n 1, 1) := by decide +kernel
theorem dX5_give_68 : decode (cr_by Y_X5_give) 68 = .ok (.aload_n 0, 1) := by decide +kernel
theorem dX5_give_69 : decode (cr_by Y_X5_give) 69 = .ok (.getfield 127, 3) := by decide +kernel
theorem dX5_give_72 : decode (cr_by Y_X5_give) 72 = .ok (.aload_n 0, 1) := by decide +kernel
theorem dX5_give_73 : decode (cr_by Y_X5_give) 73 = .ok (.getfield 47, 3) := by decide +kernel
theorem dX5_give_76 : decode (cr_by Y_X5_give) 76 = .ok (.iload_n 1, 1) := by decide +kernel
theorem dX5_give_77 : decode (cr_by Y_X5_give) 77 = .ok (.iaload, 1) := by decide +kernel
theorem dX5_give_78 : decode (cr_by Y_X5_give) 78 = .ok (.iconst 5, 1) := by decide +kernel
theorem dX5_give_79 : decode (cr_by Y_X5_give) 79 = .ok (.aload_n 0, 1) := by decide +kernel
theorem dX5_give_80 : decode (cr_by Y_X5_give) 80 = .ok (.iload_n 2, 1) := by decide +kernel
theorem dX5_give_81 : decode (cr_by Y_X5_give) 81 = .ok (.aload_n 0, 1) := by decide +kernel
theorem dX5_give_82 : decode (cr_by Y_X5_give) 82 = .ok (.getfield 44, 3) := by decide +kernel
theorem dX5_give_85 : decode (cr_by Y_X5_give) 85 = .ok (.iload_n 1, 1) := by decide +kernel
theorem dX5_give_86 : decode (cr_by Y_X5_give) 86 = .ok (.iaload, 1) := by decide +kernel
theorem dX5_give_87 : decode (cr_by Y_X5_give) 87 = .ok (.invokevirtual 134, 3) := by decide +kernel
theorem dX5_give_90 : decode (cr_by Y_X5_give) 90 = .ok (.isub, 1) := by decide +kernel
theorem dX5_give_91 : decode (cr_by Y_X5_give) 91 = .ok (.imul, 1) := by decide +kernel
theorem dX5_give_92 : decode (cr_by Y_X5_give) 92 = .ok (.iconst 3, 1) := by decide +kernel
theorem dX5_give_93 : decode (cr_by Y_X5_give) 93 = .ok (.iadd, 1) := by decide +kernel
theorem dX5_give_94 : decode (cr_by Y_X5_give) 94 = .ok (.iconst 4, 1) := by decide +kernel
theorem dX5_give_95 : decode (cr_by Y_X5_give) 95 = .ok (.idiv, 1) := by decide +kernel
theorem dX5_give_96 : decode (cr_by Y_X5_give) 96 = .ok (.iadd, 1) := by decide +kernel
theorem dX5_give_97 : decode (cr_by Y_X5_give) 97 = .ok (.iastore, 1) := by decide +kernel
theorem dX5_give_98 : decode (cr_by Y_X5_give) 98 = .ok (.aload_n 0, 1) := by decide +kernel
theorem dX5_give_99 : decode (cr_by Y_X5_give) 99 = .ok (.getfield 77, 3) := by decide +kernel
theorem dX5_give_102 : decode (cr_by Y_X5_give) 102 = .ok (.iload_n 2, 1) := by decide +kernel
theorem dX5_give_103 : decode (cr_by Y_X5_give) 103 = .ok (.dup2, 1) := by decide +kernel
theorem dX5_give_104 : decode (cr_by Y_X5_give) 104 = .ok (.iaload, 1) := by decide +kernel
theorem dX5_give_105 : decode (cr_by Y_X5_give) 105 = .ok (.iconst 1, 1) := by decide +kernel
theorem dX5_give_106 : decode (cr_by Y_X5_give) 106 = .ok (.iadd, 1) := by decide +kernel
theorem dX5_give_107 : decode (cr_by Y_X5_give) 107 = .ok (.iastore, 1) := by decide +kernel
theorem dX5_give_108 : decode (cr_by Y_X5_give) 108 = .ok (.aload_n 0, 1) := by decide +kernel
theorem dX5_give_109 : decode (cr_by Y_X5_give) 109 = .ok (.getfield 83, 3) := by decide +kernel
theorem dX5_give_112 : decode (cr_by Y_X5_give) 112 = .ok (.iload_n 2, 1) := by decide +kernel
theorem dX5_give_113 : decode (cr_by Y_X5_give) 113 = .ok (.aload_n 0, 1) := by decide +kernel
theorem dX5_give_114 : decode (cr_by Y_X5_give) 114 = .ok (.getfield 41, 3) := by decide +kernel
theorem dX5_give_117 : decode (cr_by Y_X5_give) 117 = .ok (.iload_n 1, 1) := by decide +kernel
theorem dX5_give_118 : decode (cr_by Y_X5_give) 118 = .ok (.iaload, 1) := by decide +kernel
theorem dX5_give_119 : decode (cr_by Y_X5_give) 119 = .ok (.iconst 3, 1) := by decide +kernel
theorem dX5_give_120 : decode (cr_by Y_X5_give) 120 = .ok (.if_icmp .ne 7, 3) := by decide +kernel
theorem dX5_give_123 : decode (cr_by Y_X5_give) 123 = .ok (.iconst 1, 1) := by decide +kernel
theorem dX5_give_124 : decode (cr_by Y_X5_give) 124 = .ok (.goto 4, 3) := by decide +kernel
theorem dX5_give_127 : decode (cr_by Y_X5_give) 127 = .ok (.iconst 0, 1) := by decide +kernel
theorem dX5_give_128 : decode (cr_by Y_X5_give) 128 = .ok (.bastore, 1) := by decide +kernel
theorem dX5_give_129 : decode (cr_by Y_X5_give) 129 = .ok (.aload_n 0, 1) := by decide +kernel
theorem dX5_give_130 : decode (cr_by Y_X5_give) 130 = .ok (.iload_n 2, 1) := by decide +kernel
theorem dX5_give_131 : decode (cr_by Y_X5_give) 131 = .ok (.iconst 2, 1) := by decide +kernel
theorem dX5_give_132 : decode (cr_by Y_X5_give) 132 = .ok (.invokevirtual 138, 3) := by decide +kernel
theorem dX5_give_135 : decode (cr_by Y_X5_give) 135 = .ok (.aload_n 0, 1) := by decide +kernel
theorem dX5_give_136 : decode (cr_by Y_X5_give) 136 = .ok (.invokevirtual 178, 3) := by decide +kernel
theorem dX5_give_139 : decode (cr_by Y_X5_give) 139 = .ok (.istore_n 1, 1) := by decide +kernel
theorem dX5_give_140 : decode (cr_by Y_X5_give) 140 = .ok (.goto (-135), 3) := by decide +kernel
theorem dX5_give_143 : decode (cr_by Y_X5_give) 143 = .ok (.return_, 1) := by decide +kernel
theorem dX5_goesOn_0 : decode (cr_by Y_X5_goesOn) 0 = .ok (.iconst 0, 1) := by decide +kernel
theorem dX5_goesOn_1 : decode (cr_by Y_X5_goesOn) 1 = .ok (.istore_n 1, 1) := by decide +kernel
theorem dX5_goesOn_2 : decode (cr_by Y_X5_goesOn) 2 = .ok (.iconst 0, 1) := by decide +kernel
theorem dX5_goesOn_3 : decode (cr_by Y_X5_goesOn) 3 = .ok (.istore_n 2, 1) := by decide +kernel
theorem dX5_goesOn_4 : decode (cr_by Y_X5_goesOn) 4 = .ok (.iload_n 2, 1) := by decide +kernel
theorem dX5_goesOn_5 : decode (cr_by Y_X5_goesOn) 5 = .ok (.aload_n 0, 1) := by decide +kernel
theorem dX5_goesOn_6 : decode (cr_by Y_X5_goesOn) 6 = .ok (.getfield 124, 3) := by decide +kernel
theorem dX5_goesOn_9 : decode (cr_by Y_X5_goesOn) 9 = .ok (.if_icmp .ge 33, 3) := by decide +kernel
theorem dX5_goesOn_12 : decode (cr_by Y_X5_goesOn) 12 = .ok (.aload_n 0, 1) := by decide +kernel
theorem dX5_goesOn_13 : decode (cr_by Y_X5_goesOn) 13 = .ok (.getfield 38, 3) := by decide +kernel
theorem dX5_goesOn_16 : decode (cr_by Y_X5_goesOn) 16 = .ok (.iload_n 2, 1) := by decide +kernel
theorem dX5_goesOn_17 : decode (cr_by Y_X5_goesOn) 17 = .ok (.dup2, 1) := by decide +kernel
theorem dX5_goesOn_18 : decode (cr_by Y_X5_goesOn) 18 = .ok (.iaload, 1) := by decide +kernel
theorem dX5_goesOn_19 : decode (cr_by Y_X5_goesOn) 19 = .ok (.aload_n 0, 1) := by decide +kernel
theorem dX5_goesOn_20 : decode (cr_by Y_X5_goesOn) 20 = .ok (.getfield 26, 3) := by decide +kernel
theorem dX5_goesOn_23 : decode (cr_by Y_X5_goesOn) 23 = .ok (.iload_n 2, 1) := by decide +kernel
theorem dX5_goesOn_24 : decode (cr_by Y_X5_goesOn) 24 = .ok (.iaload, 1) := by decide +kernel
theorem dX5_goesOn_25 : decode (cr_by Y_X5_goesOn) 25 = .ok (.iconst 2, 1) := by decide +kernel
theorem dX5_goesOn_26 : decode (cr_by Y_X5_goesOn) 26 = .ok (.if_icmp .ne 7, 3) := by decide +kernel
theorem dX5_goesOn_29 : decode (cr_by Y_X5_goesOn) 29 = .ok (.iconst 1, 1) := by decide +kernel
theorem dX5_goesOn_30 : decode (cr_by Y_X5_goesOn) 30 = .ok (.goto 4, 3) := by decide +kernel
theorem dX5_goesOn_33 : decode (cr_by Y_X5_goesOn) 33 = .ok (.iconst 0, 1) := by decide +kernel
theorem dX5_goesOn_34 : decode (cr_by Y_X5_goesOn) 34 = .ok (.iadd, 1) := by decide +kernel
theorem dX5_goesOn_35 : decode (cr_by Y_X5_goesOn) 35 = .ok (.iastore, 1) := by decide +kernel
theorem dX5_goesOn_36 : decode (cr_by Y_X5_goesOn) 36 = .ok (.iinc 2 1, 3) := by decide +kernel
theorem dX5_goesOn_39 : decode (cr_by Y_X5_goesOn) 39 = .ok (.goto (-35), 3) := by decide +kernel
theorem dX5_goesOn_42 : decode (cr_by Y_X5_goesOn) 42 = .ok (.aload_n 0, 1) := by decide +kernel
theorem dX5_goesOn_43 : decode (cr_by Y_X5_goesOn) 43 = .ok (.dup, 1) := by decide +kernel
theorem dX5_goesOn_44 : decode (cr_by Y_X5_goesOn) 44 = .ok (.getfield 127, 3) := by decide +kernel
theorem dX5_goesOn_47 : decode (cr_by Y_X5_goesOn) 47 = .ok (.iconst 1, 1) := by decide +kernel
theorem dX5_goesOn_48 : decode (cr_by Y_X5_goesOn) 48 = .ok (.iadd, 1) := by decide +kernel
theorem dX5_goesOn_49 : decode (cr_by Y_X5_goesOn) 49 = .ok (.putfield 127, 3) := by decide +kernel
theorem dX5_goesOn_52 : decode (cr_by Y_X5_goesOn) 52 = .ok (.iconst 0, 1) := by decide +kernel
theorem dX5_goesOn_53 : decode (cr_by Y_X5_goesOn) 53 = .ok (.istore_n 2, 1) := by decide +kernel
theorem dX5_goesOn_54 : decode (cr_by Y_X5_goesOn) 54 = .ok (.iload_n 2, 1) := by decide +kernel
theorem dX5_goesOn_55 : decode (cr_by Y_X5_goesOn) 55 = .ok (.aload_n 0, 1) := by decide +kernel
theorem dX5_goesOn_56 : decode (cr_by Y_X5_goesOn) 56 = .ok (.getfield 142, 3) := by decide +kernel
theorem dX5_goesOn_59 : decode (cr_by Y_X5_goesOn) 59 = .ok (.if_icmp .ge 78, 3) := by decide +kernel
theorem dX5_goesOn_62 : decode (cr_by Y_X5_goesOn) 62 = .ok (.aload_n 0, 1) := by decide +kernel
theorem dX5_goesOn_63 : decode (cr_by Y_X5_goesOn) 63 = .ok (.getfield 59, 3) := by decide +kernel
theorem dX5_goesOn_66 : decode (cr_by Y_X5_goesOn) 66 = .ok (.iload_n 2, 1) := by decide +kernel
theorem dX5_goesOn_67 : decode (cr_by Y_X5_goesOn) 67 = .ok (.iaload, 1) := by decide +kernel
theorem dX5_goesOn_68 : decode (cr_by Y_X5_goesOn) 68 = .ok (.iconst 1, 1) := by decide +kernel
theorem dX5_goesOn_69 : decode (cr_by Y_X5_goesOn) 69 = .ok (.if_icmp .ne 62, 3) := by decide +kernel
theorem dX5_goesOn_72 : decode (cr_by Y_X5_goesOn) 72 = .ok (.aload_n 0, 1) := by decide +kernel
theorem dX5_goesOn_73 : decode (cr_by Y_X5_goesOn) 73 = .ok (.getfield 68, 3) := by decide +kernel
theorem dX5_goesOn_76 : decode (cr_by Y_X5_goesOn) 76 = .ok (.iload_n 2, 1) := by decide +kernel
theorem dX5_goesOn_77 : decode (cr_by Y_X5_goesOn) 77 = .ok (.iaload, 1) := by decide +kernel
theorem dX5_goesOn_78 : decode (cr_by Y_X5_goesOn) 78 = .ok (.aload_n 0, 1) := by decide +kernel
theorem dX5_goesOn_79 : decode (cr_by Y_X5_goesOn) 79 = .ok (.getfield 127, 3) := by decide +kernel
theorem dX5_goesOn_82 : decode (cr_by Y_X5_goesOn) 82 = .ok (.if_icmp .le 6, 3) := by decide +kernel
theorem dX5_goesOn_85 : decode (cr_by Y_X5_goesOn) 85 = .ok (.goto 46, 3) := by decide +kernel
theorem dX5_goesOn_88 : decode (cr_by Y_X5_goesOn) 88 = .ok (.aload_n 0, 1) := by decide +kernel
theorem dX5_goesOn_89 : decode (cr_by Y_X5_goesOn) 89 = .ok (.getfield 59, 3) := by decide +kernel
theorem dX5_goesOn_92 : decode (cr_by Y_X5_goesOn) 92 = .ok (.iload_n 2, 1) := by decide +kernel
theorem dX5_goesOn_93 : decode (cr_by Y_X5_goesOn) 93 = .ok (.iconst 2, 1) := by decide +kernel
theorem dX5_goesOn_94 : decode (cr_by Y_X5_goesOn) 94 = .ok (.iastore, 1) := by decide +kernel
theorem dX5_goesOn_95 : decode (cr_by Y_X5_goesOn) 95 = .ok (.aload_n 0, 1) := by decide +kernel
theorem dX5_goesOn_96 : decode (cr_by Y_X5_goesOn) 96 = .ok (.getfield 68, 3) := by decide +kernel
theorem dX5_goesOn_99 : decode (cr_by Y_X5_goesOn) 99 = .ok (.iload_n 2, 1) := by decide +kernel
theorem dX5_goesOn_100 : decode (cr_by Y_X5_goesOn) 100 = .ok (.bipush (-9), 2) := by decide +kernel
theorem dX5_goesOn_102 : decode (cr_by Y_X5_goesOn) 102 = .ok (.iastore, 1) := by decide +kernel
theorem dX5_goesOn_103 : decode (cr_by Y_X5_goesOn) 103 = .ok (.aload_n 0, 1) := by decide +kernel
theorem dX5_goesOn_104 : decode (cr_by Y_X5_goesOn) 104 = .ok (.getfield 35, 3) := by decide +kernel
theorem dX5_goesOn_107 : decode (cr_by Y_X5_goesOn) 107 = .ok (.aload_n 0, 1) := by decide +kernel
theorem dX5_goesOn_108 : decode (cr_by Y_X5_goesOn) 108 = .ok (.getfield 65, 3) := by decide +kernel
theorem dX5_goesOn_111 : decode (cr_by Y_X5_goesOn) 111 = .ok (.iload_n 2, 1) := by decide +kernel
theorem dX5_goesOn_112 : decode (cr_by Y_X5_goesOn) 112 = .ok (.iaload, 1) := by decide +kernel
theorem dX5_goesOn_113 : decode (cr_by Y_X5_goesOn) 113 = .ok (.dup2, 1) := by decide +kernel
theorem dX5_goesOn_114 : decode (cr_by Y_X5_goesOn) 114 = .ok (.iaload, 1) := by decide +kernel
theorem dX5_goesOn_115 : decode (cr_by Y_X5_goesOn) 115 = .ok (.iconst 1, 1) := by decide +kernel
theorem dX5_goesOn_116 : decode (cr_by Y_X5_goesOn) 116 = .ok (.iadd, 1) := by decide +kernel
theorem dX5_goesOn_117 : decode (cr_by Y_X5_goesOn) 117 = .ok (.iastore, 1) := by decide +kernel
theorem dX5_goesOn_118 : decode (cr_by Y_X5_goesOn) 118 = .ok (.aload_n 0, 1) := by decide +kernel
theorem dX5_goesOn_119 : decode (cr_by Y_X5_goesOn) 119 = .ok (.aload_n 0, 1) := by decide +kernel
theorem dX5_goesOn_120 : decode (cr_by Y_X5_goesOn) 120 = .ok (.getfield 65, 3) := by decide +kernel
theorem dX5_goesOn_123 : decode (cr_by Y_X5_goesOn) 123 = .ok (.iload_n 2, 1) := by decide +kernel
theorem dX5_goesOn_124 : decode (cr_by Y_X5_goesOn) 124 = .ok (.iaload, 1) := by decide +kernel
theorem dX5_goesOn_125 : decode (cr_by Y_X5_goesOn) 125 = .ok (.invokevirtual 148, 3) := by decide +kernel
theorem dX5_goesOn_128 : decode (cr_by Y_X5_goesOn) 128 = .ok (.iinc 1 1, 3) := by decide +kernel
theorem dX5_goesOn_131 : decode (cr_by Y_X5_goesOn) 131 = .ok (.iinc 2 1, 3) := by decide +kernel
theorem dX5_goesOn_134 : decode (cr_by Y_X5_goesOn) 134 = .ok (.goto (-80), 3) := by decide +kernel
theorem dX5_goesOn_137 : decode (cr_by Y_X5_goesOn) 137 = .ok (.iconst 0, 1) := by decide +kernel
theorem dX5_goesOn_138 : decode (cr_by Y_X5_goesOn) 138 = .ok (.istore_n 2, 1) := by decide +kernel
theorem dX5_goesOn_139 : decode (cr_by Y_X5_goesOn) 139 = .ok (.iload_n 2, 1) := by decide +kernel
theorem dX5_goesOn_140 : decode (cr_by Y_X5_goesOn) 140 = .ok (.aload_n 0, 1) := by decide +kernel
theorem dX5_goesOn_141 : decode (cr_by Y_X5_goesOn) 141 = .ok (.getfield 124, 3) := by decide +kernel
theorem dX5_goesOn_144 : decode (cr_by Y_X5_goesOn) 144 = .ok (.if_icmp .ge 38, 3) := by decide +kernel
theorem dX5_goesOn_147 : decode (cr_by Y_X5_goesOn) 147 = .ok (.aload_n 0, 1) := by decide +kernel
theorem dX5_goesOn_148 : decode (cr_by Y_X5_goesOn) 148 = .ok (.getfield 26, 3) := by decide +kernel
theorem dX5_goesOn_151 : decode (cr_by Y_X5_goesOn) 151 = .ok (.iload_n 2, 1) := by decide +kernel
theorem dX5_goesOn_152 : decode (cr_by Y_X5_goesOn) 152 = .ok (.iaload, 1) := by decide +kernel
theorem dX5_goesOn_153 : decode (cr_by Y_X5_goesOn) 153 = .ok (.iconst 3, 1) := by decide +kernel
theorem dX5_goesOn_154 : decode (cr_by Y_X5_goesOn) 154 = .ok (.if_icmp .ne 22, 3) := by decide +kernel
theorem dX5_goesOn_157 : decode (cr_by Y_X5_goesOn) 157 = .ok (.aload_n 0, 1) := by decide +kernel
theorem dX5_goesOn_158 : decode (cr_by Y_X5_goesOn) 158 = .ok (.getfield 32, 3) := by decide +kernel
theorem dX5_goesOn_161 : decode (cr_by Y_X5_goesOn) 161 = .ok (.iload_n 2, 1) := by decide +kernel
theorem dX5_goesOn_162 : decode (cr_by Y_X5_goesOn) 162 = .ok (.iaload, 1) := by decide +kernel
theorem dX5_goesOn_163 : decode (cr_by Y_X5_goesOn) 163 = .ok (.aload_n 0, 1) := by decide +kernel
theorem dX5_goesOn_164 : decode (cr_by Y_X5_goesOn) 164 = .ok (.getfield 127, 3) := by decide +kernel
theorem dX5_goesOn_167 : decode (cr_by Y_X5_goesOn) 167 = .ok (.if_icmp .gt 9, 3) := by decide +kernel
theorem dX5_goesOn_170 : decode (cr_by Y_X5_goesOn) 170 = .ok (.aload_n 0, 1) := by decide +kernel
theorem dX5_goesOn_171 : decode (cr_by Y_X5_goesOn) 171 = .ok (.iload_n 2, 1) := by decide +kernel
theorem dX5_goesOn_172 : decode (cr_by Y_X5_goesOn) 172 = .ok (.iconst 1, 1) := by decide +kernel
theorem dX5_goesOn_173 : decode (cr_by Y_X5_goesOn) 173 = .ok (.invokevirtual 138, 3) := by decide +kernel
theorem dX5_goesOn_176 : decode (cr_by Y_X5_goesOn) 176 = .ok (.iinc 2 1, 3) := by decide +kernel
theorem dX5_goesOn_179 : decode (cr_by Y_X5_goesOn) 179 = .ok (.goto (-40), 3) := by decide +kernel
theorem dX5_goesOn_182 : decode (cr_by Y_X5_goesOn) 182 = .ok (.iconst 0, 1) := by decide +kernel
theorem dX5_goesOn_183 : decode (cr_by Y_X5_goesOn) 183 = .ok (.istore_n 2, 1) := by decide +kernel
theorem dX5_goesOn_184 : decode (cr_by Y_X5_goesOn) 184 = .ok (.iload_n 2, 1) := by decide +kernel
theorem dX5_goesOn_185 : decode (cr_by Y_X5_goesOn) 185 = .ok (.aload_n 0, 1) := by decide +kernel
theorem dX5_goesOn_186 : decode (cr_by Y_X5_goesOn) 186 = .ok (.getfield 142, 3) := by decide +kernel
theorem dX5_goesOn_189 : decode (cr_by Y_X5_goesOn) 189 = .ok (.if_icmp .ge 60, 3) := by decide +kernel
theorem dX5_goesOn_192 : decode (cr_by Y_X5_goesOn) 192 = .ok (.aload_n 0, 1) := by decide +kernel
theorem dX5_goesOn_193 : decode (cr_by Y_X5_goesOn) 193 = .ok (.getfield 59, 3) := by decide +kernel
theorem dX5_goesOn_196 : decode (cr_by Y_X5_goesOn) 196 = .ok (.iload_n 2, 1) := by decide +kernel
theorem dX5_goesOn_197 : decode (cr_by Y_X5_goesOn) 197 = .ok (.iaload, 1) := by decide +kernel
theorem dX5_goesOn_198 : decode (cr_by Y_X5_goesOn) 198 = .ok (.iconst 4, 1) := by decide +kernel
theorem dX5_goesOn_199 : decode (cr_by Y_X5_goesOn) 199 = .ok (.if_icmp .ne 44, 3) := by decide +kernel
theorem dX5_goesOn_202 : decode (cr_by Y_X5_goesOn) 202 = .ok (.aload_n 0, 1) := by decide +kernel
theorem dX5_goesOn_203 : decode (cr_by Y_X5_goesOn) 203 = .ok (.getfield 68, 3) := by decide +kernel
theorem dX5_goesOn_206 : decode (cr_by Y_X5_goesOn) 206 = .ok (.iload_n 2, 1) := by decide +kernel
theorem dX5_goesOn_207 : decode (cr_by Y_X5_goesOn) 207 = .ok (.iaload, 1) := by decide +kernel
theorem dX5_goesOn_208 : decode (cr_by Y_X5_goesOn) 208 = .ok (.aload_n 0, 1) := by decide +kernel
theorem dX5_goesOn_209 : decode (cr_by Y_X5_goesOn) 209 = .ok (.getfield 127, 3) := by decide +kernel
theorem dX5_goesOn_212 : decode (cr_by Y_X5_goesOn) 212 = .ok (.if_icmp .le 6, 3) := by decide +kernel
theorem dX5_goesOn_215 : decode (cr_by Y_X5_goesOn) 215 = .ok (.goto 28, 3) := by decide +kernel
theorem dX5_goesOn_218 : decode (cr_by Y_X5_goesOn) 218 = .ok (.aload_n 0, 1) := by decide +kernel
theorem dX5_goesOn_219 : decode (cr_by Y_X5_goesOn) 219 = .ok (.getfield 59, 3) := by decide +kernel
theorem dX5_goesOn_222 : decode (cr_by Y_X5_goesOn) 222 = .ok (.iload_n 2, 1) := by decide +kernel
theorem dX5_goesOn_223 : decode (cr_by Y_X5_goesOn) 223 = .ok (.iconst 0, 1) := by decide +kernel
theorem dX5_goesOn_224 : decode (cr_by Y_X5_goesOn) 224 = .ok (.iastore, 1) := by decide +kernel
theorem dX5_goesOn_225 : decode (cr_by Y_X5_goesOn) 225 = .ok (.aload_n 0, 1) := by decide +kernel
theorem dX5_goesOn_226 : decode (cr_by Y_X5_goesOn) 226 = .ok (.getfield 62, 3) := by decide +kernel
theorem dX5_goesOn_229 : decode (cr_by Y_X5_goesOn) 229 = .ok (.iload_n 2, 1) := by decide +kernel
theorem dX5_goesOn_230 : decode (cr_by Y_X5_goesOn) 230 = .ok (.aload_n 0, 1) := by decide +kernel
theorem dX5_goesOn_231 : decode (cr_by Y_X5_goesOn) 231 = .ok (.getfield 127, 3) := by decide +kernel
theorem dX5_goesOn_234 : decode (cr_by Y_X5_goesOn) 234 = .ok (.iastore, 1) := by decide +kernel
theorem dX5_goesOn_235 : decode (cr_by Y_X5_goesOn) 235 = .ok (.aload_n 0, 1) := by decide +kernel
theorem dX5_goesOn_236 : decode (cr_by Y_X5_goesOn) 236 = .ok (.getfield 68, 3) := by decide +kernel
theorem dX5_goesOn_239 : decode (cr_by Y_X5_goesOn) 239 = .ok (.iload_n 2, 1) := by decide +kernel
theorem dX5_goesOn_240 : decode (cr_by Y_X5_goesOn) 240 = .ok (.bipush (-9), 2) := by decide +kernel
theorem dX5_goesOn_242 : decode (cr_by Y_X5_goesOn) 242 = .ok (.iastore, 1) := by decide +kernel
theorem dX5_goesOn_243 : decode (cr_by Y_X5_goesOn) 243 = .ok (.iinc 2 1, 3) := by decide +kernel
theorem dX5_goesOn_246 : decode (cr_by Y_X5_goesOn) 246 = .ok (.goto (-62), 3) := by decide +kernel
theorem dX5_goesOn_249 : decode (cr_by Y_X5_goesOn) 249 = .ok (.iconst 0, 1) := by decide +kernel
theorem dX5_goesOn_250 : decode (cr_by Y_X5_goesOn) 250 = .ok (.istore_n 2, 1) := by decide +kernel
theorem dX5_goesOn_251 : decode (cr_by Y_X5_goesOn) 251 = .ok (.iload_n 2, 1) := by decide +kernel
theorem dX5_goesOn_252 : decode (cr_by Y_X5_goesOn) 252 = .ok (.aload_n 0, 1) := by decide +kernel
theorem dX5_goesOn_253 : decode (cr_by Y_X5_goesOn) 253 = .ok (.getfield 142, 3) := by decide +kernel
theorem dX5_goesOn_256 : decode (cr_by Y_X5_goesOn) 256 = .ok (.if_icmp .ge 39, 3) := by decide +kernel
theorem dX5_goesOn_259 : decode (cr_by Y_X5_goesOn) 259 = .ok (.aload_n 0, 1) := by decide +kernel
theorem dX5_goesOn_260 : decode (cr_by Y_X5_goesOn) 260 = .ok (.getfield 59, 3) := by decide +kernel
theorem dX5_goesOn_263 : decode (cr_by Y_X5_goesOn) 263 = .ok (.iload_n 2, 1) := by decide +kernel
theorem dX5_goesOn_264 : decode (cr_by Y_X5_goesOn) 264 = .ok (.iaload, 1) := by decide +kernel
theorem dX5_goesOn_265 : decode (cr_by Y_X5_goesOn) 265 = .ok (.ifCond .ne 24, 3) := by decide +kernel
theorem dX5_goesOn_268 : decode (cr_by Y_X5_goesOn) 268 = .ok (.aload_n 0, 1) := by decide +kernel
theorem dX5_goesOn_269 : decode (cr_by Y_X5_goesOn) 269 = .ok (.iload_n 2, 1) := by decide +kernel
theorem dX5_goesOn_270 : decode (cr_by Y_X5_goesOn) 270 = .ok (.invokevirtual 156, 3) := by decide +kernel
theorem dX5_goesOn_273 : decode (cr_by Y_X5_goesOn) 273 = .ok (.aload_n 0, 1) := by decide +kernel
theorem dX5_goesOn_274 : decode (cr_by Y_X5_goesOn) 274 = .ok (.getfield 50, 3) := by decide +kernel
theorem dX5_goesOn_277 : decode (cr_by Y_X5_goesOn) 277 = .ok (.iload_n 2, 1) := by decide +kernel
theorem dX5_goesOn_278 : decode (cr_by Y_X5_goesOn) 278 = .ok (.iaload, 1) := by decide +kernel
theorem dX5_goesOn_279 : decode (cr_by Y_X5_goesOn) 279 = .ok (.if_icmp .le 10, 3) := by decide +kernel
theorem dX5_goesOn_282 : decode (cr_by Y_X5_goesOn) 282 = .ok (.aload_n 0, 1) := by decide +kernel
theorem dX5_goesOn_283 : decode (cr_by Y_X5_goesOn) 283 = .ok (.getfield 59, 3) := by decide +kernel
theorem dX5_goesOn_286 : decode (cr_by Y_X5_goesOn) 286 = .ok (.iload_n 2, 1) := by decide +kernel
theorem dX5_goesOn_287 : decode (cr_by Y_X5_goesOn) 287 = .ok (.iconst 3, 1) := by decide +kernel
theorem dX5_goesOn_288 : decode (cr_by Y_X5_goesOn) 288 = .ok (.iastore, 1) := by decide +kernel
theorem dX5_goesOn_289 : decode (cr_by Y_X5_goesOn) 289 = .ok (.iinc 2 1, 3) := by decide +kernel
theorem dX5_goesOn_292 : decode (cr_by Y_X5_goesOn) 292 = .ok (.goto (-41), 3) := by decide +kernel
theorem dX5_goesOn_295 : decode (cr_by Y_X5_goesOn) 295 = .ok (.aload_n 0, 1) := by decide +kernel
theorem dX5_goesOn_296 : decode (cr_by Y_X5_goesOn) 296 = .ok (.invokevirtual 185, 3) := by decide +kernel
theorem dX5_goesOn_299 : decode (cr_by Y_X5_goesOn) 299 = .ok (.iload_n 1, 1) := by decide +kernel
theorem dX5_goesOn_300 : decode (cr_by Y_X5_goesOn) 300 = .ok (.ireturn, 1) := by decide +kernel
theorem dX5_ticks_0 : decode (cr_by Y_X5_ticks) 0 = .ok (.iload_n 1, 1) := by decide +kernel
theorem dX5_ticks_1 : decode (cr_by Y_X5_ticks) 1 = .ok (.iconst 1, 1) := by decide +kernel
theorem dX5_ticks_2 : decode (cr_by Y_X5_ticks) 2 = .ok (.if_icmp .ge 10, 3) := by decide +kernel
theorem dX5_ticks_5 : decode (cr_by Y_X5_ticks) 5 = .ok (.aload_n 0, 1) := by decide +kernel
theorem dX5_ticks_6 : decode (cr_by Y_X5_ticks) 6 = .ok (.bipush (-4), 2) := by decide +kernel
theorem dX5_ticks_8 : decode (cr_by Y_X5_ticks) 8 = .ok (.invokevirtual 120, 3) := by decide +kernel
theorem dX5_ticks_11 : decode (cr_by Y_X5_ticks) 11 = .ok (.ireturn, 1) := by decide +kernel
theorem dX5_ticks_12 : decode (cr_by Y_X5_ticks) 12 = .ok (.iload_n 1, 1) := by decide +kernel
theorem dX5_ticks_13 : decode (cr_by Y_X5_ticks) 13 = .ok (.sipush 20000, 3) := by decide +kernel
theorem dX5_ticks_16 : decode (cr_by Y_X5_ticks) 16 = .ok (.aload_n 0, 1) := by decide +kernel
theorem dX5_ticks_17 : decode (cr_by Y_X5_ticks) 17 = .ok (.getfield 127, 3) := by decide +kernel
theorem dX5_ticks_20 : decode (cr_by Y_X5_ticks) 20 = .ok (.isub, 1) := by decide +kernel
theorem dX5_ticks_21 : decode (cr_by Y_X5_ticks) 21 = .ok (.if_icmp .le 10, 3) := by decide +kernel
theorem dX5_ticks_24 : decode (cr_by Y_X5_ticks) 24 = .ok (.aload_n 0, 1) := by decide +kernel
theorem dX5_ticks_25 : decode (cr_by Y_X5_ticks) 25 = .ok (.bipush (-6), 2) := by decide +kernel
theorem dX5_ticks_27 : decode (cr_by Y_X5_ticks) 27 = .ok (.invokevirtual 120, 3) := by decide +kernel
theorem dX5_ticks_30 : decode (cr_by Y_X5_ticks) 30 = .ok (.ireturn, 1) := by decide +kernel
theorem dX5_ticks_31 : decode (cr_by Y_X5_ticks) 31 = .ok (.iconst 0, 1) := by decide +kernel
theorem dX5_ticks_32 : decode (cr_by Y_X5_ticks) 32 = .ok (.istore_n 2, 1) := by decide +kernel
theorem dX5_ticks_33 : decode (cr_by Y_X5_ticks) 33 = .ok (.iconst 0, 1) := by decide +kernel
theorem dX5_ticks_34 : decode (cr_by Y_X5_ticks) 34 = .ok (.istore_n 3, 1) := by decide +kernel
theorem dX5_ticks_35 : decode (cr_by Y_X5_ticks) 35 = .ok (.iload_n 3, 1) := by decide +kernel
theorem dX5_ticks_36 : decode (cr_by Y_X5_ticks) 36 = .ok (.iload_n 1, 1) := by decide +kernel
theorem dX5_ticks_37 : decode (cr_by Y_X5_ticks) 37 = .ok (.if_icmp .ge 16, 3) := by decide +kernel
theorem dX5_ticks_40 : decode (cr_by Y_X5_ticks) 40 = .ok (.iload_n 2, 1) := by decide +kernel
theorem dX5_ticks_41 : decode (cr_by Y_X5_ticks) 41 = .ok (.aload_n 0, 1) := by decide +kernel
theorem dX5_ticks_42 : decode (cr_by Y_X5_ticks) 42 = .ok (.invokevirtual 188, 3) := by decide +kernel
theorem dX5_ticks_45 : decode (cr_by Y_X5_ticks) 45 = .ok (.iadd, 1) := by decide +kernel
theorem dX5_ticks_46 : decode (cr_by Y_X5_ticks) 46 = .ok (.istore_n 2, 1) := by decide +kernel
theorem dX5_ticks_47 : decode (cr_by Y_X5_ticks) 47 = .ok (.iinc 3 1, 3) := by decide +kernel
theorem dX5_ticks_50 : decode (cr_by Y_X5_ticks) 50 = .ok (.goto (-15), 3) := by decide +kernel
theorem dX5_ticks_53 : decode (cr_by Y_X5_ticks) 53 = .ok (.iload_n 2, 1) := by decide +kernel
theorem dX5_ticks_54 : decode (cr_by Y_X5_ticks) 54 = .ok (.ireturn, 1) := by decide +kernel
theorem dX5_keep_0 : decode (cr_by Y_X5_keep) 0 = .ok (.aload_n 0, 1) := by decide +kernel
theorem dX5_keep_1 : decode (cr_by Y_X5_keep) 1 = .ok (.aload_n 0, 1) := by decide +kernel
theorem dX5_keep_2 : decode (cr_by Y_X5_keep) 2 = .ok (.getfield 127, 3) := by decide +kernel
theorem dX5_keep_5 : decode (cr_by Y_X5_keep) 5 = .ok (.putfield 191, 3) := by decide +kernel
theorem dX5_keep_8 : decode (cr_by Y_X5_keep) 8 = .ok (.iconst 0, 1) := by decide +kernel
theorem dX5_keep_9 : decode (cr_by Y_X5_keep) 9 = .ok (.istore_n 1, 1) := by decide +kernel
theorem dX5_keep_10 : decode (cr_by Y_X5_keep) 10 = .ok (.iload_n 1, 1) := by decide +kernel
theorem dX5_keep_11 : decode (cr_by Y_X5_keep) 11 = .ok (.aload_n 0, 1) := by decide +kernel
theorem dX5_keep_12 : decode (cr_by Y_X5_keep) 12 = .ok (.getfield 124, 3) := by decide +kernel
theorem dX5_keep_15 : decode (cr_by Y_X5_keep) 15 = .ok (.if_icmp .ge 81, 3) := by decide +kernel
theorem dX5_keep_18 : decode (cr_by Y_X5_keep) 18 = .ok (.aload_n 0, 1) := by decide +kernel
theorem dX5_keep_19 : decode (cr_by Y_X5_keep) 19 = .ok (.getfield 90, 3) := by decide +kernel
theorem dX5_keep_22 : decode (cr_by Y_X5_keep) 22 = .ok (.iload_n 1, 1) := by decide +kernel
theorem dX5_keep_23 : decode (cr_by Y_X5_keep) 23 = .ok (.aload_n 0, 1) := by decide +kernel
theorem dX5_keep_24 : decode (cr_by Y_X5_keep) 24 = .ok (.getfield 26, 3) := by decide +kernel
theorem dX5_keep_27 : decode (cr_by Y_X5_keep) 27 = .ok (.iload_n 1, 1) := by decide +kernel
theorem dX5_keep_28 : decode (cr_by Y_X5_keep) 28 = .ok (.iaload, 1) := by decide +kernel
theorem dX5_keep_29 : decode (cr_by Y_X5_keep) 29 = .ok (.iastore, 1) := by decide +kernel
theorem dX5_keep_30 : decode (cr_by Y_X5_keep) 30 = .ok (.aload_n 0, 1) := by decide +kernel
theorem dX5_keep_31 : decode (cr_by Y_X5_keep) 31 = .ok (.getfield 93, 3) := by decide +kernel
theorem dX5_keep_34 : decode (cr_by Y_X5_keep) 34 = .ok (.iload_n 1, 1) := by decide +kernel
theorem dX5_keep_35 : decode (cr_by Y_X5_keep) 35 = .ok (.aload_n 0, 1) := by decide +kernel
theorem dX5_keep_36 : decode (cr_by Y_X5_keep) 36 = .ok (.getfield 29, 3) := by decide +kernel
theorem dX5_keep_39 : decode (cr_by Y_X5_keep) 39 = .ok (.iload_n 1, 1) := by decide +kernel
theorem dX5_keep_40 : decode (cr_by Y_X5_keep) 40 = .ok (.iaload, 1) := by decide +kernel
theorem dX5_keep_41 : decode (cr_by Y_X5_keep) 41 = .ok (.iastore, 1) := by decide +kernel
theorem dX5_keep_42 : decode (cr_by Y_X5_keep) 42 = .ok (.aload_n 0, 1) := by decide +kernel
theorem dX5_keep_43 : decode (cr_by Y_X5_keep) 43 = .ok (.getfield 96, 3) := by decide +kernel
theorem dX5_keep_46 : decode (cr_by Y_X5_keep) 46 = .ok (.iload_n 1, 1) := by decide +kernel
theorem dX5_keep_47 : decode (cr_by Y_X5_keep) 47 = .ok (.aload_n 0, 1) := by decide +kernel
theorem dX5_keep_48 : decode (cr_by Y_X5_keep) 48 = .ok (.getfield 35, 3) := by decide +kernel
theorem dX5_keep_51 : decode (cr_by Y_X5_keep) 51 = .ok (.iload_n 1, 1) := by decide +kernel
theorem dX5_keep_52 : decode (cr_by Y_X5_keep) 52 = .ok (.iaload, 1) := by decide +kernel
theorem dX5_keep_53 : decode (cr_by Y_X5_keep) 53 = .ok (.iastore, 1) := by decide +kernel
theorem dX5_keep_54 : decode (cr_by Y_X5_keep) 54 = .ok (.aload_n 0, 1) := by decide +kernel
theorem dX5_keep_55 : decode (cr_by Y_X5_keep) 55 = .ok (.getfield 99, 3) := by decide +kernel
theorem dX5_keep_58 : decode (cr_by Y_X5_keep) 58 = .ok (.iload_n 1, 1) := by decide +kernel
theorem dX5_keep_59 : decode (cr_by Y_X5_keep) 59 = .ok (.aload_n 0, 1) := by decide +kernel
theorem dX5_keep_60 : decode (cr_by Y_X5_keep) 60 = .ok (.getfield 38, 3) := by decide +kernel
theorem dX5_keep_63 : decode (cr_by Y_X5_keep) 63 = .ok (.iload_n 1, 1) := by decide +kernel
theorem dX5_keep_64 : decode (cr_by Y_X5_keep) 64 = .ok (.iaload, 1) := by decide +kernel
theorem dX5_keep_65 : decode (cr_by Y_X5_keep) 65 = .ok (.iastore, 1) := by decide +kernel
theorem dX5_keep_66 : decode (cr_by Y_X5_keep) 66 = .ok (.aload_n 0, 1) := by decide +kernel
theorem dX5_keep_67 : decode (cr_by Y_X5_keep) 67 = .ok (.getfield 80, 3) := by decide +kernel
theorem dX5_keep_70 : decode (cr_by Y_X5_keep) 70 = .ok (.iload_n 1, 1) := by decide +kernel
theorem dX5_keep_71 : decode (cr_by Y_X5_keep) 71 = .ok (.aload_n 0, 1) := by decide +kernel
theorem dX5_keep_72 : decode (cr_by Y_X5_keep) 72 = .ok (.getfield 77, 3) := by decide +kernel
theorem dX5_keep_75 : decode (cr_by Y_X5_keep) 75 = .ok (.iload_n 1, 1) := by decide +kernel
theorem dX5_keep_76 : decode (cr_by Y_X5_keep) 76 = .ok (.iaload, 1) := by decide +kernel
theorem dX5_keep_77 : decode (cr_by Y_X5_keep) 77 = .ok (.iastore, 1) := by decide +kernel
theorem dX5_keep_78 : decode (cr_by Y_X5_keep) 78 = .ok (.aload_n 0, 1) := by decide +kernel
theorem dX5_keep_79 : decode (cr_by Y_X5_keep) 79 = .ok (.getfield 87, 3) := by decide +kernel
theorem dX5_keep_82 : decode (cr_by Y_X5_keep) 82 = .ok (.iload_n 1, 1) := by decide +kernel
theorem dX5_keep_83 : decode (cr_by Y_X5_keep) 83 = .ok (.aload_n 0, 1) := by decide +kernel
theorem dX5_keep_84 : decode (cr_by Y_X5_keep) 84 = .ok (.getfield 83, 3) := by decide +kernel
theorem dX5_keep_87 : decode (cr_by Y_X5_keep) 87 = .ok (.iload_n 1, 1) := by decide +kernel
theorem dX5_keep_88 : decode (cr_by Y_X5_keep) 88 = .ok (.baload, 1) := by decide +kernel
theorem dX5_keep_89 : decode (cr_by Y_X5_keep) 89 = .ok (.bastore, 1) := by decide +kernel
theorem dX5_keep_90 : decode (cr_by Y_X5_keep) 90 = .ok (.iinc 1 1, 3) := by decide +kernel
theorem dX5_keep_93 : decode (cr_by Y_X5_keep) 93 = .ok (.goto (-83), 3) := by decide +kernel
theorem dX5_keep_96 : decode (cr_by Y_X5_keep) 96 = .ok (.iconst 0, 1) := by decide +kernel
theorem dX5_keep_97 : decode (cr_by Y_X5_keep) 97 = .ok (.istore_n 1, 1) := by decide +kernel
theorem dX5_keep_98 : decode (cr_by Y_X5_keep) 98 = .ok (.iload_n 1, 1) := by decide +kernel
theorem dX5_keep_99 : decode (cr_by Y_X5_keep) 99 = .ok (.aload_n 0, 1) := by decide +kernel
theorem dX5_keep_100 : decode (cr_by Y_X5_keep) 100 = .ok (.getfield 142, 3) := by decide +kernel
theorem dX5_keep_103 : decode (cr_by Y_X5_keep) 103 = .ok (.if_icmp .ge 81, 3) := by decide +kernel
theorem dX5_keep_106 : decode (cr_by Y_X5_keep) 106 = .ok (.aload_n 0, 1) := by decide +kernel
theorem dX5_keep_107 : decode (cr_by Y_X5_keep) 107 = .ok (.getfield 102, 3) := by decide +kernel
theorem dX5_keep_110 : decode (cr_by Y_X5_keep) 110 = .ok (.iload_n 1, 1) := by decide +kernel
theorem dX5_keep_111 : decode (cr_by Y_X5_keep) 111 = .ok (.aload_n 0, 1) := by decide +kernel
theorem dX5_keep_112 : decode (cr_by Y_X5_keep) 112 = .ok (.getfield 59, 3) := by decide +kernel
theorem dX5_keep_115 : decode (cr_by Y_X5_keep) 115 = .ok (.iload_n 1, 1) := by decide +kernel
theorem dX5_keep_116 : decode (cr_by Y_X5_keep) 116 = .ok (.iaload, 1) := by decide +kernel
theorem dX5_keep_117 : decode (cr_by Y_X5_keep) 117 = .ok (.iastore, 1) := by decide +kernel
theorem dX5_keep_118 : decode (cr_by Y_X5_keep) 118 = .ok (.aload_n 0, 1) := by decide +kernel
theorem dX5_keep_119 : decode (cr_by Y_X5_keep) 119 = .ok (.getfield 105, 3) := by decide +kernel
theorem dX5_keep_122 : decode (cr_by Y_X5_keep) 122 = .ok (.iload_n 1, 1) := by decide +kernel
theorem dX5_keep_123 : decode (cr_by Y_X5_keep) 123 = .ok (.aload_n 0, 1) := by decide +kernel
theorem dX5_keep_124 : decode (cr_by Y_X5_keep) 124 = .ok (.getfield 62, 3) := by decide +kernel
theorem dX5_keep_127 : decode (cr_by Y_X5_keep) 127 = .ok (.iload_n 1, 1) := by decide +kernel
theorem dX5_keep_128 : decode (cr_by Y_X5_keep) 128 = .ok (.iaload, 1) := by decide +kernel
theorem dX5_keep_129 : decode (cr_by Y_X5_keep) 129 = .ok (.iastore, 1) := by decide +kernel
theorem dX5_keep_130 : decode (cr_by Y_X5_keep) 130 = .ok (.aload_n 0, 1) := by decide +kernel
theorem dX5_keep_131 : decode (cr_by Y_X5_keep) 131 = .ok (.getfield 108, 3) := by decide +kernel
theorem dX5_keep_134 : decode (cr_by Y_X5_keep) 134 = .ok (.iload_n 1, 1) := by decide +kernel
theorem dX5_keep_135 : decode (cr_by Y_X5_keep) 135 = .ok (.aload_n 0, 1) := by decide +kernel
theorem dX5_keep_136 : decode (cr_by Y_X5_keep) 136 = .ok (.getfield 65, 3) := by decide +kernel
theorem dX5_keep_139 : decode (cr_by Y_X5_keep) 139 = .ok (.iload_n 1, 1) := by decide +kernel
theorem dX5_keep_140 : decode (cr_by Y_X5_keep) 140 = .ok (.iaload, 1) := by decide +kernel
theorem dX5_keep_141 : decode (cr_by Y_X5_keep) 141 = .ok (.iastore, 1) := by decide +kernel
theorem dX5_keep_142 : decode (cr_by Y_X5_keep) 142 = .ok (.aload_n 0, 1) := by decide +kernel
theorem dX5_keep_143 : decode (cr_by Y_X5_keep) 143 = .ok (.getfield 111, 3) := by decide +kernel
theorem dX5_keep_146 : decode (cr_by Y_X5_keep) 146 = .ok (.iload_n 1, 1) := by decide +kernel
theorem dX5_keep_147 : decode (cr_by Y_X5_keep) 147 = .ok (.aload_n 0, 1) := by decide +kernel
theorem dX5_keep_148 : decode (cr_by Y_X5_keep) 148 = .ok (.getfield 68, 3) := by decide +kernel
theorem dX5_keep_151 : decode (cr_by Y_X5_keep) 151 = .ok (.iload_n 1, 1) := by decide +kernel
theorem dX5_keep_152 : decode (cr_by Y_X5_keep) 152 = .ok (.iaload, 1) := by decide +kernel
theorem dX5_keep_153 : decode (cr_by Y_X5_keep) 153 = .ok (.iastore, 1) := by decide +kernel
theorem dX5_keep_154 : decode (cr_by Y_X5_keep) 154 = .ok (.aload_n 0, 1) := by decide +kernel
theorem dX5_keep_155 : decode (cr_by Y_X5_keep) 155 = .ok (.getfield 114, 3) := by decide +kernel
theorem dX5_keep_158 : decode (cr_by Y_X5_keep) 158 = .ok (.iload_n 1, 1) := by decide +kernel
theorem dX5_keep_159 : decode (cr_by Y_X5_keep) 159 = .ok (.aload_n 0, 1) := by decide +kernel
theorem dX5_keep_160 : decode (cr_by Y_X5_keep) 160 = .ok (.getfield 71, 3) := by decide +kernel
theorem dX5_keep_163 : decode (cr_by Y_X5_keep) 163 = .ok (.iload_n 1, 1) := by decide +kernel
theorem dX5_keep_164 : decode (cr_by Y_X5_keep) 164 = .ok (.iaload, 1) := by decide +kernel
theorem dX5_keep_165 : decode (cr_by Y_X5_keep) 165 = .ok (.iastore, 1) := by decide +kernel
theorem dX5_keep_166 : decode (cr_by Y_X5_keep) 166 = .ok (.aload_n 0, 1) := by decide +kernel
theorem dX5_keep_167 : decode (cr_by Y_X5_keep) 167 = .ok (.getfield 117, 3) := by decide +kernel
theorem dX5_keep_170 : decode (cr_by Y_X5_keep) 170 = .ok (.iload_n 1, 1) := by decide +kernel
theorem dX5_keep_171 : decode (cr_by Y_X5_keep) 171 = .ok (.aload_n 0, 1) := by decide +kernel
theorem dX5_keep_172 : decode (cr_by Y_X5_keep) 172 = .ok (.getfield 74, 3) := by decide +kernel
theorem dX5_keep_175 : decode (cr_by Y_X5_keep) 175 = .ok (.iload_n 1, 1) := by decide +kernel
theorem dX5_keep_176 : decode (cr_by Y_X5_keep) 176 = .ok (.iaload, 1) := by decide +kernel
theorem dX5_keep_177 : decode (cr_by Y_X5_keep) 177 = .ok (.iastore, 1) := by decide +kernel
theorem dX5_keep_178 : decode (cr_by Y_X5_keep) 178 = .ok (.iinc 1 1, 3) := by decide +kernel
theorem dX5_keep_181 : decode (cr_by Y_X5_keep) 181 = .ok (.goto (-83), 3) := by decide +kernel
theorem dX5_keep_184 : decode (cr_by Y_X5_keep) 184 = .ok (.return_, 1) := by decide +kernel
theorem dX5_putBack_0 : decode (cr_by Y_X5_putBack) 0 = .ok (.aload_n 0, 1) := by decide +kernel
theorem dX5_putBack_1 : decode (cr_by Y_X5_putBack) 1 = .ok (.aload_n 0, 1) := by decide +kernel
theorem dX5_putBack_2 : decode (cr_by Y_X5_putBack) 2 = .ok (.getfield 191, 3) := by decide +kernel
theorem dX5_putBack_5 : decode (cr_by Y_X5_putBack) 5 = .ok (.putfield 127, 3) := by decide +kernel
theorem dX5_putBack_8 : decode (cr_by Y_X5_putBack) 8 = .ok (.iconst 0, 1) := by decide +kernel
theorem dX5_putBack_9 : decode (cr_by Y_X5_putBack) 9 = .ok (.istore_n 1, 1) := by decide +kernel
theorem dX5_putBack_10 : decode (cr_by Y_X5_putBack) 10 = .ok (.iload_n 1, 1) := by decide +kernel
theorem dX5_putBack_11 : decode (cr_by Y_X5_putBack) 11 = .ok (.aload_n 0, 1) := by decide +kernel
theorem dX5_putBack_12 : decode (cr_by Y_X5_putBack) 12 = .ok (.getfield 124, 3) := by decide +kernel
theorem dX5_putBack_15 : decode (cr_by Y_X5_putBack) 15 = .ok (.if_icmp .ge 81, 3) := by decide +kernel
theorem dX5_putBack_18 : decode (cr_by Y_X5_putBack) 18 = .ok (.aload_n 0, 1) := by decide +kernel
theorem dX5_putBack_19 : decode (cr_by Y_X5_putBack) 19 = .ok (.getfield 26, 3) := by decide +kernel
theorem dX5_putBack_22 : decode (cr_by Y_X5_putBack) 22 = .ok (.iload_n 1, 1) := by decide +kernel
theorem dX5_putBack_23 : decode (cr_by Y_X5_putBack) 23 = .ok (.aload_n 0, 1) := by decide +kernel
theorem dX5_putBack_24 : decode (cr_by Y_X5_putBack) 24 = .ok (.getfield 90, 3) := by decide +kernel
theorem dX5_putBack_27 : decode (cr_by Y_X5_putBack) 27 = .ok (.iload_n 1, 1) := by decide +kernel
theorem dX5_putBack_28 : decode (cr_by Y_X5_putBack) 28 = .ok (.iaload, 1) := by decide +kernel
theorem dX5_putBack_29 : decode (cr_by Y_X5_putBack) 29 = .ok (.iastore, 1) := by decide +kernel
theorem dX5_putBack_30 : decode (cr_by Y_X5_putBack) 30 = .ok (.aload_n 0, 1) := by decide +kernel
theorem dX5_putBack_31 : decode (cr_by Y_X5_putBack) 31 = .ok (.getfield 29, 3) := by decide +kernel
theorem dX5_putBack_34 : decode (cr_by Y_X5_putBack) 34 = .ok (.iload_n 1, 1) := by decide +kernel
theorem dX5_putBack_35 : decode (cr_by Y_X5_putBack) 35 = .ok (.aload_n 0, 1) := by decide +kernel
theorem dX5_putBack_36 : decode (cr_by Y_X5_putBack) 36 = .ok (.getfield 93, 3) := by decide +kernel
theorem dX5_putBack_39 : decode (cr_by Y_X5_putBack) 39 = .ok (.iload_n 1, 1) := by decide +kernel
theorem dX5_putBack_40 : decode (cr_by Y_X5_putBack) 40 = .ok (.iaload, 1) := by decide +kernel
theorem dX5_putBack_41 : decode (cr_by Y_X5_putBack) 41 = .ok (.iastore, 1) := by decide +kernel
theorem dX5_putBack_42 : decode (cr_by Y_X5_putBack) 42 = .ok (.aload_n 0, 1) := by decide +kernel
theorem dX5_putBack_43 : decode (cr_by Y_X5_putBack) 43 = .ok (.getfield 35, 3) := by decide +kernel
theorem dX5_putBack_46 : decode (cr_by Y_X5_putBack) 46 = .ok (.iload_n 1, 1) := by decide +kernel
theorem dX5_putBack_47 : decode (cr_by Y_X5_putBack) 47 = .ok (.aload_n 0, 1) := by decide +kernel
theorem dX5_putBack_48 : decode (cr_by Y_X5_putBack) 48 = .ok (.getfield 96, 3) := by decide +kernel
theorem dX5_putBack_51 : decode (cr_by Y_X5_putBack) 51 = .ok (.iload_n 1, 1) := by decide +kernel
theorem dX5_putBack_52 : decode (cr_by Y_X5_putBack) 52 = .ok (.iaload, 1) := by decide +kernel
theorem dX5_putBack_53 : decode (cr_by Y_X5_putBack) 53 = .ok (.iastore, 1) := by decide +kernel
theorem dX5_putBack_54 : decode (cr_by Y_X5_putBack) 54 = .ok (.aload_n 0, 1) := by decide +kernel
theorem dX5_putBack_55 : decode (cr_by Y_X5_putBack) 55 = .ok (.getfield 38, 3) := by decide +kernel
theorem dX5_putBack_58 : decode (cr_by Y_X5_putBack) 58 = .ok (.iload_n 1, 1) := by decide +kernel
theorem dX5_putBack_59 : decode (cr_by Y_X5_putBack) 59 = .ok (.aload_n 0, 1) := by decide +kernel
theorem dX5_putBack_60 : decode (cr_by Y_X5_putBack) 60 = .ok (.getfield 99, 3) := by decide +kernel
theorem dX5_putBack_63 : decode (cr_by Y_X5_putBack) 63 = .ok (.iload_n 1, 1) := by decide +kernel
theorem dX5_putBack_64 : decode (cr_by Y_X5_putBack) 64 = .ok (.iaload, 1) := by decide +kernel
theorem dX5_putBack_65 : decode (cr_by Y_X5_putBack) 65 = .ok (.iastore, 1) := by decide +kernel
theorem dX5_putBack_66 : decode (cr_by Y_X5_putBack) 66 = .ok (.aload_n 0, 1) := by decide +kernel
theorem dX5_putBack_67 : decode (cr_by Y_X5_putBack) 67 = .ok (.getfield 77, 3) := by decide +kernel
theorem dX5_putBack_70 : decode (cr_by Y_X5_putBack) 70 = .ok (.iload_n 1, 1) := by decide +kernel
theorem dX5_putBack_71 : decode (cr_by Y_X5_putBack) 71 = .ok (.aload_n 0, 1) := by decide +kernel
theorem dX5_putBack_72 : decode (cr_by Y_X5_putBack) 72 = .ok (.getfield 80, 3) := by decide +kernel
theorem dX5_putBack_75 : decode (cr_by Y_X5_putBack) 75 = .ok (.iload_n 1, 1) := by decide +kernel
theorem dX5_putBack_76 : decode (cr_by Y_X5_putBack) 76 = .ok (.iaload, 1) := by decide +kernel
theorem dX5_putBack_77 : decode (cr_by Y_X5_putBack) 77 = .ok (.iastore, 1) := by decide +kernel
theorem dX5_putBack_78 : decode (cr_by Y_X5_putBack) 78 = .ok (.aload_n 0, 1) := by decide +kernel
theorem dX5_putBack_79 : decode (cr_by Y_X5_putBack) 79 = .ok (.getfield 83, 3) := by decide +kernel
theorem dX5_putBack_82 : decode (cr_by Y_X5_putBack) 82 = .ok (.iload_n 1, 1) := by decide +kernel
theorem dX5_putBack_83 : decode (cr_by Y_X5_putBack) 83 = .ok (.aload_n 0, 1) := by decide +kernel
theorem dX5_putBack_84 : decode (cr_by Y_X5_putBack) 84 = .ok (.getfield 87, 3) := by decide +kernel
theorem dX5_putBack_87 : decode (cr_by Y_X5_putBack) 87 = .ok (.iload_n 1, 1) := by decide +kernel
theorem dX5_putBack_88 : decode (cr_by Y_X5_putBack) 88 = .ok (.baload, 1) := by decide +kernel
theorem dX5_putBack_89 : decode (cr_by Y_X5_putBack) 89 = .ok (.bastore, 1) := by decide +kernel
theorem dX5_putBack_90 : decode (cr_by Y_X5_putBack) 90 = .ok (.iinc 1 1, 3) := by decide +kernel
theorem dX5_putBack_93 : decode (cr_by Y_X5_putBack) 93 = .ok (.goto (-83), 3) := by decide +kernel
theorem dX5_putBack_96 : decode (cr_by Y_X5_putBack) 96 = .ok (.iconst 0, 1) := by decide +kernel
theorem dX5_putBack_97 : decode (cr_by Y_X5_putBack) 97 = .ok (.istore_n 1, 1) := by decide +kernel
theorem dX5_putBack_98 : decode (cr_by Y_X5_putBack) 98 = .ok (.iload_n 1, 1) := by decide +kernel
theorem dX5_putBack_99 : decode (cr_by Y_X5_putBack) 99 = .ok (.aload_n 0, 1) := by decide +kernel
theorem dX5_putBack_100 : decode (cr_by Y_X5_putBack) 100 = .ok (.getfield 142, 3) := by decide +kernel
theorem dX5_putBack_103 : decode (cr_by Y_X5_putBack) 103 = .ok (.if_icmp .ge 81, 3) := by decide +kernel
theorem dX5_putBack_106 : decode (cr_by Y_X5_putBack) 106 = .ok (.aload_n 0, 1) := by decide +kernel
theorem dX5_putBack_107 : decode (cr_by Y_X5_putBack) 107 = .ok (.getfield 59, 3) := by decide +kernel
theorem dX5_putBack_110 : decode (cr_by Y_X5_putBack) 110 = .ok (.iload_n 1, 1) := by decide +kernel
theorem dX5_putBack_111 : decode (cr_by Y_X5_putBack) 111 = .ok (.aload_n 0, 1) := by decide +kernel
theorem dX5_putBack_112 : decode (cr_by Y_X5_putBack) 112 = .ok (.getfield 102, 3) := by decide +kernel
theorem dX5_putBack_115 : decode (cr_by Y_X5_putBack) 115 = .ok (.iload_n 1, 1) := by decide +kernel
theorem dX5_putBack_116 : decode (cr_by Y_X5_putBack) 116 = .ok (.iaload, 1) := by decide +kernel
theorem dX5_putBack_117 : decode (cr_by Y_X5_putBack) 117 = .ok (.iastore, 1) := by decide +kernel
theorem dX5_putBack_118 : decode (cr_by Y_X5_putBack) 118 = .ok (.aload_n 0, 1) := by decide +kernel
theorem dX5_putBack_119 : decode (cr_by Y_X5_putBack) 119 = .ok (.getfield 62, 3) := by decide +kernel
theorem dX5_putBack_122 : decode (cr_by Y_X5_putBack) 122 = .ok (.iload_n 1, 1) := by decide +kernel
theorem dX5_putBack_123 : decode (cr_by Y_X5_putBack) 123 = .ok (.aload_n 0, 1) := by decide +kernel
theorem dX5_putBack_124 : decode (cr_by Y_X5_putBack) 124 = .ok (.getfield 105, 3) := by decide +kernel
theorem dX5_putBack_127 : decode (cr_by Y_X5_putBack) 127 = .ok (.iload_n 1, 1) := by decide +kernel
theorem dX5_putBack_128 : decode (cr_by Y_X5_putBack) 128 = .ok (.iaload, 1) := by decide +kernel
theorem dX5_putBack_129 : decode (cr_by Y_X5_putBack) 129 = .ok (.iastore, 1) := by decide +kernel
theorem dX5_putBack_130 : decode (cr_by Y_X5_putBack) 130 = .ok (.aload_n 0, 1) := by decide +kernel
theorem dX5_putBack_131 : decode (cr_by Y_X5_putBack) 131 = .ok (.getfield 65, 3) := by decide +kernel
theorem dX5_putBack_134 : decode (cr_by Y_X5_putBack) 134 = .ok (.iload_n 1, 1) := by decide +kernel
theorem dX5_putBack_135 : decode (cr_by Y_X5_putBack) 135 = .ok (.aload_n 0, 1) := by decide +kernel
theorem dX5_putBack_136 : decode (cr_by Y_X5_putBack) 136 = .ok (.getfield 108, 3) := by decide +kernel
theorem dX5_putBack_139 : decode (cr_by Y_X5_putBack) 139 = .ok (.iload_n 1, 1) := by decide +kernel
theorem dX5_putBack_140 : decode (cr_by Y_X5_putBack) 140 = .ok (.iaload, 1) := by decide +kernel
theorem dX5_putBack_141 : decode (cr_by Y_X5_putBack) 141 = .ok (.iastore, 1) := by decide +kernel
theorem dX5_putBack_142 : decode (cr_by Y_X5_putBack) 142 = .ok (.aload_n 0, 1) := by decide +kernel
theorem dX5_putBack_143 : decode (cr_by Y_X5_putBack) 143 = .ok (.getfield 68, 3) := by decide +kernel
theorem dX5_putBack_146 : decode (cr_by Y_X5_putBack) 146 = .ok (.iload_n 1, 1) := by decide +kernel
theorem dX5_putBack_147 : decode (cr_by Y_X5_putBack) 147 = .ok (.aload_n 0, 1) := by decide +kernel
theorem dX5_putBack_148 : decode (cr_by Y_X5_putBack) 148 = .ok (.getfield 111, 3) := by decide +kernel
theorem dX5_putBack_151 : decode (cr_by Y_X5_putBack) 151 = .ok (.iload_n 1, 1) := by decide +kernel
theorem dX5_putBack_152 : decode (cr_by Y_X5_putBack) 152 = .ok (.iaload, 1) := by decide +kernel
theorem dX5_putBack_153 : decode (cr_by Y_X5_putBack) 153 = .ok (.iastore, 1) := by decide +kernel
theorem dX5_putBack_154 : decode (cr_by Y_X5_putBack) 154 = .ok (.aload_n 0, 1) := by decide +kernel
theorem dX5_putBack_155 : decode (cr_by Y_X5_putBack) 155 = .ok (.getfield 71, 3) := by decide +kernel
theorem dX5_putBack_158 : decode (cr_by Y_X5_putBack) 158 = .ok (.iload_n 1, 1) := by decide +kernel
theorem dX5_putBack_159 : decode (cr_by Y_X5_putBack) 159 = .ok (.aload_n 0, 1) := by decide +kernel
theorem dX5_putBack_160 : decode (cr_by Y_X5_putBack) 160 = .ok (.getfield 114, 3) := by decide +kernel
theorem dX5_putBack_163 : decode (cr_by Y_X5_putBack) 163 = .ok (.iload_n 1, 1) := by decide +kernel
theorem dX5_putBack_164 : decode (cr_by Y_X5_putBack) 164 = .ok (.iaload, 1) := by decide +kernel
theorem dX5_putBack_165 : decode (cr_by Y_X5_putBack) 165 = .ok (.iastore, 1) := by decide +kernel
theorem dX5_putBack_166 : decode (cr_by Y_X5_putBack) 166 = .ok (.aload_n 0, 1) := by decide +kernel
theorem dX5_putBack_167 : decode (cr_by Y_X5_putBack) 167 = .ok (.getfield 74, 3) := by decide +kernel
theorem dX5_putBack_170 : decode (cr_by Y_X5_putBack) 170 = .ok (.iload_n 1, 1) := by decide +kernel
theorem dX5_putBack_171 : decode (cr_by Y_X5_putBack) 171 = .ok (.aload_n 0, 1) := by decide +kernel
theorem dX5_putBack_172 : decode (cr_by Y_X5_putBack) 172 = .ok (.getfield 117, 3) := by decide +kernel
theorem dX5_putBack_175 : decode (cr_by Y_X5_putBack) 175 = .ok (.iload_n 1, 1) := by decide +kernel
theorem dX5_putBack_176 : decode (cr_by Y_X5_putBack) 176 = .ok (.iaload, 1) := by decide +kernel
theorem dX5_putBack_177 : decode (cr_by Y_X5_putBack) 177 = .ok (.iastore, 1) := by decide +kernel
theorem dX5_putBack_178 : decode (cr_by Y_X5_putBack) 178 = .ok (.iinc 1 1, 3) := by decide +kernel
theorem dX5_putBack_181 : decode (cr_by Y_X5_putBack) 181 = .ok (.goto (-83), 3) := by decide +kernel
theorem dX5_putBack_184 : decode (cr_by Y_X5_putBack) 184 = .ok (.return_, 1) := by decide +kernel
theorem dX5_wait_0 : decode (cr_by Y_X5_wait) 0 = .ok (.iload_n 1, 1) := by decide +kernel
theorem dX5_wait_1 : decode (cr_by Y_X5_wait) 1 = .ok (.aload_n 0, 1) := by decide +kernel
theorem dX5_wait_2 : decode (cr_by Y_X5_wait) 2 = .ok (.getfield 142, 3) := by decide +kernel
theorem dX5_wait_5 : decode (cr_by Y_X5_wait) 5 = .ok (.invokestatic 130, 3) := by decide +kernel
theorem dX5_wait_8 : decode (cr_by Y_X5_wait) 8 = .ok (.ifCond .ne 9, 3) := by decide +kernel
theorem dX5_wait_11 : decode (cr_by Y_X5_wait) 11 = .ok (.aload_n 0, 1) := by decide +kernel
theorem dX5_wait_12 : decode (cr_by Y_X5_wait) 12 = .ok (.iconst (-1), 1) := by decide +kernel
theorem dX5_wait_13 : decode (cr_by Y_X5_wait) 13 = .ok (.invokevirtual 120, 3) := by decide +kernel
theorem dX5_wait_16 : decode (cr_by Y_X5_wait) 16 = .ok (.ireturn, 1) := by decide +kernel
theorem dX5_wait_17 : decode (cr_by Y_X5_wait) 17 = .ok (.aload_n 0, 1) := by decide +kernel
theorem dX5_wait_18 : decode (cr_by Y_X5_wait) 18 = .ok (.getfield 59, 3) := by decide +kernel
theorem dX5_wait_21 : decode (cr_by Y_X5_wait) 21 = .ok (.iload_n 1, 1) := by decide +kernel
theorem dX5_wait_22 : decode (cr_by Y_X5_wait) 22 = .ok (.iaload, 1) := by decide +kernel
theorem dX5_wait_23 : decode (cr_by Y_X5_wait) 23 = .ok (.ifCond .eq 10, 3) := by decide +kernel
theorem dX5_wait_26 : decode (cr_by Y_X5_wait) 26 = .ok (.aload_n 0, 1) := by decide +kernel
theorem dX5_wait_27 : decode (cr_by Y_X5_wait) 27 = .ok (.bipush (-2), 2) := by decide +kernel
theorem dX5_wait_29 : decode (cr_by Y_X5_wait) 29 = .ok (.invokevirtual 120, 3) := by decide +kernel
theorem dX5_wait_32 : decode (cr_by Y_X5_wait) 32 = .ok (.ireturn, 1) := by decide +kernel
theorem dX5_wait_33 : decode (cr_by Y_X5_wait) 33 = .ok (.aload_n 0, 1) := by decide +kernel
theorem dX5_wait_34 : decode (cr_by Y_X5_wait) 34 = .ok (.invokevirtual 194, 3) := by decide +kernel
theorem dX5_wait_37 : decode (cr_by Y_X5_wait) 37 = .ok (.iconst 0, 1) := by decide +kernel
theorem dX5_wait_38 : decode (cr_by Y_X5_wait) 38 = .ok (.istore_n 2, 1) := by decide +kernel
theorem dX5_wait_39 : decode (cr_by Y_X5_wait) 39 = .ok (.iload_n 2, 1) := by decide +kernel
theorem dX5_wait_40 : decode (cr_by Y_X5_wait) 40 = .ok (.sipush 1000, 3) := by decide +kernel
theorem dX5_wait_43 : decode (cr_by Y_X5_wait) 43 = .ok (.if_icmp .ge 23, 3) := by decide +kernel
theorem dX5_wait_46 : decode (cr_by Y_X5_wait) 46 = .ok (.aload_n 0, 1) := by decide +kernel
theorem dX5_wait_47 : decode (cr_by Y_X5_wait) 47 = .ok (.getfield 59, 3) := by decide +kernel
theorem dX5_wait_50 : decode (cr_by Y_X5_wait) 50 = .ok (.iload_n 1, 1) := by decide +kernel
theorem dX5_wait_51 : decode (cr_by Y_X5_wait) 51 = .ok (.iaload, 1) := by decide +kernel
theorem dX5_wait_52 : decode (cr_by Y_X5_wait) 52 = .ok (.ifCond .ne 14, 3) := by decide +kernel
theorem dX5_wait_55 : decode (cr_by Y_X5_wait) 55 = .ok (.aload_n 0, 1) := by decide +kernel
theorem dX5_wait_56 : decode (cr_by Y_X5_wait) 56 = .ok (.invokevirtual 188, 3) := by decide +kernel
theorem dX5_wait_59 : decode (cr_by Y_X5_wait) 59 = .ok (.istore_n 3, 1) := by decide +kernel
theorem dX5_wait_60 : decode (cr_by Y_X5_wait) 60 = .ok (.iinc 2 1, 3) := by decide +kernel
theorem dX5_wait_63 : decode (cr_by Y_X5_wait) 63 = .ok (.goto (-24), 3) := by decide +kernel
theorem dX5_wait_66 : decode (cr_by Y_X5_wait) 66 = .ok (.aload_n 0, 1) := by decide +kernel
theorem dX5_wait_67 : decode (cr_by Y_X5_wait) 67 = .ok (.getfield 59, 3) := by decide +kernel
theorem dX5_wait_70 : decode (cr_by Y_X5_wait) 70 = .ok (.iload_n 1, 1) := by decide +kernel
theorem dX5_wait_71 : decode (cr_by Y_X5_wait) 71 = .ok (.iaload, 1) := by decide +kernel
theorem dX5_wait_72 : decode (cr_by Y_X5_wait) 72 = .ok (.iconst 1, 1) := by decide +kernel
theorem dX5_wait_73 : decode (cr_by Y_X5_wait) 73 = .ok (.if_icmp .ne 7, 3) := by decide +kernel
theorem dX5_wait_76 : decode (cr_by Y_X5_wait) 76 = .ok (.iload_n 2, 1) := by decide +kernel
theorem dX5_wait_77 : decode (cr_by Y_X5_wait) 77 = .ok (.goto 20, 3) := by decide +kernel
theorem dX5_wait_80 : decode (cr_by Y_X5_wait) 80 = .ok (.aload_n 0, 1) := by decide +kernel
theorem dX5_wait_81 : decode (cr_by Y_X5_wait) 81 = .ok (.getfield 59, 3) := by decide +kernel
theorem dX5_wait_84 : decode (cr_by Y_X5_wait) 84 = .ok (.iload_n 1, 1) := by decide +kernel
theorem dX5_wait_85 : decode (cr_by Y_X5_wait) 85 = .ok (.iaload, 1) := by decide +kernel
theorem dX5_wait_86 : decode (cr_by Y_X5_wait) 86 = .ok (.iconst 3, 1) := by decide +kernel
theorem dX5_wait_87 : decode (cr_by Y_X5_wait) 87 = .ok (.if_icmp .ne 8, 3) := by decide +kernel
theorem dX5_wait_90 : decode (cr_by Y_X5_wait) 90 = .ok (.bipush (-8), 2) := by decide +kernel
theorem dX5_wait_92 : decode (cr_by Y_X5_wait) 92 = .ok (.goto 5, 3) := by decide +kernel
theorem dX5_wait_95 : decode (cr_by Y_X5_wait) 95 = .ok (.bipush (-9), 2) := by decide +kernel
theorem dX5_wait_97 : decode (cr_by Y_X5_wait) 97 = .ok (.istore_n 3, 1) := by decide +kernel
theorem dX5_wait_98 : decode (cr_by Y_X5_wait) 98 = .ok (.aload_n 0, 1) := by decide +kernel
theorem dX5_wait_99 : decode (cr_by Y_X5_wait) 99 = .ok (.invokevirtual 197, 3) := by decide +kernel
theorem dX5_wait_102 : decode (cr_by Y_X5_wait) 102 = .ok (.iload_n 3, 1) := by decide +kernel
theorem dX5_wait_103 : decode (cr_by Y_X5_wait) 103 = .ok (.ireturn, 1) := by decide +kernel
theorem dX5_whoOf_0 : decode (cr_by Y_X5_whoOf) 0 = .ok (.aload_n 0, 1) := by decide +kernel
theorem dX5_whoOf_1 : decode (cr_by Y_X5_whoOf) 1 = .ok (.invokevirtual 194, 3) := by decide +kernel
theorem dX5_whoOf_4 : decode (cr_by Y_X5_whoOf) 4 = .ok (.aload_n 0, 1) := by decide +kernel
theorem dX5_whoOf_5 : decode (cr_by Y_X5_whoOf) 5 = .ok (.invokevirtual 185, 3) := by decide +kernel
theorem dX5_whoOf_8 : decode (cr_by Y_X5_whoOf) 8 = .ok (.aload_n 0, 1) := by decide +kernel
theorem dX5_whoOf_9 : decode (cr_by Y_X5_whoOf) 9 = .ok (.getfield 65, 3) := by decide +kernel
theorem dX5_whoOf_12 : decode (cr_by Y_X5_whoOf) 12 = .ok (.iload_n 1, 1) := by decide +kernel
theorem dX5_whoOf_13 : decode (cr_by Y_X5_whoOf) 13 = .ok (.iaload, 1) := by decide +kernel
theorem dX5_whoOf_14 : decode (cr_by Y_X5_whoOf) 14 = .ok (.istore_n 2, 1) := by decide +kernel
theorem dX5_whoOf_15 : decode (cr_by Y_X5_whoOf) 15 = .ok (.aload_n 0, 1) := by decide +kernel
theorem dX5_whoOf_16 : decode (cr_by Y_X5_whoOf) 16 = .ok (.invokevirtual 197, 3) := by decide +kernel
theorem dX5_whoOf_19 : decode (cr_by Y_X5_whoOf) 19 = .ok (.iload_n 2, 1) := by decide +kernel
theorem dX5_whoOf_20 : decode (cr_by Y_X5_whoOf) 20 = .ok (.ireturn, 1) := by decide +kernel
theorem dX5_who_0 : decode (cr_by Y_X5_who) 0 = .ok (.iload_n 1, 1) := by decide +kernel
theorem dX5_who_1 : decode (cr_by Y_X5_who) 1 = .ok (.aload_n 0, 1) := by decide +kernel
theorem dX5_who_2 : decode (cr_by Y_X5_who) 2 = .ok (.getfield 142, 3) := by decide +kernel
theorem dX5_who_5 : decode (cr_by Y_X5_who) 5 = .ok (.invokestatic 130, 3) := by decide +kernel
theorem dX5_who_8 : decode (cr_by Y_X5_who) 8 = .ok (.ifCond .ne 9, 3) := by decide +kernel
theorem dX5_who_11 : decode (cr_by Y_X5_who) 11 = .ok (.aload_n 0, 1) := by decide +kernel
theorem dX5_who_12 : decode (cr_by Y_X5_who) 12 = .ok (.iconst (-1), 1) := by decide +kernel
theorem dX5_who_13 : decode (cr_by Y_X5_who) 13 = .ok (.invokevirtual 120, 3) := by decide +kernel
theorem dX5_who_16 : decode (cr_by Y_X5_who) 16 = .ok (.ireturn, 1) := by decide +kernel
theorem dX5_who_17 : decode (cr_by Y_X5_who) 17 = .ok (.aload_n 0, 1) := by decide +kernel
theorem dX5_who_18 : decode (cr_by Y_X5_who) 18 = .ok (.getfield 59, 3) := by decide +kernel
theorem dX5_who_21 : decode (cr_by Y_X5_who) 21 = .ok (.iload_n 1, 1) := by decide +kernel
theorem dX5_who_22 : decode (cr_by Y_X5_who) 22 = .ok (.iaload, 1) := by decide +kernel
theorem dX5_who_23 : decode (cr_by Y_X5_who) 23 = .ok (.ifCond .ne 11, 3) := by decide +kernel
theorem dX5_who_26 : decode (cr_by Y_X5_who) 26 = .ok (.aload_n 0, 1) := by decide +kernel
theorem dX5_who_27 : decode (cr_by Y_X5_who) 27 = .ok (.iload_n 1, 1) := by decide +kernel
theorem dX5_who_28 : decode (cr_by Y_X5_who) 28 = .ok (.invokevirtual 200, 3) := by decide +kernel
theorem dX5_who_31 : decode (cr_by Y_X5_who) 31 = .ok (.goto 9, 3) := by decide +kernel
theorem dX5_who_34 : decode (cr_by Y_X5_who) 34 = .ok (.aload_n 0, 1) := by decide +kernel
theorem dX5_who_35 : decode (cr_by Y_X5_who) 35 = .ok (.bipush (-2), 2) := by decide +kernel
theorem dX5_who_37 : decode (cr_by Y_X5_who) 37 = .ok (.invokevirtual 120, 3) := by decide +kernel
theorem dX5_who_40 : decode (cr_by Y_X5_who) 40 = .ok (.ireturn, 1) := by decide +kernel
theorem dX5_why_0 : decode (cr_by Y_X5_why) 0 = .ok (.iload_n 1, 1) := by decide +kernel
theorem dX5_why_1 : decode (cr_by Y_X5_why) 1 = .ok (.aload_n 0, 1) := by decide +kernel
theorem dX5_why_2 : decode (cr_by Y_X5_why) 2 = .ok (.getfield 142, 3) := by decide +kernel
theorem dX5_why_5 : decode (cr_by Y_X5_why) 5 = .ok (.invokestatic 130, 3) := by decide +kernel
theorem dX5_why_8 : decode (cr_by Y_X5_why) 8 = .ok (.ifCond .ne 9, 3) := by decide +kernel
theorem dX5_why_11 : decode (cr_by Y_X5_why) 11 = .ok (.aload_n 0, 1) := by decide +kernel
theorem dX5_why_12 : decode (cr_by Y_X5_why) 12 = .ok (.iconst (-1), 1) := by decide +kernel
theorem dX5_why_13 : decode (cr_by Y_X5_why) 13 = .ok (.invokevirtual 120, 3) := by decide +kernel
theorem dX5_why_16 : decode (cr_by Y_X5_why) 16 = .ok (.ireturn, 1) := by decide +kernel
theorem dX5_why_17 : decode (cr_by Y_X5_why) 17 = .ok (.aload_n 0, 1) := by decide +kernel
theorem dX5_why_18 : decode (cr_by Y_X5_why) 18 = .ok (.getfield 59, 3) := by decide +kernel
theorem dX5_why_21 : decode (cr_by Y_X5_why) 21 = .ok (.iload_n 1, 1) := by decide +kernel
theorem dX5_why_22 : decode (cr_by Y_X5_why) 22 = .ok (.iaload, 1) := by decide +kernel
theorem dX5_why_23 : decode (cr_by Y_X5_why) 23 = .ok (.ifCond .eq 10, 3) := by decide +kernel
theorem dX5_why_26 : decode (cr_by Y_X5_why) 26 = .ok (.aload_n 0, 1) := by decide +kernel
theorem dX5_why_27 : decode (cr_by Y_X5_why) 27 = .ok (.bipush (-2), 2) := by decide +kernel
theorem dX5_why_29 : decode (cr_by Y_X5_why) 29 = .ok (.invokevirtual 120, 3) := by decide +kernel
theorem dX5_why_32 : decode (cr_by Y_X5_why) 32 = .ok (.ireturn, 1) := by decide +kernel
theorem dX5_why_33 : decode (cr_by Y_X5_why) 33 = .ok (.aload_n 0, 1) := by decide +kernel
theorem dX5_why_34 : decode (cr_by Y_X5_why) 34 = .ok (.iload_n 1, 1) := by decide +kernel
theorem dX5_why_35 : decode (cr_by Y_X5_why) 35 = .ok (.invokevirtual 200, 3) := by decide +kernel
theorem dX5_why_38 : decode (cr_by Y_X5_why) 38 = .ok (.ifCond .lt 5, 3) := by decide +kernel
theorem dX5_why_41 : decode (cr_by Y_X5_why) 41 = .ok (.iconst 0, 1) := by decide +kernel
theorem dX5_why_42 : decode (cr_by Y_X5_why) 42 = .ok (.ireturn, 1) := by decide +kernel
theorem dX5_why_43 : decode (cr_by Y_X5_why) 43 = .ok (.iconst 0, 1) := by decide +kernel
theorem dX5_why_44 : decode (cr_by Y_X5_why) 44 = .ok (.istore_n 2, 1) := by decide +kernel
theorem dX5_why_45 : decode (cr_by Y_X5_why) 45 = .ok (.iconst 0, 1) := by decide +kernel
theorem dX5_why_46 : decode (cr_by Y_X5_why) 46 = .ok (.istore_n 3, 1) := by decide +kernel
theorem dX5_why_47 : decode (cr_by Y_X5_why) 47 = .ok (.iconst 0, 1) := by decide +kernel
theorem dX5_why_48 : decode (cr_by Y_X5_why) 48 = .ok (.istore 4, 2) := by decide +kernel
theorem dX5_why_50 : decode (cr_by Y_X5_why) 50 = .ok (.iload 4, 2) := by decide +kernel
theorem dX5_why_52 : decode (cr_by Y_X5_why) 52 = .ok (.aload_n 0, 1) := by decide +kernel
theorem dX5_why_53 : decode (cr_by Y_X5_why) 53 = .ok (.getfield 124, 3) := by decide +kernel
theorem dX5_why_56 : decode (cr_by Y_X5_why) 56 = .ok (.if_icmp .ge 90, 3) := by decide +kernel
theorem dX5_why_59 : decode (cr_by Y_X5_why) 59 = .ok (.aload_n 0, 1) := by decide +kernel
theorem dX5_why_60 : decode (cr_by Y_X5_why) 60 = .ok (.getfield 26, 3) := by decide +kernel
theorem dX5_why_63 : decode (cr_by Y_X5_why) 63 = .ok (.iload 4, 2) := by decide +kernel
theorem dX5_why_65 : decode (cr_by Y_X5_why) 65 = .ok (.iaload, 1) := by decide +kernel
theorem dX5_why_66 : decode (cr_by Y_X5_why) 66 = .ok (.ifCond .eq 74, 3) := by decide +kernel
theorem dX5_why_69 : decode (cr_by Y_X5_why) 69 = .ok (.aload_n 0, 1) := by decide +kernel
theorem dX5_why_70 : decode (cr_by Y_X5_why) 70 = .ok (.iload 4, 2) := by decide +kernel
theorem dX5_why_72 : decode (cr_by Y_X5_why) 72 = .ok (.aload_n 0, 1) := by decide +kernel
theorem dX5_why_73 : decode (cr_by Y_X5_why) 73 = .ok (.getfield 44, 3) := by decide +kernel
theorem dX5_why_76 : decode (cr_by Y_X5_why) 76 = .ok (.iload_n 1, 1) := by decide +kernel
theorem dX5_why_77 : decode (cr_by Y_X5_why) 77 = .ok (.iaload, 1) := by decide +kernel
theorem dX5_why_78 : decode (cr_by Y_X5_why) 78 = .ok (.invokevirtual 134, 3) := by decide +kernel
theorem dX5_why_81 : decode (cr_by Y_X5_why) 81 = .ok (.ifCond .ne 6, 3) := by decide +kernel
theorem dX5_why_84 : decode (cr_by Y_X5_why) 84 = .ok (.goto 56, 3) := by decide +kernel
theorem dX5_why_87 : decode (cr_by Y_X5_why) 87 = .ok (.iconst 1, 1) := by decide +kernel
theorem dX5_why_88 : decode (cr_by Y_X5_why) 88 = .ok (.istore_n 2, 1) := by decide +kernel
theorem dX5_why_89 : decode (cr_by Y_X5_why) 89 = .ok (.iload_n 3, 1) := by decide +kernel
theorem dX5_why_90 : decode (cr_by Y_X5_why) 90 = .ok (.ifCond .ne 44, 3) := by decide +kernel
theorem dX5_why_93 : decode (cr_by Y_X5_why) 93 = .ok (.aload_n 0, 1) := by decide +kernel
theorem dX5_why_94 : decode (cr_by Y_X5_why) 94 = .ok (.getfield 26, 3) := by decide +kernel
theorem dX5_why_97 : decode (cr_by Y_X5_why) 97 = .ok (.iload 4, 2) := by decide +kernel
theorem dX5_why_99 : decode (cr_by Y_X5_why) 99 = .ok (.iaload, 1) := by decide +kernel
theorem dX5_why_100 : decode (cr_by Y_X5_why) 100 = .ok (.iconst 1, 1) := by decide +kernel
theorem dX5_why_101 : decode (cr_by Y_X5_why) 101 = .ok (.if_icmp .eq 33, 3) := by decide +kernel
theorem dX5_why_104 : decode (cr_by Y_X5_why) 104 = .ok (.aload_n 0, 1) := by decide +kernel
theorem dX5_why_105 : decode (cr_by Y_X5_why) 105 = .ok (.getfield 26, 3) := by decide +kernel
theorem dX5_why_108 : decode (cr_by Y_X5_why) 108 = .ok (.iload 4, 2) := by decide +kernel
theorem dX5_why_110 : decode (cr_by Y_X5_why) 110 = .ok (.iaload, 1) := by decide +kernel
theorem dX5_why_111 : decode (cr_by Y_X5_why) 111 = .ok (.iconst 2, 1) := by decide +kernel
theorem dX5_why_112 : decode (cr_by Y_X5_why) 112 = .ok (.if_icmp .ne 26, 3) := by decide +kernel
theorem dX5_why_115 : decode (cr_by Y_X5_why) 115 = .ok (.aload_n 0, 1) := by decide +kernel
theorem dX5_why_116 : decode (cr_by Y_X5_why) 116 = .ok (.getfield 41, 3) := by decide +kernel
theorem dX5_why_119 : decode (cr_by Y_X5_why) 119 = .ok (.iload_n 1, 1) := by decide +kernel
theorem dX5_why_120 : decode (cr_by Y_X5_why) 120 = .ok (.iaload, 1) := by decide +kernel
theorem dX5_why_121 : decode (cr_by Y_X5_why) 121 = .ok (.iconst 3, 1) := by decide +kernel
theorem dX5_why_122 : decode (cr_by Y_X5_why) 122 = .ok (.if_icmp .ne 16, 3) := by decide +kernel
theorem dX5_why_125 : decode (cr_by Y_X5_why) 125 = .ok (.aload_n 0, 1) := by decide +kernel
theorem dX5_why_126 : decode (cr_by Y_X5_why) 126 = .ok (.iload 4, 2) := by decide +kernel
theorem dX5_why_128 : decode (cr_by Y_X5_why) 128 = .ok (.invokevirtual 152, 3) := by decide +kernel
theorem dX5_why_131 : decode (cr_by Y_X5_why) 131 = .ok (.ifCond .eq 7, 3) := by decide +kernel
theorem dX5_why_134 : decode (cr_by Y_X5_why) 134 = .ok (.iconst 1, 1) := by decide +kernel
theorem dX5_why_135 : decode (cr_by Y_X5_why) 135 = .ok (.goto 4, 3) := by decide +kernel
theorem dX5_why_138 : decode (cr_by Y_X5_why) 138 = .ok (.iconst 0, 1) := by decide +kernel
theorem dX5_why_139 : decode (cr_by Y_X5_why) 139 = .ok (.istore_n 3, 1) := by decide +kernel
theorem dX5_why_140 : decode (cr_by Y_X5_why) 140 = .ok (.iinc 4 1, 3) := by decide +kernel
theorem dX5_why_143 : decode (cr_by Y_X5_why) 143 = .ok (.goto (-93), 3) := by decide +kernel
theorem dX5_why_146 : decode (cr_by Y_X5_why) 146 = .ok (.iload_n 2, 1) := by decide +kernel
theorem dX5_why_147 : decode (cr_by Y_X5_why) 147 = .ok (.ifCond .ne 5, 3) := by decide +kernel
theorem dX5_why_150 : decode (cr_by Y_X5_why) 150 = .ok (.iconst 1, 1) := by decide +kernel
theorem dX5_why_151 : decode (cr_by Y_X5_why) 151 = .ok (.ireturn, 1) := by decide +kernel
theorem dX5_why_152 : decode (cr_by Y_X5_why) 152 = .ok (.iload_n 3, 1) := by decide +kernel
theorem dX5_why_153 : decode (cr_by Y_X5_why) 153 = .ok (.ifCond .ne 5, 3) := by decide +kernel
theorem dX5_why_156 : decode (cr_by Y_X5_why) 156 = .ok (.iconst 2, 1) := by decide +kernel
theorem dX5_why_157 : decode (cr_by Y_X5_why) 157 = .ok (.ireturn, 1) := by decide +kernel
theorem dX5_why_158 : decode (cr_by Y_X5_why) 158 = .ok (.aload_n 0, 1) := by decide +kernel
theorem dX5_why_159 : decode (cr_by Y_X5_why) 159 = .ok (.getfield 41, 3) := by decide +kernel
theorem dX5_why_162 : decode (cr_by Y_X5_why) 162 = .ok (.iload_n 1, 1) := by decide +kernel
theorem dX5_why_163 : decode (cr_by Y_X5_why) 163 = .ok (.iaload, 1) := by decide +kernel
theorem dX5_why_164 : decode (cr_by Y_X5_why) 164 = .ok (.iconst 1, 1) := by decide +kernel
theorem dX5_why_165 : decode (cr_by Y_X5_why) 165 = .ok (.if_icmp .ne 33, 3) := by decide +kernel
theorem dX5_why_168 : decode (cr_by Y_X5_why) 168 = .ok (.aload_n 0, 1) := by decide +kernel
theorem dX5_why_169 : decode (cr_by Y_X5_why) 169 = .ok (.iload_n 1, 1) := by decide +kernel
theorem dX5_why_170 : decode (cr_by Y_X5_why) 170 = .ok (.invokevirtual 156, 3) := by decide +kernel
theorem dX5_why_173 : decode (cr_by Y_X5_why) 173 = .ok (.aload_n 0, 1) := by decide +kernel
theorem dX5_why_174 : decode (cr_by Y_X5_why) 174 = .ok (.getfield 19, 3) := by decide +kernel
theorem dX5_why_177 : decode (cr_by Y_X5_why) 177 = .ok (.if_icmp .ge 21, 3) := by decide +kernel
theorem dX5_why_180 : decode (cr_by Y_X5_why) 180 = .ok (.aload_n 0, 1) := by decide +kernel
theorem dX5_why_181 : decode (cr_by Y_X5_why) 181 = .ok (.aload_n 0, 1) := by decide +kernel
theorem dX5_why_182 : decode (cr_by Y_X5_why) 182 = .ok (.getfield 56, 3) := by decide +kernel
theorem dX5_why_185 : decode (cr_by Y_X5_why) 185 = .ok (.iload_n 1, 1) := by decide +kernel
theorem dX5_why_186 : decode (cr_by Y_X5_why) 186 = .ok (.iaload, 1) := by decide +kernel
theorem dX5_why_187 : decode (cr_by Y_X5_why) 187 = .ok (.iload_n 1, 1) := by decide +kernel
theorem dX5_why_188 : decode (cr_by Y_X5_why) 188 = .ok (.invokevirtual 159, 3) := by decide +kernel
theorem dX5_why_191 : decode (cr_by Y_X5_why) 191 = .ok (.ifCond .ne 7, 3) := by decide +kernel
theorem dX5_why_194 : decode (cr_by Y_X5_why) 194 = .ok (.iconst 3, 1) := by decide +kernel
theorem dX5_why_195 : decode (cr_by Y_X5_why) 195 = .ok (.goto 4, 3) := by decide +kernel
theorem dX5_why_198 : decode (cr_by Y_X5_why) 198 = .ok (.iconst 4, 1) := by decide +kernel
theorem dX5_why_199 : decode (cr_by Y_X5_why) 199 = .ok (.ireturn, 1) := by decide +kernel
theorem dX5_within_0 : decode (cr_by Y_X5_within) 0 = .ok (.iload_n 1, 1) := by decide +kernel
theorem dX5_within_1 : decode (cr_by Y_X5_within) 1 = .ok (.ifCond .ge 10, 3) := by decide +kernel
theorem dX5_within_4 : decode (cr_by Y_X5_within) 4 = .ok (.aload_n 0, 1) := by decide +kernel
theorem dX5_within_5 : decode (cr_by Y_X5_within) 5 = .ok (.bipush (-4), 2) := by decide +kernel
theorem dX5_within_7 : decode (cr_by Y_X5_within) 7 = .ok (.invokevirtual 120, 3) := by decide +kernel
theorem dX5_within_10 : decode (cr_by Y_X5_within) 10 = .ok (.ireturn, 1) := by decide +kernel
theorem dX5_within_11 : decode (cr_by Y_X5_within) 11 = .ok (.iconst 0, 1) := by decide +kernel
theorem dX5_within_12 : decode (cr_by Y_X5_within) 12 = .ok (.istore_n 2, 1) := by decide +kernel
theorem dX5_within_13 : decode (cr_by Y_X5_within) 13 = .ok (.iconst 0, 1) := by decide +kernel
theorem dX5_within_14 : decode (cr_by Y_X5_within) 14 = .ok (.istore_n 3, 1) := by decide +kernel
theorem dX5_within_15 : decode (cr_by Y_X5_within) 15 = .ok (.iload_n 3, 1) := by decide +kernel
theorem dX5_within_16 : decode (cr_by Y_X5_within) 16 = .ok (.aload_n 0, 1) := by decide +kernel
theorem dX5_within_17 : decode (cr_by Y_X5_within) 17 = .ok (.getfield 142, 3) := by decide +kernel
theorem dX5_within_20 : decode (cr_by Y_X5_within) 20 = .ok (.if_icmp .ge 38, 3) := by decide +kernel
theorem dX5_within_23 : decode (cr_by Y_X5_within) 23 = .ok (.iload_n 2, 1) := by decide +kernel
theorem dX5_within_24 : decode (cr_by Y_X5_within) 24 = .ok (.aload_n 0, 1) := by decide +kernel
theorem dX5_within_25 : decode (cr_by Y_X5_within) 25 = .ok (.getfield 74, 3) := by decide +kernel
theorem dX5_within_28 : decode (cr_by Y_X5_within) 28 = .ok (.iload_n 3, 1) := by decide +kernel
theorem dX5_within_29 : decode (cr_by Y_X5_within) 29 = .ok (.iaload, 1) := by decide +kernel
theorem dX5_within_30 : decode (cr_by Y_X5_within) 30 = .ok (.bipush (-9), 2) := by decide +kernel
theorem dX5_within_32 : decode (cr_by Y_X5_within) 32 = .ok (.if_icmp .eq 17, 3) := by decide +kernel
theorem dX5_within_35 : decode (cr_by Y_X5_within) 35 = .ok (.aload_n 0, 1) := by decide +kernel
theorem dX5_within_36 : decode (cr_by Y_X5_within) 36 = .ok (.getfield 74, 3) := by decide +kernel
theorem dX5_within_39 : decode (cr_by Y_X5_within) 39 = .ok (.iload_n 3, 1) := by decide +kernel
theorem dX5_within_40 : decode (cr_by Y_X5_within) 40 = .ok (.iaload, 1) := by decide +kernel
theorem dX5_within_41 : decode (cr_by Y_X5_within) 41 = .ok (.iload_n 1, 1) := by decide +kernel
theorem dX5_within_42 : decode (cr_by Y_X5_within) 42 = .ok (.if_icmp .gt 7, 3) := by decide +kernel
theorem dX5_within_45 : decode (cr_by Y_X5_within) 45 = .ok (.iconst 1, 1) := by decide +kernel
theorem dX5_within_46 : decode (cr_by Y_X5_within) 46 = .ok (.goto 4, 3) := by decide +kernel
theorem dX5_within_49 : decode (cr_by Y_X5_within) 49 = .ok (.iconst 0, 1) := by decide +kernel
theorem dX5_within_50 : decode (cr_by Y_X5_within) 50 = .ok (.iadd, 1) := by decide +kernel
theorem dX5_within_51 : decode (cr_by Y_X5_within) 51 = .ok (.istore_n 2, 1) := by decide +kernel
theorem dX5_within_52 : decode (cr_by Y_X5_within) 52 = .ok (.iinc 3 1, 3) := by decide +kernel
theorem dX5_within_55 : decode (cr_by Y_X5_within) 55 = .ok (.goto (-40), 3) := by decide +kernel
theorem dX5_within_58 : decode (cr_by Y_X5_within) 58 = .ok (.iload_n 2, 1) := by decide +kernel
theorem dX5_within_59 : decode (cr_by Y_X5_within) 59 = .ok (.ireturn, 1) := by decide +kernel
theorem dX5_lossOf_0 : decode (cr_by Y_X5_lossOf) 0 = .ok (.ldc2_w 203, 3) := by decide +kernel
theorem dX5_lossOf_3 : decode (cr_by Y_X5_lossOf) 3 = .ok (.lstore_n 2, 1) := by decide +kernel
theorem dX5_lossOf_4 : decode (cr_by Y_X5_lossOf) 4 = .ok (.iconst 1, 1) := by decide +kernel
theorem dX5_lossOf_5 : decode (cr_by Y_X5_lossOf) 5 = .ok (.istore 4, 2) := by decide +kernel
theorem dX5_lossOf_7 : decode (cr_by Y_X5_lossOf) 7 = .ok (.iload 4, 2) := by decide +kernel
theorem dX5_lossOf_9 : decode (cr_by Y_X5_lossOf) 9 = .ok (.iload_n 1, 1) := by decide +kernel
theorem dX5_lossOf_10 : decode (cr_by Y_X5_lossOf) 10 = .ok (.if_icmp .gt 35, 3) := by decide +kernel
theorem dX5_lossOf_13 : decode (cr_by Y_X5_lossOf) 13 = .ok (.iload_n 0, 1) := by decide +kernel
theorem dX5_lossOf_14 : decode (cr_by Y_X5_lossOf) 14 = .ok (.i2l, 1) := by decide +kernel
theorem dX5_lossOf_15 : decode (cr_by Y_X5_lossOf) 15 = .ok (.lload_n 2, 1) := by decide +kernel
theorem dX5_lossOf_16 : decode (cr_by Y_X5_lossOf) 16 = .ok (.lmul, 1) := by decide +kernel
theorem dX5_lossOf_17 : decode (cr_by Y_X5_lossOf) 17 = .ok (.ldc2_w 203, 3) := by decide +kernel
theorem dX5_lossOf_20 : decode (cr_by Y_X5_lossOf) 20 = .ok (.lmul, 1) := by decide +kernel
theorem dX5_lossOf_21 : decode (cr_by Y_X5_lossOf) 21 = .ok (.ldc2_w 205, 3) := by decide +kernel
theorem dX5_lossOf_24 : decode (cr_by Y_X5_lossOf) 24 = .ok (.iload 4, 2) := by decide +kernel
theorem dX5_lossOf_26 : decode (cr_by Y_X5_lossOf) 26 = .ok (.i2l, 1) := by decide +kernel
theorem dX5_lossOf_27 : decode (cr_by Y_X5_lossOf) 27 = .ok (.lmul, 1) := by decide +kernel
theorem dX5_lossOf_28 : decode (cr_by Y_X5_lossOf) 28 = .ok (.ldc2_w 203, 3) := by decide +kernel
theorem dX5_lossOf_31 : decode (cr_by Y_X5_lossOf) 31 = .ok (.lmul, 1) := by decide +kernel
theorem dX5_lossOf_32 : decode (cr_by Y_X5_lossOf) 32 = .ok (.iload_n 0, 1) := by decide +kernel
theorem dX5_lossOf_33 : decode (cr_by Y_X5_lossOf) 33 = .ok (.i2l, 1) := by decide +kernel
theorem dX5_lossOf_34 : decode (cr_by Y_X5_lossOf) 34 = .ok (.lload_n 2, 1) := by decide +kernel
theorem dX5_lossOf_35 : decode (cr_by Y_X5_lossOf) 35 = .ok (.lmul, 1) := by decide +kernel
theorem dX5_lossOf_36 : decode (cr_by Y_X5_lossOf) 36 = .ok (.ladd, 1) := by decide +kernel
theorem dX5_lossOf_37 : decode (cr_by Y_X5_lossOf) 37 = .ok (.ldiv, 1) := by decide +kernel
theorem dX5_lossOf_38 : decode (cr_by Y_X5_lossOf) 38 = .ok (.lstore_n 2, 1) := by decide +kernel
theorem dX5_lossOf_39 : decode (cr_by Y_X5_lossOf) 39 = .ok (.iinc 4 1, 3) := by decide +kernel
theorem dX5_lossOf_42 : decode (cr_by Y_X5_lossOf) 42 = .ok (.goto (-35), 3) := by decide +kernel
theorem dX5_lossOf_45 : decode (cr_by Y_X5_lossOf) 45 = .ok (.lload_n 2, 1) := by decide +kernel
theorem dX5_lossOf_46 : decode (cr_by Y_X5_lossOf) 46 = .ok (.l2i, 1) := by decide +kernel
theorem dX5_lossOf_47 : decode (cr_by Y_X5_lossOf) 47 = .ok (.ireturn, 1) := by decide +kernel
theorem dX5_loss_0 : decode (cr_by Y_X5_loss) 0 = .ok (.iload_n 1, 1) := by decide +kernel
theorem dX5_loss_1 : decode (cr_by Y_X5_loss) 1 = .ok (.ifCond .lt 7, 3) := by decide +kernel
theorem dX5_loss_4 : decode (cr_by Y_X5_loss) 4 = .ok (.iload_n 2, 1) := by decide +kernel
theorem dX5_loss_5 : decode (cr_by Y_X5_loss) 5 = .ok (.ifCond .ge 10, 3) := by decide +kernel
theorem dX5_loss_8 : decode (cr_by Y_X5_loss) 8 = .ok (.aload_n 0, 1) := by decide +kernel
theorem dX5_loss_9 : decode (cr_by Y_X5_loss) 9 = .ok (.bipush (-4), 2) := by decide +kernel
theorem dX5_loss_11 : decode (cr_by Y_X5_loss) 11 = .ok (.invokevirtual 120, 3) := by decide +kernel
theorem dX5_loss_14 : decode (cr_by Y_X5_loss) 14 = .ok (.ireturn, 1) := by decide +kernel
theorem dX5_loss_15 : decode (cr_by Y_X5_loss) 15 = .ok (.iload_n 1, 1) := by decide +kernel
theorem dX5_loss_16 : decode (cr_by Y_X5_loss) 16 = .ok (.sipush 10000, 3) := by decide +kernel
theorem dX5_loss_19 : decode (cr_by Y_X5_loss) 19 = .ok (.if_icmp .gt 10, 3) := by decide +kernel
theorem dX5_loss_22 : decode (cr_by Y_X5_loss) 22 = .ok (.iload_n 2, 1) := by decide +kernel
theorem dX5_loss_23 : decode (cr_by Y_X5_loss) 23 = .ok (.sipush 200, 3) := by decide +kernel
theorem dX5_loss_26 : decode (cr_by Y_X5_loss) 26 = .ok (.if_icmp .le 12, 3) := by decide +kernel
theorem dX5_loss_29 : decode (cr_by Y_X5_loss) 29 = .ok (.aload_n 0, 1) := by decide +kernel
theorem dX5_loss_30 : decode (cr_by Y_X5_loss) 30 = .ok (.bipush (-6), 2) := by decide +kernel
theorem dX5_loss_32 : decode (cr_by Y_X5_loss) 32 = .ok (.invokevirtual 120, 3) := by decide +kernel
theorem dX5_loss_35 : decode (cr_by Y_X5_loss) 35 = .ok (.goto 8, 3) := by decide +kernel
theorem dX5_loss_38 : decode (cr_by Y_X5_loss) 38 = .ok (.iload_n 1, 1) := by decide +kernel
theorem dX5_loss_39 : decode (cr_by Y_X5_loss) 39 = .ok (.iload_n 2, 1) := by decide +kernel
theorem dX5_loss_40 : decode (cr_by Y_X5_loss) 40 = .ok (.invokestatic 207, 3) := by decide +kernel
theorem dX5_loss_43 : decode (cr_by Y_X5_loss) 43 = .ok (.ireturn, 1) := by decide +kernel
theorem dX5_wanted_0 : decode (cr_by Y_X5_wanted) 0 = .ok (.iload_n 1, 1) := by decide +kernel
theorem dX5_wanted_1 : decode (cr_by Y_X5_wanted) 1 = .ok (.ifCond .lt 7, 3) := by decide +kernel
theorem dX5_wanted_4 : decode (cr_by Y_X5_wanted) 4 = .ok (.iload_n 2, 1) := by decide +kernel
theorem dX5_wanted_5 : decode (cr_by Y_X5_wanted) 5 = .ok (.ifCond .ge 10, 3) := by decide +kernel
theorem dX5_wanted_8 : decode (cr_by Y_X5_wanted) 8 = .ok (.aload_n 0, 1) := by decide +kernel
theorem dX5_wanted_9 : decode (cr_by Y_X5_wanted) 9 = .ok (.bipush (-4), 2) := by decide +kernel
theorem dX5_wanted_11 : decode (cr_by Y_X5_wanted) 11 = .ok (.invokevirtual 120, 3) := by decide +kernel
theorem dX5_wanted_14 : decode (cr_by Y_X5_wanted) 14 = .ok (.ireturn, 1) := by decide +kernel
theorem dX5_wanted_15 : decode (cr_by Y_X5_wanted) 15 = .ok (.iload_n 1, 1) := by decide +kernel
theorem dX5_wanted_16 : decode (cr_by Y_X5_wanted) 16 = .ok (.sipush 10000, 3) := by decide +kernel
theorem dX5_wanted_19 : decode (cr_by Y_X5_wanted) 19 = .ok (.if_icmp .gt 9, 3) := by decide +kernel
theorem dX5_wanted_22 : decode (cr_by Y_X5_wanted) 22 = .ok (.iload_n 2, 1) := by decide +kernel
theorem dX5_wanted_23 : decode (cr_by Y_X5_wanted) 23 = .ok (.ldc 210, 2) := by decide +kernel
theorem dX5_wanted_25 : decode (cr_by Y_X5_wanted) 25 = .ok (.if_icmp .le 10, 3) := by decide +kernel
theorem dX5_wanted_28 : decode (cr_by Y_X5_wanted) 28 = .ok (.aload_n 0, 1) := by decide +kernel
theorem dX5_wanted_29 : decode (cr_by Y_X5_wanted) 29 = .ok (.bipush (-6), 2) := by decide +kernel
theorem dX5_wanted_31 : decode (cr_by Y_X5_wanted) 31 = .ok (.invokevirtual 120, 3) := by decide +kernel
theorem dX5_wanted_34 : decode (cr_by Y_X5_wanted) 34 = .ok (.ireturn, 1) := by decide +kernel
theorem dX5_wanted_35 : decode (cr_by Y_X5_wanted) 35 = .ok (.iconst 0, 1) := by decide +kernel
theorem dX5_wanted_36 : decode (cr_by Y_X5_wanted) 36 = .ok (.istore_n 3, 1) := by decide +kernel
theorem dX5_wanted_37 : decode (cr_by Y_X5_wanted) 37 = .ok (.iload_n 3, 1) := by decide +kernel
theorem dX5_wanted_38 : decode (cr_by Y_X5_wanted) 38 = .ok (.sipush 200, 3) := by decide +kernel
theorem dX5_wanted_41 : decode (cr_by Y_X5_wanted) 41 = .ok (.if_icmp .gt 20, 3) := by decide +kernel
theorem dX5_wanted_44 : decode (cr_by Y_X5_wanted) 44 = .ok (.iload_n 1, 1) := by decide +kernel
theorem dX5_wanted_45 : decode (cr_by Y_X5_wanted) 45 = .ok (.iload_n 3, 1) := by decide +kernel
theorem dX5_wanted_46 : decode (cr_by Y_X5_wanted) 46 = .ok (.invokestatic 207, 3) := by decide +kernel
theorem dX5_wanted_49 : decode (cr_by Y_X5_wanted) 49 = .ok (.iload_n 2, 1) := by decide +kernel
theorem dX5_wanted_50 : decode (cr_by Y_X5_wanted) 50 = .ok (.if_icmp .gt 5, 3) := by decide +kernel
theorem dX5_wanted_53 : decode (cr_by Y_X5_wanted) 53 = .ok (.iload_n 3, 1) := by decide +kernel
theorem dX5_wanted_54 : decode (cr_by Y_X5_wanted) 54 = .ok (.ireturn, 1) := by decide +kernel
theorem dX5_wanted_55 : decode (cr_by Y_X5_wanted) 55 = .ok (.iinc 3 1, 3) := by decide +kernel
theorem dX5_wanted_58 : decode (cr_by Y_X5_wanted) 58 = .ok (.goto (-21), 3) := by decide +kernel
theorem dX5_wanted_61 : decode (cr_by Y_X5_wanted) 61 = .ok (.bipush (-9), 2) := by decide +kernel
theorem dX5_wanted_63 : decode (cr_by Y_X5_wanted) 63 = .ok (.ireturn, 1) := by decide +kernel
theorem dX5_want_0 : decode (cr_by Y_X5_want) 0 = .ok (.iload_n 1, 1) := by decide +kernel
theorem dX5_want_1 : decode (cr_by Y_X5_want) 1 = .ok (.bipush 16, 2) := by decide +kernel
theorem dX5_want_3 : decode (cr_by Y_X5_want) 3 = .ok (.invokestatic 130, 3) := by decide +kernel
theorem dX5_want_6 : decode (cr_by Y_X5_want) 6 = .ok (.ifCond .ne 9, 3) := by decide +kernel
theorem dX5_want_9 : decode (cr_by Y_X5_want) 9 = .ok (.aload_n 0, 1) := by decide +kernel
theorem dX5_want_10 : decode (cr_by Y_X5_want) 10 = .ok (.iconst (-1), 1) := by decide +kernel
theorem dX5_want_11 : decode (cr_by Y_X5_want) 11 = .ok (.invokevirtual 120, 3) := by decide +kernel
theorem dX5_want_14 : decode (cr_by Y_X5_want) 14 = .ok (.ireturn, 1) := by decide +kernel
theorem dX5_want_15 : decode (cr_by Y_X5_want) 15 = .ok (.iload_n 2, 1) := by decide +kernel
theorem dX5_want_16 : decode (cr_by Y_X5_want) 16 = .ok (.ifCond .ge 10, 3) := by decide +kernel
theorem dX5_want_19 : decode (cr_by Y_X5_want) 19 = .ok (.aload_n 0, 1) := by decide +kernel
theorem dX5_want_20 : decode (cr_by Y_X5_want) 20 = .ok (.bipush (-4), 2) := by decide +kernel
theorem dX5_want_22 : decode (cr_by Y_X5_want) 22 = .ok (.invokevirtual 120, 3) := by decide +kernel
theorem dX5_want_25 : decode (cr_by Y_X5_want) 25 = .ok (.ireturn, 1) := by decide +kernel
theorem dX5_want_26 : decode (cr_by Y_X5_want) 26 = .ok (.iload_n 2, 1) := by decide +kernel
theorem dX5_want_27 : decode (cr_by Y_X5_want) 27 = .ok (.bipush 50, 2) := by decide +kernel
theorem dX5_want_29 : decode (cr_by Y_X5_want) 29 = .ok (.if_icmp .le 10, 3) := by decide +kernel
theorem dX5_want_32 : decode (cr_by Y_X5_want) 32 = .ok (.aload_n 0, 1) := by decide +kernel
theorem dX5_want_33 : decode (cr_by Y_X5_want) 33 = .ok (.bipush (-6), 2) := by decide +kernel
theorem dX5_want_35 : decode (cr_by Y_X5_want) 35 = .ok (.invokevirtual 120, 3) := by decide +kernel
theorem dX5_want_38 : decode (cr_by Y_X5_want) 38 = .ok (.ireturn, 1) := by decide +kernel
theorem dX5_want_39 : decode (cr_by Y_X5_want) 39 = .ok (.aload_n 0, 1) := by decide +kernel
theorem dX5_want_40 : decode (cr_by Y_X5_want) 40 = .ok (.getfield 13, 3) := by decide +kernel
theorem dX5_want_43 : decode (cr_by Y_X5_want) 43 = .ok (.iload_n 1, 1) := by decide +kernel
theorem dX5_want_44 : decode (cr_by Y_X5_want) 44 = .ok (.iaload, 1) := by decide +kernel
theorem dX5_want_45 : decode (cr_by Y_X5_want) 45 = .ok (.istore_n 3, 1) := by decide +kernel
theorem dX5_want_46 : decode (cr_by Y_X5_want) 46 = .ok (.aload_n 0, 1) := by decide +kernel
theorem dX5_want_47 : decode (cr_by Y_X5_want) 47 = .ok (.getfield 13, 3) := by decide +kernel
theorem dX5_want_50 : decode (cr_by Y_X5_want) 50 = .ok (.iload_n 1, 1) := by decide +kernel
theorem dX5_want_51 : decode (cr_by Y_X5_want) 51 = .ok (.iload_n 2, 1) := by decide +kernel
theorem dX5_want_52 : decode (cr_by Y_X5_want) 52 = .ok (.iastore, 1) := by decide +kernel
theorem dX5_want_53 : decode (cr_by Y_X5_want) 53 = .ok (.iload_n 3, 1) := by decide +kernel
theorem dX5_want_54 : decode (cr_by Y_X5_want) 54 = .ok (.ireturn, 1) := by decide +kernel
theorem dX5_cover_0 : decode (cr_by Y_X5_cover) 0 = .ok (.iload_n 1, 1) := by decide +kernel
theorem dX5_cover_1 : decode (cr_by Y_X5_cover) 1 = .ok (.iconst 1, 1) := by decide +kernel
theorem dX5_cover_2 : decode (cr_by Y_X5_cover) 2 = .ok (.if_icmp .ge 10, 3) := by decide +kernel
theorem dX5_cover_5 : decode (cr_by Y_X5_cover) 5 = .ok (.aload_n 0, 1) := by decide +kernel
theorem dX5_cover_6 : decode (cr_by Y_X5_cover) 6 = .ok (.bipush (-4), 2) := by decide +kernel
theorem dX5_cover_8 : decode (cr_by Y_X5_cover) 8 = .ok (.invokevirtual 120, 3) := by decide +kernel
theorem dX5_cover_11 : decode (cr_by Y_X5_cover) 11 = .ok (.ireturn, 1) := by decide +kernel
theorem dX5_cover_12 : decode (cr_by Y_X5_cover) 12 = .ok (.iload_n 1, 1) := by decide +kernel
theorem dX5_cover_13 : decode (cr_by Y_X5_cover) 13 = .ok (.bipush 16, 2) := by decide +kernel
theorem dX5_cover_15 : decode (cr_by Y_X5_cover) 15 = .ok (.if_icmp .le 10, 3) := by decide +kernel
theorem dX5_cover_18 : decode (cr_by Y_X5_cover) 18 = .ok (.aload_n 0, 1) := by decide +kernel
theorem dX5_cover_19 : decode (cr_by Y_X5_cover) 19 = .ok (.bipush (-6), 2) := by decide +kernel
theorem dX5_cover_21 : decode (cr_by Y_X5_cover) 21 = .ok (.invokevirtual 120, 3) := by decide +kernel
theorem dX5_cover_24 : decode (cr_by Y_X5_cover) 24 = .ok (.ireturn, 1) := by decide +kernel
theorem dX5_cover_25 : decode (cr_by Y_X5_cover) 25 = .ok (.iconst 0, 1) := by decide +kernel
theorem dX5_cover_26 : decode (cr_by Y_X5_cover) 26 = .ok (.istore_n 2, 1) := by decide +kernel
theorem dX5_cover_27 : decode (cr_by Y_X5_cover) 27 = .ok (.iconst 0, 1) := by decide +kernel
theorem dX5_cover_28 : decode (cr_by Y_X5_cover) 28 = .ok (.istore_n 3, 1) := by decide +kernel
theorem dX5_cover_29 : decode (cr_by Y_X5_cover) 29 = .ok (.iload_n 3, 1) := by decide +kernel
theorem dX5_cover_30 : decode (cr_by Y_X5_cover) 30 = .ok (.bipush 16, 2) := by decide +kernel
theorem dX5_cover_32 : decode (cr_by Y_X5_cover) 32 = .ok (.if_icmp .ge 16, 3) := by decide +kernel
theorem dX5_cover_35 : decode (cr_by Y_X5_cover) 35 = .ok (.aload_n 0, 1) := by decide +kernel
theorem dX5_cover_36 : decode (cr_by Y_X5_cover) 36 = .ok (.getfield 16, 3) := by decide +kernel
theorem dX5_cover_39 : decode (cr_by Y_X5_cover) 39 = .ok (.iload_n 3, 1) := by decide +kernel
theorem dX5_cover_40 : decode (cr_by Y_X5_cover) 40 = .ok (.iconst 0, 1) := by decide +kernel
theorem dX5_cover_41 : decode (cr_by Y_X5_cover) 41 = .ok (.iastore, 1) := by decide +kernel
theorem dX5_cover_42 : decode (cr_by Y_X5_cover) 42 = .ok (.iinc 3 1, 3) := by decide +kernel
theorem dX5_cover_45 : decode (cr_by Y_X5_cover) 45 = .ok (.goto (-16), 3) := by decide +kernel
theorem dX5_cover_48 : decode (cr_by Y_X5_cover) 48 = .ok (.iconst 0, 1) := by decide +kernel
theorem dX5_cover_49 : decode (cr_by Y_X5_cover) 49 = .ok (.istore_n 3, 1) := by decide +kernel
theorem dX5_cover_50 : decode (cr_by Y_X5_cover) 50 = .ok (.iload_n 3, 1) := by decide +kernel
theorem dX5_cover_51 : decode (cr_by Y_X5_cover) 51 = .ok (.bipush 16, 2) := by decide +kernel
theorem dX5_cover_53 : decode (cr_by Y_X5_cover) 53 = .ok (.if_icmp .ge 85, 3) := by decide +kernel
theorem dX5_cover_56 : decode (cr_by Y_X5_cover) 56 = .ok (.iconst 0, 1) := by decide +kernel
theorem dX5_cover_57 : decode (cr_by Y_X5_cover) 57 = .ok (.istore 4, 2) := by decide +kernel
theorem dX5_cover_59 : decode (cr_by Y_X5_cover) 59 = .ok (.iconst 0, 1) := by decide +kernel
theorem dX5_cover_60 : decode (cr_by Y_X5_cover) 60 = .ok (.iload_n 3, 1) := by decide +kernel
theorem dX5_cover_61 : decode (cr_by Y_X5_cover) 61 = .ok (.iload_n 1, 1) := by decide +kernel
theorem dX5_cover_62 : decode (cr_by Y_X5_cover) 62 = .ok (.isub, 1) := by decide +kernel
theorem dX5_cover_63 : decode (cr_by Y_X5_cover) 63 = .ok (.iconst 1, 1) := by decide +kernel
theorem dX5_cover_64 : decode (cr_by Y_X5_cover) 64 = .ok (.iadd, 1) := by decide +kernel
theorem dX5_cover_65 : decode (cr_by Y_X5_cover) 65 = .ok (.invokestatic 211, 3) := by decide +kernel
theorem dX5_cover_68 : decode (cr_by Y_X5_cover) 68 = .ok (.istore 5, 2) := by decide +kernel
theorem dX5_cover_70 : decode (cr_by Y_X5_cover) 70 = .ok (.iload 5, 2) := by decide +kernel
theorem dX5_cover_72 : decode (cr_by Y_X5_cover) 72 = .ok (.iload_n 3, 1) := by decide +kernel
theorem dX5_cover_73 : decode (cr_by Y_X5_cover) 73 = .ok (.if_icmp .gt 21, 3) := by decide +kernel
theorem dX5_cover_76 : decode (cr_by Y_X5_cover) 76 = .ok (.iload 4, 2) := by decide +kernel
theorem dX5_cover_78 : decode (cr_by Y_X5_cover) 78 = .ok (.aload_n 0, 1) := by decide +kernel
theorem dX5_cover_79 : decode (cr_by Y_X5_cover) 79 = .ok (.getfield 16, 3) := by decide +kernel
theorem dX5_cover_82 : decode (cr_by Y_X5_cover) 82 = .ok (.iload 5, 2) := by decide +kernel
theorem dX5_cover_84 : decode (cr_by Y_X5_cover) 84 = .ok (.iaload, 1) := by decide +kernel
theorem dX5_cover_85 : decode (cr_by Y_X5_cover) 85 = .ok (.iadd, 1) := by decide +kernel
theorem dX5_cover_86 : decode (cr_by Y_X5_cover) 86 = .ok (.istore 4, 2) := by decide +kernel
theorem dX5_cover_88 : decode (cr_by Y_X5_cover) 88 = .ok (.iinc 5 1, 3) := by decide +kernel
theorem dX5_cover_91 : decode (cr_by Y_X5_cover) 91 = .ok (.goto (-21), 3) := by decide +kernel
theorem dX5_cover_94 : decode (cr_by Y_X5_cover) 94 = .ok (.iconst 0, 1) := by decide +kernel
theorem dX5_cover_95 : decode (cr_by Y_X5_cover) 95 = .ok (.aload_n 0, 1) := by decide +kernel
theorem dX5_cover_96 : decode (cr_by Y_X5_cover) 96 = .ok (.getfield 13, 3) := by decide +kernel
theorem dX5_cover_99 : decode (cr_by Y_X5_cover) 99 = .ok (.iload_n 3, 1) := by decide +kernel
theorem dX5_cover_100 : decode (cr_by Y_X5_cover) 100 = .ok (.iaload, 1) := by decide +kernel
theorem dX5_cover_101 : decode (cr_by Y_X5_cover) 101 = .ok (.iload 4, 2) := by decide +kernel
theorem dX5_cover_103 : decode (cr_by Y_X5_cover) 103 = .ok (.isub, 1) := by decide +kernel
theorem dX5_cover_104 : decode (cr_by Y_X5_cover) 104 = .ok (.invokestatic 211, 3) := by decide +kernel
theorem dX5_cover_107 : decode (cr_by Y_X5_cover) 107 = .ok (.istore 5, 2) := by decide +kernel
theorem dX5_cover_109 : decode (cr_by Y_X5_cover) 109 = .ok (.aload_n 0, 1) := by decide +kernel
theorem dX5_cover_110 : decode (cr_by Y_X5_cover) 110 = .ok (.getfield 16, 3) := by decide +kernel
theorem dX5_cover_113 : decode (cr_by Y_X5_cover) 113 = .ok (.iload_n 3, 1) := by decide +kernel
theorem dX5_cover_114 : decode (cr_by Y_X5_cover) 114 = .ok (.bipush 16, 2) := by decide +kernel
theorem dX5_cover_116 : decode (cr_by Y_X5_cover) 116 = .ok (.iload_n 1, 1) := by decide +kernel
theorem dX5_cover_117 : decode (cr_by Y_X5_cover) 117 = .ok (.isub, 1) := by decide +kernel
theorem dX5_cover_118 : decode (cr_by Y_X5_cover) 118 = .ok (.invokestatic 216, 3) := by decide +kernel
theorem dX5_cover_121 : decode (cr_by Y_X5_cover) 121 = .ok (.dup2, 1) := by decide +kernel
theorem dX5_cover_122 : decode (cr_by Y_X5_cover) 122 = .ok (.iaload, 1) := by decide +kernel
theorem dX5_cover_123 : decode (cr_by Y_X5_cover) 123 = .ok (.iload 5, 2) := by decide +kernel
theorem dX5_cover_125 : decode (cr_by Y_X5_cover) 125 = .ok (.iadd, 1) := by decide +kernel
theorem dX5_cover_126 : decode (cr_by Y_X5_cover) 126 = .ok (.iastore, 1) := by decide +kernel
theorem dX5_cover_127 : decode (cr_by Y_X5_cover) 127 = .ok (.iload_n 2, 1) := by decide +kernel
theorem dX5_cover_128 : decode (cr_by Y_X5_cover) 128 = .ok (.iload 5, 2) := by decide +kernel
theorem dX5_cover_130 : decode (cr_by Y_X5_cover) 130 = .ok (.iadd, 1) := by decide +kernel
theorem dX5_cover_131 : decode (cr_by Y_X5_cover) 131 = .ok (.istore_n 2, 1) := by decide +kernel
theorem dX5_cover_132 : decode (cr_by Y_X5_cover) 132 = .ok (.iinc 3 1, 3) := by decide +kernel
theorem dX5_cover_135 : decode (cr_by Y_X5_cover) 135 = .ok (.goto (-85), 3) := by decide +kernel
theorem dX5_cover_138 : decode (cr_by Y_X5_cover) 138 = .ok (.iload_n 2, 1) := by decide +kernel
theorem dX5_cover_139 : decode (cr_by Y_X5_cover) 139 = .ok (.ireturn, 1) := by decide +kernel
theorem dX5_begins_0 : decode (cr_by Y_X5_begins) 0 = .ok (.iload_n 1, 1) := by decide +kernel
theorem dX5_begins_1 : decode (cr_by Y_X5_begins) 1 = .ok (.bipush 16, 2) := by decide +kernel
theorem dX5_begins_3 : decode (cr_by Y_X5_begins) 3 = .ok (.invokestatic 130, 3) := by decide +kernel
theorem dX5_begins_6 : decode (cr_by Y_X5_begins) 6 = .ok (.ifCond .eq 12, 3) := by decide +kernel
theorem dX5_begins_9 : decode (cr_by Y_X5_begins) 9 = .ok (.aload_n 0, 1) := by decide +kernel
theorem dX5_begins_10 : decode (cr_by Y_X5_begins) 10 = .ok (.getfield 16, 3) := by decide +kernel
theorem dX5_begins_13 : decode (cr_by Y_X5_begins) 13 = .ok (.iload_n 1, 1) := by decide +kernel
theorem dX5_begins_14 : decode (cr_by Y_X5_begins) 14 = .ok (.iaload, 1) := by decide +kernel
theorem dX5_begins_15 : decode (cr_by Y_X5_begins) 15 = .ok (.goto 8, 3) := by decide +kernel
theorem dX5_begins_18 : decode (cr_by Y_X5_begins) 18 = .ok (.aload_n 0, 1) := by decide +kernel
theorem dX5_begins_19 : decode (cr_by Y_X5_begins) 19 = .ok (.iconst (-1), 1) := by decide +kernel
theorem dX5_begins_20 : decode (cr_by Y_X5_begins) 20 = .ok (.invokevirtual 120, 3) := by decide +kernel
theorem dX5_begins_23 : decode (cr_by Y_X5_begins) 23 = .ok (.ireturn, 1) := by decide +kernel
theorem dX5_helperOf_0 : decode (cr_by Y_X5_helperOf) 0 = .ok (.iload_n 1, 1) := by decide +kernel
theorem dX5_helperOf_1 : decode (cr_by Y_X5_helperOf) 1 = .ok (.aload_n 0, 1) := by decide +kernel
theorem dX5_helperOf_2 : decode (cr_by Y_X5_helperOf) 2 = .ok (.getfield 124, 3) := by decide +kernel
theorem dX5_helperOf_5 : decode (cr_by Y_X5_helperOf) 5 = .ok (.invokestatic 130, 3) := by decide +kernel
theorem dX5_helperOf_8 : decode (cr_by Y_X5_helperOf) 8 = .ok (.ifCond .ne 9, 3) := by decide +kernel
theorem dX5_helperOf_11 : decode (cr_by Y_X5_helperOf) 11 = .ok (.aload_n 0, 1) := by decide +kernel
theorem dX5_helperOf_12 : decode (cr_by Y_X5_helperOf) 12 = .ok (.iconst (-1), 1) := by decide +kernel
theorem dX5_helperOf_13 : decode (cr_by Y_X5_helperOf) 13 = .ok (.invokevirtual 120, 3) := by decide +kernel
theorem dX5_helperOf_16 : decode (cr_by Y_X5_helperOf) 16 = .ok (.ireturn, 1) := by decide +kernel
theorem dX5_helperOf_17 : decode (cr_by Y_X5_helperOf) 17 = .ok (.iload_n 2, 1) := by decide +kernel
theorem dX5_helperOf_18 : decode (cr_by Y_X5_helperOf) 18 = .ok (.tableswitch 140 0 6 #[42, 49, 56, 97, 104, 111, 118], 42) := by decide +kernel
theorem dX5_helperOf_60 : decode (cr_by Y_X5_helperOf) 60 = .ok (.aload_n 0, 1) := by decide +kernel
theorem dX5_helperOf_61 : decode (cr_by Y_X5_helperOf) 61 = .ok (.getfield 26, 3) := by decide +kernel
theorem dX5_helperOf_64 : decode (cr_by Y_X5_helperOf) 64 = .ok (.iload_n 1, 1) := by decide +kernel
theorem dX5_helperOf_65 : decode (cr_by Y_X5_helperOf) 65 = .ok (.iaload, 1) := by decide +kernel
theorem dX5_helperOf_66 : decode (cr_by Y_X5_helperOf) 66 = .ok (.ireturn, 1) := by decide +kernel
theorem dX5_helperOf_67 : decode (cr_by Y_X5_helperOf) 67 = .ok (.aload_n 0, 1) := by decide +kernel
theorem dX5_helperOf_68 : decode (cr_by Y_X5_helperOf) 68 = .ok (.getfield 77, 3) := by decide +kernel
theorem dX5_helperOf_71 : decode (cr_by Y_X5_helperOf) 71 = .ok (.iload_n 1, 1) := by decide +kernel
theorem dX5_helperOf_72 : decode (cr_by Y_X5_helperOf) 72 = .ok (.iaload, 1) := by decide +kernel
theorem dX5_helperOf_73 : decode (cr_by Y_X5_helperOf) 73 = .ok (.ireturn, 1) := by decide +kernel
theorem dX5_helperOf_74 : decode (cr_by Y_X5_helperOf) 74 = .ok (.iconst 0, 1) := by decide +kernel
theorem dX5_helperOf_75 : decode (cr_by Y_X5_helperOf) 75 = .ok (.istore_n 3, 1) := by decide +kernel
theorem dX5_helperOf_76 : decode (cr_by Y_X5_helperOf) 76 = .ok (.iload_n 3, 1) := by decide +kernel
theorem dX5_helperOf_77 : decode (cr_by Y_X5_helperOf) 77 = .ok (.aload_n 0, 1) := by decide +kernel
theorem dX5_helperOf_78 : decode (cr_by Y_X5_helperOf) 78 = .ok (.getfield 142, 3) := by decide +kernel
theorem dX5_helperOf_81 : decode (cr_by Y_X5_helperOf) 81 = .ok (.if_icmp .ge 31, 3) := by decide +kernel
theorem dX5_helperOf_84 : decode (cr_by Y_X5_helperOf) 84 = .ok (.aload_n 0, 1) := by decide +kernel
theorem dX5_helperOf_85 : decode (cr_by Y_X5_helperOf) 85 = .ok (.getfield 59, 3) := by decide +kernel
theorem dX5_helperOf_88 : decode (cr_by Y_X5_helperOf) 88 = .ok (.iload_n 3, 1) := by decide +kernel
theorem dX5_helperOf_89 : decode (cr_by Y_X5_helperOf) 89 = .ok (.iaload, 1) := by decide +kernel
theorem dX5_helperOf_90 : decode (cr_by Y_X5_helperOf) 90 = .ok (.iconst 1, 1) := by decide +kernel
theorem dX5_helperOf_91 : decode (cr_by Y_X5_helperOf) 91 = .ok (.if_icmp .ne 15, 3) := by decide +kernel
theorem dX5_helperOf_94 : decode (cr_by Y_X5_helperOf) 94 = .ok (.aload_n 0, 1) := by decide +kernel
theorem dX5_helperOf_95 : decode (cr_by Y_X5_helperOf) 95 = .ok (.getfield 65, 3) := by decide +kernel
theorem dX5_helperOf_98 : decode (cr_by Y_X5_helperOf) 98 = .ok (.iload_n 3, 1) := by decide +kernel
theorem dX5_helperOf_99 : decode (cr_by Y_X5_helperOf) 99 = .ok (.iaload, 1) := by decide +kernel
theorem dX5_helperOf_100 : decode (cr_by Y_X5_helperOf) 100 = .ok (.iload_n 1, 1) := by decide +kernel
theorem dX5_helperOf_101 : decode (cr_by Y_X5_helperOf) 101 = .ok (.if_icmp .ne 5, 3) := by decide +kernel
theorem dX5_helperOf_104 : decode (cr_by Y_X5_helperOf) 104 = .ok (.iload_n 3, 1) := by decide +kernel
theorem dX5_helperOf_105 : decode (cr_by Y_X5_helperOf) 105 = .ok (.ireturn, 1) := by decide +kernel
theorem dX5_helperOf_106 : decode (cr_by Y_X5_helperOf) 106 = .ok (.iinc 3 1, 3) := by decide +kernel
theorem dX5_helperOf_109 : decode (cr_by Y_X5_helperOf) 109 = .ok (.goto (-33), 3) := by decide +kernel
theorem dX5_helperOf_112 : decode (cr_by Y_X5_helperOf) 112 = .ok (.bipush (-9), 2) := by decide +kernel
theorem dX5_helperOf_114 : decode (cr_by Y_X5_helperOf) 114 = .ok (.ireturn, 1) := by decide +kernel
theorem dX5_helperOf_115 : decode (cr_by Y_X5_helperOf) 115 = .ok (.aload_n 0, 1) := by decide +kernel
theorem dX5_helperOf_116 : decode (cr_by Y_X5_helperOf) 116 = .ok (.getfield 29, 3) := by decide +kernel
theorem dX5_helperOf_119 : decode (cr_by Y_X5_helperOf) 119 = .ok (.iload_n 1, 1) := by decide +kernel
theorem dX5_helperOf_120 : decode (cr_by Y_X5_helperOf) 120 = .ok (.iaload, 1) := by decide +kernel
theorem dX5_helperOf_121 : decode (cr_by Y_X5_helperOf) 121 = .ok (.ireturn, 1) := by decide +kernel
theorem dX5_helperOf_122 : decode (cr_by Y_X5_helperOf) 122 = .ok (.aload_n 0, 1) := by decide +kernel
theorem dX5_helperOf_123 : decode (cr_by Y_X5_helperOf) 123 = .ok (.getfield 35, 3) := by decide +kernel
theorem dX5_helperOf_126 : decode (cr_by Y_X5_helperOf) 126 = .ok (.iload_n 1, 1) := by decide +kernel
theorem dX5_helperOf_127 : decode (cr_by Y_X5_helperOf) 127 = .ok (.iaload, 1) := by decide +kernel
theorem dX5_helperOf_128 : decode (cr_by Y_X5_helperOf) 128 = .ok (.ireturn, 1) := by decide +kernel
theorem dX5_helperOf_129 : decode (cr_by Y_X5_helperOf) 129 = .ok (.aload_n 0, 1) := by decide +kernel
theorem dX5_helperOf_130 : decode (cr_by Y_X5_helperOf) 130 = .ok (.getfield 38, 3) := by decide +kernel
theorem dX5_helperOf_133 : decode (cr_by Y_X5_helperOf) 133 = .ok (.iload_n 1, 1) := by decide +kernel
theorem dX5_helperOf_134 : decode (cr_by Y_X5_helperOf) 134 = .ok (.iaload, 1) := by decide +kernel
theorem dX5_helperOf_135 : decode (cr_by Y_X5_helperOf) 135 = .ok (.ireturn, 1) := by decide +kernel
theorem dX5_helperOf_136 : decode (cr_by Y_X5_helperOf) 136 = .ok (.aload_n 0, 1) := by decide +kernel
theorem dX5_helperOf_137 : decode (cr_by Y_X5_helperOf) 137 = .ok (.getfield 26, 3) := by decide +kernel
theorem dX5_helperOf_140 : decode (cr_by Y_X5_helperOf) 140 = .ok (.iload_n 1, 1) := by decide +kernel
theorem dX5_helperOf_141 : decode (cr_by Y_X5_helperOf) 141 = .ok (.iaload, 1) := by decide +kernel
theorem dX5_helperOf_142 : decode (cr_by Y_X5_helperOf) 142 = .ok (.iconst 3, 1) := by decide +kernel
theorem dX5_helperOf_143 : decode (cr_by Y_X5_helperOf) 143 = .ok (.if_icmp .ne 12, 3) := by decide +kernel
theorem dX5_helperOf_146 : decode (cr_by Y_X5_helperOf) 146 = .ok (.aload_n 0, 1) := by decide +kernel
theorem dX5_helperOf_147 : decode (cr_by Y_X5_helperOf) 147 = .ok (.getfield 32, 3) := by decide +kernel
theorem dX5_helperOf_150 : decode (cr_by Y_X5_helperOf) 150 = .ok (.iload_n 1, 1) := by decide +kernel
theorem dX5_helperOf_151 : decode (cr_by Y_X5_helperOf) 151 = .ok (.iaload, 1) := by decide +kernel
theorem dX5_helperOf_152 : decode (cr_by Y_X5_helperOf) 152 = .ok (.goto 5, 3) := by decide +kernel
theorem dX5_helperOf_155 : decode (cr_by Y_X5_helperOf) 155 = .ok (.bipush (-9), 2) := by decide +kernel
theorem dX5_helperOf_157 : decode (cr_by Y_X5_helperOf) 157 = .ok (.ireturn, 1) := by decide +kernel
theorem dX5_helperOf_158 : decode (cr_by Y_X5_helperOf) 158 = .ok (.iload_n 2, 1) := by decide +kernel
theorem dX5_helperOf_159 : decode (cr_by Y_X5_helperOf) 159 = .ok (.bipush 9, 2) := by decide +kernel
theorem dX5_helperOf_161 : decode (cr_by Y_X5_helperOf) 161 = .ok (.if_icmp .le 21, 3) := by decide +kernel
theorem dX5_helperOf_164 : decode (cr_by Y_X5_helperOf) 164 = .ok (.iload_n 2, 1) := by decide +kernel
theorem dX5_helperOf_165 : decode (cr_by Y_X5_helperOf) 165 = .ok (.bipush 14, 2) := by decide +kernel
theorem dX5_helperOf_167 : decode (cr_by Y_X5_helperOf) 167 = .ok (.if_icmp .ge 15, 3) := by decide +kernel
theorem dX5_helperOf_170 : decode (cr_by Y_X5_helperOf) 170 = .ok (.aload_n 0, 1) := by decide +kernel
theorem dX5_helperOf_171 : decode (cr_by Y_X5_helperOf) 171 = .ok (.iload_n 1, 1) := by decide +kernel
theorem dX5_helperOf_172 : decode (cr_by Y_X5_helperOf) 172 = .ok (.iload_n 2, 1) := by decide +kernel
theorem dX5_helperOf_173 : decode (cr_by Y_X5_helperOf) 173 = .ok (.bipush 10, 2) := by decide +kernel
theorem dX5_helperOf_175 : decode (cr_by Y_X5_helperOf) 175 = .ok (.isub, 1) := by decide +kernel
theorem dX5_helperOf_176 : decode (cr_by Y_X5_helperOf) 176 = .ok (.invokevirtual 134, 3) := by decide +kernel
theorem dX5_helperOf_179 : decode (cr_by Y_X5_helperOf) 179 = .ok (.goto 5, 3) := by decide +kernel
theorem dX5_helperOf_182 : decode (cr_by Y_X5_helperOf) 182 = .ok (.bipush (-9), 2) := by decide +kernel
theorem dX5_helperOf_184 : decode (cr_by Y_X5_helperOf) 184 = .ok (.ireturn, 1) := by decide +kernel
theorem dX5_callOf_0 : decode (cr_by Y_X5_callOf) 0 = .ok (.iload_n 1, 1) := by decide +kernel
theorem dX5_callOf_1 : decode (cr_by Y_X5_callOf) 1 = .ok (.aload_n 0, 1) := by decide +kernel
theorem dX5_callOf_2 : decode (cr_by Y_X5_callOf) 2 = .ok (.getfield 142, 3) := by decide +kernel
theorem dX5_callOf_5 : decode (cr_by Y_X5_callOf) 5 = .ok (.invokestatic 130, 3) := by decide +kernel
theorem dX5_callOf_8 : decode (cr_by Y_X5_callOf) 8 = .ok (.ifCond .ne 9, 3) := by decide +kernel
theorem dX5_callOf_11 : decode (cr_by Y_X5_callOf) 11 = .ok (.aload_n 0, 1) := by decide +kernel
theorem dX5_callOf_12 : decode (cr_by Y_X5_callOf) 12 = .ok (.iconst (-1), 1) := by decide +kernel
theorem dX5_callOf_13 : decode (cr_by Y_X5_callOf) 13 = .ok (.invokevirtual 120, 3) := by decide +kernel
theorem dX5_callOf_16 : decode (cr_by Y_X5_callOf) 16 = .ok (.ireturn, 1) := by decide +kernel
theorem dX5_callOf_17 : decode (cr_by Y_X5_callOf) 17 = .ok (.iload_n 2, 1) := by decide +kernel
theorem dX5_callOf_18 : decode (cr_by Y_X5_callOf) 18 = .ok (.tableswitch 166 0 9 #[54, 61, 68, 75, 82, 89, 96, 128, 152, 159], 54) := by decide +kernel
theorem dX5_callOf_72 : decode (cr_by Y_X5_callOf) 72 = .ok (.aload_n 0, 1) := by decide +kernel
theorem dX5_callOf_73 : decode (cr_by Y_X5_callOf) 73 = .ok (.getfield 59, 3) := by decide +kernel
theorem dX5_callOf_76 : decode (cr_by Y_X5_callOf) 76 = .ok (.iload_n 1, 1) := by decide +kernel
theorem dX5_callOf_77 : decode (cr_by Y_X5_callOf) 77 = .ok (.iaload, 1) := by decide +kernel
theorem dX5_callOf_78 : decode (cr_by Y_X5_callOf) 78 = .ok (.ireturn, 1) := by decide +kernel
theorem dX5_callOf_79 : decode (cr_by Y_X5_callOf) 79 = .ok (.aload_n 0, 1) := by decide +kernel
theorem dX5_callOf_80 : decode (cr_by Y_X5_callOf) 80 = .ok (.getfield 41, 3) := by decide +kernel
theorem dX5_callOf_83 : decode (cr_by Y_X5_callOf) 83 = .ok (.iload_n 1, 1) := by decide +kernel
theorem dX5_callOf_84 : decode (cr_by Y_X5_callOf) 84 = .ok (.iaload, 1) := by decide +kernel
theorem dX5_callOf_85 : decode (cr_by Y_X5_callOf) 85 = .ok (.ireturn, 1) := by decide +kernel
theorem dX5_callOf_86 : decode (cr_by Y_X5_callOf) 86 = .ok (.aload_n 0, 1) := by decide +kernel
theorem dX5_callOf_87 : decode (cr_by Y_X5_callOf) 87 = .ok (.getfield 44, 3) := by decide +kernel
theorem dX5_callOf_90 : decode (cr_by Y_X5_callOf) 90 = .ok (.iload_n 1, 1) := by decide +kernel
theorem dX5_callOf_91 : decode (cr_by Y_X5_callOf) 91 = .ok (.iaload, 1) := by decide +kernel
theorem dX5_callOf_92 : decode (cr_by Y_X5_callOf) 92 = .ok (.ireturn, 1) := by decide +kernel
theorem dX5_callOf_93 : decode (cr_by Y_X5_callOf) 93 = .ok (.aload_n 0, 1) := by decide +kernel
theorem dX5_callOf_94 : decode (cr_by Y_X5_callOf) 94 = .ok (.getfield 47, 3) := by decide +kernel
theorem dX5_callOf_97 : decode (cr_by Y_X5_callOf) 97 = .ok (.iload_n 1, 1) := by decide +kernel
theorem dX5_callOf_98 : decode (cr_by Y_X5_callOf) 98 = .ok (.iaload, 1) := by decide +kernel
theorem dX5_callOf_99 : decode (cr_by Y_X5_callOf) 99 = .ok (.ireturn, 1) := by decide +kernel
theorem dX5_callOf_100 : decode (cr_by Y_X5_callOf) 100 = .ok (.aload_n 0, 1) := by decide +kernel
theorem dX5_callOf_101 : decode (cr_by Y_X5_callOf) 101 = .ok (.getfield 50, 3) := by decide +kernel
theorem dX5_callOf_104 : decode (cr_by Y_X5_callOf) 104 = .ok (.iload_n 1, 1) := by decide +kernel
theorem dX5_callOf_105 : decode (cr_by Y_X5_callOf) 105 = .ok (.iaload, 1) := by decide +kernel
theorem dX5_callOf_106 : decode (cr_by Y_X5_callOf) 106 = .ok (.ireturn, 1) := by decide +kernel
theorem dX5_callOf_107 : decode (cr_by Y_X5_callOf) 107 = .ok (.aload_n 0, 1) := by decide +kernel
theorem dX5_callOf_108 : decode (cr_by Y_X5_callOf) 108 = .ok (.getfield 53, 3) := by decide +kernel
theorem dX5_callOf_111 : decode (cr_by Y_X5_callOf) 111 = .ok (.iload_n 1, 1) := by decide +kernel
theorem dX5_callOf_112 : decode (cr_by Y_X5_callOf) 112 = .ok (.iaload, 1) := by decide +kernel
theorem dX5_callOf_113 : decode (cr_by Y_X5_callOf) 113 = .ok (.ireturn, 1) := by decide +kernel
theorem dX5_callOf_114 : decode (cr_by Y_X5_callOf) 114 = .ok (.aload_n 0, 1) := by decide +kernel
theorem dX5_callOf_115 : decode (cr_by Y_X5_callOf) 115 = .ok (.getfield 59, 3) := by decide +kernel
theorem dX5_callOf_118 : decode (cr_by Y_X5_callOf) 118 = .ok (.iload_n 1, 1) := by decide +kernel
theorem dX5_callOf_119 : decode (cr_by Y_X5_callOf) 119 = .ok (.iaload, 1) := by decide +kernel
theorem dX5_callOf_120 : decode (cr_by Y_X5_callOf) 120 = .ok (.iconst 1, 1) := by decide +kernel
theorem dX5_callOf_121 : decode (cr_by Y_X5_callOf) 121 = .ok (.if_icmp .eq 13, 3) := by decide +kernel
theorem dX5_callOf_124 : decode (cr_by Y_X5_callOf) 124 = .ok (.aload_n 0, 1) := by decide +kernel
theorem dX5_callOf_125 : decode (cr_by Y_X5_callOf) 125 = .ok (.getfield 59, 3) := by decide +kernel
theorem dX5_callOf_128 : decode (cr_by Y_X5_callOf) 128 = .ok (.iload_n 1, 1) := by decide +kernel
theorem dX5_callOf_129 : decode (cr_by Y_X5_callOf) 129 = .ok (.iaload, 1) := by decide +kernel
theorem dX5_callOf_130 : decode (cr_by Y_X5_callOf) 130 = .ok (.iconst 2, 1) := by decide +kernel
theorem dX5_callOf_131 : decode (cr_by Y_X5_callOf) 131 = .ok (.if_icmp .ne 12, 3) := by decide +kernel
theorem dX5_callOf_134 : decode (cr_by Y_X5_callOf) 134 = .ok (.aload_n 0, 1) := by decide +kernel
theorem dX5_callOf_135 : decode (cr_by Y_X5_callOf) 135 = .ok (.getfield 65, 3) := by decide +kernel
theorem dX5_callOf_138 : decode (cr_by Y_X5_callOf) 138 = .ok (.iload_n 1, 1) := by decide +kernel
theorem dX5_callOf_139 : decode (cr_by Y_X5_callOf) 139 = .ok (.iaload, 1) := by decide +kernel
theorem dX5_callOf_140 : decode (cr_by Y_X5_callOf) 140 = .ok (.goto 5, 3) := by decide +kernel
theorem dX5_callOf_143 : decode (cr_by Y_X5_callOf) 143 = .ok (.bipush (-9), 2) := by decide +kernel
theorem dX5_callOf_145 : decode (cr_by Y_X5_callOf) 145 = .ok (.ireturn, 1) := by decide +kernel
theorem dX5_callOf_146 : decode (cr_by Y_X5_callOf) 146 = .ok (.aload_n 0, 1) := by decide +kernel
theorem dX5_callOf_147 : decode (cr_by Y_X5_callOf) 147 = .ok (.getfield 59, 3) := by decide +kernel
theorem dX5_callOf_150 : decode (cr_by Y_X5_callOf) 150 = .ok (.iload_n 1, 1) := by decide +kernel
theorem dX5_callOf_151 : decode (cr_by Y_X5_callOf) 151 = .ok (.iaload, 1) := by decide +kernel
theorem dX5_callOf_152 : decode (cr_by Y_X5_callOf) 152 = .ok (.ifCond .ne 11, 3) := by decide +kernel
theorem dX5_callOf_155 : decode (cr_by Y_X5_callOf) 155 = .ok (.aload_n 0, 1) := by decide +kernel
theorem dX5_callOf_156 : decode (cr_by Y_X5_callOf) 156 = .ok (.iload_n 1, 1) := by decide +kernel
theorem dX5_callOf_157 : decode (cr_by Y_X5_callOf) 157 = .ok (.invokevirtual 156, 3) := by decide +kernel
theorem dX5_callOf_160 : decode (cr_by Y_X5_callOf) 160 = .ok (.goto 9, 3) := by decide +kernel
theorem dX5_callOf_163 : decode (cr_by Y_X5_callOf) 163 = .ok (.aload_n 0, 1) := by decide +kernel
theorem dX5_callOf_164 : decode (cr_by Y_X5_callOf) 164 = .ok (.getfield 71, 3) := by decide +kernel
theorem dX5_callOf_167 : decode (cr_by Y_X5_callOf) 167 = .ok (.iload_n 1, 1) := by decide +kernel
theorem dX5_callOf_168 : decode (cr_by Y_X5_callOf) 168 = .ok (.iaload, 1) := by decide +kernel
theorem dX5_callOf_169 : decode (cr_by Y_X5_callOf) 169 = .ok (.ireturn, 1) := by decide +kernel
theorem dX5_callOf_170 : decode (cr_by Y_X5_callOf) 170 = .ok (.aload_n 0, 1) := by decide +kernel
theorem dX5_callOf_171 : decode (cr_by Y_X5_callOf) 171 = .ok (.getfield 68, 3) := by decide +kernel
theorem dX5_callOf_174 : decode (cr_by Y_X5_callOf) 174 = .ok (.iload_n 1, 1) := by decide +kernel
theorem dX5_callOf_175 : decode (cr_by Y_X5_callOf) 175 = .ok (.iaload, 1) := by decide +kernel
theorem dX5_callOf_176 : decode (cr_by Y_X5_callOf) 176 = .ok (.ireturn, 1) := by decide +kernel
theorem dX5_callOf_177 : decode (cr_by Y_X5_callOf) 177 = .ok (.aload_n 0, 1) := by decide +kernel
theorem dX5_callOf_178 : decode (cr_by Y_X5_callOf) 178 = .ok (.getfield 56, 3) := by decide +kernel
theorem dX5_callOf_181 : decode (cr_by Y_X5_callOf) 181 = .ok (.iload_n 1, 1) := by decide +kernel
theorem dX5_callOf_182 : decode (cr_by Y_X5_callOf) 182 = .ok (.iaload, 1) := by decide +kernel
theorem dX5_callOf_183 : decode (cr_by Y_X5_callOf) 183 = .ok (.ireturn, 1) := by decide +kernel
theorem dX5_callOf_184 : decode (cr_by Y_X5_callOf) 184 = .ok (.bipush (-9), 2) := by decide +kernel
theorem dX5_callOf_186 : decode (cr_by Y_X5_callOf) 186 = .ok (.ireturn, 1) := by decide +kernel
theorem dX5_inState_0 : decode (cr_by Y_X5_inState) 0 = .ok (.iconst 0, 1) := by decide +kernel
theorem dX5_inState_1 : decode (cr_by Y_X5_inState) 1 = .ok (.istore_n 2, 1) := by decide +kernel
theorem dX5_inState_2 : decode (cr_by Y_X5_inState) 2 = .ok (.iconst 0, 1) := by decide +kernel
theorem dX5_inState_3 : decode (cr_by Y_X5_inState) 3 = .ok (.istore_n 3, 1) := by decide +kernel
theorem dX5_inState_4 : decode (cr_by Y_X5_inState) 4 = .ok (.iload_n 3, 1) := by decide +kernel
theorem dX5_inState_5 : decode (cr_by Y_X5_inState) 5 = .ok (.aload_n 0, 1) := by decide +kernel
theorem dX5_inState_6 : decode (cr_by Y_X5_inState) 6 = .ok (.getfield 142, 3) := by decide +kernel
theorem dX5_inState_9 : decode (cr_by Y_X5_inState) 9 = .ok (.if_icmp .ge 27, 3) := by decide +kernel
theorem dX5_inState_12 : decode (cr_by Y_X5_inState) 12 = .ok (.iload_n 2, 1) := by decide +kernel
theorem dX5_inState_13 : decode (cr_by Y_X5_inState) 13 = .ok (.aload_n 0, 1) := by decide +kernel
theorem dX5_inState_14 : decode (cr_by Y_X5_inState) 14 = .ok (.getfield 59, 3) := by decide +kernel
theorem dX5_inState_17 : decode (cr_by Y_X5_inState) 17 = .ok (.iload_n 3, 1) := by decide +kernel
theorem dX5_inState_18 : decode (cr_by Y_X5_inState) 18 = .ok (.iaload, 1) := by decide +kernel
theorem dX5_inState_19 : decode (cr_by Y_X5_inState) 19 = .ok (.iload_n 1, 1) := by decide +kernel
theorem dX5_inState_20 : decode (cr_by Y_X5_inState) 20 = .ok (.if_icmp .ne 7, 3) := by decide +kernel
theorem dX5_inState_23 : decode (cr_by Y_X5_inState) 23 = .ok (.iconst 1, 1) := by decide +kernel
theorem dX5_inState_24 : decode (cr_by Y_X5_inState) 24 = .ok (.goto 4, 3) := by decide +kernel
theorem dX5_inState_27 : decode (cr_by Y_X5_inState) 27 = .ok (.iconst 0, 1) := by decide +kernel
theorem dX5_inState_28 : decode (cr_by Y_X5_inState) 28 = .ok (.iadd, 1) := by decide +kernel
theorem dX5_inState_29 : decode (cr_by Y_X5_inState) 29 = .ok (.istore_n 2, 1) := by decide +kernel
theorem dX5_inState_30 : decode (cr_by Y_X5_inState) 30 = .ok (.iinc 3 1, 3) := by decide +kernel
theorem dX5_inState_33 : decode (cr_by Y_X5_inState) 33 = .ok (.goto (-29), 3) := by decide +kernel
theorem dX5_inState_36 : decode (cr_by Y_X5_inState) 36 = .ok (.iload_n 2, 1) := by decide +kernel
theorem dX5_inState_37 : decode (cr_by Y_X5_inState) 37 = .ok (.ireturn, 1) := by decide +kernel
theorem dX5_count_0 : decode (cr_by Y_X5_count) 0 = .ok (.iload_n 1, 1) := by decide +kernel
theorem dX5_count_1 : decode (cr_by Y_X5_count) 1 = .ok (.bipush 10, 2) := by decide +kernel
theorem dX5_count_3 : decode (cr_by Y_X5_count) 3 = .ok (.if_icmp .le 19, 3) := by decide +kernel
theorem dX5_count_6 : decode (cr_by Y_X5_count) 6 = .ok (.iload_n 1, 1) := by decide +kernel
theorem dX5_count_7 : decode (cr_by Y_X5_count) 7 = .ok (.bipush 17, 2) := by decide +kernel
theorem dX5_count_9 : decode (cr_by Y_X5_count) 9 = .ok (.if_icmp .ge 13, 3) := by decide +kernel
theorem dX5_count_12 : decode (cr_by Y_X5_count) 12 = .ok (.aload_n 0, 1) := by decide +kernel
theorem dX5_count_13 : decode (cr_by Y_X5_count) 13 = .ok (.getfield 7, 3) := by decide +kernel
theorem dX5_count_16 : decode (cr_by Y_X5_count) 16 = .ok (.iload_n 1, 1) := by decide +kernel
theorem dX5_count_17 : decode (cr_by Y_X5_count) 17 = .ok (.bipush 10, 2) := by decide +kernel
theorem dX5_count_19 : decode (cr_by Y_X5_count) 19 = .ok (.isub, 1) := by decide +kernel
theorem dX5_count_20 : decode (cr_by Y_X5_count) 20 = .ok (.iaload, 1) := by decide +kernel
theorem dX5_count_21 : decode (cr_by Y_X5_count) 21 = .ok (.ireturn, 1) := by decide +kernel
theorem dX5_count_22 : decode (cr_by Y_X5_count) 22 = .ok (.iconst 0, 1) := by decide +kernel
theorem dX5_count_23 : decode (cr_by Y_X5_count) 23 = .ok (.istore_n 2, 1) := by decide +kernel
theorem dX5_count_24 : decode (cr_by Y_X5_count) 24 = .ok (.iload_n 1, 1) := by decide +kernel
theorem dX5_count_25 : decode (cr_by Y_X5_count) 25 = .ok (.tableswitch 110 0 8 #[51, 56, 61, 66, 66, 66, 66, 66, 74], 51) := by decide +kernel
theorem dX5_count_76 : decode (cr_by Y_X5_count) 76 = .ok (.aload_n 0, 1) := by decide +kernel
theorem dX5_count_77 : decode (cr_by Y_X5_count) 77 = .ok (.getfield 127, 3) := by decide +kernel
theorem dX5_count_80 : decode (cr_by Y_X5_count) 80 = .ok (.ireturn, 1) := by decide +kernel
theorem dX5_count_81 : decode (cr_by Y_X5_count) 81 = .ok (.aload_n 0, 1) := by decide +kernel
theorem dX5_count_82 : decode (cr_by Y_X5_count) 82 = .ok (.getfield 124, 3) := by decide +kernel
theorem dX5_count_85 : decode (cr_by Y_X5_count) 85 = .ok (.ireturn, 1) := by decide +kernel
theorem dX5_count_86 : decode (cr_by Y_X5_count) 86 = .ok (.aload_n 0, 1) := by decide +kernel
theorem dX5_count_87 : decode (cr_by Y_X5_count) 87 = .ok (.getfield 142, 3) := by decide +kernel
theorem dX5_count_90 : decode (cr_by Y_X5_count) 90 = .ok (.ireturn, 1) := by decide +kernel
theorem dX5_count_91 : decode (cr_by Y_X5_count) 91 = .ok (.aload_n 0, 1) := by decide +kernel
theorem dX5_count_92 : decode (cr_by Y_X5_count) 92 = .ok (.iload_n 1, 1) := by decide +kernel
theorem dX5_count_93 : decode (cr_by Y_X5_count) 93 = .ok (.iconst 3, 1) := by decide +kernel
theorem dX5_count_94 : decode (cr_by Y_X5_count) 94 = .ok (.isub, 1) := by decide +kernel
theorem dX5_count_95 : decode (cr_by Y_X5_count) 95 = .ok (.invokevirtual 219, 3) := by decide +kernel
theorem dX5_count_98 : decode (cr_by Y_X5_count) 98 = .ok (.ireturn, 1) := by decide +kernel
theorem dX5_count_99 : decode (cr_by Y_X5_count) 99 = .ok (.iconst 0, 1) := by decide +kernel
theorem dX5_count_100 : decode (cr_by Y_X5_count) 100 = .ok (.istore_n 3, 1) := by decide +kernel
theorem dX5_count_101 : decode (cr_by Y_X5_count) 101 = .ok (.iload_n 3, 1) := by decide +kernel
theorem dX5_count_102 : decode (cr_by Y_X5_count) 102 = .ok (.aload_n 0, 1) := by decide +kernel
theorem dX5_count_103 : decode (cr_by Y_X5_count) 103 = .ok (.getfield 124, 3) := by decide +kernel
theorem dX5_count_106 : decode (cr_by Y_X5_count) 106 = .ok (.if_icmp .ge 27, 3) := by decide +kernel
theorem dX5_count_109 : decode (cr_by Y_X5_count) 109 = .ok (.iload_n 2, 1) := by decide +kernel
theorem dX5_count_110 : decode (cr_by Y_X5_count) 110 = .ok (.aload_n 0, 1) := by decide +kernel
theorem dX5_count_111 : decode (cr_by Y_X5_count) 111 = .ok (.getfield 26, 3) := by decide +kernel
theorem dX5_count_114 : decode (cr_by Y_X5_count) 114 = .ok (.iload_n 3, 1) := by decide +kernel
theorem dX5_count_115 : decode (cr_by Y_X5_count) 115 = .ok (.iaload, 1) := by decide +kernel
theorem dX5_count_116 : decode (cr_by Y_X5_count) 116 = .ok (.iconst 1, 1) := by decide +kernel
theorem dX5_count_117 : decode (cr_by Y_X5_count) 117 = .ok (.if_icmp .ne 7, 3) := by decide +kernel
theorem dX5_count_120 : decode (cr_by Y_X5_count) 120 = .ok (.iconst 1, 1) := by decide +kernel
theorem dX5_count_121 : decode (cr_by Y_X5_count) 121 = .ok (.goto 4, 3) := by decide +kernel
theorem dX5_count_124 : decode (cr_by Y_X5_count) 124 = .ok (.iconst 0, 1) := by decide +kernel
theorem dX5_count_125 : decode (cr_by Y_X5_count) 125 = .ok (.iadd, 1) := by decide +kernel
theorem dX5_count_126 : decode (cr_by Y_X5_count) 126 = .ok (.istore_n 2, 1) := by decide +kernel
theorem dX5_count_127 : decode (cr_by Y_X5_count) 127 = .ok (.iinc 3 1, 3) := by decide +kernel
theorem dX5_count_130 : decode (cr_by Y_X5_count) 130 = .ok (.goto (-29), 3) := by decide +kernel
theorem dX5_count_133 : decode (cr_by Y_X5_count) 133 = .ok (.iload_n 2, 1) := by decide +kernel
theorem dX5_count_134 : decode (cr_by Y_X5_count) 134 = .ok (.ireturn, 1) := by decide +kernel
theorem dX5_count_135 : decode (cr_by Y_X5_count) 135 = .ok (.bipush (-9), 2) := by decide +kernel
theorem dX5_count_137 : decode (cr_by Y_X5_count) 137 = .ok (.ireturn, 1) := by decide +kernel

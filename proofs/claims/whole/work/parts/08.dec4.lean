theorem dX4_helper_0 : decode (cr_by Y_X4_helper) 0 = .ok (.iload_n 1, 1) := by decide +kernel
theorem dX4_helper_1 : decode (cr_by Y_X4_helper) 1 = .ok (.ifCond .ge 10, 3) := by decide +kernel
theorem dX4_helper_4 : decode (cr_by Y_X4_helper) 4 = .ok (.aload_n 0, 1) := by decide +kernel
theorem dX4_helper_5 : decode (cr_by Y_X4_helper) 5 = .ok (.bipush (-4), 2) := by decide +kernel
theorem dX4_helper_7 : decode (cr_by Y_X4_helper) 7 = .ok (.invokevirtual 30, 3) := by decide +kernel
theorem dX4_helper_10 : decode (cr_by Y_X4_helper) 10 = .ok (.ireturn, 1) := by decide +kernel
theorem dX4_helper_11 : decode (cr_by Y_X4_helper) 11 = .ok (.iload_n 1, 1) := by decide +kernel
theorem dX4_helper_12 : decode (cr_by Y_X4_helper) 12 = .ok (.sipush 255, 3) := by decide +kernel
theorem dX4_helper_15 : decode (cr_by Y_X4_helper) 15 = .ok (.if_icmp .gt 18, 3) := by decide +kernel
theorem dX4_helper_18 : decode (cr_by Y_X4_helper) 18 = .ok (.aload_n 0, 1) := by decide +kernel
theorem dX4_helper_19 : decode (cr_by Y_X4_helper) 19 = .ok (.getfield 10, 3) := by decide +kernel
theorem dX4_helper_22 : decode (cr_by Y_X4_helper) 22 = .ok (.getfield 34, 3) := by decide +kernel
theorem dX4_helper_25 : decode (cr_by Y_X4_helper) 25 = .ok (.getfield 38, 3) := by decide +kernel
theorem dX4_helper_28 : decode (cr_by Y_X4_helper) 28 = .ok (.bipush 10, 2) := by decide +kernel
theorem dX4_helper_30 : decode (cr_by Y_X4_helper) 30 = .ok (.if_icmp .lt 10, 3) := by decide +kernel
theorem dX4_helper_33 : decode (cr_by Y_X4_helper) 33 = .ok (.aload_n 0, 1) := by decide +kernel
theorem dX4_helper_34 : decode (cr_by Y_X4_helper) 34 = .ok (.bipush (-6), 2) := by decide +kernel
theorem dX4_helper_36 : decode (cr_by Y_X4_helper) 36 = .ok (.invokevirtual 30, 3) := by decide +kernel
theorem dX4_helper_39 : decode (cr_by Y_X4_helper) 39 = .ok (.ireturn, 1) := by decide +kernel
theorem dX4_helper_40 : decode (cr_by Y_X4_helper) 40 = .ok (.aload_n 0, 1) := by decide +kernel
theorem dX4_helper_41 : decode (cr_by Y_X4_helper) 41 = .ok (.getfield 10, 3) := by decide +kernel
theorem dX4_helper_44 : decode (cr_by Y_X4_helper) 44 = .ok (.getfield 34, 3) := by decide +kernel
theorem dX4_helper_47 : decode (cr_by Y_X4_helper) 47 = .ok (.iload_n 1, 1) := by decide +kernel
theorem dX4_helper_48 : decode (cr_by Y_X4_helper) 48 = .ok (.aload_n 0, 1) := by decide +kernel
theorem dX4_helper_49 : decode (cr_by Y_X4_helper) 49 = .ok (.getfield 10, 3) := by decide +kernel
theorem dX4_helper_52 : decode (cr_by Y_X4_helper) 52 = .ok (.getfield 44, 3) := by decide +kernel
theorem dX4_helper_55 : decode (cr_by Y_X4_helper) 55 = .ok (.invokevirtual 47, 3) := by decide +kernel
theorem dX4_helper_58 : decode (cr_by Y_X4_helper) 58 = .ok (.ireturn, 1) := by decide +kernel
theorem dX4_grade_0 : decode (cr_by Y_X4_grade) 0 = .ok (.aload_n 0, 1) := by decide +kernel
theorem dX4_grade_1 : decode (cr_by Y_X4_grade) 1 = .ok (.getfield 10, 3) := by decide +kernel
theorem dX4_grade_4 : decode (cr_by Y_X4_grade) 4 = .ok (.getfield 34, 3) := by decide +kernel
theorem dX4_grade_7 : decode (cr_by Y_X4_grade) 7 = .ok (.iload_n 1, 1) := by decide +kernel
theorem dX4_grade_8 : decode (cr_by Y_X4_grade) 8 = .ok (.invokevirtual 51, 3) := by decide +kernel
theorem dX4_grade_11 : decode (cr_by Y_X4_grade) 11 = .ok (.ifCond .eq 10, 3) := by decide +kernel
theorem dX4_grade_14 : decode (cr_by Y_X4_grade) 14 = .ok (.iload_n 2, 1) := by decide +kernel
theorem dX4_grade_15 : decode (cr_by Y_X4_grade) 15 = .ok (.invokestatic 55, 3) := by decide +kernel
theorem dX4_grade_18 : decode (cr_by Y_X4_grade) 18 = .ok (.ifCond .ne 9, 3) := by decide +kernel
theorem dX4_grade_21 : decode (cr_by Y_X4_grade) 21 = .ok (.aload_n 0, 1) := by decide +kernel
theorem dX4_grade_22 : decode (cr_by Y_X4_grade) 22 = .ok (.iconst (-1), 1) := by decide +kernel
theorem dX4_grade_23 : decode (cr_by Y_X4_grade) 23 = .ok (.invokevirtual 30, 3) := by decide +kernel
theorem dX4_grade_26 : decode (cr_by Y_X4_grade) 26 = .ok (.ireturn, 1) := by decide +kernel
theorem dX4_grade_27 : decode (cr_by Y_X4_grade) 27 = .ok (.iload_n 3, 1) := by decide +kernel
theorem dX4_grade_28 : decode (cr_by Y_X4_grade) 28 = .ok (.iconst 0, 1) := by decide +kernel
theorem dX4_grade_29 : decode (cr_by Y_X4_grade) 29 = .ok (.iconst 3, 1) := by decide +kernel
theorem dX4_grade_30 : decode (cr_by Y_X4_grade) 30 = .ok (.invokestatic 58, 3) := by decide +kernel
theorem dX4_grade_33 : decode (cr_by Y_X4_grade) 33 = .ok (.istore 4, 2) := by decide +kernel
theorem dX4_grade_35 : decode (cr_by Y_X4_grade) 35 = .ok (.iload 4, 2) := by decide +kernel
theorem dX4_grade_37 : decode (cr_by Y_X4_grade) 37 = .ok (.ifCond .eq 10, 3) := by decide +kernel
theorem dX4_grade_40 : decode (cr_by Y_X4_grade) 40 = .ok (.aload_n 0, 1) := by decide +kernel
theorem dX4_grade_41 : decode (cr_by Y_X4_grade) 41 = .ok (.iload 4, 2) := by decide +kernel
theorem dX4_grade_43 : decode (cr_by Y_X4_grade) 43 = .ok (.invokevirtual 30, 3) := by decide +kernel
theorem dX4_grade_46 : decode (cr_by Y_X4_grade) 46 = .ok (.ireturn, 1) := by decide +kernel
theorem dX4_grade_47 : decode (cr_by Y_X4_grade) 47 = .ok (.aload_n 0, 1) := by decide +kernel
theorem dX4_grade_48 : decode (cr_by Y_X4_grade) 48 = .ok (.getfield 10, 3) := by decide +kernel
theorem dX4_grade_51 : decode (cr_by Y_X4_grade) 51 = .ok (.getfield 34, 3) := by decide +kernel
theorem dX4_grade_54 : decode (cr_by Y_X4_grade) 54 = .ok (.iload_n 1, 1) := by decide +kernel
theorem dX4_grade_55 : decode (cr_by Y_X4_grade) 55 = .ok (.iload_n 2, 1) := by decide +kernel
theorem dX4_grade_56 : decode (cr_by Y_X4_grade) 56 = .ok (.invokevirtual 62, 3) := by decide +kernel
theorem dX4_grade_59 : decode (cr_by Y_X4_grade) 59 = .ok (.istore 5, 2) := by decide +kernel
theorem dX4_grade_61 : decode (cr_by Y_X4_grade) 61 = .ok (.aload_n 0, 1) := by decide +kernel
theorem dX4_grade_62 : decode (cr_by Y_X4_grade) 62 = .ok (.getfield 10, 3) := by decide +kernel
theorem dX4_grade_65 : decode (cr_by Y_X4_grade) 65 = .ok (.getfield 34, 3) := by decide +kernel
theorem dX4_grade_68 : decode (cr_by Y_X4_grade) 68 = .ok (.iload_n 1, 1) := by decide +kernel
theorem dX4_grade_69 : decode (cr_by Y_X4_grade) 69 = .ok (.iload_n 2, 1) := by decide +kernel
theorem dX4_grade_70 : decode (cr_by Y_X4_grade) 70 = .ok (.iload_n 3, 1) := by decide +kernel
theorem dX4_grade_71 : decode (cr_by Y_X4_grade) 71 = .ok (.invokevirtual 65, 3) := by decide +kernel
theorem dX4_grade_74 : decode (cr_by Y_X4_grade) 74 = .ok (.iload 5, 2) := by decide +kernel
theorem dX4_grade_76 : decode (cr_by Y_X4_grade) 76 = .ok (.ireturn, 1) := by decide +kernel
theorem dX4_duty_0 : decode (cr_by Y_X4_duty) 0 = .ok (.aload_n 0, 1) := by decide +kernel
theorem dX4_duty_1 : decode (cr_by Y_X4_duty) 1 = .ok (.getfield 10, 3) := by decide +kernel
theorem dX4_duty_4 : decode (cr_by Y_X4_duty) 4 = .ok (.getfield 34, 3) := by decide +kernel
theorem dX4_duty_7 : decode (cr_by Y_X4_duty) 7 = .ok (.iload_n 1, 1) := by decide +kernel
theorem dX4_duty_8 : decode (cr_by Y_X4_duty) 8 = .ok (.invokevirtual 51, 3) := by decide +kernel
theorem dX4_duty_11 : decode (cr_by Y_X4_duty) 11 = .ok (.ifCond .ne 9, 3) := by decide +kernel
theorem dX4_duty_14 : decode (cr_by Y_X4_duty) 14 = .ok (.aload_n 0, 1) := by decide +kernel
theorem dX4_duty_15 : decode (cr_by Y_X4_duty) 15 = .ok (.iconst (-1), 1) := by decide +kernel
theorem dX4_duty_16 : decode (cr_by Y_X4_duty) 16 = .ok (.invokevirtual 30, 3) := by decide +kernel
theorem dX4_duty_19 : decode (cr_by Y_X4_duty) 19 = .ok (.ireturn, 1) := by decide +kernel
theorem dX4_duty_20 : decode (cr_by Y_X4_duty) 20 = .ok (.aload_n 0, 1) := by decide +kernel
theorem dX4_duty_21 : decode (cr_by Y_X4_duty) 21 = .ok (.getfield 10, 3) := by decide +kernel
theorem dX4_duty_24 : decode (cr_by Y_X4_duty) 24 = .ok (.getfield 34, 3) := by decide +kernel
theorem dX4_duty_27 : decode (cr_by Y_X4_duty) 27 = .ok (.getfield 69, 3) := by decide +kernel
theorem dX4_duty_30 : decode (cr_by Y_X4_duty) 30 = .ok (.iload_n 1, 1) := by decide +kernel
theorem dX4_duty_31 : decode (cr_by Y_X4_duty) 31 = .ok (.iaload, 1) := by decide +kernel
theorem dX4_duty_32 : decode (cr_by Y_X4_duty) 32 = .ok (.ifCond .eq 10, 3) := by decide +kernel
theorem dX4_duty_35 : decode (cr_by Y_X4_duty) 35 = .ok (.aload_n 0, 1) := by decide +kernel
theorem dX4_duty_36 : decode (cr_by Y_X4_duty) 36 = .ok (.bipush (-2), 2) := by decide +kernel
theorem dX4_duty_38 : decode (cr_by Y_X4_duty) 38 = .ok (.invokevirtual 30, 3) := by decide +kernel
theorem dX4_duty_41 : decode (cr_by Y_X4_duty) 41 = .ok (.ireturn, 1) := by decide +kernel
theorem dX4_duty_42 : decode (cr_by Y_X4_duty) 42 = .ok (.aload_n 0, 1) := by decide +kernel
theorem dX4_duty_43 : decode (cr_by Y_X4_duty) 43 = .ok (.getfield 10, 3) := by decide +kernel
theorem dX4_duty_46 : decode (cr_by Y_X4_duty) 46 = .ok (.getfield 34, 3) := by decide +kernel
theorem dX4_duty_49 : decode (cr_by Y_X4_duty) 49 = .ok (.iload_n 1, 1) := by decide +kernel
theorem dX4_duty_50 : decode (cr_by Y_X4_duty) 50 = .ok (.iconst 1, 1) := by decide +kernel
theorem dX4_duty_51 : decode (cr_by Y_X4_duty) 51 = .ok (.aload_n 0, 1) := by decide +kernel
theorem dX4_duty_52 : decode (cr_by Y_X4_duty) 52 = .ok (.getfield 10, 3) := by decide +kernel
theorem dX4_duty_55 : decode (cr_by Y_X4_duty) 55 = .ok (.getfield 44, 3) := by decide +kernel
theorem dX4_duty_58 : decode (cr_by Y_X4_duty) 58 = .ok (.invokevirtual 72, 3) := by decide +kernel
theorem dX4_duty_61 : decode (cr_by Y_X4_duty) 61 = .ok (.iconst 1, 1) := by decide +kernel
theorem dX4_duty_62 : decode (cr_by Y_X4_duty) 62 = .ok (.ireturn, 1) := by decide +kernel
theorem dX4_out_0 : decode (cr_by Y_X4_out) 0 = .ok (.aload_n 0, 1) := by decide +kernel
theorem dX4_out_1 : decode (cr_by Y_X4_out) 1 = .ok (.getfield 10, 3) := by decide +kernel
theorem dX4_out_4 : decode (cr_by Y_X4_out) 4 = .ok (.getfield 34, 3) := by decide +kernel
theorem dX4_out_7 : decode (cr_by Y_X4_out) 7 = .ok (.iload_n 1, 1) := by decide +kernel
theorem dX4_out_8 : decode (cr_by Y_X4_out) 8 = .ok (.invokevirtual 51, 3) := by decide +kernel
theorem dX4_out_11 : decode (cr_by Y_X4_out) 11 = .ok (.ifCond .ne 9, 3) := by decide +kernel
theorem dX4_out_14 : decode (cr_by Y_X4_out) 14 = .ok (.aload_n 0, 1) := by decide +kernel
theorem dX4_out_15 : decode (cr_by Y_X4_out) 15 = .ok (.iconst (-1), 1) := by decide +kernel
theorem dX4_out_16 : decode (cr_by Y_X4_out) 16 = .ok (.invokevirtual 30, 3) := by decide +kernel
theorem dX4_out_19 : decode (cr_by Y_X4_out) 19 = .ok (.ireturn, 1) := by decide +kernel
theorem dX4_out_20 : decode (cr_by Y_X4_out) 20 = .ok (.aload_n 0, 1) := by decide +kernel
theorem dX4_out_21 : decode (cr_by Y_X4_out) 21 = .ok (.getfield 10, 3) := by decide +kernel
theorem dX4_out_24 : decode (cr_by Y_X4_out) 24 = .ok (.getfield 34, 3) := by decide +kernel
theorem dX4_out_27 : decode (cr_by Y_X4_out) 27 = .ok (.getfield 69, 3) := by decide +kernel
theorem dX4_out_30 : decode (cr_by Y_X4_out) 30 = .ok (.iload_n 1, 1) := by decide +kernel
theorem dX4_out_31 : decode (cr_by Y_X4_out) 31 = .ok (.iaload, 1) := by decide +kernel
theorem dX4_out_32 : decode (cr_by Y_X4_out) 32 = .ok (.istore_n 2, 1) := by decide +kernel
theorem dX4_out_33 : decode (cr_by Y_X4_out) 33 = .ok (.iload_n 2, 1) := by decide +kernel
theorem dX4_out_34 : decode (cr_by Y_X4_out) 34 = .ok (.iconst 1, 1) := by decide +kernel
theorem dX4_out_35 : decode (cr_by Y_X4_out) 35 = .ok (.if_icmp .eq 15, 3) := by decide +kernel
theorem dX4_out_38 : decode (cr_by Y_X4_out) 38 = .ok (.iload_n 2, 1) := by decide +kernel
theorem dX4_out_39 : decode (cr_by Y_X4_out) 39 = .ok (.iconst 3, 1) := by decide +kernel
theorem dX4_out_40 : decode (cr_by Y_X4_out) 40 = .ok (.if_icmp .eq 10, 3) := by decide +kernel
theorem dX4_out_43 : decode (cr_by Y_X4_out) 43 = .ok (.aload_n 0, 1) := by decide +kernel
theorem dX4_out_44 : decode (cr_by Y_X4_out) 44 = .ok (.bipush (-2), 2) := by decide +kernel
theorem dX4_out_46 : decode (cr_by Y_X4_out) 46 = .ok (.invokevirtual 30, 3) := by decide +kernel
theorem dX4_out_49 : decode (cr_by Y_X4_out) 49 = .ok (.ireturn, 1) := by decide +kernel
theorem dX4_out_50 : decode (cr_by Y_X4_out) 50 = .ok (.aload_n 0, 1) := by decide +kernel
theorem dX4_out_51 : decode (cr_by Y_X4_out) 51 = .ok (.getfield 10, 3) := by decide +kernel
theorem dX4_out_54 : decode (cr_by Y_X4_out) 54 = .ok (.getfield 34, 3) := by decide +kernel
theorem dX4_out_57 : decode (cr_by Y_X4_out) 57 = .ok (.iload_n 1, 1) := by decide +kernel
theorem dX4_out_58 : decode (cr_by Y_X4_out) 58 = .ok (.iconst 0, 1) := by decide +kernel
theorem dX4_out_59 : decode (cr_by Y_X4_out) 59 = .ok (.aload_n 0, 1) := by decide +kernel
theorem dX4_out_60 : decode (cr_by Y_X4_out) 60 = .ok (.getfield 10, 3) := by decide +kernel
theorem dX4_out_63 : decode (cr_by Y_X4_out) 63 = .ok (.getfield 44, 3) := by decide +kernel
theorem dX4_out_66 : decode (cr_by Y_X4_out) 66 = .ok (.invokevirtual 72, 3) := by decide +kernel
theorem dX4_out_69 : decode (cr_by Y_X4_out) 69 = .ok (.iconst 1, 1) := by decide +kernel
theorem dX4_out_70 : decode (cr_by Y_X4_out) 70 = .ok (.ireturn, 1) := by decide +kernel
theorem dX4_pause_0 : decode (cr_by Y_X4_pause) 0 = .ok (.aload_n 0, 1) := by decide +kernel
theorem dX4_pause_1 : decode (cr_by Y_X4_pause) 1 = .ok (.getfield 10, 3) := by decide +kernel
theorem dX4_pause_4 : decode (cr_by Y_X4_pause) 4 = .ok (.getfield 34, 3) := by decide +kernel
theorem dX4_pause_7 : decode (cr_by Y_X4_pause) 7 = .ok (.iload_n 1, 1) := by decide +kernel
theorem dX4_pause_8 : decode (cr_by Y_X4_pause) 8 = .ok (.invokevirtual 51, 3) := by decide +kernel
theorem dX4_pause_11 : decode (cr_by Y_X4_pause) 11 = .ok (.ifCond .ne 9, 3) := by decide +kernel
theorem dX4_pause_14 : decode (cr_by Y_X4_pause) 14 = .ok (.aload_n 0, 1) := by decide +kernel
theorem dX4_pause_15 : decode (cr_by Y_X4_pause) 15 = .ok (.iconst (-1), 1) := by decide +kernel
theorem dX4_pause_16 : decode (cr_by Y_X4_pause) 16 = .ok (.invokevirtual 30, 3) := by decide +kernel
theorem dX4_pause_19 : decode (cr_by Y_X4_pause) 19 = .ok (.ireturn, 1) := by decide +kernel
theorem dX4_pause_20 : decode (cr_by Y_X4_pause) 20 = .ok (.aload_n 0, 1) := by decide +kernel
theorem dX4_pause_21 : decode (cr_by Y_X4_pause) 21 = .ok (.getfield 10, 3) := by decide +kernel
theorem dX4_pause_24 : decode (cr_by Y_X4_pause) 24 = .ok (.getfield 34, 3) := by decide +kernel
theorem dX4_pause_27 : decode (cr_by Y_X4_pause) 27 = .ok (.getfield 69, 3) := by decide +kernel
theorem dX4_pause_30 : decode (cr_by Y_X4_pause) 30 = .ok (.iload_n 1, 1) := by decide +kernel
theorem dX4_pause_31 : decode (cr_by Y_X4_pause) 31 = .ok (.iaload, 1) := by decide +kernel
theorem dX4_pause_32 : decode (cr_by Y_X4_pause) 32 = .ok (.iconst 1, 1) := by decide +kernel
theorem dX4_pause_33 : decode (cr_by Y_X4_pause) 33 = .ok (.if_icmp .eq 10, 3) := by decide +kernel
theorem dX4_pause_36 : decode (cr_by Y_X4_pause) 36 = .ok (.aload_n 0, 1) := by decide +kernel
theorem dX4_pause_37 : decode (cr_by Y_X4_pause) 37 = .ok (.bipush (-2), 2) := by decide +kernel
theorem dX4_pause_39 : decode (cr_by Y_X4_pause) 39 = .ok (.invokevirtual 30, 3) := by decide +kernel
theorem dX4_pause_42 : decode (cr_by Y_X4_pause) 42 = .ok (.ireturn, 1) := by decide +kernel
theorem dX4_pause_43 : decode (cr_by Y_X4_pause) 43 = .ok (.iload_n 2, 1) := by decide +kernel
theorem dX4_pause_44 : decode (cr_by Y_X4_pause) 44 = .ok (.iconst 1, 1) := by decide +kernel
theorem dX4_pause_45 : decode (cr_by Y_X4_pause) 45 = .ok (.sipush 5000, 3) := by decide +kernel
theorem dX4_pause_48 : decode (cr_by Y_X4_pause) 48 = .ok (.invokestatic 58, 3) := by decide +kernel
theorem dX4_pause_51 : decode (cr_by Y_X4_pause) 51 = .ok (.istore_n 3, 1) := by decide +kernel
theorem dX4_pause_52 : decode (cr_by Y_X4_pause) 52 = .ok (.iload_n 3, 1) := by decide +kernel
theorem dX4_pause_53 : decode (cr_by Y_X4_pause) 53 = .ok (.ifCond .eq 9, 3) := by decide +kernel
theorem dX4_pause_56 : decode (cr_by Y_X4_pause) 56 = .ok (.aload_n 0, 1) := by decide +kernel
theorem dX4_pause_57 : decode (cr_by Y_X4_pause) 57 = .ok (.iload_n 3, 1) := by decide +kernel
theorem dX4_pause_58 : decode (cr_by Y_X4_pause) 58 = .ok (.invokevirtual 30, 3) := by decide +kernel
theorem dX4_pause_61 : decode (cr_by Y_X4_pause) 61 = .ok (.ireturn, 1) := by decide +kernel
theorem dX4_pause_62 : decode (cr_by Y_X4_pause) 62 = .ok (.aload_n 0, 1) := by decide +kernel
theorem dX4_pause_63 : decode (cr_by Y_X4_pause) 63 = .ok (.getfield 10, 3) := by decide +kernel
theorem dX4_pause_66 : decode (cr_by Y_X4_pause) 66 = .ok (.getfield 34, 3) := by decide +kernel
theorem dX4_pause_69 : decode (cr_by Y_X4_pause) 69 = .ok (.iload_n 1, 1) := by decide +kernel
theorem dX4_pause_70 : decode (cr_by Y_X4_pause) 70 = .ok (.iconst 3, 1) := by decide +kernel
theorem dX4_pause_71 : decode (cr_by Y_X4_pause) 71 = .ok (.aload_n 0, 1) := by decide +kernel
theorem dX4_pause_72 : decode (cr_by Y_X4_pause) 72 = .ok (.getfield 10, 3) := by decide +kernel
theorem dX4_pause_75 : decode (cr_by Y_X4_pause) 75 = .ok (.getfield 44, 3) := by decide +kernel
theorem dX4_pause_78 : decode (cr_by Y_X4_pause) 78 = .ok (.invokevirtual 72, 3) := by decide +kernel
theorem dX4_pause_81 : decode (cr_by Y_X4_pause) 81 = .ok (.aload_n 0, 1) := by decide +kernel
theorem dX4_pause_82 : decode (cr_by Y_X4_pause) 82 = .ok (.getfield 10, 3) := by decide +kernel
theorem dX4_pause_85 : decode (cr_by Y_X4_pause) 85 = .ok (.getfield 34, 3) := by decide +kernel
theorem dX4_pause_88 : decode (cr_by Y_X4_pause) 88 = .ok (.getfield 75, 3) := by decide +kernel
theorem dX4_pause_91 : decode (cr_by Y_X4_pause) 91 = .ok (.iload_n 1, 1) := by decide +kernel
theorem dX4_pause_92 : decode (cr_by Y_X4_pause) 92 = .ok (.aload_n 0, 1) := by decide +kernel
theorem dX4_pause_93 : decode (cr_by Y_X4_pause) 93 = .ok (.getfield 10, 3) := by decide +kernel
theorem dX4_pause_96 : decode (cr_by Y_X4_pause) 96 = .ok (.getfield 44, 3) := by decide +kernel
theorem dX4_pause_99 : decode (cr_by Y_X4_pause) 99 = .ok (.iload_n 2, 1) := by decide +kernel
theorem dX4_pause_100 : decode (cr_by Y_X4_pause) 100 = .ok (.iadd, 1) := by decide +kernel
theorem dX4_pause_101 : decode (cr_by Y_X4_pause) 101 = .ok (.iastore, 1) := by decide +kernel
theorem dX4_pause_102 : decode (cr_by Y_X4_pause) 102 = .ok (.aload_n 0, 1) := by decide +kernel
theorem dX4_pause_103 : decode (cr_by Y_X4_pause) 103 = .ok (.getfield 10, 3) := by decide +kernel
theorem dX4_pause_106 : decode (cr_by Y_X4_pause) 106 = .ok (.getfield 44, 3) := by decide +kernel
theorem dX4_pause_109 : decode (cr_by Y_X4_pause) 109 = .ok (.iload_n 2, 1) := by decide +kernel
theorem dX4_pause_110 : decode (cr_by Y_X4_pause) 110 = .ok (.iadd, 1) := by decide +kernel
theorem dX4_pause_111 : decode (cr_by Y_X4_pause) 111 = .ok (.ireturn, 1) := by decide +kernel
theorem dX4_call_0 : decode (cr_by Y_X4_call) 0 = .ok (.iload_n 1, 1) := by decide +kernel
theorem dX4_call_1 : decode (cr_by Y_X4_call) 1 = .ok (.iconst 1, 1) := by decide +kernel
theorem dX4_call_2 : decode (cr_by Y_X4_call) 2 = .ok (.if_icmp .ne 22, 3) := by decide +kernel
theorem dX4_call_5 : decode (cr_by Y_X4_call) 5 = .ok (.aload_n 0, 1) := by decide +kernel
theorem dX4_call_6 : decode (cr_by Y_X4_call) 6 = .ok (.getfield 10, 3) := by decide +kernel
theorem dX4_call_9 : decode (cr_by Y_X4_call) 9 = .ok (.getfield 34, 3) := by decide +kernel
theorem dX4_call_12 : decode (cr_by Y_X4_call) 12 = .ok (.iload 5, 2) := by decide +kernel
theorem dX4_call_14 : decode (cr_by Y_X4_call) 14 = .ok (.invokevirtual 51, 3) := by decide +kernel
theorem dX4_call_17 : decode (cr_by Y_X4_call) 17 = .ok (.ifCond .ne 7, 3) := by decide +kernel
theorem dX4_call_20 : decode (cr_by Y_X4_call) 20 = .ok (.iconst 1, 1) := by decide +kernel
theorem dX4_call_21 : decode (cr_by Y_X4_call) 21 = .ok (.goto 4, 3) := by decide +kernel
theorem dX4_call_24 : decode (cr_by Y_X4_call) 24 = .ok (.iconst 0, 1) := by decide +kernel
theorem dX4_call_25 : decode (cr_by Y_X4_call) 25 = .ok (.istore 6, 2) := by decide +kernel
theorem dX4_call_27 : decode (cr_by Y_X4_call) 27 = .ok (.iload_n 1, 1) := by decide +kernel
theorem dX4_call_28 : decode (cr_by Y_X4_call) 28 = .ok (.ifCond .lt 20, 3) := by decide +kernel
theorem dX4_call_31 : decode (cr_by Y_X4_call) 31 = .ok (.iload_n 1, 1) := by decide +kernel
theorem dX4_call_32 : decode (cr_by Y_X4_call) 32 = .ok (.iconst 4, 1) := by decide +kernel
theorem dX4_call_33 : decode (cr_by Y_X4_call) 33 = .ok (.if_icmp .ge 15, 3) := by decide +kernel
theorem dX4_call_36 : decode (cr_by Y_X4_call) 36 = .ok (.iload_n 2, 1) := by decide +kernel
theorem dX4_call_37 : decode (cr_by Y_X4_call) 37 = .ok (.invokestatic 55, 3) := by decide +kernel
theorem dX4_call_40 : decode (cr_by Y_X4_call) 40 = .ok (.ifCond .eq 8, 3) := by decide +kernel
theorem dX4_call_43 : decode (cr_by Y_X4_call) 43 = .ok (.iload 6, 2) := by decide +kernel
theorem dX4_call_45 : decode (cr_by Y_X4_call) 45 = .ok (.ifCond .eq 9, 3) := by decide +kernel
theorem dX4_call_48 : decode (cr_by Y_X4_call) 48 = .ok (.aload_n 0, 1) := by decide +kernel
theorem dX4_call_49 : decode (cr_by Y_X4_call) 49 = .ok (.iconst (-1), 1) := by decide +kernel
theorem dX4_call_50 : decode (cr_by Y_X4_call) 50 = .ok (.invokevirtual 30, 3) := by decide +kernel
theorem dX4_call_53 : decode (cr_by Y_X4_call) 53 = .ok (.ireturn, 1) := by decide +kernel
theorem dX4_call_54 : decode (cr_by Y_X4_call) 54 = .ok (.iload_n 3, 1) := by decide +kernel
theorem dX4_call_55 : decode (cr_by Y_X4_call) 55 = .ok (.iconst 1, 1) := by decide +kernel
theorem dX4_call_56 : decode (cr_by Y_X4_call) 56 = .ok (.if_icmp .lt 8, 3) := by decide +kernel
theorem dX4_call_59 : decode (cr_by Y_X4_call) 59 = .ok (.iload 4, 2) := by decide +kernel
theorem dX4_call_61 : decode (cr_by Y_X4_call) 61 = .ok (.ifCond .ge 10, 3) := by decide +kernel
theorem dX4_call_64 : decode (cr_by Y_X4_call) 64 = .ok (.aload_n 0, 1) := by decide +kernel
theorem dX4_call_65 : decode (cr_by Y_X4_call) 65 = .ok (.bipush (-4), 2) := by decide +kernel
theorem dX4_call_67 : decode (cr_by Y_X4_call) 67 = .ok (.invokevirtual 30, 3) := by decide +kernel
theorem dX4_call_70 : decode (cr_by Y_X4_call) 70 = .ok (.ireturn, 1) := by decide +kernel
theorem dX4_call_71 : decode (cr_by Y_X4_call) 71 = .ok (.iload_n 3, 1) := by decide +kernel
theorem dX4_call_72 : decode (cr_by Y_X4_call) 72 = .ok (.sipush 1000, 3) := by decide +kernel
theorem dX4_call_75 : decode (cr_by Y_X4_call) 75 = .ok (.if_icmp .gt 27, 3) := by decide +kernel
theorem dX4_call_78 : decode (cr_by Y_X4_call) 78 = .ok (.iload 4, 2) := by decide +kernel
theorem dX4_call_80 : decode (cr_by Y_X4_call) 80 = .ok (.sipush 5000, 3) := by decide +kernel
theorem dX4_call_83 : decode (cr_by Y_X4_call) 83 = .ok (.if_icmp .gt 19, 3) := by decide +kernel
theorem dX4_call_86 : decode (cr_by Y_X4_call) 86 = .ok (.aload_n 0, 1) := by decide +kernel
theorem dX4_call_87 : decode (cr_by Y_X4_call) 87 = .ok (.getfield 10, 3) := by decide +kernel
theorem dX4_call_90 : decode (cr_by Y_X4_call) 90 = .ok (.getfield 78, 3) := by decide +kernel
theorem dX4_call_93 : decode (cr_by Y_X4_call) 93 = .ok (.getfield 82, 3) := by decide +kernel
theorem dX4_call_96 : decode (cr_by Y_X4_call) 96 = .ok (.sipush 200, 3) := by decide +kernel
theorem dX4_call_99 : decode (cr_by Y_X4_call) 99 = .ok (.if_icmp .lt 10, 3) := by decide +kernel
theorem dX4_call_102 : decode (cr_by Y_X4_call) 102 = .ok (.aload_n 0, 1) := by decide +kernel
theorem dX4_call_103 : decode (cr_by Y_X4_call) 103 = .ok (.bipush (-6), 2) := by decide +kernel
theorem dX4_call_105 : decode (cr_by Y_X4_call) 105 = .ok (.invokevirtual 30, 3) := by decide +kernel
theorem dX4_call_108 : decode (cr_by Y_X4_call) 108 = .ok (.ireturn, 1) := by decide +kernel
theorem dX4_call_109 : decode (cr_by Y_X4_call) 109 = .ok (.aload_n 0, 1) := by decide +kernel
theorem dX4_call_110 : decode (cr_by Y_X4_call) 110 = .ok (.getfield 10, 3) := by decide +kernel
theorem dX4_call_113 : decode (cr_by Y_X4_call) 113 = .ok (.getfield 78, 3) := by decide +kernel
theorem dX4_call_116 : decode (cr_by Y_X4_call) 116 = .ok (.iload_n 1, 1) := by decide +kernel
theorem dX4_call_117 : decode (cr_by Y_X4_call) 117 = .ok (.iload_n 1, 1) := by decide +kernel
theorem dX4_call_118 : decode (cr_by Y_X4_call) 118 = .ok (.iconst 1, 1) := by decide +kernel
theorem dX4_call_119 : decode (cr_by Y_X4_call) 119 = .ok (.if_icmp .ne 8, 3) := by decide +kernel
theorem dX4_call_122 : decode (cr_by Y_X4_call) 122 = .ok (.iload 5, 2) := by decide +kernel
theorem dX4_call_124 : decode (cr_by Y_X4_call) 124 = .ok (.goto 5, 3) := by decide +kernel
theorem dX4_call_127 : decode (cr_by Y_X4_call) 127 = .ok (.bipush (-9), 2) := by decide +kernel
theorem dX4_call_129 : decode (cr_by Y_X4_call) 129 = .ok (.invokevirtual 85, 3) := by decide +kernel
theorem dX4_call_132 : decode (cr_by Y_X4_call) 132 = .ok (.istore 7, 2) := by decide +kernel
theorem dX4_call_134 : decode (cr_by Y_X4_call) 134 = .ok (.aload_n 0, 1) := by decide +kernel
theorem dX4_call_135 : decode (cr_by Y_X4_call) 135 = .ok (.getfield 10, 3) := by decide +kernel
theorem dX4_call_138 : decode (cr_by Y_X4_call) 138 = .ok (.getfield 78, 3) := by decide +kernel
theorem dX4_call_141 : decode (cr_by Y_X4_call) 141 = .ok (.iload 7, 2) := by decide +kernel
theorem dX4_call_143 : decode (cr_by Y_X4_call) 143 = .ok (.iload_n 2, 1) := by decide +kernel
theorem dX4_call_144 : decode (cr_by Y_X4_call) 144 = .ok (.iload_n 3, 1) := by decide +kernel
theorem dX4_call_145 : decode (cr_by Y_X4_call) 145 = .ok (.iload 4, 2) := by decide +kernel
theorem dX4_call_147 : decode (cr_by Y_X4_call) 147 = .ok (.invokevirtual 86, 3) := by decide +kernel
theorem dX4_call_150 : decode (cr_by Y_X4_call) 150 = .ok (.aload_n 0, 1) := by decide +kernel
theorem dX4_call_151 : decode (cr_by Y_X4_call) 151 = .ok (.getfield 10, 3) := by decide +kernel
theorem dX4_call_154 : decode (cr_by Y_X4_call) 154 = .ok (.getfield 78, 3) := by decide +kernel
theorem dX4_call_157 : decode (cr_by Y_X4_call) 157 = .ok (.iload 7, 2) := by decide +kernel
theorem dX4_call_159 : decode (cr_by Y_X4_call) 159 = .ok (.aload_n 0, 1) := by decide +kernel
theorem dX4_call_160 : decode (cr_by Y_X4_call) 160 = .ok (.getfield 10, 3) := by decide +kernel
theorem dX4_call_163 : decode (cr_by Y_X4_call) 163 = .ok (.getfield 44, 3) := by decide +kernel
theorem dX4_call_166 : decode (cr_by Y_X4_call) 166 = .ok (.invokevirtual 90, 3) := by decide +kernel
theorem dX4_call_169 : decode (cr_by Y_X4_call) 169 = .ok (.iload 7, 2) := by decide +kernel
theorem dX4_call_171 : decode (cr_by Y_X4_call) 171 = .ok (.ireturn, 1) := by decide +kernel
theorem dX4_rule_0 : decode (cr_by Y_X4_rule) 0 = .ok (.iload_n 1, 1) := by decide +kernel
theorem dX4_rule_1 : decode (cr_by Y_X4_rule) 1 = .ok (.ifCond .lt 8, 3) := by decide +kernel
theorem dX4_rule_4 : decode (cr_by Y_X4_rule) 4 = .ok (.iload_n 1, 1) := by decide +kernel
theorem dX4_rule_5 : decode (cr_by Y_X4_rule) 5 = .ok (.iconst 4, 1) := by decide +kernel
theorem dX4_rule_6 : decode (cr_by Y_X4_rule) 6 = .ok (.if_icmp .lt 9, 3) := by decide +kernel
theorem dX4_rule_9 : decode (cr_by Y_X4_rule) 9 = .ok (.aload_n 0, 1) := by decide +kernel
theorem dX4_rule_10 : decode (cr_by Y_X4_rule) 10 = .ok (.iconst (-1), 1) := by decide +kernel
theorem dX4_rule_11 : decode (cr_by Y_X4_rule) 11 = .ok (.invokevirtual 30, 3) := by decide +kernel
theorem dX4_rule_14 : decode (cr_by Y_X4_rule) 14 = .ok (.ireturn, 1) := by decide +kernel
theorem dX4_rule_15 : decode (cr_by Y_X4_rule) 15 = .ok (.aload_n 0, 1) := by decide +kernel
theorem dX4_rule_16 : decode (cr_by Y_X4_rule) 16 = .ok (.getfield 10, 3) := by decide +kernel
theorem dX4_rule_19 : decode (cr_by Y_X4_rule) 19 = .ok (.getfield 94, 3) := by decide +kernel
theorem dX4_rule_22 : decode (cr_by Y_X4_rule) 22 = .ok (.istore_n 2, 1) := by decide +kernel
theorem dX4_rule_23 : decode (cr_by Y_X4_rule) 23 = .ok (.aload_n 0, 1) := by decide +kernel
theorem dX4_rule_24 : decode (cr_by Y_X4_rule) 24 = .ok (.getfield 10, 3) := by decide +kernel
theorem dX4_rule_27 : decode (cr_by Y_X4_rule) 27 = .ok (.iload_n 1, 1) := by decide +kernel
theorem dX4_rule_28 : decode (cr_by Y_X4_rule) 28 = .ok (.putfield 94, 3) := by decide +kernel
theorem dX4_rule_31 : decode (cr_by Y_X4_rule) 31 = .ok (.iload_n 2, 1) := by decide +kernel
theorem dX4_rule_32 : decode (cr_by Y_X4_rule) 32 = .ok (.ireturn, 1) := by decide +kernel
theorem dX4_prefer_0 : decode (cr_by Y_X4_prefer) 0 = .ok (.iload_n 1, 1) := by decide +kernel
theorem dX4_prefer_1 : decode (cr_by Y_X4_prefer) 1 = .ok (.iconst 0, 1) := by decide +kernel
theorem dX4_prefer_2 : decode (cr_by Y_X4_prefer) 2 = .ok (.sipush 1000, 3) := by decide +kernel
theorem dX4_prefer_5 : decode (cr_by Y_X4_prefer) 5 = .ok (.invokestatic 58, 3) := by decide +kernel
theorem dX4_prefer_8 : decode (cr_by Y_X4_prefer) 8 = .ok (.istore_n 2, 1) := by decide +kernel
theorem dX4_prefer_9 : decode (cr_by Y_X4_prefer) 9 = .ok (.iload_n 2, 1) := by decide +kernel
theorem dX4_prefer_10 : decode (cr_by Y_X4_prefer) 10 = .ok (.ifCond .eq 9, 3) := by decide +kernel
theorem dX4_prefer_13 : decode (cr_by Y_X4_prefer) 13 = .ok (.aload_n 0, 1) := by decide +kernel
theorem dX4_prefer_14 : decode (cr_by Y_X4_prefer) 14 = .ok (.iload_n 2, 1) := by decide +kernel
theorem dX4_prefer_15 : decode (cr_by Y_X4_prefer) 15 = .ok (.invokevirtual 30, 3) := by decide +kernel
theorem dX4_prefer_18 : decode (cr_by Y_X4_prefer) 18 = .ok (.ireturn, 1) := by decide +kernel
theorem dX4_prefer_19 : decode (cr_by Y_X4_prefer) 19 = .ok (.aload_n 0, 1) := by decide +kernel
theorem dX4_prefer_20 : decode (cr_by Y_X4_prefer) 20 = .ok (.getfield 10, 3) := by decide +kernel
theorem dX4_prefer_23 : decode (cr_by Y_X4_prefer) 23 = .ok (.getfield 97, 3) := by decide +kernel
theorem dX4_prefer_26 : decode (cr_by Y_X4_prefer) 26 = .ok (.istore_n 3, 1) := by decide +kernel
theorem dX4_prefer_27 : decode (cr_by Y_X4_prefer) 27 = .ok (.aload_n 0, 1) := by decide +kernel
theorem dX4_prefer_28 : decode (cr_by Y_X4_prefer) 28 = .ok (.getfield 10, 3) := by decide +kernel
theorem dX4_prefer_31 : decode (cr_by Y_X4_prefer) 31 = .ok (.iload_n 1, 1) := by decide +kernel
theorem dX4_prefer_32 : decode (cr_by Y_X4_prefer) 32 = .ok (.putfield 97, 3) := by decide +kernel
theorem dX4_prefer_35 : decode (cr_by Y_X4_prefer) 35 = .ok (.iload_n 3, 1) := by decide +kernel
theorem dX4_prefer_36 : decode (cr_by Y_X4_prefer) 36 = .ok (.ireturn, 1) := by decide +kernel
theorem dX4_ring_0 : decode (cr_by Y_X4_ring) 0 = .ok (.aload_n 0, 1) := by decide +kernel
theorem dX4_ring_1 : decode (cr_by Y_X4_ring) 1 = .ok (.iload_n 1, 1) := by decide +kernel
theorem dX4_ring_2 : decode (cr_by Y_X4_ring) 2 = .ok (.invokevirtual 100, 3) := by decide +kernel
theorem dX4_ring_5 : decode (cr_by Y_X4_ring) 5 = .ok (.istore_n 3, 1) := by decide +kernel
theorem dX4_ring_6 : decode (cr_by Y_X4_ring) 6 = .ok (.iload_n 3, 1) := by decide +kernel
theorem dX4_ring_7 : decode (cr_by Y_X4_ring) 7 = .ok (.ifCond .ne 12, 3) := by decide +kernel
theorem dX4_ring_10 : decode (cr_by Y_X4_ring) 10 = .ok (.iload_n 2, 1) := by decide +kernel
theorem dX4_ring_11 : decode (cr_by Y_X4_ring) 11 = .ok (.iconst 1, 1) := by decide +kernel
theorem dX4_ring_12 : decode (cr_by Y_X4_ring) 12 = .ok (.sipush 5000, 3) := by decide +kernel
theorem dX4_ring_15 : decode (cr_by Y_X4_ring) 15 = .ok (.invokestatic 58, 3) := by decide +kernel
theorem dX4_ring_18 : decode (cr_by Y_X4_ring) 18 = .ok (.istore_n 3, 1) := by decide +kernel
theorem dX4_ring_19 : decode (cr_by Y_X4_ring) 19 = .ok (.iload_n 3, 1) := by decide +kernel
theorem dX4_ring_20 : decode (cr_by Y_X4_ring) 20 = .ok (.ifCond .eq 9, 3) := by decide +kernel
theorem dX4_ring_23 : decode (cr_by Y_X4_ring) 23 = .ok (.aload_n 0, 1) := by decide +kernel
theorem dX4_ring_24 : decode (cr_by Y_X4_ring) 24 = .ok (.iload_n 3, 1) := by decide +kernel
theorem dX4_ring_25 : decode (cr_by Y_X4_ring) 25 = .ok (.invokevirtual 30, 3) := by decide +kernel
theorem dX4_ring_28 : decode (cr_by Y_X4_ring) 28 = .ok (.ireturn, 1) := by decide +kernel
theorem dX4_ring_29 : decode (cr_by Y_X4_ring) 29 = .ok (.aload_n 0, 1) := by decide +kernel
theorem dX4_ring_30 : decode (cr_by Y_X4_ring) 30 = .ok (.getfield 10, 3) := by decide +kernel
theorem dX4_ring_33 : decode (cr_by Y_X4_ring) 33 = .ok (.getfield 78, 3) := by decide +kernel
theorem dX4_ring_36 : decode (cr_by Y_X4_ring) 36 = .ok (.iload_n 1, 1) := by decide +kernel
theorem dX4_ring_37 : decode (cr_by Y_X4_ring) 37 = .ok (.aload_n 0, 1) := by decide +kernel
theorem dX4_ring_38 : decode (cr_by Y_X4_ring) 38 = .ok (.getfield 10, 3) := by decide +kernel
theorem dX4_ring_41 : decode (cr_by Y_X4_ring) 41 = .ok (.getfield 44, 3) := by decide +kernel
theorem dX4_ring_44 : decode (cr_by Y_X4_ring) 44 = .ok (.iload_n 2, 1) := by decide +kernel
theorem dX4_ring_45 : decode (cr_by Y_X4_ring) 45 = .ok (.iadd, 1) := by decide +kernel
theorem dX4_ring_46 : decode (cr_by Y_X4_ring) 46 = .ok (.invokevirtual 103, 3) := by decide +kernel
theorem dX4_ring_49 : decode (cr_by Y_X4_ring) 49 = .ok (.aload_n 0, 1) := by decide +kernel
theorem dX4_ring_50 : decode (cr_by Y_X4_ring) 50 = .ok (.getfield 10, 3) := by decide +kernel
theorem dX4_ring_53 : decode (cr_by Y_X4_ring) 53 = .ok (.getfield 44, 3) := by decide +kernel
theorem dX4_ring_56 : decode (cr_by Y_X4_ring) 56 = .ok (.iload_n 2, 1) := by decide +kernel
theorem dX4_ring_57 : decode (cr_by Y_X4_ring) 57 = .ok (.iadd, 1) := by decide +kernel
theorem dX4_ring_58 : decode (cr_by Y_X4_ring) 58 = .ok (.ireturn, 1) := by decide +kernel
theorem dX4_pass_0 : decode (cr_by Y_X4_pass) 0 = .ok (.aload_n 0, 1) := by decide +kernel
theorem dX4_pass_1 : decode (cr_by Y_X4_pass) 1 = .ok (.getfield 10, 3) := by decide +kernel
theorem dX4_pass_4 : decode (cr_by Y_X4_pass) 4 = .ok (.getfield 78, 3) := by decide +kernel
theorem dX4_pass_7 : decode (cr_by Y_X4_pass) 7 = .ok (.iload_n 1, 1) := by decide +kernel
theorem dX4_pass_8 : decode (cr_by Y_X4_pass) 8 = .ok (.invokevirtual 106, 3) := by decide +kernel
theorem dX4_pass_11 : decode (cr_by Y_X4_pass) 11 = .ok (.ifCond .eq 10, 3) := by decide +kernel
theorem dX4_pass_14 : decode (cr_by Y_X4_pass) 14 = .ok (.iload_n 2, 1) := by decide +kernel
theorem dX4_pass_15 : decode (cr_by Y_X4_pass) 15 = .ok (.invokestatic 55, 3) := by decide +kernel
theorem dX4_pass_18 : decode (cr_by Y_X4_pass) 18 = .ok (.ifCond .ne 9, 3) := by decide +kernel
theorem dX4_pass_21 : decode (cr_by Y_X4_pass) 21 = .ok (.aload_n 0, 1) := by decide +kernel
theorem dX4_pass_22 : decode (cr_by Y_X4_pass) 22 = .ok (.iconst (-1), 1) := by decide +kernel
theorem dX4_pass_23 : decode (cr_by Y_X4_pass) 23 = .ok (.invokevirtual 30, 3) := by decide +kernel
theorem dX4_pass_26 : decode (cr_by Y_X4_pass) 26 = .ok (.ireturn, 1) := by decide +kernel
theorem dX4_pass_27 : decode (cr_by Y_X4_pass) 27 = .ok (.aload_n 0, 1) := by decide +kernel
theorem dX4_pass_28 : decode (cr_by Y_X4_pass) 28 = .ok (.getfield 10, 3) := by decide +kernel
theorem dX4_pass_31 : decode (cr_by Y_X4_pass) 31 = .ok (.getfield 78, 3) := by decide +kernel
theorem dX4_pass_34 : decode (cr_by Y_X4_pass) 34 = .ok (.getfield 107, 3) := by decide +kernel
theorem dX4_pass_37 : decode (cr_by Y_X4_pass) 37 = .ok (.iload_n 1, 1) := by decide +kernel
theorem dX4_pass_38 : decode (cr_by Y_X4_pass) 38 = .ok (.iaload, 1) := by decide +kernel
theorem dX4_pass_39 : decode (cr_by Y_X4_pass) 39 = .ok (.iconst 1, 1) := by decide +kernel
theorem dX4_pass_40 : decode (cr_by Y_X4_pass) 40 = .ok (.if_icmp .eq 10, 3) := by decide +kernel
theorem dX4_pass_43 : decode (cr_by Y_X4_pass) 43 = .ok (.aload_n 0, 1) := by decide +kernel
theorem dX4_pass_44 : decode (cr_by Y_X4_pass) 44 = .ok (.bipush (-2), 2) := by decide +kernel
theorem dX4_pass_46 : decode (cr_by Y_X4_pass) 46 = .ok (.invokevirtual 30, 3) := by decide +kernel
theorem dX4_pass_49 : decode (cr_by Y_X4_pass) 49 = .ok (.ireturn, 1) := by decide +kernel
theorem dX4_pass_50 : decode (cr_by Y_X4_pass) 50 = .ok (.iload_n 3, 1) := by decide +kernel
theorem dX4_pass_51 : decode (cr_by Y_X4_pass) 51 = .ok (.iconst 1, 1) := by decide +kernel
theorem dX4_pass_52 : decode (cr_by Y_X4_pass) 52 = .ok (.sipush 1000, 3) := by decide +kernel
theorem dX4_pass_55 : decode (cr_by Y_X4_pass) 55 = .ok (.invokestatic 58, 3) := by decide +kernel
theorem dX4_pass_58 : decode (cr_by Y_X4_pass) 58 = .ok (.istore 4, 2) := by decide +kernel
theorem dX4_pass_60 : decode (cr_by Y_X4_pass) 60 = .ok (.iload 4, 2) := by decide +kernel
theorem dX4_pass_62 : decode (cr_by Y_X4_pass) 62 = .ok (.ifCond .eq 10, 3) := by decide +kernel
theorem dX4_pass_65 : decode (cr_by Y_X4_pass) 65 = .ok (.aload_n 0, 1) := by decide +kernel
theorem dX4_pass_66 : decode (cr_by Y_X4_pass) 66 = .ok (.iload 4, 2) := by decide +kernel
theorem dX4_pass_68 : decode (cr_by Y_X4_pass) 68 = .ok (.invokevirtual 30, 3) := by decide +kernel
theorem dX4_pass_71 : decode (cr_by Y_X4_pass) 71 = .ok (.ireturn, 1) := by decide +kernel
theorem dX4_pass_72 : decode (cr_by Y_X4_pass) 72 = .ok (.aload_n 0, 1) := by decide +kernel
theorem dX4_pass_73 : decode (cr_by Y_X4_pass) 73 = .ok (.getfield 10, 3) := by decide +kernel
theorem dX4_pass_76 : decode (cr_by Y_X4_pass) 76 = .ok (.getfield 78, 3) := by decide +kernel
theorem dX4_pass_79 : decode (cr_by Y_X4_pass) 79 = .ok (.getfield 108, 3) := by decide +kernel
theorem dX4_pass_82 : decode (cr_by Y_X4_pass) 82 = .ok (.iload_n 1, 1) := by decide +kernel
theorem dX4_pass_83 : decode (cr_by Y_X4_pass) 83 = .ok (.iaload, 1) := by decide +kernel
theorem dX4_pass_84 : decode (cr_by Y_X4_pass) 84 = .ok (.istore 5, 2) := by decide +kernel
theorem dX4_pass_86 : decode (cr_by Y_X4_pass) 86 = .ok (.aload_n 0, 1) := by decide +kernel
theorem dX4_pass_87 : decode (cr_by Y_X4_pass) 87 = .ok (.getfield 10, 3) := by decide +kernel
theorem dX4_pass_90 : decode (cr_by Y_X4_pass) 90 = .ok (.getfield 78, 3) := by decide +kernel
theorem dX4_pass_93 : decode (cr_by Y_X4_pass) 93 = .ok (.iload_n 1, 1) := by decide +kernel
theorem dX4_pass_94 : decode (cr_by Y_X4_pass) 94 = .ok (.iload_n 2, 1) := by decide +kernel
theorem dX4_pass_95 : decode (cr_by Y_X4_pass) 95 = .ok (.iload_n 3, 1) := by decide +kernel
theorem dX4_pass_96 : decode (cr_by Y_X4_pass) 96 = .ok (.aload_n 0, 1) := by decide +kernel
theorem dX4_pass_97 : decode (cr_by Y_X4_pass) 97 = .ok (.getfield 10, 3) := by decide +kernel
theorem dX4_pass_100 : decode (cr_by Y_X4_pass) 100 = .ok (.getfield 78, 3) := by decide +kernel
theorem dX4_pass_103 : decode (cr_by Y_X4_pass) 103 = .ok (.getfield 111, 3) := by decide +kernel
theorem dX4_pass_106 : decode (cr_by Y_X4_pass) 106 = .ok (.iload_n 1, 1) := by decide +kernel
theorem dX4_pass_107 : decode (cr_by Y_X4_pass) 107 = .ok (.iaload, 1) := by decide +kernel
theorem dX4_pass_108 : decode (cr_by Y_X4_pass) 108 = .ok (.invokevirtual 86, 3) := by decide +kernel
theorem dX4_pass_111 : decode (cr_by Y_X4_pass) 111 = .ok (.aload_n 0, 1) := by decide +kernel
theorem dX4_pass_112 : decode (cr_by Y_X4_pass) 112 = .ok (.getfield 10, 3) := by decide +kernel
theorem dX4_pass_115 : decode (cr_by Y_X4_pass) 115 = .ok (.getfield 78, 3) := by decide +kernel
theorem dX4_pass_118 : decode (cr_by Y_X4_pass) 118 = .ok (.iload_n 1, 1) := by decide +kernel
theorem dX4_pass_119 : decode (cr_by Y_X4_pass) 119 = .ok (.aload_n 0, 1) := by decide +kernel
theorem dX4_pass_120 : decode (cr_by Y_X4_pass) 120 = .ok (.getfield 10, 3) := by decide +kernel
theorem dX4_pass_123 : decode (cr_by Y_X4_pass) 123 = .ok (.getfield 44, 3) := by decide +kernel
theorem dX4_pass_126 : decode (cr_by Y_X4_pass) 126 = .ok (.invokevirtual 114, 3) := by decide +kernel
theorem dX4_pass_129 : decode (cr_by Y_X4_pass) 129 = .ok (.aload_n 0, 1) := by decide +kernel
theorem dX4_pass_130 : decode (cr_by Y_X4_pass) 130 = .ok (.getfield 10, 3) := by decide +kernel
theorem dX4_pass_133 : decode (cr_by Y_X4_pass) 133 = .ok (.getfield 34, 3) := by decide +kernel
theorem dX4_pass_136 : decode (cr_by Y_X4_pass) 136 = .ok (.iload 5, 2) := by decide +kernel
theorem dX4_pass_138 : decode (cr_by Y_X4_pass) 138 = .ok (.aload_n 0, 1) := by decide +kernel
theorem dX4_pass_139 : decode (cr_by Y_X4_pass) 139 = .ok (.getfield 10, 3) := by decide +kernel
theorem dX4_pass_142 : decode (cr_by Y_X4_pass) 142 = .ok (.getfield 44, 3) := by decide +kernel
theorem dX4_pass_145 : decode (cr_by Y_X4_pass) 145 = .ok (.invokevirtual 117, 3) := by decide +kernel
theorem dX4_pass_148 : decode (cr_by Y_X4_pass) 148 = .ok (.iload 5, 2) := by decide +kernel
theorem dX4_pass_150 : decode (cr_by Y_X4_pass) 150 = .ok (.ireturn, 1) := by decide +kernel
theorem dX4_leave_0 : decode (cr_by Y_X4_leave) 0 = .ok (.aload_n 0, 1) := by decide +kernel
theorem dX4_leave_1 : decode (cr_by Y_X4_leave) 1 = .ok (.getfield 10, 3) := by decide +kernel
theorem dX4_leave_4 : decode (cr_by Y_X4_leave) 4 = .ok (.getfield 78, 3) := by decide +kernel
theorem dX4_leave_7 : decode (cr_by Y_X4_leave) 7 = .ok (.iload_n 1, 1) := by decide +kernel
theorem dX4_leave_8 : decode (cr_by Y_X4_leave) 8 = .ok (.invokevirtual 106, 3) := by decide +kernel
theorem dX4_leave_11 : decode (cr_by Y_X4_leave) 11 = .ok (.ifCond .ne 9, 3) := by decide +kernel
theorem dX4_leave_14 : decode (cr_by Y_X4_leave) 14 = .ok (.aload_n 0, 1) := by decide +kernel
theorem dX4_leave_15 : decode (cr_by Y_X4_leave) 15 = .ok (.iconst (-1), 1) := by decide +kernel
theorem dX4_leave_16 : decode (cr_by Y_X4_leave) 16 = .ok (.invokevirtual 30, 3) := by decide +kernel
theorem dX4_leave_19 : decode (cr_by Y_X4_leave) 19 = .ok (.ireturn, 1) := by decide +kernel
theorem dX4_leave_20 : decode (cr_by Y_X4_leave) 20 = .ok (.aload_n 0, 1) := by decide +kernel
theorem dX4_leave_21 : decode (cr_by Y_X4_leave) 21 = .ok (.getfield 10, 3) := by decide +kernel
theorem dX4_leave_24 : decode (cr_by Y_X4_leave) 24 = .ok (.getfield 78, 3) := by decide +kernel
theorem dX4_leave_27 : decode (cr_by Y_X4_leave) 27 = .ok (.getfield 107, 3) := by decide +kernel
theorem dX4_leave_30 : decode (cr_by Y_X4_leave) 30 = .ok (.iload_n 1, 1) := by decide +kernel
theorem dX4_leave_31 : decode (cr_by Y_X4_leave) 31 = .ok (.iaload, 1) := by decide +kernel
theorem dX4_leave_32 : decode (cr_by Y_X4_leave) 32 = .ok (.istore_n 2, 1) := by decide +kernel
theorem dX4_leave_33 : decode (cr_by Y_X4_leave) 33 = .ok (.iload_n 2, 1) := by decide +kernel
theorem dX4_leave_34 : decode (cr_by Y_X4_leave) 34 = .ok (.ifCond .eq 15, 3) := by decide +kernel
theorem dX4_leave_37 : decode (cr_by Y_X4_leave) 37 = .ok (.iload_n 2, 1) := by decide +kernel
theorem dX4_leave_38 : decode (cr_by Y_X4_leave) 38 = .ok (.iconst 4, 1) := by decide +kernel
theorem dX4_leave_39 : decode (cr_by Y_X4_leave) 39 = .ok (.if_icmp .eq 10, 3) := by decide +kernel
theorem dX4_leave_42 : decode (cr_by Y_X4_leave) 42 = .ok (.aload_n 0, 1) := by decide +kernel
theorem dX4_leave_43 : decode (cr_by Y_X4_leave) 43 = .ok (.bipush (-2), 2) := by decide +kernel
theorem dX4_leave_45 : decode (cr_by Y_X4_leave) 45 = .ok (.invokevirtual 30, 3) := by decide +kernel
theorem dX4_leave_48 : decode (cr_by Y_X4_leave) 48 = .ok (.ireturn, 1) := by decide +kernel
theorem dX4_leave_49 : decode (cr_by Y_X4_leave) 49 = .ok (.aload_n 0, 1) := by decide +kernel
theorem dX4_leave_50 : decode (cr_by Y_X4_leave) 50 = .ok (.getfield 10, 3) := by decide +kernel
theorem dX4_leave_53 : decode (cr_by Y_X4_leave) 53 = .ok (.getfield 78, 3) := by decide +kernel
theorem dX4_leave_56 : decode (cr_by Y_X4_leave) 56 = .ok (.getfield 107, 3) := by decide +kernel
theorem dX4_leave_59 : decode (cr_by Y_X4_leave) 59 = .ok (.iload_n 1, 1) := by decide +kernel
theorem dX4_leave_60 : decode (cr_by Y_X4_leave) 60 = .ok (.iconst 3, 1) := by decide +kernel
theorem dX4_leave_61 : decode (cr_by Y_X4_leave) 61 = .ok (.iastore, 1) := by decide +kernel
theorem dX4_leave_62 : decode (cr_by Y_X4_leave) 62 = .ok (.iconst 1, 1) := by decide +kernel
theorem dX4_leave_63 : decode (cr_by Y_X4_leave) 63 = .ok (.ireturn, 1) := by decide +kernel
theorem dX4_urge_0 : decode (cr_by Y_X4_urge) 0 = .ok (.aload_n 0, 1) := by decide +kernel
theorem dX4_urge_1 : decode (cr_by Y_X4_urge) 1 = .ok (.iload_n 1, 1) := by decide +kernel
theorem dX4_urge_2 : decode (cr_by Y_X4_urge) 2 = .ok (.invokevirtual 100, 3) := by decide +kernel
theorem dX4_urge_5 : decode (cr_by Y_X4_urge) 5 = .ok (.istore_n 2, 1) := by decide +kernel
theorem dX4_urge_6 : decode (cr_by Y_X4_urge) 6 = .ok (.iload_n 2, 1) := by decide +kernel
theorem dX4_urge_7 : decode (cr_by Y_X4_urge) 7 = .ok (.ifCond .eq 9, 3) := by decide +kernel
theorem dX4_urge_10 : decode (cr_by Y_X4_urge) 10 = .ok (.aload_n 0, 1) := by decide +kernel
theorem dX4_urge_11 : decode (cr_by Y_X4_urge) 11 = .ok (.iload_n 2, 1) := by decide +kernel
theorem dX4_urge_12 : decode (cr_by Y_X4_urge) 12 = .ok (.invokevirtual 30, 3) := by decide +kernel
theorem dX4_urge_15 : decode (cr_by Y_X4_urge) 15 = .ok (.ireturn, 1) := by decide +kernel
theorem dX4_urge_16 : decode (cr_by Y_X4_urge) 16 = .ok (.aload_n 0, 1) := by decide +kernel
theorem dX4_urge_17 : decode (cr_by Y_X4_urge) 17 = .ok (.getfield 10, 3) := by decide +kernel
theorem dX4_urge_20 : decode (cr_by Y_X4_urge) 20 = .ok (.getfield 78, 3) := by decide +kernel
theorem dX4_urge_23 : decode (cr_by Y_X4_urge) 23 = .ok (.getfield 120, 3) := by decide +kernel
theorem dX4_urge_26 : decode (cr_by Y_X4_urge) 26 = .ok (.iload_n 1, 1) := by decide +kernel
theorem dX4_urge_27 : decode (cr_by Y_X4_urge) 27 = .ok (.iaload, 1) := by decide +kernel
theorem dX4_urge_28 : decode (cr_by Y_X4_urge) 28 = .ok (.istore_n 3, 1) := by decide +kernel
theorem dX4_urge_29 : decode (cr_by Y_X4_urge) 29 = .ok (.iload_n 3, 1) := by decide +kernel
theorem dX4_urge_30 : decode (cr_by Y_X4_urge) 30 = .ok (.iconst 2, 1) := by decide +kernel
theorem dX4_urge_31 : decode (cr_by Y_X4_urge) 31 = .ok (.if_icmp .eq 8, 3) := by decide +kernel
theorem dX4_urge_34 : decode (cr_by Y_X4_urge) 34 = .ok (.iload_n 3, 1) := by decide +kernel
theorem dX4_urge_35 : decode (cr_by Y_X4_urge) 35 = .ok (.iconst 3, 1) := by decide +kernel
theorem dX4_urge_36 : decode (cr_by Y_X4_urge) 36 = .ok (.if_icmp .ne 10, 3) := by decide +kernel
theorem dX4_urge_39 : decode (cr_by Y_X4_urge) 39 = .ok (.aload_n 0, 1) := by decide +kernel
theorem dX4_urge_40 : decode (cr_by Y_X4_urge) 40 = .ok (.bipush (-2), 2) := by decide +kernel
theorem dX4_urge_42 : decode (cr_by Y_X4_urge) 42 = .ok (.invokevirtual 30, 3) := by decide +kernel
theorem dX4_urge_45 : decode (cr_by Y_X4_urge) 45 = .ok (.ireturn, 1) := by decide +kernel
theorem dX4_urge_46 : decode (cr_by Y_X4_urge) 46 = .ok (.aload_n 0, 1) := by decide +kernel
theorem dX4_urge_47 : decode (cr_by Y_X4_urge) 47 = .ok (.getfield 10, 3) := by decide +kernel
theorem dX4_urge_50 : decode (cr_by Y_X4_urge) 50 = .ok (.getfield 78, 3) := by decide +kernel
theorem dX4_urge_53 : decode (cr_by Y_X4_urge) 53 = .ok (.getfield 120, 3) := by decide +kernel
theorem dX4_urge_56 : decode (cr_by Y_X4_urge) 56 = .ok (.iload_n 1, 1) := by decide +kernel
theorem dX4_urge_57 : decode (cr_by Y_X4_urge) 57 = .ok (.iconst 2, 1) := by decide +kernel
theorem dX4_urge_58 : decode (cr_by Y_X4_urge) 58 = .ok (.iastore, 1) := by decide +kernel
theorem dX4_urge_59 : decode (cr_by Y_X4_urge) 59 = .ok (.aload_n 0, 1) := by decide +kernel
theorem dX4_urge_60 : decode (cr_by Y_X4_urge) 60 = .ok (.getfield 10, 3) := by decide +kernel
theorem dX4_urge_63 : decode (cr_by Y_X4_urge) 63 = .ok (.getfield 78, 3) := by decide +kernel
theorem dX4_urge_66 : decode (cr_by Y_X4_urge) 66 = .ok (.getfield 123, 3) := by decide +kernel
theorem dX4_urge_69 : decode (cr_by Y_X4_urge) 69 = .ok (.iload_n 1, 1) := by decide +kernel
theorem dX4_urge_70 : decode (cr_by Y_X4_urge) 70 = .ok (.bipush (-9), 2) := by decide +kernel
theorem dX4_urge_72 : decode (cr_by Y_X4_urge) 72 = .ok (.iastore, 1) := by decide +kernel
theorem dX4_urge_73 : decode (cr_by Y_X4_urge) 73 = .ok (.iconst 1, 1) := by decide +kernel
theorem dX4_urge_74 : decode (cr_by Y_X4_urge) 74 = .ok (.ireturn, 1) := by decide +kernel
theorem dX4_ticks_0 : decode (cr_by Y_X4_ticks) 0 = .ok (.iload_n 1, 1) := by decide +kernel
theorem dX4_ticks_1 : decode (cr_by Y_X4_ticks) 1 = .ok (.iconst 1, 1) := by decide +kernel
theorem dX4_ticks_2 : decode (cr_by Y_X4_ticks) 2 = .ok (.sipush 20000, 3) := by decide +kernel
theorem dX4_ticks_5 : decode (cr_by Y_X4_ticks) 5 = .ok (.aload_n 0, 1) := by decide +kernel
theorem dX4_ticks_6 : decode (cr_by Y_X4_ticks) 6 = .ok (.getfield 10, 3) := by decide +kernel
theorem dX4_ticks_9 : decode (cr_by Y_X4_ticks) 9 = .ok (.getfield 44, 3) := by decide +kernel
theorem dX4_ticks_12 : decode (cr_by Y_X4_ticks) 12 = .ok (.isub, 1) := by decide +kernel
theorem dX4_ticks_13 : decode (cr_by Y_X4_ticks) 13 = .ok (.invokestatic 58, 3) := by decide +kernel
theorem dX4_ticks_16 : decode (cr_by Y_X4_ticks) 16 = .ok (.istore_n 2, 1) := by decide +kernel
theorem dX4_ticks_17 : decode (cr_by Y_X4_ticks) 17 = .ok (.iload_n 2, 1) := by decide +kernel
theorem dX4_ticks_18 : decode (cr_by Y_X4_ticks) 18 = .ok (.ifCond .eq 9, 3) := by decide +kernel
theorem dX4_ticks_21 : decode (cr_by Y_X4_ticks) 21 = .ok (.aload_n 0, 1) := by decide +kernel
theorem dX4_ticks_22 : decode (cr_by Y_X4_ticks) 22 = .ok (.iload_n 2, 1) := by decide +kernel
theorem dX4_ticks_23 : decode (cr_by Y_X4_ticks) 23 = .ok (.invokevirtual 30, 3) := by decide +kernel
theorem dX4_ticks_26 : decode (cr_by Y_X4_ticks) 26 = .ok (.ireturn, 1) := by decide +kernel
theorem dX4_ticks_27 : decode (cr_by Y_X4_ticks) 27 = .ok (.aload_n 0, 1) := by decide +kernel
theorem dX4_ticks_28 : decode (cr_by Y_X4_ticks) 28 = .ok (.getfield 10, 3) := by decide +kernel
theorem dX4_ticks_31 : decode (cr_by Y_X4_ticks) 31 = .ok (.iload_n 1, 1) := by decide +kernel
theorem dX4_ticks_32 : decode (cr_by Y_X4_ticks) 32 = .ok (.invokevirtual 126, 3) := by decide +kernel
theorem dX4_ticks_35 : decode (cr_by Y_X4_ticks) 35 = .ok (.ireturn, 1) := by decide +kernel
theorem dX4_wait_0 : decode (cr_by Y_X4_wait) 0 = .ok (.aload_n 0, 1) := by decide +kernel
theorem dX4_wait_1 : decode (cr_by Y_X4_wait) 1 = .ok (.iload_n 1, 1) := by decide +kernel
theorem dX4_wait_2 : decode (cr_by Y_X4_wait) 2 = .ok (.invokevirtual 100, 3) := by decide +kernel
theorem dX4_wait_5 : decode (cr_by Y_X4_wait) 5 = .ok (.istore_n 2, 1) := by decide +kernel
theorem dX4_wait_6 : decode (cr_by Y_X4_wait) 6 = .ok (.iload_n 2, 1) := by decide +kernel
theorem dX4_wait_7 : decode (cr_by Y_X4_wait) 7 = .ok (.ifCond .eq 9, 3) := by decide +kernel
theorem dX4_wait_10 : decode (cr_by Y_X4_wait) 10 = .ok (.aload_n 0, 1) := by decide +kernel
theorem dX4_wait_11 : decode (cr_by Y_X4_wait) 11 = .ok (.iload_n 2, 1) := by decide +kernel
theorem dX4_wait_12 : decode (cr_by Y_X4_wait) 12 = .ok (.invokevirtual 30, 3) := by decide +kernel
theorem dX4_wait_15 : decode (cr_by Y_X4_wait) 15 = .ok (.ireturn, 1) := by decide +kernel
theorem dX4_wait_16 : decode (cr_by Y_X4_wait) 16 = .ok (.aload_n 0, 1) := by decide +kernel
theorem dX4_wait_17 : decode (cr_by Y_X4_wait) 17 = .ok (.getfield 16, 3) := by decide +kernel
theorem dX4_wait_20 : decode (cr_by Y_X4_wait) 20 = .ok (.aload_n 0, 1) := by decide +kernel
theorem dX4_wait_21 : decode (cr_by Y_X4_wait) 21 = .ok (.getfield 10, 3) := by decide +kernel
theorem dX4_wait_24 : decode (cr_by Y_X4_wait) 24 = .ok (.invokevirtual 129, 3) := by decide +kernel
theorem dX4_wait_27 : decode (cr_by Y_X4_wait) 27 = .ok (.aload_n 0, 1) := by decide +kernel
theorem dX4_wait_28 : decode (cr_by Y_X4_wait) 28 = .ok (.getfield 16, 3) := by decide +kernel
theorem dX4_wait_31 : decode (cr_by Y_X4_wait) 31 = .ok (.iload_n 1, 1) := by decide +kernel
theorem dX4_wait_32 : decode (cr_by Y_X4_wait) 32 = .ok (.invokevirtual 133, 3) := by decide +kernel
theorem dX4_wait_35 : decode (cr_by Y_X4_wait) 35 = .ok (.ireturn, 1) := by decide +kernel
theorem dX4_who_0 : decode (cr_by Y_X4_who) 0 = .ok (.aload_n 0, 1) := by decide +kernel
theorem dX4_who_1 : decode (cr_by Y_X4_who) 1 = .ok (.iload_n 1, 1) := by decide +kernel
theorem dX4_who_2 : decode (cr_by Y_X4_who) 2 = .ok (.invokevirtual 100, 3) := by decide +kernel
theorem dX4_who_5 : decode (cr_by Y_X4_who) 5 = .ok (.istore_n 2, 1) := by decide +kernel
theorem dX4_who_6 : decode (cr_by Y_X4_who) 6 = .ok (.iload_n 2, 1) := by decide +kernel
theorem dX4_who_7 : decode (cr_by Y_X4_who) 7 = .ok (.ifCond .eq 9, 3) := by decide +kernel
theorem dX4_who_10 : decode (cr_by Y_X4_who) 10 = .ok (.aload_n 0, 1) := by decide +kernel
theorem dX4_who_11 : decode (cr_by Y_X4_who) 11 = .ok (.iload_n 2, 1) := by decide +kernel
theorem dX4_who_12 : decode (cr_by Y_X4_who) 12 = .ok (.invokevirtual 30, 3) := by decide +kernel
theorem dX4_who_15 : decode (cr_by Y_X4_who) 15 = .ok (.ireturn, 1) := by decide +kernel
theorem dX4_who_16 : decode (cr_by Y_X4_who) 16 = .ok (.aload_n 0, 1) := by decide +kernel
theorem dX4_who_17 : decode (cr_by Y_X4_who) 17 = .ok (.iload_n 1, 1) := by decide +kernel
theorem dX4_who_18 : decode (cr_by Y_X4_who) 18 = .ok (.invokevirtual 136, 3) := by decide +kernel
theorem dX4_who_21 : decode (cr_by Y_X4_who) 21 = .ok (.ireturn, 1) := by decide +kernel
theorem dX4_why_0 : decode (cr_by Y_X4_why) 0 = .ok (.aload_n 0, 1) := by decide +kernel
theorem dX4_why_1 : decode (cr_by Y_X4_why) 1 = .ok (.iload_n 1, 1) := by decide +kernel
theorem dX4_why_2 : decode (cr_by Y_X4_why) 2 = .ok (.invokevirtual 100, 3) := by decide +kernel
theorem dX4_why_5 : decode (cr_by Y_X4_why) 5 = .ok (.istore_n 2, 1) := by decide +kernel
theorem dX4_why_6 : decode (cr_by Y_X4_why) 6 = .ok (.iload_n 2, 1) := by decide +kernel
theorem dX4_why_7 : decode (cr_by Y_X4_why) 7 = .ok (.ifCond .eq 9, 3) := by decide +kernel
theorem dX4_why_10 : decode (cr_by Y_X4_why) 10 = .ok (.aload_n 0, 1) := by decide +kernel
theorem dX4_why_11 : decode (cr_by Y_X4_why) 11 = .ok (.iload_n 2, 1) := by decide +kernel
theorem dX4_why_12 : decode (cr_by Y_X4_why) 12 = .ok (.invokevirtual 30, 3) := by decide +kernel
theorem dX4_why_15 : decode (cr_by Y_X4_why) 15 = .ok (.ireturn, 1) := by decide +kernel
theorem dX4_why_16 : decode (cr_by Y_X4_why) 16 = .ok (.aload_n 0, 1) := by decide +kernel
theorem dX4_why_17 : decode (cr_by Y_X4_why) 17 = .ok (.iload_n 1, 1) := by decide +kernel
theorem dX4_why_18 : decode (cr_by Y_X4_why) 18 = .ok (.invokevirtual 136, 3) := by decide +kernel
theorem dX4_why_21 : decode (cr_by Y_X4_why) 21 = .ok (.ifCond .lt 7, 3) := by decide +kernel
theorem dX4_why_24 : decode (cr_by Y_X4_why) 24 = .ok (.iconst 0, 1) := by decide +kernel
theorem dX4_why_25 : decode (cr_by Y_X4_why) 25 = .ok (.goto 11, 3) := by decide +kernel
theorem dX4_why_28 : decode (cr_by Y_X4_why) 28 = .ok (.aload_n 0, 1) := by decide +kernel
theorem dX4_why_29 : decode (cr_by Y_X4_why) 29 = .ok (.getfield 10, 3) := by decide +kernel
theorem dX4_why_32 : decode (cr_by Y_X4_why) 32 = .ok (.iload_n 1, 1) := by decide +kernel
theorem dX4_why_33 : decode (cr_by Y_X4_why) 33 = .ok (.invokevirtual 139, 3) := by decide +kernel
theorem dX4_why_36 : decode (cr_by Y_X4_why) 36 = .ok (.ireturn, 1) := by decide +kernel
theorem dX4_within_0 : decode (cr_by Y_X4_within) 0 = .ok (.iload_n 1, 1) := by decide +kernel
theorem dX4_within_1 : decode (cr_by Y_X4_within) 1 = .ok (.ifCond .ge 10, 3) := by decide +kernel
theorem dX4_within_4 : decode (cr_by Y_X4_within) 4 = .ok (.aload_n 0, 1) := by decide +kernel
theorem dX4_within_5 : decode (cr_by Y_X4_within) 5 = .ok (.bipush (-4), 2) := by decide +kernel
theorem dX4_within_7 : decode (cr_by Y_X4_within) 7 = .ok (.invokevirtual 30, 3) := by decide +kernel
theorem dX4_within_10 : decode (cr_by Y_X4_within) 10 = .ok (.ireturn, 1) := by decide +kernel
theorem dX4_within_11 : decode (cr_by Y_X4_within) 11 = .ok (.aload_n 0, 1) := by decide +kernel
theorem dX4_within_12 : decode (cr_by Y_X4_within) 12 = .ok (.getfield 10, 3) := by decide +kernel
theorem dX4_within_15 : decode (cr_by Y_X4_within) 15 = .ok (.getfield 78, 3) := by decide +kernel
theorem dX4_within_18 : decode (cr_by Y_X4_within) 18 = .ok (.iload_n 1, 1) := by decide +kernel
theorem dX4_within_19 : decode (cr_by Y_X4_within) 19 = .ok (.invokevirtual 142, 3) := by decide +kernel
theorem dX4_within_22 : decode (cr_by Y_X4_within) 22 = .ok (.ireturn, 1) := by decide +kernel
theorem dX4_loss_0 : decode (cr_by Y_X4_loss) 0 = .ok (.iload_n 1, 1) := by decide +kernel
theorem dX4_loss_1 : decode (cr_by Y_X4_loss) 1 = .ok (.ifCond .lt 7, 3) := by decide +kernel
theorem dX4_loss_4 : decode (cr_by Y_X4_loss) 4 = .ok (.iload_n 2, 1) := by decide +kernel
theorem dX4_loss_5 : decode (cr_by Y_X4_loss) 5 = .ok (.ifCond .ge 10, 3) := by decide +kernel
theorem dX4_loss_8 : decode (cr_by Y_X4_loss) 8 = .ok (.aload_n 0, 1) := by decide +kernel
theorem dX4_loss_9 : decode (cr_by Y_X4_loss) 9 = .ok (.bipush (-4), 2) := by decide +kernel
theorem dX4_loss_11 : decode (cr_by Y_X4_loss) 11 = .ok (.invokevirtual 30, 3) := by decide +kernel
theorem dX4_loss_14 : decode (cr_by Y_X4_loss) 14 = .ok (.ireturn, 1) := by decide +kernel
theorem dX4_loss_15 : decode (cr_by Y_X4_loss) 15 = .ok (.iload_n 1, 1) := by decide +kernel
theorem dX4_loss_16 : decode (cr_by Y_X4_loss) 16 = .ok (.sipush 10000, 3) := by decide +kernel
theorem dX4_loss_19 : decode (cr_by Y_X4_loss) 19 = .ok (.if_icmp .gt 10, 3) := by decide +kernel
theorem dX4_loss_22 : decode (cr_by Y_X4_loss) 22 = .ok (.iload_n 2, 1) := by decide +kernel
theorem dX4_loss_23 : decode (cr_by Y_X4_loss) 23 = .ok (.sipush 200, 3) := by decide +kernel
theorem dX4_loss_26 : decode (cr_by Y_X4_loss) 26 = .ok (.if_icmp .le 10, 3) := by decide +kernel
theorem dX4_loss_29 : decode (cr_by Y_X4_loss) 29 = .ok (.aload_n 0, 1) := by decide +kernel
theorem dX4_loss_30 : decode (cr_by Y_X4_loss) 30 = .ok (.bipush (-6), 2) := by decide +kernel
theorem dX4_loss_32 : decode (cr_by Y_X4_loss) 32 = .ok (.invokevirtual 30, 3) := by decide +kernel
theorem dX4_loss_35 : decode (cr_by Y_X4_loss) 35 = .ok (.ireturn, 1) := by decide +kernel
theorem dX4_loss_36 : decode (cr_by Y_X4_loss) 36 = .ok (.ldc2_w 145, 3) := by decide +kernel
theorem dX4_loss_39 : decode (cr_by Y_X4_loss) 39 = .ok (.lstore_n 3, 1) := by decide +kernel
theorem dX4_loss_40 : decode (cr_by Y_X4_loss) 40 = .ok (.iconst 1, 1) := by decide +kernel
theorem dX4_loss_41 : decode (cr_by Y_X4_loss) 41 = .ok (.istore 5, 2) := by decide +kernel
theorem dX4_loss_43 : decode (cr_by Y_X4_loss) 43 = .ok (.iload 5, 2) := by decide +kernel
theorem dX4_loss_45 : decode (cr_by Y_X4_loss) 45 = .ok (.iload_n 2, 1) := by decide +kernel
theorem dX4_loss_46 : decode (cr_by Y_X4_loss) 46 = .ok (.if_icmp .gt 17, 3) := by decide +kernel
theorem dX4_loss_49 : decode (cr_by Y_X4_loss) 49 = .ok (.lload_n 3, 1) := by decide +kernel
theorem dX4_loss_50 : decode (cr_by Y_X4_loss) 50 = .ok (.iload_n 1, 1) := by decide +kernel
theorem dX4_loss_51 : decode (cr_by Y_X4_loss) 51 = .ok (.iload 5, 2) := by decide +kernel
theorem dX4_loss_53 : decode (cr_by Y_X4_loss) 53 = .ok (.invokestatic 147, 3) := by decide +kernel
theorem dX4_loss_56 : decode (cr_by Y_X4_loss) 56 = .ok (.lstore_n 3, 1) := by decide +kernel
theorem dX4_loss_57 : decode (cr_by Y_X4_loss) 57 = .ok (.iinc 5 1, 3) := by decide +kernel
theorem dX4_loss_60 : decode (cr_by Y_X4_loss) 60 = .ok (.goto (-17), 3) := by decide +kernel
theorem dX4_loss_63 : decode (cr_by Y_X4_loss) 63 = .ok (.lload_n 3, 1) := by decide +kernel
theorem dX4_loss_64 : decode (cr_by Y_X4_loss) 64 = .ok (.l2i, 1) := by decide +kernel
theorem dX4_loss_65 : decode (cr_by Y_X4_loss) 65 = .ok (.ireturn, 1) := by decide +kernel
theorem dX4_wanted_0 : decode (cr_by Y_X4_wanted) 0 = .ok (.iload_n 1, 1) := by decide +kernel
theorem dX4_wanted_1 : decode (cr_by Y_X4_wanted) 1 = .ok (.ifCond .lt 7, 3) := by decide +kernel
theorem dX4_wanted_4 : decode (cr_by Y_X4_wanted) 4 = .ok (.iload_n 2, 1) := by decide +kernel
theorem dX4_wanted_5 : decode (cr_by Y_X4_wanted) 5 = .ok (.ifCond .ge 10, 3) := by decide +kernel
theorem dX4_wanted_8 : decode (cr_by Y_X4_wanted) 8 = .ok (.aload_n 0, 1) := by decide +kernel
theorem dX4_wanted_9 : decode (cr_by Y_X4_wanted) 9 = .ok (.bipush (-4), 2) := by decide +kernel
theorem dX4_wanted_11 : decode (cr_by Y_X4_wanted) 11 = .ok (.invokevirtual 30, 3) := by decide +kernel
theorem dX4_wanted_14 : decode (cr_by Y_X4_wanted) 14 = .ok (.ireturn, 1) := by decide +kernel
theorem dX4_wanted_15 : decode (cr_by Y_X4_wanted) 15 = .ok (.iload_n 1, 1) := by decide +kernel
theorem dX4_wanted_16 : decode (cr_by Y_X4_wanted) 16 = .ok (.sipush 10000, 3) := by decide +kernel
theorem dX4_wanted_19 : decode (cr_by Y_X4_wanted) 19 = .ok (.if_icmp .gt 9, 3) := by decide +kernel
theorem dX4_wanted_22 : decode (cr_by Y_X4_wanted) 22 = .ok (.iload_n 2, 1) := by decide +kernel
theorem dX4_wanted_23 : decode (cr_by Y_X4_wanted) 23 = .ok (.ldc 151, 2) := by decide +kernel
theorem dX4_wanted_25 : decode (cr_by Y_X4_wanted) 25 = .ok (.if_icmp .le 10, 3) := by decide +kernel
theorem dX4_wanted_28 : decode (cr_by Y_X4_wanted) 28 = .ok (.aload_n 0, 1) := by decide +kernel
theorem dX4_wanted_29 : decode (cr_by Y_X4_wanted) 29 = .ok (.bipush (-6), 2) := by decide +kernel
theorem dX4_wanted_31 : decode (cr_by Y_X4_wanted) 31 = .ok (.invokevirtual 30, 3) := by decide +kernel
theorem dX4_wanted_34 : decode (cr_by Y_X4_wanted) 34 = .ok (.ireturn, 1) := by decide +kernel
theorem dX4_wanted_35 : decode (cr_by Y_X4_wanted) 35 = .ok (.ldc2_w 145, 3) := by decide +kernel
theorem dX4_wanted_38 : decode (cr_by Y_X4_wanted) 38 = .ok (.lstore_n 3, 1) := by decide +kernel
theorem dX4_wanted_39 : decode (cr_by Y_X4_wanted) 39 = .ok (.iconst 0, 1) := by decide +kernel
theorem dX4_wanted_40 : decode (cr_by Y_X4_wanted) 40 = .ok (.istore 5, 2) := by decide +kernel
theorem dX4_wanted_42 : decode (cr_by Y_X4_wanted) 42 = .ok (.iload 5, 2) := by decide +kernel
theorem dX4_wanted_44 : decode (cr_by Y_X4_wanted) 44 = .ok (.sipush 200, 3) := by decide +kernel
theorem dX4_wanted_47 : decode (cr_by Y_X4_wanted) 47 = .ok (.if_icmp .gt 29, 3) := by decide +kernel
theorem dX4_wanted_50 : decode (cr_by Y_X4_wanted) 50 = .ok (.lload_n 3, 1) := by decide +kernel
theorem dX4_wanted_51 : decode (cr_by Y_X4_wanted) 51 = .ok (.iload_n 2, 1) := by decide +kernel
theorem dX4_wanted_52 : decode (cr_by Y_X4_wanted) 52 = .ok (.i2l, 1) := by decide +kernel
theorem dX4_wanted_53 : decode (cr_by Y_X4_wanted) 53 = .ok (.lcmp, 1) := by decide +kernel
theorem dX4_wanted_54 : decode (cr_by Y_X4_wanted) 54 = .ok (.ifCond .gt 6, 3) := by decide +kernel
theorem dX4_wanted_57 : decode (cr_by Y_X4_wanted) 57 = .ok (.iload 5, 2) := by decide +kernel
theorem dX4_wanted_59 : decode (cr_by Y_X4_wanted) 59 = .ok (.ireturn, 1) := by decide +kernel
theorem dX4_wanted_60 : decode (cr_by Y_X4_wanted) 60 = .ok (.lload_n 3, 1) := by decide +kernel
theorem dX4_wanted_61 : decode (cr_by Y_X4_wanted) 61 = .ok (.iload_n 1, 1) := by decide +kernel
theorem dX4_wanted_62 : decode (cr_by Y_X4_wanted) 62 = .ok (.iload 5, 2) := by decide +kernel
theorem dX4_wanted_64 : decode (cr_by Y_X4_wanted) 64 = .ok (.iconst 1, 1) := by decide +kernel
theorem dX4_wanted_65 : decode (cr_by Y_X4_wanted) 65 = .ok (.iadd, 1) := by decide +kernel
theorem dX4_wanted_66 : decode (cr_by Y_X4_wanted) 66 = .ok (.invokestatic 147, 3) := by decide +kernel
theorem dX4_wanted_69 : decode (cr_by Y_X4_wanted) 69 = .ok (.lstore_n 3, 1) := by decide +kernel
theorem dX4_wanted_70 : decode (cr_by Y_X4_wanted) 70 = .ok (.iinc 5 1, 3) := by decide +kernel
theorem dX4_wanted_73 : decode (cr_by Y_X4_wanted) 73 = .ok (.goto (-31), 3) := by decide +kernel
theorem dX4_wanted_76 : decode (cr_by Y_X4_wanted) 76 = .ok (.bipush (-9), 2) := by decide +kernel
theorem dX4_wanted_78 : decode (cr_by Y_X4_wanted) 78 = .ok (.ireturn, 1) := by decide +kernel
theorem dX4_want_0 : decode (cr_by Y_X4_want) 0 = .ok (.iload_n 1, 1) := by decide +kernel
theorem dX4_want_1 : decode (cr_by Y_X4_want) 1 = .ok (.invokestatic 152, 3) := by decide +kernel
theorem dX4_want_4 : decode (cr_by Y_X4_want) 4 = .ok (.ifCond .ne 9, 3) := by decide +kernel
theorem dX4_want_7 : decode (cr_by Y_X4_want) 7 = .ok (.aload_n 0, 1) := by decide +kernel
theorem dX4_want_8 : decode (cr_by Y_X4_want) 8 = .ok (.iconst (-1), 1) := by decide +kernel
theorem dX4_want_9 : decode (cr_by Y_X4_want) 9 = .ok (.invokevirtual 30, 3) := by decide +kernel
theorem dX4_want_12 : decode (cr_by Y_X4_want) 12 = .ok (.ireturn, 1) := by decide +kernel
theorem dX4_want_13 : decode (cr_by Y_X4_want) 13 = .ok (.iload_n 2, 1) := by decide +kernel
theorem dX4_want_14 : decode (cr_by Y_X4_want) 14 = .ok (.iconst 0, 1) := by decide +kernel
theorem dX4_want_15 : decode (cr_by Y_X4_want) 15 = .ok (.bipush 50, 2) := by decide +kernel
theorem dX4_want_17 : decode (cr_by Y_X4_want) 17 = .ok (.invokestatic 58, 3) := by decide +kernel
theorem dX4_want_20 : decode (cr_by Y_X4_want) 20 = .ok (.istore_n 3, 1) := by decide +kernel
theorem dX4_want_21 : decode (cr_by Y_X4_want) 21 = .ok (.iload_n 3, 1) := by decide +kernel
theorem dX4_want_22 : decode (cr_by Y_X4_want) 22 = .ok (.ifCond .eq 9, 3) := by decide +kernel
theorem dX4_want_25 : decode (cr_by Y_X4_want) 25 = .ok (.aload_n 0, 1) := by decide +kernel
theorem dX4_want_26 : decode (cr_by Y_X4_want) 26 = .ok (.iload_n 3, 1) := by decide +kernel
theorem dX4_want_27 : decode (cr_by Y_X4_want) 27 = .ok (.invokevirtual 30, 3) := by decide +kernel
theorem dX4_want_30 : decode (cr_by Y_X4_want) 30 = .ok (.ireturn, 1) := by decide +kernel
theorem dX4_want_31 : decode (cr_by Y_X4_want) 31 = .ok (.aload_n 0, 1) := by decide +kernel
theorem dX4_want_32 : decode (cr_by Y_X4_want) 32 = .ok (.getfield 22, 3) := by decide +kernel
theorem dX4_want_35 : decode (cr_by Y_X4_want) 35 = .ok (.getfield 155, 3) := by decide +kernel
theorem dX4_want_38 : decode (cr_by Y_X4_want) 38 = .ok (.iload_n 1, 1) := by decide +kernel
theorem dX4_want_39 : decode (cr_by Y_X4_want) 39 = .ok (.iaload, 1) := by decide +kernel
theorem dX4_want_40 : decode (cr_by Y_X4_want) 40 = .ok (.istore 4, 2) := by decide +kernel
theorem dX4_want_42 : decode (cr_by Y_X4_want) 42 = .ok (.aload_n 0, 1) := by decide +kernel
theorem dX4_want_43 : decode (cr_by Y_X4_want) 43 = .ok (.getfield 22, 3) := by decide +kernel
theorem dX4_want_46 : decode (cr_by Y_X4_want) 46 = .ok (.getfield 155, 3) := by decide +kernel
theorem dX4_want_49 : decode (cr_by Y_X4_want) 49 = .ok (.iload_n 1, 1) := by decide +kernel
theorem dX4_want_50 : decode (cr_by Y_X4_want) 50 = .ok (.iload_n 2, 1) := by decide +kernel
theorem dX4_want_51 : decode (cr_by Y_X4_want) 51 = .ok (.iastore, 1) := by decide +kernel
theorem dX4_want_52 : decode (cr_by Y_X4_want) 52 = .ok (.iload 4, 2) := by decide +kernel
theorem dX4_want_54 : decode (cr_by Y_X4_want) 54 = .ok (.ireturn, 1) := by decide +kernel
theorem dX4_cover_0 : decode (cr_by Y_X4_cover) 0 = .ok (.iload_n 1, 1) := by decide +kernel
theorem dX4_cover_1 : decode (cr_by Y_X4_cover) 1 = .ok (.iconst 1, 1) := by decide +kernel
theorem dX4_cover_2 : decode (cr_by Y_X4_cover) 2 = .ok (.bipush 16, 2) := by decide +kernel
theorem dX4_cover_4 : decode (cr_by Y_X4_cover) 4 = .ok (.invokestatic 58, 3) := by decide +kernel
theorem dX4_cover_7 : decode (cr_by Y_X4_cover) 7 = .ok (.istore_n 2, 1) := by decide +kernel
theorem dX4_cover_8 : decode (cr_by Y_X4_cover) 8 = .ok (.iload_n 2, 1) := by decide +kernel
theorem dX4_cover_9 : decode (cr_by Y_X4_cover) 9 = .ok (.ifCond .eq 9, 3) := by decide +kernel
theorem dX4_cover_12 : decode (cr_by Y_X4_cover) 12 = .ok (.aload_n 0, 1) := by decide +kernel
theorem dX4_cover_13 : decode (cr_by Y_X4_cover) 13 = .ok (.iload_n 2, 1) := by decide +kernel
theorem dX4_cover_14 : decode (cr_by Y_X4_cover) 14 = .ok (.invokevirtual 30, 3) := by decide +kernel
theorem dX4_cover_17 : decode (cr_by Y_X4_cover) 17 = .ok (.ireturn, 1) := by decide +kernel
theorem dX4_cover_18 : decode (cr_by Y_X4_cover) 18 = .ok (.aload_n 0, 1) := by decide +kernel
theorem dX4_cover_19 : decode (cr_by Y_X4_cover) 19 = .ok (.getfield 22, 3) := by decide +kernel
theorem dX4_cover_22 : decode (cr_by Y_X4_cover) 22 = .ok (.iload_n 1, 1) := by decide +kernel
theorem dX4_cover_23 : decode (cr_by Y_X4_cover) 23 = .ok (.invokevirtual 158, 3) := by decide +kernel
theorem dX4_cover_26 : decode (cr_by Y_X4_cover) 26 = .ok (.ireturn, 1) := by decide +kernel
theorem dX4_begins_0 : decode (cr_by Y_X4_begins) 0 = .ok (.iload_n 1, 1) := by decide +kernel
theorem dX4_begins_1 : decode (cr_by Y_X4_begins) 1 = .ok (.invokestatic 152, 3) := by decide +kernel
theorem dX4_begins_4 : decode (cr_by Y_X4_begins) 4 = .ok (.ifCond .eq 15, 3) := by decide +kernel
theorem dX4_begins_7 : decode (cr_by Y_X4_begins) 7 = .ok (.aload_n 0, 1) := by decide +kernel
theorem dX4_begins_8 : decode (cr_by Y_X4_begins) 8 = .ok (.getfield 22, 3) := by decide +kernel
theorem dX4_begins_11 : decode (cr_by Y_X4_begins) 11 = .ok (.getfield 161, 3) := by decide +kernel
theorem dX4_begins_14 : decode (cr_by Y_X4_begins) 14 = .ok (.iload_n 1, 1) := by decide +kernel
theorem dX4_begins_15 : decode (cr_by Y_X4_begins) 15 = .ok (.iaload, 1) := by decide +kernel
theorem dX4_begins_16 : decode (cr_by Y_X4_begins) 16 = .ok (.goto 8, 3) := by decide +kernel
theorem dX4_begins_19 : decode (cr_by Y_X4_begins) 19 = .ok (.aload_n 0, 1) := by decide +kernel
theorem dX4_begins_20 : decode (cr_by Y_X4_begins) 20 = .ok (.iconst (-1), 1) := by decide +kernel
theorem dX4_begins_21 : decode (cr_by Y_X4_begins) 21 = .ok (.invokevirtual 30, 3) := by decide +kernel
theorem dX4_begins_24 : decode (cr_by Y_X4_begins) 24 = .ok (.ireturn, 1) := by decide +kernel
theorem dX4_helperOf_0 : decode (cr_by Y_X4_helperOf) 0 = .ok (.aload_n 0, 1) := by decide +kernel
theorem dX4_helperOf_1 : decode (cr_by Y_X4_helperOf) 1 = .ok (.getfield 10, 3) := by decide +kernel
theorem dX4_helperOf_4 : decode (cr_by Y_X4_helperOf) 4 = .ok (.getfield 34, 3) := by decide +kernel
theorem dX4_helperOf_7 : decode (cr_by Y_X4_helperOf) 7 = .ok (.astore_n 3, 1) := by decide +kernel
theorem dX4_helperOf_8 : decode (cr_by Y_X4_helperOf) 8 = .ok (.aload_n 3, 1) := by decide +kernel
theorem dX4_helperOf_9 : decode (cr_by Y_X4_helperOf) 9 = .ok (.iload_n 1, 1) := by decide +kernel
theorem dX4_helperOf_10 : decode (cr_by Y_X4_helperOf) 10 = .ok (.invokevirtual 51, 3) := by decide +kernel
theorem dX4_helperOf_13 : decode (cr_by Y_X4_helperOf) 13 = .ok (.ifCond .ne 9, 3) := by decide +kernel
theorem dX4_helperOf_16 : decode (cr_by Y_X4_helperOf) 16 = .ok (.aload_n 0, 1) := by decide +kernel
theorem dX4_helperOf_17 : decode (cr_by Y_X4_helperOf) 17 = .ok (.iconst (-1), 1) := by decide +kernel
theorem dX4_helperOf_18 : decode (cr_by Y_X4_helperOf) 18 = .ok (.invokevirtual 30, 3) := by decide +kernel
theorem dX4_helperOf_21 : decode (cr_by Y_X4_helperOf) 21 = .ok (.ireturn, 1) := by decide +kernel
theorem dX4_helperOf_22 : decode (cr_by Y_X4_helperOf) 22 = .ok (.iload_n 2, 1) := by decide +kernel
theorem dX4_helperOf_23 : decode (cr_by Y_X4_helperOf) 23 = .ok (.tableswitch 148 0 13 #[69, 76, 83, 95, 102, 109, 116, 148, 148, 148, 138, 138, 138, 138], 69) := by decide +kernel
theorem dX4_helperOf_92 : decode (cr_by Y_X4_helperOf) 92 = .ok (.aload_n 3, 1) := by decide +kernel
theorem dX4_helperOf_93 : decode (cr_by Y_X4_helperOf) 93 = .ok (.getfield 69, 3) := by decide +kernel
theorem dX4_helperOf_96 : decode (cr_by Y_X4_helperOf) 96 = .ok (.iload_n 1, 1) := by decide +kernel
theorem dX4_helperOf_97 : decode (cr_by Y_X4_helperOf) 97 = .ok (.iaload, 1) := by decide +kernel
theorem dX4_helperOf_98 : decode (cr_by Y_X4_helperOf) 98 = .ok (.ireturn, 1) := by decide +kernel
theorem dX4_helperOf_99 : decode (cr_by Y_X4_helperOf) 99 = .ok (.aload_n 3, 1) := by decide +kernel
theorem dX4_helperOf_100 : decode (cr_by Y_X4_helperOf) 100 = .ok (.getfield 164, 3) := by decide +kernel
theorem dX4_helperOf_103 : decode (cr_by Y_X4_helperOf) 103 = .ok (.iload_n 1, 1) := by decide +kernel
theorem dX4_helperOf_104 : decode (cr_by Y_X4_helperOf) 104 = .ok (.iaload, 1) := by decide +kernel
theorem dX4_helperOf_105 : decode (cr_by Y_X4_helperOf) 105 = .ok (.ireturn, 1) := by decide +kernel
theorem dX4_helperOf_106 : decode (cr_by Y_X4_helperOf) 106 = .ok (.aload_n 0, 1) := by decide +kernel
theorem dX4_helperOf_107 : decode (cr_by Y_X4_helperOf) 107 = .ok (.getfield 10, 3) := by decide +kernel
theorem dX4_helperOf_110 : decode (cr_by Y_X4_helperOf) 110 = .ok (.getfield 78, 3) := by decide +kernel
theorem dX4_helperOf_113 : decode (cr_by Y_X4_helperOf) 113 = .ok (.iload_n 1, 1) := by decide +kernel
theorem dX4_helperOf_114 : decode (cr_by Y_X4_helperOf) 114 = .ok (.invokevirtual 167, 3) := by decide +kernel
theorem dX4_helperOf_117 : decode (cr_by Y_X4_helperOf) 117 = .ok (.ireturn, 1) := by decide +kernel
theorem dX4_helperOf_118 : decode (cr_by Y_X4_helperOf) 118 = .ok (.aload_n 3, 1) := by decide +kernel
theorem dX4_helperOf_119 : decode (cr_by Y_X4_helperOf) 119 = .ok (.getfield 170, 3) := by decide +kernel
theorem dX4_helperOf_122 : decode (cr_by Y_X4_helperOf) 122 = .ok (.iload_n 1, 1) := by decide +kernel
theorem dX4_helperOf_123 : decode (cr_by Y_X4_helperOf) 123 = .ok (.iaload, 1) := by decide +kernel
theorem dX4_helperOf_124 : decode (cr_by Y_X4_helperOf) 124 = .ok (.ireturn, 1) := by decide +kernel
theorem dX4_helperOf_125 : decode (cr_by Y_X4_helperOf) 125 = .ok (.aload_n 3, 1) := by decide +kernel
theorem dX4_helperOf_126 : decode (cr_by Y_X4_helperOf) 126 = .ok (.getfield 173, 3) := by decide +kernel
theorem dX4_helperOf_129 : decode (cr_by Y_X4_helperOf) 129 = .ok (.iload_n 1, 1) := by decide +kernel
theorem dX4_helperOf_130 : decode (cr_by Y_X4_helperOf) 130 = .ok (.iaload, 1) := by decide +kernel
theorem dX4_helperOf_131 : decode (cr_by Y_X4_helperOf) 131 = .ok (.ireturn, 1) := by decide +kernel
theorem dX4_helperOf_132 : decode (cr_by Y_X4_helperOf) 132 = .ok (.aload_n 3, 1) := by decide +kernel
theorem dX4_helperOf_133 : decode (cr_by Y_X4_helperOf) 133 = .ok (.getfield 176, 3) := by decide +kernel
theorem dX4_helperOf_136 : decode (cr_by Y_X4_helperOf) 136 = .ok (.iload_n 1, 1) := by decide +kernel
theorem dX4_helperOf_137 : decode (cr_by Y_X4_helperOf) 137 = .ok (.iaload, 1) := by decide +kernel
theorem dX4_helperOf_138 : decode (cr_by Y_X4_helperOf) 138 = .ok (.ireturn, 1) := by decide +kernel
theorem dX4_helperOf_139 : decode (cr_by Y_X4_helperOf) 139 = .ok (.aload_n 3, 1) := by decide +kernel
theorem dX4_helperOf_140 : decode (cr_by Y_X4_helperOf) 140 = .ok (.getfield 69, 3) := by decide +kernel
theorem dX4_helperOf_143 : decode (cr_by Y_X4_helperOf) 143 = .ok (.iload_n 1, 1) := by decide +kernel
theorem dX4_helperOf_144 : decode (cr_by Y_X4_helperOf) 144 = .ok (.iaload, 1) := by decide +kernel
theorem dX4_helperOf_145 : decode (cr_by Y_X4_helperOf) 145 = .ok (.iconst 3, 1) := by decide +kernel
theorem dX4_helperOf_146 : decode (cr_by Y_X4_helperOf) 146 = .ok (.if_icmp .ne 12, 3) := by decide +kernel
theorem dX4_helperOf_149 : decode (cr_by Y_X4_helperOf) 149 = .ok (.aload_n 3, 1) := by decide +kernel
theorem dX4_helperOf_150 : decode (cr_by Y_X4_helperOf) 150 = .ok (.getfield 75, 3) := by decide +kernel
theorem dX4_helperOf_153 : decode (cr_by Y_X4_helperOf) 153 = .ok (.iload_n 1, 1) := by decide +kernel
theorem dX4_helperOf_154 : decode (cr_by Y_X4_helperOf) 154 = .ok (.iaload, 1) := by decide +kernel
theorem dX4_helperOf_155 : decode (cr_by Y_X4_helperOf) 155 = .ok (.goto 5, 3) := by decide +kernel
theorem dX4_helperOf_158 : decode (cr_by Y_X4_helperOf) 158 = .ok (.bipush (-9), 2) := by decide +kernel
theorem dX4_helperOf_160 : decode (cr_by Y_X4_helperOf) 160 = .ok (.ireturn, 1) := by decide +kernel
theorem dX4_helperOf_161 : decode (cr_by Y_X4_helperOf) 161 = .ok (.aload_n 3, 1) := by decide +kernel
theorem dX4_helperOf_162 : decode (cr_by Y_X4_helperOf) 162 = .ok (.iload_n 1, 1) := by decide +kernel
theorem dX4_helperOf_163 : decode (cr_by Y_X4_helperOf) 163 = .ok (.iload_n 2, 1) := by decide +kernel
theorem dX4_helperOf_164 : decode (cr_by Y_X4_helperOf) 164 = .ok (.bipush 10, 2) := by decide +kernel
theorem dX4_helperOf_166 : decode (cr_by Y_X4_helperOf) 166 = .ok (.isub, 1) := by decide +kernel
theorem dX4_helperOf_167 : decode (cr_by Y_X4_helperOf) 167 = .ok (.invokevirtual 62, 3) := by decide +kernel
theorem dX4_helperOf_170 : decode (cr_by Y_X4_helperOf) 170 = .ok (.ireturn, 1) := by decide +kernel
theorem dX4_helperOf_171 : decode (cr_by Y_X4_helperOf) 171 = .ok (.bipush (-9), 2) := by decide +kernel
theorem dX4_helperOf_173 : decode (cr_by Y_X4_helperOf) 173 = .ok (.ireturn, 1) := by decide +kernel
theorem dX4_callOf_0 : decode (cr_by Y_X4_callOf) 0 = .ok (.aload_n 0, 1) := by decide +kernel
theorem dX4_callOf_1 : decode (cr_by Y_X4_callOf) 1 = .ok (.getfield 10, 3) := by decide +kernel
theorem dX4_callOf_4 : decode (cr_by Y_X4_callOf) 4 = .ok (.getfield 78, 3) := by decide +kernel
theorem dX4_callOf_7 : decode (cr_by Y_X4_callOf) 7 = .ok (.astore_n 3, 1) := by decide +kernel
theorem dX4_callOf_8 : decode (cr_by Y_X4_callOf) 8 = .ok (.aload_n 3, 1) := by decide +kernel
theorem dX4_callOf_9 : decode (cr_by Y_X4_callOf) 9 = .ok (.iload_n 1, 1) := by decide +kernel
theorem dX4_callOf_10 : decode (cr_by Y_X4_callOf) 10 = .ok (.invokevirtual 106, 3) := by decide +kernel
theorem dX4_callOf_13 : decode (cr_by Y_X4_callOf) 13 = .ok (.ifCond .ne 9, 3) := by decide +kernel
theorem dX4_callOf_16 : decode (cr_by Y_X4_callOf) 16 = .ok (.aload_n 0, 1) := by decide +kernel
theorem dX4_callOf_17 : decode (cr_by Y_X4_callOf) 17 = .ok (.iconst (-1), 1) := by decide +kernel
theorem dX4_callOf_18 : decode (cr_by Y_X4_callOf) 18 = .ok (.invokevirtual 30, 3) := by decide +kernel
theorem dX4_callOf_21 : decode (cr_by Y_X4_callOf) 21 = .ok (.ireturn, 1) := by decide +kernel
theorem dX4_callOf_22 : decode (cr_by Y_X4_callOf) 22 = .ok (.iload_n 2, 1) := by decide +kernel
theorem dX4_callOf_23 : decode (cr_by Y_X4_callOf) 23 = .ok (.tableswitch 174 0 9 #[53, 60, 67, 74, 81, 88, 95, 102, 135, 167], 53) := by decide +kernel
theorem dX4_callOf_76 : decode (cr_by Y_X4_callOf) 76 = .ok (.aload_n 3, 1) := by decide +kernel
theorem dX4_callOf_77 : decode (cr_by Y_X4_callOf) 77 = .ok (.getfield 107, 3) := by decide +kernel
theorem dX4_callOf_80 : decode (cr_by Y_X4_callOf) 80 = .ok (.iload_n 1, 1) := by decide +kernel
theorem dX4_callOf_81 : decode (cr_by Y_X4_callOf) 81 = .ok (.iaload, 1) := by decide +kernel
theorem dX4_callOf_82 : decode (cr_by Y_X4_callOf) 82 = .ok (.ireturn, 1) := by decide +kernel
theorem dX4_callOf_83 : decode (cr_by Y_X4_callOf) 83 = .ok (.aload_n 3, 1) := by decide +kernel
theorem dX4_callOf_84 : decode (cr_by Y_X4_callOf) 84 = .ok (.getfield 120, 3) := by decide +kernel
theorem dX4_callOf_87 : decode (cr_by Y_X4_callOf) 87 = .ok (.iload_n 1, 1) := by decide +kernel
theorem dX4_callOf_88 : decode (cr_by Y_X4_callOf) 88 = .ok (.iaload, 1) := by decide +kernel
theorem dX4_callOf_89 : decode (cr_by Y_X4_callOf) 89 = .ok (.ireturn, 1) := by decide +kernel
theorem dX4_callOf_90 : decode (cr_by Y_X4_callOf) 90 = .ok (.aload_n 3, 1) := by decide +kernel
theorem dX4_callOf_91 : decode (cr_by Y_X4_callOf) 91 = .ok (.getfield 179, 3) := by decide +kernel
theorem dX4_callOf_94 : decode (cr_by Y_X4_callOf) 94 = .ok (.iload_n 1, 1) := by decide +kernel
theorem dX4_callOf_95 : decode (cr_by Y_X4_callOf) 95 = .ok (.iaload, 1) := by decide +kernel
theorem dX4_callOf_96 : decode (cr_by Y_X4_callOf) 96 = .ok (.ireturn, 1) := by decide +kernel
theorem dX4_callOf_97 : decode (cr_by Y_X4_callOf) 97 = .ok (.aload_n 3, 1) := by decide +kernel
theorem dX4_callOf_98 : decode (cr_by Y_X4_callOf) 98 = .ok (.getfield 182, 3) := by decide +kernel
theorem dX4_callOf_101 : decode (cr_by Y_X4_callOf) 101 = .ok (.iload_n 1, 1) := by decide +kernel
theorem dX4_callOf_102 : decode (cr_by Y_X4_callOf) 102 = .ok (.iaload, 1) := by decide +kernel
theorem dX4_callOf_103 : decode (cr_by Y_X4_callOf) 103 = .ok (.ireturn, 1) := by decide +kernel
theorem dX4_callOf_104 : decode (cr_by Y_X4_callOf) 104 = .ok (.aload_n 3, 1) := by decide +kernel
theorem dX4_callOf_105 : decode (cr_by Y_X4_callOf) 105 = .ok (.getfield 111, 3) := by decide +kernel
theorem dX4_callOf_108 : decode (cr_by Y_X4_callOf) 108 = .ok (.iload_n 1, 1) := by decide +kernel
theorem dX4_callOf_109 : decode (cr_by Y_X4_callOf) 109 = .ok (.iaload, 1) := by decide +kernel
theorem dX4_callOf_110 : decode (cr_by Y_X4_callOf) 110 = .ok (.ireturn, 1) := by decide +kernel
theorem dX4_callOf_111 : decode (cr_by Y_X4_callOf) 111 = .ok (.aload_n 3, 1) := by decide +kernel
theorem dX4_callOf_112 : decode (cr_by Y_X4_callOf) 112 = .ok (.getfield 185, 3) := by decide +kernel
theorem dX4_callOf_115 : decode (cr_by Y_X4_callOf) 115 = .ok (.iload_n 1, 1) := by decide +kernel
theorem dX4_callOf_116 : decode (cr_by Y_X4_callOf) 116 = .ok (.iaload, 1) := by decide +kernel
theorem dX4_callOf_117 : decode (cr_by Y_X4_callOf) 117 = .ok (.ireturn, 1) := by decide +kernel
theorem dX4_callOf_118 : decode (cr_by Y_X4_callOf) 118 = .ok (.aload_n 3, 1) := by decide +kernel
theorem dX4_callOf_119 : decode (cr_by Y_X4_callOf) 119 = .ok (.getfield 108, 3) := by decide +kernel
theorem dX4_callOf_122 : decode (cr_by Y_X4_callOf) 122 = .ok (.iload_n 1, 1) := by decide +kernel
theorem dX4_callOf_123 : decode (cr_by Y_X4_callOf) 123 = .ok (.iaload, 1) := by decide +kernel
theorem dX4_callOf_124 : decode (cr_by Y_X4_callOf) 124 = .ok (.ireturn, 1) := by decide +kernel
theorem dX4_callOf_125 : decode (cr_by Y_X4_callOf) 125 = .ok (.aload_n 3, 1) := by decide +kernel
theorem dX4_callOf_126 : decode (cr_by Y_X4_callOf) 126 = .ok (.getfield 107, 3) := by decide +kernel
theorem dX4_callOf_129 : decode (cr_by Y_X4_callOf) 129 = .ok (.iload_n 1, 1) := by decide +kernel
theorem dX4_callOf_130 : decode (cr_by Y_X4_callOf) 130 = .ok (.iaload, 1) := by decide +kernel
theorem dX4_callOf_131 : decode (cr_by Y_X4_callOf) 131 = .ok (.ifCond .ne 20, 3) := by decide +kernel
theorem dX4_callOf_134 : decode (cr_by Y_X4_callOf) 134 = .ok (.aload_n 0, 1) := by decide +kernel
theorem dX4_callOf_135 : decode (cr_by Y_X4_callOf) 135 = .ok (.getfield 10, 3) := by decide +kernel
theorem dX4_callOf_138 : decode (cr_by Y_X4_callOf) 138 = .ok (.getfield 44, 3) := by decide +kernel
theorem dX4_callOf_141 : decode (cr_by Y_X4_callOf) 141 = .ok (.aload_n 3, 1) := by decide +kernel
theorem dX4_callOf_142 : decode (cr_by Y_X4_callOf) 142 = .ok (.getfield 188, 3) := by decide +kernel
theorem dX4_callOf_145 : decode (cr_by Y_X4_callOf) 145 = .ok (.iload_n 1, 1) := by decide +kernel
theorem dX4_callOf_146 : decode (cr_by Y_X4_callOf) 146 = .ok (.iaload, 1) := by decide +kernel
theorem dX4_callOf_147 : decode (cr_by Y_X4_callOf) 147 = .ok (.isub, 1) := by decide +kernel
theorem dX4_callOf_148 : decode (cr_by Y_X4_callOf) 148 = .ok (.goto 9, 3) := by decide +kernel
theorem dX4_callOf_151 : decode (cr_by Y_X4_callOf) 151 = .ok (.aload_n 3, 1) := by decide +kernel
theorem dX4_callOf_152 : decode (cr_by Y_X4_callOf) 152 = .ok (.getfield 189, 3) := by decide +kernel
theorem dX4_callOf_155 : decode (cr_by Y_X4_callOf) 155 = .ok (.iload_n 1, 1) := by decide +kernel
theorem dX4_callOf_156 : decode (cr_by Y_X4_callOf) 156 = .ok (.iaload, 1) := by decide +kernel
theorem dX4_callOf_157 : decode (cr_by Y_X4_callOf) 157 = .ok (.ireturn, 1) := by decide +kernel
theorem dX4_callOf_158 : decode (cr_by Y_X4_callOf) 158 = .ok (.aload_n 3, 1) := by decide +kernel
theorem dX4_callOf_159 : decode (cr_by Y_X4_callOf) 159 = .ok (.getfield 107, 3) := by decide +kernel
theorem dX4_callOf_162 : decode (cr_by Y_X4_callOf) 162 = .ok (.iload_n 1, 1) := by decide +kernel
theorem dX4_callOf_163 : decode (cr_by Y_X4_callOf) 163 = .ok (.iaload, 1) := by decide +kernel
theorem dX4_callOf_164 : decode (cr_by Y_X4_callOf) 164 = .ok (.iconst 1, 1) := by decide +kernel
theorem dX4_callOf_165 : decode (cr_by Y_X4_callOf) 165 = .ok (.if_icmp .eq 13, 3) := by decide +kernel
theorem dX4_callOf_168 : decode (cr_by Y_X4_callOf) 168 = .ok (.aload_n 3, 1) := by decide +kernel
theorem dX4_callOf_169 : decode (cr_by Y_X4_callOf) 169 = .ok (.getfield 107, 3) := by decide +kernel
theorem dX4_callOf_172 : decode (cr_by Y_X4_callOf) 172 = .ok (.iload_n 1, 1) := by decide +kernel
theorem dX4_callOf_173 : decode (cr_by Y_X4_callOf) 173 = .ok (.iaload, 1) := by decide +kernel
theorem dX4_callOf_174 : decode (cr_by Y_X4_callOf) 174 = .ok (.iconst 4, 1) := by decide +kernel
theorem dX4_callOf_175 : decode (cr_by Y_X4_callOf) 175 = .ok (.if_icmp .ne 12, 3) := by decide +kernel
theorem dX4_callOf_178 : decode (cr_by Y_X4_callOf) 178 = .ok (.aload_n 3, 1) := by decide +kernel
theorem dX4_callOf_179 : decode (cr_by Y_X4_callOf) 179 = .ok (.getfield 192, 3) := by decide +kernel
theorem dX4_callOf_182 : decode (cr_by Y_X4_callOf) 182 = .ok (.iload_n 1, 1) := by decide +kernel
theorem dX4_callOf_183 : decode (cr_by Y_X4_callOf) 183 = .ok (.iaload, 1) := by decide +kernel
theorem dX4_callOf_184 : decode (cr_by Y_X4_callOf) 184 = .ok (.goto 5, 3) := by decide +kernel
theorem dX4_callOf_187 : decode (cr_by Y_X4_callOf) 187 = .ok (.bipush (-9), 2) := by decide +kernel
theorem dX4_callOf_189 : decode (cr_by Y_X4_callOf) 189 = .ok (.ireturn, 1) := by decide +kernel
theorem dX4_callOf_190 : decode (cr_by Y_X4_callOf) 190 = .ok (.aload_n 3, 1) := by decide +kernel
theorem dX4_callOf_191 : decode (cr_by Y_X4_callOf) 191 = .ok (.getfield 123, 3) := by decide +kernel
theorem dX4_callOf_194 : decode (cr_by Y_X4_callOf) 194 = .ok (.iload_n 1, 1) := by decide +kernel
theorem dX4_callOf_195 : decode (cr_by Y_X4_callOf) 195 = .ok (.iaload, 1) := by decide +kernel
theorem dX4_callOf_196 : decode (cr_by Y_X4_callOf) 196 = .ok (.ireturn, 1) := by decide +kernel
theorem dX4_callOf_197 : decode (cr_by Y_X4_callOf) 197 = .ok (.bipush (-9), 2) := by decide +kernel
theorem dX4_callOf_199 : decode (cr_by Y_X4_callOf) 199 = .ok (.ireturn, 1) := by decide +kernel
theorem dX4_count_0 : decode (cr_by Y_X4_count) 0 = .ok (.iload_n 1, 1) := by decide +kernel
theorem dX4_count_1 : decode (cr_by Y_X4_count) 1 = .ok (.tableswitch 152 0 8 #[51, 59, 70, 81, 93, 105, 117, 129, 141], 51) := by decide +kernel
theorem dX4_count_52 : decode (cr_by Y_X4_count) 52 = .ok (.aload_n 0, 1) := by decide +kernel
theorem dX4_count_53 : decode (cr_by Y_X4_count) 53 = .ok (.getfield 10, 3) := by decide +kernel
theorem dX4_count_56 : decode (cr_by Y_X4_count) 56 = .ok (.getfield 44, 3) := by decide +kernel
theorem dX4_count_59 : decode (cr_by Y_X4_count) 59 = .ok (.ireturn, 1) := by decide +kernel
theorem dX4_count_60 : decode (cr_by Y_X4_count) 60 = .ok (.aload_n 0, 1) := by decide +kernel
theorem dX4_count_61 : decode (cr_by Y_X4_count) 61 = .ok (.getfield 10, 3) := by decide +kernel
theorem dX4_count_64 : decode (cr_by Y_X4_count) 64 = .ok (.getfield 34, 3) := by decide +kernel
theorem dX4_count_67 : decode (cr_by Y_X4_count) 67 = .ok (.getfield 38, 3) := by decide +kernel
theorem dX4_count_70 : decode (cr_by Y_X4_count) 70 = .ok (.ireturn, 1) := by decide +kernel
theorem dX4_count_71 : decode (cr_by Y_X4_count) 71 = .ok (.aload_n 0, 1) := by decide +kernel
theorem dX4_count_72 : decode (cr_by Y_X4_count) 72 = .ok (.getfield 10, 3) := by decide +kernel
theorem dX4_count_75 : decode (cr_by Y_X4_count) 75 = .ok (.getfield 78, 3) := by decide +kernel
theorem dX4_count_78 : decode (cr_by Y_X4_count) 78 = .ok (.getfield 82, 3) := by decide +kernel
theorem dX4_count_81 : decode (cr_by Y_X4_count) 81 = .ok (.ireturn, 1) := by decide +kernel
theorem dX4_count_82 : decode (cr_by Y_X4_count) 82 = .ok (.aload_n 0, 1) := by decide +kernel
theorem dX4_count_83 : decode (cr_by Y_X4_count) 83 = .ok (.getfield 10, 3) := by decide +kernel
theorem dX4_count_86 : decode (cr_by Y_X4_count) 86 = .ok (.getfield 78, 3) := by decide +kernel
theorem dX4_count_89 : decode (cr_by Y_X4_count) 89 = .ok (.iconst 0, 1) := by decide +kernel
theorem dX4_count_90 : decode (cr_by Y_X4_count) 90 = .ok (.invokevirtual 195, 3) := by decide +kernel
theorem dX4_count_93 : decode (cr_by Y_X4_count) 93 = .ok (.ireturn, 1) := by decide +kernel
theorem dX4_count_94 : decode (cr_by Y_X4_count) 94 = .ok (.aload_n 0, 1) := by decide +kernel
theorem dX4_count_95 : decode (cr_by Y_X4_count) 95 = .ok (.getfield 10, 3) := by decide +kernel
theorem dX4_count_98 : decode (cr_by Y_X4_count) 98 = .ok (.getfield 78, 3) := by decide +kernel
theorem dX4_count_101 : decode (cr_by Y_X4_count) 101 = .ok (.iconst 1, 1) := by decide +kernel
theorem dX4_count_102 : decode (cr_by Y_X4_count) 102 = .ok (.invokevirtual 195, 3) := by decide +kernel
theorem dX4_count_105 : decode (cr_by Y_X4_count) 105 = .ok (.ireturn, 1) := by decide +kernel
theorem dX4_count_106 : decode (cr_by Y_X4_count) 106 = .ok (.aload_n 0, 1) := by decide +kernel
theorem dX4_count_107 : decode (cr_by Y_X4_count) 107 = .ok (.getfield 10, 3) := by decide +kernel
theorem dX4_count_110 : decode (cr_by Y_X4_count) 110 = .ok (.getfield 78, 3) := by decide +kernel
theorem dX4_count_113 : decode (cr_by Y_X4_count) 113 = .ok (.iconst 2, 1) := by decide +kernel
theorem dX4_count_114 : decode (cr_by Y_X4_count) 114 = .ok (.invokevirtual 195, 3) := by decide +kernel
theorem dX4_count_117 : decode (cr_by Y_X4_count) 117 = .ok (.ireturn, 1) := by decide +kernel
theorem dX4_count_118 : decode (cr_by Y_X4_count) 118 = .ok (.aload_n 0, 1) := by decide +kernel
theorem dX4_count_119 : decode (cr_by Y_X4_count) 119 = .ok (.getfield 10, 3) := by decide +kernel
theorem dX4_count_122 : decode (cr_by Y_X4_count) 122 = .ok (.getfield 78, 3) := by decide +kernel
theorem dX4_count_125 : decode (cr_by Y_X4_count) 125 = .ok (.iconst 3, 1) := by decide +kernel
theorem dX4_count_126 : decode (cr_by Y_X4_count) 126 = .ok (.invokevirtual 195, 3) := by decide +kernel
theorem dX4_count_129 : decode (cr_by Y_X4_count) 129 = .ok (.ireturn, 1) := by decide +kernel
theorem dX4_count_130 : decode (cr_by Y_X4_count) 130 = .ok (.aload_n 0, 1) := by decide +kernel
theorem dX4_count_131 : decode (cr_by Y_X4_count) 131 = .ok (.getfield 10, 3) := by decide +kernel
theorem dX4_count_134 : decode (cr_by Y_X4_count) 134 = .ok (.getfield 78, 3) := by decide +kernel
theorem dX4_count_137 : decode (cr_by Y_X4_count) 137 = .ok (.iconst 4, 1) := by decide +kernel
theorem dX4_count_138 : decode (cr_by Y_X4_count) 138 = .ok (.invokevirtual 195, 3) := by decide +kernel
theorem dX4_count_141 : decode (cr_by Y_X4_count) 141 = .ok (.ireturn, 1) := by decide +kernel
theorem dX4_count_142 : decode (cr_by Y_X4_count) 142 = .ok (.aload_n 0, 1) := by decide +kernel
theorem dX4_count_143 : decode (cr_by Y_X4_count) 143 = .ok (.getfield 10, 3) := by decide +kernel
theorem dX4_count_146 : decode (cr_by Y_X4_count) 146 = .ok (.getfield 34, 3) := by decide +kernel
theorem dX4_count_149 : decode (cr_by Y_X4_count) 149 = .ok (.invokevirtual 198, 3) := by decide +kernel
theorem dX4_count_152 : decode (cr_by Y_X4_count) 152 = .ok (.ireturn, 1) := by decide +kernel
theorem dX4_count_153 : decode (cr_by Y_X4_count) 153 = .ok (.iload_n 1, 1) := by decide +kernel
theorem dX4_count_154 : decode (cr_by Y_X4_count) 154 = .ok (.bipush 10, 2) := by decide +kernel
theorem dX4_count_156 : decode (cr_by Y_X4_count) 156 = .ok (.if_icmp .le 21, 3) := by decide +kernel
theorem dX4_count_159 : decode (cr_by Y_X4_count) 159 = .ok (.iload_n 1, 1) := by decide +kernel
theorem dX4_count_160 : decode (cr_by Y_X4_count) 160 = .ok (.bipush 16, 2) := by decide +kernel
theorem dX4_count_162 : decode (cr_by Y_X4_count) 162 = .ok (.if_icmp .gt 15, 3) := by decide +kernel
theorem dX4_count_165 : decode (cr_by Y_X4_count) 165 = .ok (.aload_n 0, 1) := by decide +kernel
theorem dX4_count_166 : decode (cr_by Y_X4_count) 166 = .ok (.getfield 26, 3) := by decide +kernel
theorem dX4_count_169 : decode (cr_by Y_X4_count) 169 = .ok (.iload_n 1, 1) := by decide +kernel
theorem dX4_count_170 : decode (cr_by Y_X4_count) 170 = .ok (.bipush 10, 2) := by decide +kernel
theorem dX4_count_172 : decode (cr_by Y_X4_count) 172 = .ok (.isub, 1) := by decide +kernel
theorem dX4_count_173 : decode (cr_by Y_X4_count) 173 = .ok (.iaload, 1) := by decide +kernel
theorem dX4_count_174 : decode (cr_by Y_X4_count) 174 = .ok (.goto 5, 3) := by decide +kernel
theorem dX4_count_177 : decode (cr_by Y_X4_count) 177 = .ok (.bipush (-9), 2) := by decide +kernel
theorem dX4_count_179 : decode (cr_by Y_X4_count) 179 = .ok (.ireturn, 1) := by decide +kernel
theorem dX4_refuse_0 : decode (cr_by Y_X4_refuse) 0 = .ok (.iload_n 1, 1) := by decide +kernel
theorem dX4_refuse_1 : decode (cr_by Y_X4_refuse) 1 = .ok (.ineg, 1) := by decide +kernel
theorem dX4_refuse_2 : decode (cr_by Y_X4_refuse) 2 = .ok (.istore_n 2, 1) := by decide +kernel
theorem dX4_refuse_3 : decode (cr_by Y_X4_refuse) 3 = .ok (.iload_n 2, 1) := by decide +kernel
theorem dX4_refuse_4 : decode (cr_by Y_X4_refuse) 4 = .ok (.iconst 1, 1) := by decide +kernel
theorem dX4_refuse_5 : decode (cr_by Y_X4_refuse) 5 = .ok (.if_icmp .lt 19, 3) := by decide +kernel
theorem dX4_refuse_8 : decode (cr_by Y_X4_refuse) 8 = .ok (.iload_n 2, 1) := by decide +kernel
theorem dX4_refuse_9 : decode (cr_by Y_X4_refuse) 9 = .ok (.bipush 6, 2) := by decide +kernel
theorem dX4_refuse_11 : decode (cr_by Y_X4_refuse) 11 = .ok (.if_icmp .gt 13, 3) := by decide +kernel
theorem dX4_refuse_14 : decode (cr_by Y_X4_refuse) 14 = .ok (.aload_n 0, 1) := by decide +kernel
theorem dX4_refuse_15 : decode (cr_by Y_X4_refuse) 15 = .ok (.getfield 26, 3) := by decide +kernel
theorem dX4_refuse_18 : decode (cr_by Y_X4_refuse) 18 = .ok (.iload_n 2, 1) := by decide +kernel
theorem dX4_refuse_19 : decode (cr_by Y_X4_refuse) 19 = .ok (.dup2, 1) := by decide +kernel
theorem dX4_refuse_20 : decode (cr_by Y_X4_refuse) 20 = .ok (.iaload, 1) := by decide +kernel
theorem dX4_refuse_21 : decode (cr_by Y_X4_refuse) 21 = .ok (.iconst 1, 1) := by decide +kernel
theorem dX4_refuse_22 : decode (cr_by Y_X4_refuse) 22 = .ok (.iadd, 1) := by decide +kernel
theorem dX4_refuse_23 : decode (cr_by Y_X4_refuse) 23 = .ok (.iastore, 1) := by decide +kernel
theorem dX4_refuse_24 : decode (cr_by Y_X4_refuse) 24 = .ok (.iload_n 1, 1) := by decide +kernel
theorem dX4_refuse_25 : decode (cr_by Y_X4_refuse) 25 = .ok (.ireturn, 1) := by decide +kernel
theorem dX4_notWaiting_0 : decode (cr_by Y_X4_notWaiting) 0 = .ok (.aload_n 0, 1) := by decide +kernel
theorem dX4_notWaiting_1 : decode (cr_by Y_X4_notWaiting) 1 = .ok (.getfield 10, 3) := by decide +kernel
theorem dX4_notWaiting_4 : decode (cr_by Y_X4_notWaiting) 4 = .ok (.getfield 78, 3) := by decide +kernel
theorem dX4_notWaiting_7 : decode (cr_by Y_X4_notWaiting) 7 = .ok (.iload_n 1, 1) := by decide +kernel
theorem dX4_notWaiting_8 : decode (cr_by Y_X4_notWaiting) 8 = .ok (.invokevirtual 106, 3) := by decide +kernel
theorem dX4_notWaiting_11 : decode (cr_by Y_X4_notWaiting) 11 = .ok (.ifCond .ne 5, 3) := by decide +kernel
theorem dX4_notWaiting_14 : decode (cr_by Y_X4_notWaiting) 14 = .ok (.iconst (-1), 1) := by decide +kernel
theorem dX4_notWaiting_15 : decode (cr_by Y_X4_notWaiting) 15 = .ok (.ireturn, 1) := by decide +kernel
theorem dX4_notWaiting_16 : decode (cr_by Y_X4_notWaiting) 16 = .ok (.aload_n 0, 1) := by decide +kernel
theorem dX4_notWaiting_17 : decode (cr_by Y_X4_notWaiting) 17 = .ok (.getfield 10, 3) := by decide +kernel
theorem dX4_notWaiting_20 : decode (cr_by Y_X4_notWaiting) 20 = .ok (.getfield 78, 3) := by decide +kernel
theorem dX4_notWaiting_23 : decode (cr_by Y_X4_notWaiting) 23 = .ok (.getfield 107, 3) := by decide +kernel
theorem dX4_notWaiting_26 : decode (cr_by Y_X4_notWaiting) 26 = .ok (.iload_n 1, 1) := by decide +kernel
theorem dX4_notWaiting_27 : decode (cr_by Y_X4_notWaiting) 27 = .ok (.iaload, 1) := by decide +kernel
theorem dX4_notWaiting_28 : decode (cr_by Y_X4_notWaiting) 28 = .ok (.ifCond .ne 7, 3) := by decide +kernel
theorem dX4_notWaiting_31 : decode (cr_by Y_X4_notWaiting) 31 = .ok (.iconst 0, 1) := by decide +kernel
theorem dX4_notWaiting_32 : decode (cr_by Y_X4_notWaiting) 32 = .ok (.goto 5, 3) := by decide +kernel
theorem dX4_notWaiting_35 : decode (cr_by Y_X4_notWaiting) 35 = .ok (.bipush (-2), 2) := by decide +kernel
theorem dX4_notWaiting_37 : decode (cr_by Y_X4_notWaiting) 37 = .ok (.ireturn, 1) := by decide +kernel
theorem dX4_helperIfGivenNow_0 : decode (cr_by Y_X4_helperIfGivenNow) 0 = .ok (.aload_n 0, 1) := by decide +kernel
theorem dX4_helperIfGivenNow_1 : decode (cr_by Y_X4_helperIfGivenNow) 1 = .ok (.getfield 16, 3) := by decide +kernel
theorem dX4_helperIfGivenNow_4 : decode (cr_by Y_X4_helperIfGivenNow) 4 = .ok (.aload_n 0, 1) := by decide +kernel
theorem dX4_helperIfGivenNow_5 : decode (cr_by Y_X4_helperIfGivenNow) 5 = .ok (.getfield 10, 3) := by decide +kernel
theorem dX4_helperIfGivenNow_8 : decode (cr_by Y_X4_helperIfGivenNow) 8 = .ok (.invokevirtual 129, 3) := by decide +kernel
theorem dX4_helperIfGivenNow_11 : decode (cr_by Y_X4_helperIfGivenNow) 11 = .ok (.aload_n 0, 1) := by decide +kernel
theorem dX4_helperIfGivenNow_12 : decode (cr_by Y_X4_helperIfGivenNow) 12 = .ok (.getfield 16, 3) := by decide +kernel
theorem dX4_helperIfGivenNow_15 : decode (cr_by Y_X4_helperIfGivenNow) 15 = .ok (.invokevirtual 202, 3) := by decide +kernel
theorem dX4_helperIfGivenNow_18 : decode (cr_by Y_X4_helperIfGivenNow) 18 = .ok (.aload_n 0, 1) := by decide +kernel
theorem dX4_helperIfGivenNow_19 : decode (cr_by Y_X4_helperIfGivenNow) 19 = .ok (.getfield 16, 3) := by decide +kernel
theorem dX4_helperIfGivenNow_22 : decode (cr_by Y_X4_helperIfGivenNow) 22 = .ok (.getfield 78, 3) := by decide +kernel
theorem dX4_helperIfGivenNow_25 : decode (cr_by Y_X4_helperIfGivenNow) 25 = .ok (.getfield 108, 3) := by decide +kernel
theorem dX4_helperIfGivenNow_28 : decode (cr_by Y_X4_helperIfGivenNow) 28 = .ok (.iload_n 1, 1) := by decide +kernel
theorem dX4_helperIfGivenNow_29 : decode (cr_by Y_X4_helperIfGivenNow) 29 = .ok (.iaload, 1) := by decide +kernel
theorem dX4_helperIfGivenNow_30 : decode (cr_by Y_X4_helperIfGivenNow) 30 = .ok (.ireturn, 1) := by decide +kernel
theorem dX4_isSort_0 : decode (cr_by Y_X4_isSort) 0 = .ok (.iload_n 0, 1) := by decide +kernel
theorem dX4_isSort_1 : decode (cr_by Y_X4_isSort) 1 = .ok (.ifCond .lt 12, 3) := by decide +kernel
theorem dX4_isSort_4 : decode (cr_by Y_X4_isSort) 4 = .ok (.iload_n 0, 1) := by decide +kernel
theorem dX4_isSort_5 : decode (cr_by Y_X4_isSort) 5 = .ok (.iconst 4, 1) := by decide +kernel
theorem dX4_isSort_6 : decode (cr_by Y_X4_isSort) 6 = .ok (.if_icmp .ge 7, 3) := by decide +kernel
theorem dX4_isSort_9 : decode (cr_by Y_X4_isSort) 9 = .ok (.iconst 1, 1) := by decide +kernel
theorem dX4_isSort_10 : decode (cr_by Y_X4_isSort) 10 = .ok (.goto 4, 3) := by decide +kernel
theorem dX4_isSort_13 : decode (cr_by Y_X4_isSort) 13 = .ok (.iconst 0, 1) := by decide +kernel
theorem dX4_isSort_14 : decode (cr_by Y_X4_isSort) 14 = .ok (.ireturn, 1) := by decide +kernel
theorem dX4_isQuarter_0 : decode (cr_by Y_X4_isQuarter) 0 = .ok (.iload_n 0, 1) := by decide +kernel
theorem dX4_isQuarter_1 : decode (cr_by Y_X4_isQuarter) 1 = .ok (.ifCond .lt 13, 3) := by decide +kernel
theorem dX4_isQuarter_4 : decode (cr_by Y_X4_isQuarter) 4 = .ok (.iload_n 0, 1) := by decide +kernel
theorem dX4_isQuarter_5 : decode (cr_by Y_X4_isQuarter) 5 = .ok (.bipush 16, 2) := by decide +kernel
theorem dX4_isQuarter_7 : decode (cr_by Y_X4_isQuarter) 7 = .ok (.if_icmp .ge 7, 3) := by decide +kernel
theorem dX4_isQuarter_10 : decode (cr_by Y_X4_isQuarter) 10 = .ok (.iconst 1, 1) := by decide +kernel
theorem dX4_isQuarter_11 : decode (cr_by Y_X4_isQuarter) 11 = .ok (.goto 4, 3) := by decide +kernel
theorem dX4_isQuarter_14 : decode (cr_by Y_X4_isQuarter) 14 = .ok (.iconst 0, 1) := by decide +kernel
theorem dX4_isQuarter_15 : decode (cr_by Y_X4_isQuarter) 15 = .ok (.ireturn, 1) := by decide +kernel
theorem dX4_outside_0 : decode (cr_by Y_X4_outside) 0 = .ok (.iload_n 0, 1) := by decide +kernel
theorem dX4_outside_1 : decode (cr_by Y_X4_outside) 1 = .ok (.iload_n 1, 1) := by decide +kernel
theorem dX4_outside_2 : decode (cr_by Y_X4_outside) 2 = .ok (.if_icmp .ge 6, 3) := by decide +kernel
theorem dX4_outside_5 : decode (cr_by Y_X4_outside) 5 = .ok (.bipush (-4), 2) := by decide +kernel
theorem dX4_outside_7 : decode (cr_by Y_X4_outside) 7 = .ok (.ireturn, 1) := by decide +kernel
theorem dX4_outside_8 : decode (cr_by Y_X4_outside) 8 = .ok (.iload_n 0, 1) := by decide +kernel
theorem dX4_outside_9 : decode (cr_by Y_X4_outside) 9 = .ok (.iload_n 2, 1) := by decide +kernel
theorem dX4_outside_10 : decode (cr_by Y_X4_outside) 10 = .ok (.if_icmp .le 8, 3) := by decide +kernel
theorem dX4_outside_13 : decode (cr_by Y_X4_outside) 13 = .ok (.bipush (-6), 2) := by decide +kernel
theorem dX4_outside_15 : decode (cr_by Y_X4_outside) 15 = .ok (.goto 4, 3) := by decide +kernel
theorem dX4_outside_18 : decode (cr_by Y_X4_outside) 18 = .ok (.iconst 0, 1) := by decide +kernel
theorem dX4_outside_19 : decode (cr_by Y_X4_outside) 19 = .ok (.ireturn, 1) := by decide +kernel
theorem dX4_lossWithOneMore_0 : decode (cr_by Y_X4_lossWithOneMore) 0 = .ok (.iload_n 2, 1) := by decide +kernel
theorem dX4_lossWithOneMore_1 : decode (cr_by Y_X4_lossWithOneMore) 1 = .ok (.i2l, 1) := by decide +kernel
theorem dX4_lossWithOneMore_2 : decode (cr_by Y_X4_lossWithOneMore) 2 = .ok (.lload_n 0, 1) := by decide +kernel
theorem dX4_lossWithOneMore_3 : decode (cr_by Y_X4_lossWithOneMore) 3 = .ok (.lmul, 1) := by decide +kernel
theorem dX4_lossWithOneMore_4 : decode (cr_by Y_X4_lossWithOneMore) 4 = .ok (.lstore 4, 2) := by decide +kernel
theorem dX4_lossWithOneMore_6 : decode (cr_by Y_X4_lossWithOneMore) 6 = .ok (.ldc2_w 205, 3) := by decide +kernel
theorem dX4_lossWithOneMore_9 : decode (cr_by Y_X4_lossWithOneMore) 9 = .ok (.iload_n 3, 1) := by decide +kernel
theorem dX4_lossWithOneMore_10 : decode (cr_by Y_X4_lossWithOneMore) 10 = .ok (.i2l, 1) := by decide +kernel
theorem dX4_lossWithOneMore_11 : decode (cr_by Y_X4_lossWithOneMore) 11 = .ok (.lmul, 1) := by decide +kernel
theorem dX4_lossWithOneMore_12 : decode (cr_by Y_X4_lossWithOneMore) 12 = .ok (.ldc2_w 145, 3) := by decide +kernel
theorem dX4_lossWithOneMore_15 : decode (cr_by Y_X4_lossWithOneMore) 15 = .ok (.lmul, 1) := by decide +kernel
theorem dX4_lossWithOneMore_16 : decode (cr_by Y_X4_lossWithOneMore) 16 = .ok (.lload 4, 2) := by decide +kernel
theorem dX4_lossWithOneMore_18 : decode (cr_by Y_X4_lossWithOneMore) 18 = .ok (.ladd, 1) := by decide +kernel
theorem dX4_lossWithOneMore_19 : decode (cr_by Y_X4_lossWithOneMore) 19 = .ok (.lstore 6, 2) := by decide +kernel
theorem dX4_lossWithOneMore_21 : decode (cr_by Y_X4_lossWithOneMore) 21 = .ok (.lload 6, 2) := by decide +kernel
theorem dX4_lossWithOneMore_23 : decode (cr_by Y_X4_lossWithOneMore) 23 = .ok (.lconst 0, 1) := by decide +kernel
theorem dX4_lossWithOneMore_24 : decode (cr_by Y_X4_lossWithOneMore) 24 = .ok (.lcmp, 1) := by decide +kernel
theorem dX4_lossWithOneMore_25 : decode (cr_by Y_X4_lossWithOneMore) 25 = .ok (.ifCond .gt 7, 3) := by decide +kernel
theorem dX4_lossWithOneMore_28 : decode (cr_by Y_X4_lossWithOneMore) 28 = .ok (.lconst 0, 1) := by decide +kernel
theorem dX4_lossWithOneMore_29 : decode (cr_by Y_X4_lossWithOneMore) 29 = .ok (.goto 12, 3) := by decide +kernel
theorem dX4_lossWithOneMore_32 : decode (cr_by Y_X4_lossWithOneMore) 32 = .ok (.lload 4, 2) := by decide +kernel
theorem dX4_lossWithOneMore_34 : decode (cr_by Y_X4_lossWithOneMore) 34 = .ok (.ldc2_w 145, 3) := by decide +kernel
theorem dX4_lossWithOneMore_37 : decode (cr_by Y_X4_lossWithOneMore) 37 = .ok (.lmul, 1) := by decide +kernel
theorem dX4_lossWithOneMore_38 : decode (cr_by Y_X4_lossWithOneMore) 38 = .ok (.lload 6, 2) := by decide +kernel
theorem dX4_lossWithOneMore_40 : decode (cr_by Y_X4_lossWithOneMore) 40 = .ok (.ldiv, 1) := by decide +kernel
theorem dX4_lossWithOneMore_41 : decode (cr_by Y_X4_lossWithOneMore) 41 = .ok (.lreturn, 1) := by decide +kernel

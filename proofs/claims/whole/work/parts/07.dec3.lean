theorem dX3_plan_0 : decode (cr_by Y_X3_plan) 0 = .ok (.bipush 16, 2) := by decide +kernel
theorem dX3_plan_2 : decode (cr_by Y_X3_plan) 2 = .ok (.iload_n 1, 1) := by decide +kernel
theorem dX3_plan_3 : decode (cr_by Y_X3_plan) 3 = .ok (.isub, 1) := by decide +kernel
theorem dX3_plan_4 : decode (cr_by Y_X3_plan) 4 = .ok (.istore_n 2, 1) := by decide +kernel
theorem dX3_plan_5 : decode (cr_by Y_X3_plan) 5 = .ok (.iload_n 1, 1) := by decide +kernel
theorem dX3_plan_6 : decode (cr_by Y_X3_plan) 6 = .ok (.iconst 1, 1) := by decide +kernel
theorem dX3_plan_7 : decode (cr_by Y_X3_plan) 7 = .ok (.if_icmp .lt 7, 3) := by decide +kernel
theorem dX3_plan_10 : decode (cr_by Y_X3_plan) 10 = .ok (.iload_n 2, 1) := by decide +kernel
theorem dX3_plan_11 : decode (cr_by Y_X3_plan) 11 = .ok (.ifCond .ge 5, 3) := by decide +kernel
theorem dX3_plan_14 : decode (cr_by Y_X3_plan) 14 = .ok (.iconst 0, 1) := by decide +kernel
theorem dX3_plan_15 : decode (cr_by Y_X3_plan) 15 = .ok (.ireturn, 1) := by decide +kernel
theorem dX3_plan_16 : decode (cr_by Y_X3_plan) 16 = .ok (.iconst 0, 1) := by decide +kernel
theorem dX3_plan_17 : decode (cr_by Y_X3_plan) 17 = .ok (.istore_n 3, 1) := by decide +kernel
theorem dX3_plan_18 : decode (cr_by Y_X3_plan) 18 = .ok (.iload_n 3, 1) := by decide +kernel
theorem dX3_plan_19 : decode (cr_by Y_X3_plan) 19 = .ok (.bipush 16, 2) := by decide +kernel
theorem dX3_plan_21 : decode (cr_by Y_X3_plan) 21 = .ok (.if_icmp .ge 16, 3) := by decide +kernel
theorem dX3_plan_24 : decode (cr_by Y_X3_plan) 24 = .ok (.aload_n 0, 1) := by decide +kernel
theorem dX3_plan_25 : decode (cr_by Y_X3_plan) 25 = .ok (.getfield 15, 3) := by decide +kernel
theorem dX3_plan_28 : decode (cr_by Y_X3_plan) 28 = .ok (.iload_n 3, 1) := by decide +kernel
theorem dX3_plan_29 : decode (cr_by Y_X3_plan) 29 = .ok (.iconst 0, 1) := by decide +kernel
theorem dX3_plan_30 : decode (cr_by Y_X3_plan) 30 = .ok (.iastore, 1) := by decide +kernel
theorem dX3_plan_31 : decode (cr_by Y_X3_plan) 31 = .ok (.iinc 3 1, 3) := by decide +kernel
theorem dX3_plan_34 : decode (cr_by Y_X3_plan) 34 = .ok (.goto (-16), 3) := by decide +kernel
theorem dX3_plan_37 : decode (cr_by Y_X3_plan) 37 = .ok (.iconst 0, 1) := by decide +kernel
theorem dX3_plan_38 : decode (cr_by Y_X3_plan) 38 = .ok (.istore_n 3, 1) := by decide +kernel
theorem dX3_plan_39 : decode (cr_by Y_X3_plan) 39 = .ok (.iconst 0, 1) := by decide +kernel
theorem dX3_plan_40 : decode (cr_by Y_X3_plan) 40 = .ok (.istore 4, 2) := by decide +kernel
theorem dX3_plan_42 : decode (cr_by Y_X3_plan) 42 = .ok (.iconst 0, 1) := by decide +kernel
theorem dX3_plan_43 : decode (cr_by Y_X3_plan) 43 = .ok (.istore 5, 2) := by decide +kernel
theorem dX3_plan_45 : decode (cr_by Y_X3_plan) 45 = .ok (.iload 5, 2) := by decide +kernel
theorem dX3_plan_47 : decode (cr_by Y_X3_plan) 47 = .ok (.bipush 16, 2) := by decide +kernel
theorem dX3_plan_49 : decode (cr_by Y_X3_plan) 49 = .ok (.if_icmp .ge 74, 3) := by decide +kernel
theorem dX3_plan_52 : decode (cr_by Y_X3_plan) 52 = .ok (.iload_n 3, 1) := by decide +kernel
theorem dX3_plan_53 : decode (cr_by Y_X3_plan) 53 = .ok (.iload 5, 2) := by decide +kernel
theorem dX3_plan_55 : decode (cr_by Y_X3_plan) 55 = .ok (.iload_n 1, 1) := by decide +kernel
theorem dX3_plan_56 : decode (cr_by Y_X3_plan) 56 = .ok (.if_icmp .lt 15, 3) := by decide +kernel
theorem dX3_plan_59 : decode (cr_by Y_X3_plan) 59 = .ok (.aload_n 0, 1) := by decide +kernel
theorem dX3_plan_60 : decode (cr_by Y_X3_plan) 60 = .ok (.getfield 15, 3) := by decide +kernel
theorem dX3_plan_63 : decode (cr_by Y_X3_plan) 63 = .ok (.iload 5, 2) := by decide +kernel
theorem dX3_plan_65 : decode (cr_by Y_X3_plan) 65 = .ok (.iload_n 1, 1) := by decide +kernel
theorem dX3_plan_66 : decode (cr_by Y_X3_plan) 66 = .ok (.isub, 1) := by decide +kernel
theorem dX3_plan_67 : decode (cr_by Y_X3_plan) 67 = .ok (.iaload, 1) := by decide +kernel
theorem dX3_plan_68 : decode (cr_by Y_X3_plan) 68 = .ok (.goto 4, 3) := by decide +kernel
theorem dX3_plan_71 : decode (cr_by Y_X3_plan) 71 = .ok (.iconst 0, 1) := by decide +kernel
theorem dX3_plan_72 : decode (cr_by Y_X3_plan) 72 = .ok (.isub, 1) := by decide +kernel
theorem dX3_plan_73 : decode (cr_by Y_X3_plan) 73 = .ok (.istore_n 3, 1) := by decide +kernel
theorem dX3_plan_74 : decode (cr_by Y_X3_plan) 74 = .ok (.iconst 0, 1) := by decide +kernel
theorem dX3_plan_75 : decode (cr_by Y_X3_plan) 75 = .ok (.aload_n 0, 1) := by decide +kernel
theorem dX3_plan_76 : decode (cr_by Y_X3_plan) 76 = .ok (.getfield 9, 3) := by decide +kernel
theorem dX3_plan_79 : decode (cr_by Y_X3_plan) 79 = .ok (.iload 5, 2) := by decide +kernel
theorem dX3_plan_81 : decode (cr_by Y_X3_plan) 81 = .ok (.iaload, 1) := by decide +kernel
theorem dX3_plan_82 : decode (cr_by Y_X3_plan) 82 = .ok (.iload_n 3, 1) := by decide +kernel
theorem dX3_plan_83 : decode (cr_by Y_X3_plan) 83 = .ok (.isub, 1) := by decide +kernel
theorem dX3_plan_84 : decode (cr_by Y_X3_plan) 84 = .ok (.invokestatic 18, 3) := by decide +kernel
theorem dX3_plan_87 : decode (cr_by Y_X3_plan) 87 = .ok (.istore 6, 2) := by decide +kernel
theorem dX3_plan_89 : decode (cr_by Y_X3_plan) 89 = .ok (.aload_n 0, 1) := by decide +kernel
theorem dX3_plan_90 : decode (cr_by Y_X3_plan) 90 = .ok (.getfield 15, 3) := by decide +kernel
theorem dX3_plan_93 : decode (cr_by Y_X3_plan) 93 = .ok (.iload 5, 2) := by decide +kernel
theorem dX3_plan_95 : decode (cr_by Y_X3_plan) 95 = .ok (.iload_n 2, 1) := by decide +kernel
theorem dX3_plan_96 : decode (cr_by Y_X3_plan) 96 = .ok (.invokestatic 24, 3) := by decide +kernel
theorem dX3_plan_99 : decode (cr_by Y_X3_plan) 99 = .ok (.dup2, 1) := by decide +kernel
theorem dX3_plan_100 : decode (cr_by Y_X3_plan) 100 = .ok (.iaload, 1) := by decide +kernel
theorem dX3_plan_101 : decode (cr_by Y_X3_plan) 101 = .ok (.iload 6, 2) := by decide +kernel
theorem dX3_plan_103 : decode (cr_by Y_X3_plan) 103 = .ok (.iadd, 1) := by decide +kernel
theorem dX3_plan_104 : decode (cr_by Y_X3_plan) 104 = .ok (.iastore, 1) := by decide +kernel
theorem dX3_plan_105 : decode (cr_by Y_X3_plan) 105 = .ok (.iload_n 3, 1) := by decide +kernel
theorem dX3_plan_106 : decode (cr_by Y_X3_plan) 106 = .ok (.iload 6, 2) := by decide +kernel
theorem dX3_plan_108 : decode (cr_by Y_X3_plan) 108 = .ok (.iadd, 1) := by decide +kernel
theorem dX3_plan_109 : decode (cr_by Y_X3_plan) 109 = .ok (.istore_n 3, 1) := by decide +kernel
theorem dX3_plan_110 : decode (cr_by Y_X3_plan) 110 = .ok (.iload 4, 2) := by decide +kernel
theorem dX3_plan_112 : decode (cr_by Y_X3_plan) 112 = .ok (.iload 6, 2) := by decide +kernel
theorem dX3_plan_114 : decode (cr_by Y_X3_plan) 114 = .ok (.iadd, 1) := by decide +kernel
theorem dX3_plan_115 : decode (cr_by Y_X3_plan) 115 = .ok (.istore 4, 2) := by decide +kernel
theorem dX3_plan_117 : decode (cr_by Y_X3_plan) 117 = .ok (.iinc 5 1, 3) := by decide +kernel
theorem dX3_plan_120 : decode (cr_by Y_X3_plan) 120 = .ok (.goto (-75), 3) := by decide +kernel
theorem dX3_plan_123 : decode (cr_by Y_X3_plan) 123 = .ok (.iload 4, 2) := by decide +kernel
theorem dX3_plan_125 : decode (cr_by Y_X3_plan) 125 = .ok (.ireturn, 1) := by decide +kernel
theorem dJ_bit_0 : decode (cr_by Y_J_bit) 0 = .ok (.iload_n 0, 1) := by decide +kernel
theorem dJ_bit_1 : decode (cr_by Y_J_bit) 1 = .ok (.iload_n 0, 1) := by decide +kernel
theorem dJ_bit_2 : decode (cr_by Y_J_bit) 2 = .ok (.iconst 1, 1) := by decide +kernel
theorem dJ_bit_3 : decode (cr_by Y_J_bit) 3 = .ok (.iushr, 1) := by decide +kernel
theorem dJ_bit_4 : decode (cr_by Y_J_bit) 4 = .ok (.ldc_w 265, 3) := by decide +kernel
theorem dJ_bit_7 : decode (cr_by Y_J_bit) 7 = .ok (.iand, 1) := by decide +kernel
theorem dJ_bit_8 : decode (cr_by Y_J_bit) 8 = .ok (.isub, 1) := by decide +kernel
theorem dJ_bit_9 : decode (cr_by Y_J_bit) 9 = .ok (.istore_n 0, 1) := by decide +kernel
theorem dJ_bit_10 : decode (cr_by Y_J_bit) 10 = .ok (.iload_n 0, 1) := by decide +kernel
theorem dJ_bit_11 : decode (cr_by Y_J_bit) 11 = .ok (.ldc_w 266, 3) := by decide +kernel
theorem dJ_bit_14 : decode (cr_by Y_J_bit) 14 = .ok (.iand, 1) := by decide +kernel
theorem dJ_bit_15 : decode (cr_by Y_J_bit) 15 = .ok (.iload_n 0, 1) := by decide +kernel
theorem dJ_bit_16 : decode (cr_by Y_J_bit) 16 = .ok (.iconst 2, 1) := by decide +kernel
theorem dJ_bit_17 : decode (cr_by Y_J_bit) 17 = .ok (.iushr, 1) := by decide +kernel
theorem dJ_bit_18 : decode (cr_by Y_J_bit) 18 = .ok (.ldc_w 266, 3) := by decide +kernel
theorem dJ_bit_21 : decode (cr_by Y_J_bit) 21 = .ok (.iand, 1) := by decide +kernel
theorem dJ_bit_22 : decode (cr_by Y_J_bit) 22 = .ok (.iadd, 1) := by decide +kernel
theorem dJ_bit_23 : decode (cr_by Y_J_bit) 23 = .ok (.istore_n 0, 1) := by decide +kernel
theorem dJ_bit_24 : decode (cr_by Y_J_bit) 24 = .ok (.iload_n 0, 1) := by decide +kernel
theorem dJ_bit_25 : decode (cr_by Y_J_bit) 25 = .ok (.iload_n 0, 1) := by decide +kernel
theorem dJ_bit_26 : decode (cr_by Y_J_bit) 26 = .ok (.iconst 4, 1) := by decide +kernel
theorem dJ_bit_27 : decode (cr_by Y_J_bit) 27 = .ok (.iushr, 1) := by decide +kernel
theorem dJ_bit_28 : decode (cr_by Y_J_bit) 28 = .ok (.iadd, 1) := by decide +kernel
theorem dJ_bit_29 : decode (cr_by Y_J_bit) 29 = .ok (.ldc_w 267, 3) := by decide +kernel
theorem dJ_bit_32 : decode (cr_by Y_J_bit) 32 = .ok (.iand, 1) := by decide +kernel
theorem dJ_bit_33 : decode (cr_by Y_J_bit) 33 = .ok (.istore_n 0, 1) := by decide +kernel
theorem dJ_bit_34 : decode (cr_by Y_J_bit) 34 = .ok (.iload_n 0, 1) := by decide +kernel
theorem dJ_bit_35 : decode (cr_by Y_J_bit) 35 = .ok (.iload_n 0, 1) := by decide +kernel
theorem dJ_bit_36 : decode (cr_by Y_J_bit) 36 = .ok (.bipush 8, 2) := by decide +kernel
theorem dJ_bit_38 : decode (cr_by Y_J_bit) 38 = .ok (.iushr, 1) := by decide +kernel
theorem dJ_bit_39 : decode (cr_by Y_J_bit) 39 = .ok (.iadd, 1) := by decide +kernel
theorem dJ_bit_40 : decode (cr_by Y_J_bit) 40 = .ok (.istore_n 0, 1) := by decide +kernel
theorem dJ_bit_41 : decode (cr_by Y_J_bit) 41 = .ok (.iload_n 0, 1) := by decide +kernel
theorem dJ_bit_42 : decode (cr_by Y_J_bit) 42 = .ok (.iload_n 0, 1) := by decide +kernel
theorem dJ_bit_43 : decode (cr_by Y_J_bit) 43 = .ok (.bipush 16, 2) := by decide +kernel
theorem dJ_bit_45 : decode (cr_by Y_J_bit) 45 = .ok (.iushr, 1) := by decide +kernel
theorem dJ_bit_46 : decode (cr_by Y_J_bit) 46 = .ok (.iadd, 1) := by decide +kernel
theorem dJ_bit_47 : decode (cr_by Y_J_bit) 47 = .ok (.istore_n 0, 1) := by decide +kernel
theorem dJ_bit_48 : decode (cr_by Y_J_bit) 48 = .ok (.iload_n 0, 1) := by decide +kernel
theorem dJ_bit_49 : decode (cr_by Y_J_bit) 49 = .ok (.bipush 63, 2) := by decide +kernel
theorem dJ_bit_51 : decode (cr_by Y_J_bit) 51 = .ok (.iand, 1) := by decide +kernel
theorem dJ_bit_52 : decode (cr_by Y_J_bit) 52 = .ok (.ireturn, 1) := by decide +kernel

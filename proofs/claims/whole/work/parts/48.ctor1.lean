theorem dX0_init_0 : decode cX0_init 0 = .ok (.aload_n 0, 1) := by decide +kernel
theorem dX0_init_1 : decode cX0_init 1 = .ok (.invokespecial 3, 3) := by decide +kernel
theorem dX0_init_4 : decode cX0_init 4 = .ok (.aload_n 0, 1) := by decide +kernel
theorem dX0_init_5 : decode cX0_init 5 = .ok (.sipush 200, 3) := by decide +kernel
theorem dX0_init_8 : decode cX0_init 8 = .ok (.newarray .int, 2) := by decide +kernel
theorem dX0_init_10 : decode cX0_init 10 = .ok (.putfield 9, 3) := by decide +kernel
theorem dX0_init_13 : decode cX0_init 13 = .ok (.aload_n 0, 1) := by decide +kernel
theorem dX0_init_14 : decode cX0_init 14 = .ok (.sipush 200, 3) := by decide +kernel
theorem dX0_init_17 : decode cX0_init 17 = .ok (.newarray .int, 2) := by decide +kernel
theorem dX0_init_19 : decode cX0_init 19 = .ok (.putfield 15, 3) := by decide +kernel
theorem dX0_init_22 : decode cX0_init 22 = .ok (.aload_n 0, 1) := by decide +kernel
theorem dX0_init_23 : decode cX0_init 23 = .ok (.sipush 200, 3) := by decide +kernel
theorem dX0_init_26 : decode cX0_init 26 = .ok (.newarray .int, 2) := by decide +kernel
theorem dX0_init_28 : decode cX0_init 28 = .ok (.putfield 18, 3) := by decide +kernel
theorem dX0_init_31 : decode cX0_init 31 = .ok (.aload_n 0, 1) := by decide +kernel
theorem dX0_init_32 : decode cX0_init 32 = .ok (.sipush 200, 3) := by decide +kernel
theorem dX0_init_35 : decode cX0_init 35 = .ok (.newarray .int, 2) := by decide +kernel
theorem dX0_init_37 : decode cX0_init 37 = .ok (.putfield 21, 3) := by decide +kernel
theorem dX0_init_40 : decode cX0_init 40 = .ok (.aload_n 0, 1) := by decide +kernel
theorem dX0_init_41 : decode cX0_init 41 = .ok (.sipush 200, 3) := by decide +kernel
theorem dX0_init_44 : decode cX0_init 44 = .ok (.newarray .int, 2) := by decide +kernel
theorem dX0_init_46 : decode cX0_init 46 = .ok (.putfield 24, 3) := by decide +kernel
theorem dX0_init_49 : decode cX0_init 49 = .ok (.aload_n 0, 1) := by decide +kernel
theorem dX0_init_50 : decode cX0_init 50 = .ok (.sipush 200, 3) := by decide +kernel
theorem dX0_init_53 : decode cX0_init 53 = .ok (.newarray .int, 2) := by decide +kernel
theorem dX0_init_55 : decode cX0_init 55 = .ok (.putfield 27, 3) := by decide +kernel
theorem dX0_init_58 : decode cX0_init 58 = .ok (.aload_n 0, 1) := by decide +kernel
theorem dX0_init_59 : decode cX0_init 59 = .ok (.sipush 200, 3) := by decide +kernel
theorem dX0_init_62 : decode cX0_init 62 = .ok (.newarray .int, 2) := by decide +kernel
theorem dX0_init_64 : decode cX0_init 64 = .ok (.putfield 30, 3) := by decide +kernel
theorem dX0_init_67 : decode cX0_init 67 = .ok (.aload_n 0, 1) := by decide +kernel
theorem dX0_init_68 : decode cX0_init 68 = .ok (.sipush 200, 3) := by decide +kernel
theorem dX0_init_71 : decode cX0_init 71 = .ok (.newarray .int, 2) := by decide +kernel
theorem dX0_init_73 : decode cX0_init 73 = .ok (.putfield 33, 3) := by decide +kernel
theorem dX0_init_76 : decode cX0_init 76 = .ok (.aload_n 0, 1) := by decide +kernel
theorem dX0_init_77 : decode cX0_init 77 = .ok (.sipush 200, 3) := by decide +kernel
theorem dX0_init_80 : decode cX0_init 80 = .ok (.newarray .int, 2) := by decide +kernel
theorem dX0_init_82 : decode cX0_init 82 = .ok (.putfield 36, 3) := by decide +kernel
theorem dX0_init_85 : decode cX0_init 85 = .ok (.aload_n 0, 1) := by decide +kernel
theorem dX0_init_86 : decode cX0_init 86 = .ok (.sipush 200, 3) := by decide +kernel
theorem dX0_init_89 : decode cX0_init 89 = .ok (.newarray .int, 2) := by decide +kernel
theorem dX0_init_91 : decode cX0_init 91 = .ok (.putfield 39, 3) := by decide +kernel
theorem dX0_init_94 : decode cX0_init 94 = .ok (.aload_n 0, 1) := by decide +kernel
theorem dX0_init_95 : decode cX0_init 95 = .ok (.sipush 200, 3) := by decide +kernel
theorem dX0_init_98 : decode cX0_init 98 = .ok (.newarray .int, 2) := by decide +kernel
theorem dX0_init_100 : decode cX0_init 100 = .ok (.putfield 42, 3) := by decide +kernel
theorem dX0_init_103 : decode cX0_init 103 = .ok (.aload_n 0, 1) := by decide +kernel
theorem dX0_init_104 : decode cX0_init 104 = .ok (.sipush 200, 3) := by decide +kernel
theorem dX0_init_107 : decode cX0_init 107 = .ok (.newarray .int, 2) := by decide +kernel
theorem dX0_init_109 : decode cX0_init 109 = .ok (.putfield 45, 3) := by decide +kernel
theorem dX0_init_112 : decode cX0_init 112 = .ok (.return_, 1) := by decide +kernel
theorem dX1_init_0 : decode cX1_init 0 = .ok (.aload_n 0, 1) := by decide +kernel
theorem dX1_init_1 : decode cX1_init 1 = .ok (.invokespecial 3, 3) := by decide +kernel
theorem dX1_init_4 : decode cX1_init 4 = .ok (.aload_n 0, 1) := by decide +kernel
theorem dX1_init_5 : decode cX1_init 5 = .ok (.new 9, 3) := by decide +kernel
theorem dX1_init_8 : decode cX1_init 8 = .ok (.dup, 1) := by decide +kernel
theorem dX1_init_9 : decode cX1_init 9 = .ok (.invokespecial 11, 3) := by decide +kernel
theorem dX1_init_12 : decode cX1_init 12 = .ok (.putfield 12, 3) := by decide +kernel
theorem dX1_init_15 : decode cX1_init 15 = .ok (.aload_n 0, 1) := by decide +kernel
theorem dX1_init_16 : decode cX1_init 16 = .ok (.new 18, 3) := by decide +kernel
theorem dX1_init_19 : decode cX1_init 19 = .ok (.dup, 1) := by decide +kernel
theorem dX1_init_20 : decode cX1_init 20 = .ok (.invokespecial 20, 3) := by decide +kernel
theorem dX1_init_23 : decode cX1_init 23 = .ok (.putfield 21, 3) := by decide +kernel
theorem dX1_init_26 : decode cX1_init 26 = .ok (.aload_n 0, 1) := by decide +kernel
theorem dX1_init_27 : decode cX1_init 27 = .ok (.iconst 4, 1) := by decide +kernel
theorem dX1_init_28 : decode cX1_init 28 = .ok (.newarray .int, 2) := by decide +kernel
theorem dX1_init_30 : decode cX1_init 30 = .ok (.putfield 25, 3) := by decide +kernel
theorem dX1_init_33 : decode cX1_init 33 = .ok (.aload_n 0, 1) := by decide +kernel
theorem dX1_init_34 : decode cX1_init 34 = .ok (.iconst 4, 1) := by decide +kernel
theorem dX1_init_35 : decode cX1_init 35 = .ok (.newarray .int, 2) := by decide +kernel
theorem dX1_init_37 : decode cX1_init 37 = .ok (.putfield 29, 3) := by decide +kernel
theorem dX1_init_40 : decode cX1_init 40 = .ok (.aload_n 0, 1) := by decide +kernel
theorem dX1_init_41 : decode cX1_init 41 = .ok (.bipush 20, 2) := by decide +kernel
theorem dX1_init_43 : decode cX1_init 43 = .ok (.putfield 32, 3) := by decide +kernel
theorem dX1_init_46 : decode cX1_init 46 = .ok (.return_, 1) := by decide +kernel
theorem dX2_init_0 : decode cX2_init 0 = .ok (.aload_n 0, 1) := by decide +kernel
theorem dX2_init_1 : decode cX2_init 1 = .ok (.invokespecial 3, 3) := by decide +kernel
theorem dX2_init_4 : decode cX2_init 4 = .ok (.aload_n 0, 1) := by decide +kernel
theorem dX2_init_5 : decode cX2_init 5 = .ok (.bipush 10, 2) := by decide +kernel
theorem dX2_init_7 : decode cX2_init 7 = .ok (.newarray .int, 2) := by decide +kernel
theorem dX2_init_9 : decode cX2_init 9 = .ok (.putfield 9, 3) := by decide +kernel
theorem dX2_init_12 : decode cX2_init 12 = .ok (.aload_n 0, 1) := by decide +kernel
theorem dX2_init_13 : decode cX2_init 13 = .ok (.bipush 10, 2) := by decide +kernel
theorem dX2_init_15 : decode cX2_init 15 = .ok (.newarray .int, 2) := by decide +kernel
theorem dX2_init_17 : decode cX2_init 17 = .ok (.putfield 15, 3) := by decide +kernel
theorem dX2_init_20 : decode cX2_init 20 = .ok (.aload_n 0, 1) := by decide +kernel
theorem dX2_init_21 : decode cX2_init 21 = .ok (.bipush 10, 2) := by decide +kernel
theorem dX2_init_23 : decode cX2_init 23 = .ok (.newarray .int, 2) := by decide +kernel
theorem dX2_init_25 : decode cX2_init 25 = .ok (.putfield 18, 3) := by decide +kernel
theorem dX2_init_28 : decode cX2_init 28 = .ok (.aload_n 0, 1) := by decide +kernel
theorem dX2_init_29 : decode cX2_init 29 = .ok (.bipush 10, 2) := by decide +kernel
theorem dX2_init_31 : decode cX2_init 31 = .ok (.newarray .int, 2) := by decide +kernel
theorem dX2_init_33 : decode cX2_init 33 = .ok (.putfield 21, 3) := by decide +kernel
theorem dX2_init_36 : decode cX2_init 36 = .ok (.aload_n 0, 1) := by decide +kernel
theorem dX2_init_37 : decode cX2_init 37 = .ok (.bipush 10, 2) := by decide +kernel
theorem dX2_init_39 : decode cX2_init 39 = .ok (.newarray .int, 2) := by decide +kernel
theorem dX2_init_41 : decode cX2_init 41 = .ok (.putfield 24, 3) := by decide +kernel
theorem dX2_init_44 : decode cX2_init 44 = .ok (.aload_n 0, 1) := by decide +kernel
theorem dX2_init_45 : decode cX2_init 45 = .ok (.bipush 10, 2) := by decide +kernel
theorem dX2_init_47 : decode cX2_init 47 = .ok (.newarray .int, 2) := by decide +kernel
theorem dX2_init_49 : decode cX2_init 49 = .ok (.putfield 27, 3) := by decide +kernel
theorem dX2_init_52 : decode cX2_init 52 = .ok (.aload_n 0, 1) := by decide +kernel
theorem dX2_init_53 : decode cX2_init 53 = .ok (.bipush 10, 2) := by decide +kernel
theorem dX2_init_55 : decode cX2_init 55 = .ok (.newarray .int, 2) := by decide +kernel
theorem dX2_init_57 : decode cX2_init 57 = .ok (.putfield 30, 3) := by decide +kernel
theorem dX2_init_60 : decode cX2_init 60 = .ok (.aload_n 0, 1) := by decide +kernel
theorem dX2_init_61 : decode cX2_init 61 = .ok (.bipush 10, 2) := by decide +kernel
theorem dX2_init_63 : decode cX2_init 63 = .ok (.newarray .int, 2) := by decide +kernel
theorem dX2_init_65 : decode cX2_init 65 = .ok (.putfield 33, 3) := by decide +kernel
theorem dX2_init_68 : decode cX2_init 68 = .ok (.return_, 1) := by decide +kernel
theorem dX3_init_0 : decode cX3_init 0 = .ok (.aload_n 0, 1) := by decide +kernel
theorem dX3_init_1 : decode cX3_init 1 = .ok (.invokespecial 3, 3) := by decide +kernel
theorem dX3_init_4 : decode cX3_init 4 = .ok (.aload_n 0, 1) := by decide +kernel
theorem dX3_init_5 : decode cX3_init 5 = .ok (.bipush 16, 2) := by decide +kernel
theorem dX3_init_7 : decode cX3_init 7 = .ok (.newarray .int, 2) := by decide +kernel
theorem dX3_init_9 : decode cX3_init 9 = .ok (.putfield 9, 3) := by decide +kernel
theorem dX3_init_12 : decode cX3_init 12 = .ok (.aload_n 0, 1) := by decide +kernel
theorem dX3_init_13 : decode cX3_init 13 = .ok (.bipush 16, 2) := by decide +kernel
theorem dX3_init_15 : decode cX3_init 15 = .ok (.newarray .int, 2) := by decide +kernel
theorem dX3_init_17 : decode cX3_init 17 = .ok (.putfield 15, 3) := by decide +kernel
theorem dX3_init_20 : decode cX3_init 20 = .ok (.return_, 1) := by decide +kernel
theorem dX4_init_0 : decode cX4_init 0 = .ok (.aload_n 0, 1) := by decide +kernel
theorem dX4_init_1 : decode cX4_init 1 = .ok (.invokespecial 1, 3) := by decide +kernel
theorem dX4_init_4 : decode cX4_init 4 = .ok (.aload_n 0, 1) := by decide +kernel
theorem dX4_init_5 : decode cX4_init 5 = .ok (.new 7, 3) := by decide +kernel
theorem dX4_init_8 : decode cX4_init 8 = .ok (.dup, 1) := by decide +kernel
theorem dX4_init_9 : decode cX4_init 9 = .ok (.invokespecial 9, 3) := by decide +kernel
theorem dX4_init_12 : decode cX4_init 12 = .ok (.putfield 10, 3) := by decide +kernel
theorem dX4_init_15 : decode cX4_init 15 = .ok (.aload_n 0, 1) := by decide +kernel
theorem dX4_init_16 : decode cX4_init 16 = .ok (.new 7, 3) := by decide +kernel
theorem dX4_init_19 : decode cX4_init 19 = .ok (.dup, 1) := by decide +kernel
theorem dX4_init_20 : decode cX4_init 20 = .ok (.invokespecial 9, 3) := by decide +kernel
theorem dX4_init_23 : decode cX4_init 23 = .ok (.putfield 16, 3) := by decide +kernel
theorem dX4_init_26 : decode cX4_init 26 = .ok (.aload_n 0, 1) := by decide +kernel
theorem dX4_init_27 : decode cX4_init 27 = .ok (.new 19, 3) := by decide +kernel
theorem dX4_init_30 : decode cX4_init 30 = .ok (.dup, 1) := by decide +kernel
theorem dX4_init_31 : decode cX4_init 31 = .ok (.invokespecial 21, 3) := by decide +kernel
theorem dX4_init_34 : decode cX4_init 34 = .ok (.putfield 22, 3) := by decide +kernel
theorem dX4_init_37 : decode cX4_init 37 = .ok (.aload_n 0, 1) := by decide +kernel
theorem dX4_init_38 : decode cX4_init 38 = .ok (.bipush 7, 2) := by decide +kernel
theorem dX4_init_40 : decode cX4_init 40 = .ok (.newarray .int, 2) := by decide +kernel
theorem dX4_init_42 : decode cX4_init 42 = .ok (.putfield 26, 3) := by decide +kernel
theorem dX4_init_45 : decode cX4_init 45 = .ok (.return_, 1) := by decide +kernel
theorem dX5_init_0 : decode cX5_init 0 = .ok (.aload_n 0, 1) := by decide +kernel
theorem dX5_init_1 : decode cX5_init 1 = .ok (.invokespecial 1, 3) := by decide +kernel
theorem dX5_init_4 : decode cX5_init 4 = .ok (.aload_n 0, 1) := by decide +kernel
theorem dX5_init_5 : decode cX5_init 5 = .ok (.bipush 7, 2) := by decide +kernel
theorem dX5_init_7 : decode cX5_init 7 = .ok (.newarray .int, 2) := by decide +kernel
theorem dX5_init_9 : decode cX5_init 9 = .ok (.putfield 7, 3) := by decide +kernel
theorem dX5_init_12 : decode cX5_init 12 = .ok (.aload_n 0, 1) := by decide +kernel
theorem dX5_init_13 : decode cX5_init 13 = .ok (.bipush 16, 2) := by decide +kernel
theorem dX5_init_15 : decode cX5_init 15 = .ok (.newarray .int, 2) := by decide +kernel
theorem dX5_init_17 : decode cX5_init 17 = .ok (.putfield 13, 3) := by decide +kernel
theorem dX5_init_20 : decode cX5_init 20 = .ok (.aload_n 0, 1) := by decide +kernel
theorem dX5_init_21 : decode cX5_init 21 = .ok (.bipush 16, 2) := by decide +kernel
theorem dX5_init_23 : decode cX5_init 23 = .ok (.newarray .int, 2) := by decide +kernel
theorem dX5_init_25 : decode cX5_init 25 = .ok (.putfield 16, 3) := by decide +kernel
theorem dX5_init_28 : decode cX5_init 28 = .ok (.aload_n 0, 1) := by decide +kernel
theorem dX5_init_29 : decode cX5_init 29 = .ok (.bipush 20, 2) := by decide +kernel
theorem dX5_init_31 : decode cX5_init 31 = .ok (.putfield 19, 3) := by decide +kernel
theorem dX5_init_34 : decode cX5_init 34 = .ok (.aload_n 0, 1) := by decide +kernel
theorem dX5_init_35 : decode cX5_init 35 = .ok (.bipush 40, 2) := by decide +kernel
theorem dX5_init_37 : decode cX5_init 37 = .ok (.newarray .int, 2) := by decide +kernel
theorem dX5_init_39 : decode cX5_init 39 = .ok (.putfield 23, 3) := by decide +kernel
theorem dX5_init_42 : decode cX5_init 42 = .ok (.aload_n 0, 1) := by decide +kernel
theorem dX5_init_43 : decode cX5_init 43 = .ok (.bipush 10, 2) := by decide +kernel
theorem dX5_init_45 : decode cX5_init 45 = .ok (.newarray .int, 2) := by decide +kernel
theorem dX5_init_47 : decode cX5_init 47 = .ok (.putfield 26, 3) := by decide +kernel
theorem dX5_init_50 : decode cX5_init 50 = .ok (.aload_n 0, 1) := by decide +kernel
theorem dX5_init_51 : decode cX5_init 51 = .ok (.bipush 10, 2) := by decide +kernel
theorem dX5_init_53 : decode cX5_init 53 = .ok (.newarray .int, 2) := by decide +kernel
theorem dX5_init_55 : decode cX5_init 55 = .ok (.putfield 29, 3) := by decide +kernel
theorem dX5_init_58 : decode cX5_init 58 = .ok (.aload_n 0, 1) := by decide +kernel
theorem dX5_init_59 : decode cX5_init 59 = .ok (.bipush 10, 2) := by decide +kernel
theorem dX5_init_61 : decode cX5_init 61 = .ok (.newarray .int, 2) := by decide +kernel
theorem dX5_init_63 : decode cX5_init 63 = .ok (.putfield 32, 3) := by decide +kernel
theorem dX5_init_66 : decode cX5_init 66 = .ok (.aload_n 0, 1) := by decide +kernel
theorem dX5_init_67 : decode cX5_init 67 = .ok (.bipush 10, 2) := by decide +kernel
theorem dX5_init_69 : decode cX5_init 69 = .ok (.newarray .int, 2) := by decide +kernel
theorem dX5_init_71 : decode cX5_init 71 = .ok (.putfield 35, 3) := by decide +kernel
theorem dX5_init_74 : decode cX5_init 74 = .ok (.aload_n 0, 1) := by decide +kernel
theorem dX5_init_75 : decode cX5_init 75 = .ok (.bipush 10, 2) := by decide +kernel
theorem dX5_init_77 : decode cX5_init 77 = .ok (.newarray .int, 2) := by decide +kernel
theorem dX5_init_79 : decode cX5_init 79 = .ok (.putfield 38, 3) := by decide +kernel
theorem dX5_init_82 : decode cX5_init 82 = .ok (.aload_n 0, 1) := by decide +kernel
theorem dX5_init_83 : decode cX5_init 83 = .ok (.sipush 200, 3) := by decide +kernel
theorem dX5_init_86 : decode cX5_init 86 = .ok (.newarray .int, 2) := by decide +kernel
theorem dX5_init_88 : decode cX5_init 88 = .ok (.putfield 41, 3) := by decide +kernel
theorem dX5_init_91 : decode cX5_init 91 = .ok (.aload_n 0, 1) := by decide +kernel
theorem dX5_init_92 : decode cX5_init 92 = .ok (.sipush 200, 3) := by decide +kernel
theorem dX5_init_95 : decode cX5_init 95 = .ok (.newarray .int, 2) := by decide +kernel
theorem dX5_init_97 : decode cX5_init 97 = .ok (.putfield 44, 3) := by decide +kernel
theorem dX5_init_100 : decode cX5_init 100 = .ok (.aload_n 0, 1) := by decide +kernel
theorem dX5_init_101 : decode cX5_init 101 = .ok (.sipush 200, 3) := by decide +kernel
theorem dX5_init_104 : decode cX5_init 104 = .ok (.newarray .int, 2) := by decide +kernel
theorem dX5_init_106 : decode cX5_init 106 = .ok (.putfield 47, 3) := by decide +kernel
theorem dX5_init_109 : decode cX5_init 109 = .ok (.aload_n 0, 1) := by decide +kernel
theorem dX5_init_110 : decode cX5_init 110 = .ok (.sipush 200, 3) := by decide +kernel
theorem dX5_init_113 : decode cX5_init 113 = .ok (.newarray .int, 2) := by decide +kernel
theorem dX5_init_115 : decode cX5_init 115 = .ok (.putfield 50, 3) := by decide +kernel
theorem dX5_init_118 : decode cX5_init 118 = .ok (.aload_n 0, 1) := by decide +kernel
theorem dX5_init_119 : decode cX5_init 119 = .ok (.sipush 200, 3) := by decide +kernel
theorem dX5_init_122 : decode cX5_init 122 = .ok (.newarray .int, 2) := by decide +kernel
theorem dX5_init_124 : decode cX5_init 124 = .ok (.putfield 53, 3) := by decide +kernel
theorem dX5_init_127 : decode cX5_init 127 = .ok (.aload_n 0, 1) := by decide +kernel
theorem dX5_init_128 : decode cX5_init 128 = .ok (.sipush 200, 3) := by decide +kernel
theorem dX5_init_131 : decode cX5_init 131 = .ok (.newarray .int, 2) := by decide +kernel
theorem dX5_init_133 : decode cX5_init 133 = .ok (.putfield 56, 3) := by decide +kernel
theorem dX5_init_136 : decode cX5_init 136 = .ok (.aload_n 0, 1) := by decide +kernel
theorem dX5_init_137 : decode cX5_init 137 = .ok (.sipush 200, 3) := by decide +kernel
theorem dX5_init_140 : decode cX5_init 140 = .ok (.newarray .int, 2) := by decide +kernel
theorem dX5_init_142 : decode cX5_init 142 = .ok (.putfield 59, 3) := by decide +kernel
theorem dX5_init_145 : decode cX5_init 145 = .ok (.aload_n 0, 1) := by decide +kernel
theorem dX5_init_146 : decode cX5_init 146 = .ok (.sipush 200, 3) := by decide +kernel
theorem dX5_init_149 : decode cX5_init 149 = .ok (.newarray .int, 2) := by decide +kernel
theorem dX5_init_151 : decode cX5_init 151 = .ok (.putfield 62, 3) := by decide +kernel
theorem dX5_init_154 : decode cX5_init 154 = .ok (.aload_n 0, 1) := by decide +kernel
theorem dX5_init_155 : decode cX5_init 155 = .ok (.sipush 200, 3) := by decide +kernel
theorem dX5_init_158 : decode cX5_init 158 = .ok (.newarray .int, 2) := by decide +kernel
theorem dX5_init_160 : decode cX5_init 160 = .ok (.putfield 65, 3) := by decide +kernel
theorem dX5_init_163 : decode cX5_init 163 = .ok (.aload_n 0, 1) := by decide +kernel
theorem dX5_init_164 : decode cX5_init 164 = .ok (.sipush 200, 3) := by decide +kernel
theorem dX5_init_167 : decode cX5_init 167 = .ok (.newarray .int, 2) := by decide +kernel
theorem dX5_init_169 : decode cX5_init 169 = .ok (.putfield 68, 3) := by decide +kernel
theorem dX5_init_172 : decode cX5_init 172 = .ok (.aload_n 0, 1) := by decide +kernel
theorem dX5_init_173 : decode cX5_init 173 = .ok (.sipush 200, 3) := by decide +kernel
theorem dX5_init_176 : decode cX5_init 176 = .ok (.newarray .int, 2) := by decide +kernel
theorem dX5_init_178 : decode cX5_init 178 = .ok (.putfield 71, 3) := by decide +kernel
theorem dX5_init_181 : decode cX5_init 181 = .ok (.aload_n 0, 1) := by decide +kernel
theorem dX5_init_182 : decode cX5_init 182 = .ok (.sipush 200, 3) := by decide +kernel
theorem dX5_init_185 : decode cX5_init 185 = .ok (.newarray .int, 2) := by decide +kernel
theorem dX5_init_187 : decode cX5_init 187 = .ok (.putfield 74, 3) := by decide +kernel
theorem dX5_init_190 : decode cX5_init 190 = .ok (.aload_n 0, 1) := by decide +kernel
theorem dX5_init_191 : decode cX5_init 191 = .ok (.bipush 10, 2) := by decide +kernel
theorem dX5_init_193 : decode cX5_init 193 = .ok (.newarray .int, 2) := by decide +kernel
theorem dX5_init_195 : decode cX5_init 195 = .ok (.putfield 77, 3) := by decide +kernel
theorem dX5_init_198 : decode cX5_init 198 = .ok (.aload_n 0, 1) := by decide +kernel
theorem dX5_init_199 : decode cX5_init 199 = .ok (.bipush 10, 2) := by decide +kernel
theorem dX5_init_201 : decode cX5_init 201 = .ok (.newarray .int, 2) := by decide +kernel
theorem dX5_init_203 : decode cX5_init 203 = .ok (.putfield 80, 3) := by decide +kernel
theorem dX5_init_206 : decode cX5_init 206 = .ok (.aload_n 0, 1) := by decide +kernel
theorem dX5_init_207 : decode cX5_init 207 = .ok (.bipush 10, 2) := by decide +kernel
theorem dX5_init_209 : decode cX5_init 209 = .ok (.newarray .boolean, 2) := by decide +kernel
theorem dX5_init_211 : decode cX5_init 211 = .ok (.putfield 83, 3) := by decide +kernel
theorem dX5_init_214 : decode cX5_init 214 = .ok (.aload_n 0, 1) := by decide +kernel
theorem dX5_init_215 : decode cX5_init 215 = .ok (.bipush 10, 2) := by decide +kernel
theorem dX5_init_217 : decode cX5_init 217 = .ok (.newarray .boolean, 2) := by decide +kernel
theorem dX5_init_219 : decode cX5_init 219 = .ok (.putfield 87, 3) := by decide +kernel
theorem dX5_init_222 : decode cX5_init 222 = .ok (.aload_n 0, 1) := by decide +kernel
theorem dX5_init_223 : decode cX5_init 223 = .ok (.bipush 10, 2) := by decide +kernel
theorem dX5_init_225 : decode cX5_init 225 = .ok (.newarray .int, 2) := by decide +kernel
theorem dX5_init_227 : decode cX5_init 227 = .ok (.putfield 90, 3) := by decide +kernel
theorem dX5_init_230 : decode cX5_init 230 = .ok (.aload_n 0, 1) := by decide +kernel
theorem dX5_init_231 : decode cX5_init 231 = .ok (.bipush 10, 2) := by decide +kernel
theorem dX5_init_233 : decode cX5_init 233 = .ok (.newarray .int, 2) := by decide +kernel
theorem dX5_init_235 : decode cX5_init 235 = .ok (.putfield 93, 3) := by decide +kernel
theorem dX5_init_238 : decode cX5_init 238 = .ok (.aload_n 0, 1) := by decide +kernel
theorem dX5_init_239 : decode cX5_init 239 = .ok (.bipush 10, 2) := by decide +kernel
theorem dX5_init_241 : decode cX5_init 241 = .ok (.newarray .int, 2) := by decide +kernel
theorem dX5_init_243 : decode cX5_init 243 = .ok (.putfield 96, 3) := by decide +kernel
theorem dX5_init_246 : decode cX5_init 246 = .ok (.aload_n 0, 1) := by decide +kernel
theorem dX5_init_247 : decode cX5_init 247 = .ok (.bipush 10, 2) := by decide +kernel
theorem dX5_init_249 : decode cX5_init 249 = .ok (.newarray .int, 2) := by decide +kernel
theorem dX5_init_251 : decode cX5_init 251 = .ok (.putfield 99, 3) := by decide +kernel
theorem dX5_init_254 : decode cX5_init 254 = .ok (.aload_n 0, 1) := by decide +kernel
theorem dX5_init_255 : decode cX5_init 255 = .ok (.sipush 200, 3) := by decide +kernel
theorem dX5_init_258 : decode cX5_init 258 = .ok (.newarray .int, 2) := by decide +kernel
theorem dX5_init_260 : decode cX5_init 260 = .ok (.putfield 102, 3) := by decide +kernel
theorem dX5_init_263 : decode cX5_init 263 = .ok (.aload_n 0, 1) := by decide +kernel
theorem dX5_init_264 : decode cX5_init 264 = .ok (.sipush 200, 3) := by decide +kernel
theorem dX5_init_267 : decode cX5_init 267 = .ok (.newarray .int, 2) := by decide +kernel
theorem dX5_init_269 : decode cX5_init 269 = .ok (.putfield 105, 3) := by decide +kernel
theorem dX5_init_272 : decode cX5_init 272 = .ok (.aload_n 0, 1) := by decide +kernel
theorem dX5_init_273 : decode cX5_init 273 = .ok (.sipush 200, 3) := by decide +kernel
theorem dX5_init_276 : decode cX5_init 276 = .ok (.newarray .int, 2) := by decide +kernel
theorem dX5_init_278 : decode cX5_init 278 = .ok (.putfield 108, 3) := by decide +kernel
theorem dX5_init_281 : decode cX5_init 281 = .ok (.aload_n 0, 1) := by decide +kernel
theorem dX5_init_282 : decode cX5_init 282 = .ok (.sipush 200, 3) := by decide +kernel
theorem dX5_init_285 : decode cX5_init 285 = .ok (.newarray .int, 2) := by decide +kernel
theorem dX5_init_287 : decode cX5_init 287 = .ok (.putfield 111, 3) := by decide +kernel
theorem dX5_init_290 : decode cX5_init 290 = .ok (.aload_n 0, 1) := by decide +kernel
theorem dX5_init_291 : decode cX5_init 291 = .ok (.sipush 200, 3) := by decide +kernel
theorem dX5_init_294 : decode cX5_init 294 = .ok (.newarray .int, 2) := by decide +kernel
theorem dX5_init_296 : decode cX5_init 296 = .ok (.putfield 114, 3) := by decide +kernel
theorem dX5_init_299 : decode cX5_init 299 = .ok (.aload_n 0, 1) := by decide +kernel
theorem dX5_init_300 : decode cX5_init 300 = .ok (.sipush 200, 3) := by decide +kernel
theorem dX5_init_303 : decode cX5_init 303 = .ok (.newarray .int, 2) := by decide +kernel
theorem dX5_init_305 : decode cX5_init 305 = .ok (.putfield 117, 3) := by decide +kernel
theorem dX5_init_308 : decode cX5_init 308 = .ok (.return_, 1) := by decide +kernel
theorem q_0_1 : cr_ff RX0 0 1 (.array (cn_ty false)) := fun C T N h => by cases h; exact ⟨⟨_, tyX0_ok⟩, nmX0, rfl, rfl, by decide +kernel⟩
theorem q_0_2 : cr_ff RX0 0 2 (.array (cn_ty false)) := fun C T N h => by cases h; exact ⟨⟨_, tyX0_ok⟩, nmX0, rfl, rfl, by decide +kernel⟩
theorem q_0_3 : cr_ff RX0 0 3 (.array (cn_ty false)) := fun C T N h => by cases h; exact ⟨⟨_, tyX0_ok⟩, nmX0, rfl, rfl, by decide +kernel⟩
theorem q_0_4 : cr_ff RX0 0 4 (.array (cn_ty false)) := fun C T N h => by cases h; exact ⟨⟨_, tyX0_ok⟩, nmX0, rfl, rfl, by decide +kernel⟩
theorem q_0_5 : cr_ff RX0 0 5 (.array (cn_ty false)) := fun C T N h => by cases h; exact ⟨⟨_, tyX0_ok⟩, nmX0, rfl, rfl, by decide +kernel⟩
theorem q_0_6 : cr_ff RX0 0 6 (.array (cn_ty false)) := fun C T N h => by cases h; exact ⟨⟨_, tyX0_ok⟩, nmX0, rfl, rfl, by decide +kernel⟩
theorem q_0_7 : cr_ff RX0 0 7 (.array (cn_ty false)) := fun C T N h => by cases h; exact ⟨⟨_, tyX0_ok⟩, nmX0, rfl, rfl, by decide +kernel⟩
theorem q_0_8 : cr_ff RX0 0 8 (.array (cn_ty false)) := fun C T N h => by cases h; exact ⟨⟨_, tyX0_ok⟩, nmX0, rfl, rfl, by decide +kernel⟩
theorem q_0_9 : cr_ff RX0 0 9 (.array (cn_ty false)) := fun C T N h => by cases h; exact ⟨⟨_, tyX0_ok⟩, nmX0, rfl, rfl, by decide +kernel⟩
theorem q_0_10 : cr_ff RX0 0 10 (.array (cn_ty false)) := fun C T N h => by cases h; exact ⟨⟨_, tyX0_ok⟩, nmX0, rfl, rfl, by decide +kernel⟩
theorem q_0_11 : cr_ff RX0 0 11 (.array (cn_ty false)) := fun C T N h => by cases h; exact ⟨⟨_, tyX0_ok⟩, nmX0, rfl, rfl, by decide +kernel⟩
theorem q_0_12 : cr_ff RX0 0 12 (.array (cn_ty false)) := fun C T N h => by cases h; exact ⟨⟨_, tyX0_ok⟩, nmX0, rfl, rfl, by decide +kernel⟩
theorem q_1_0 : cr_ff RX1 1 0 (.object RX2) := fun C T N h => by cases h; exact ⟨⟨_, tyX1_ok⟩, nmX1, rfl, rfl, by decide +kernel⟩
theorem q_1_1 : cr_ff RX1 1 1 (.object RX0) := fun C T N h => by cases h; exact ⟨⟨_, tyX1_ok⟩, nmX1, rfl, rfl, by decide +kernel⟩
theorem q_1_2 : cr_ff RX1 1 2 (.array (cn_ty false)) := fun C T N h => by cases h; exact ⟨⟨_, tyX1_ok⟩, nmX1, rfl, rfl, by decide +kernel⟩
theorem q_1_3 : cr_ff RX1 1 3 (.array (cn_ty false)) := fun C T N h => by cases h; exact ⟨⟨_, tyX1_ok⟩, nmX1, rfl, rfl, by decide +kernel⟩
theorem q_2_1 : cr_ff RX2 2 1 (.array (cn_ty false)) := fun C T N h => by cases h; exact ⟨⟨_, tyX2_ok⟩, nmX2, rfl, rfl, by decide +kernel⟩
theorem q_2_2 : cr_ff RX2 2 2 (.array (cn_ty false)) := fun C T N h => by cases h; exact ⟨⟨_, tyX2_ok⟩, nmX2, rfl, rfl, by decide +kernel⟩
theorem q_2_3 : cr_ff RX2 2 3 (.array (cn_ty false)) := fun C T N h => by cases h; exact ⟨⟨_, tyX2_ok⟩, nmX2, rfl, rfl, by decide +kernel⟩
theorem q_2_4 : cr_ff RX2 2 4 (.array (cn_ty false)) := fun C T N h => by cases h; exact ⟨⟨_, tyX2_ok⟩, nmX2, rfl, rfl, by decide +kernel⟩
theorem q_2_5 : cr_ff RX2 2 5 (.array (cn_ty false)) := fun C T N h => by cases h; exact ⟨⟨_, tyX2_ok⟩, nmX2, rfl, rfl, by decide +kernel⟩
theorem q_2_6 : cr_ff RX2 2 6 (.array (cn_ty false)) := fun C T N h => by cases h; exact ⟨⟨_, tyX2_ok⟩, nmX2, rfl, rfl, by decide +kernel⟩
theorem q_2_7 : cr_ff RX2 2 7 (.array (cn_ty false)) := fun C T N h => by cases h; exact ⟨⟨_, tyX2_ok⟩, nmX2, rfl, rfl, by decide +kernel⟩
theorem q_2_8 : cr_ff RX2 2 8 (.array (cn_ty false)) := fun C T N h => by cases h; exact ⟨⟨_, tyX2_ok⟩, nmX2, rfl, rfl, by decide +kernel⟩
theorem q_3_0 : cr_ff RX3 3 0 (.array (cn_ty false)) := fun C T N h => by cases h; exact ⟨⟨_, tyX3_ok⟩, nmX3, rfl, rfl, by decide +kernel⟩
theorem q_3_1 : cr_ff RX3 3 1 (.array (cn_ty false)) := fun C T N h => by cases h; exact ⟨⟨_, tyX3_ok⟩, nmX3, rfl, rfl, by decide +kernel⟩
theorem q_4_0 : cr_ff RX4 4 0 (.object RX1) := fun C T N h => by cases h; exact ⟨⟨_, tyX4_ok⟩, nmX4, rfl, rfl, by decide +kernel⟩
theorem q_4_1 : cr_ff RX4 4 1 (.object RX1) := fun C T N h => by cases h; exact ⟨⟨_, tyX4_ok⟩, nmX4, rfl, rfl, by decide +kernel⟩
theorem q_4_2 : cr_ff RX4 4 2 (.object RX3) := fun C T N h => by cases h; exact ⟨⟨_, tyX4_ok⟩, nmX4, rfl, rfl, by decide +kernel⟩
theorem q_4_3 : cr_ff RX4 4 3 (.array (cn_ty false)) := fun C T N h => by cases h; exact ⟨⟨_, tyX4_ok⟩, nmX4, rfl, rfl, by decide +kernel⟩
theorem q_5_0 : cr_ff RX5 5 0 (.array (cn_ty false)) := fun C T N h => by cases h; exact ⟨⟨_, tyX5_ok⟩, nmX5, rfl, rfl, by decide +kernel⟩
theorem q_5_1 : cr_ff RX5 5 1 (.array (cn_ty false)) := fun C T N h => by cases h; exact ⟨⟨_, tyX5_ok⟩, nmX5, rfl, rfl, by decide +kernel⟩
theorem q_5_2 : cr_ff RX5 5 2 (.array (cn_ty false)) := fun C T N h => by cases h; exact ⟨⟨_, tyX5_ok⟩, nmX5, rfl, rfl, by decide +kernel⟩
theorem q_5_8 : cr_ff RX5 5 8 (.array (cn_ty false)) := fun C T N h => by cases h; exact ⟨⟨_, tyX5_ok⟩, nmX5, rfl, rfl, by decide +kernel⟩
theorem q_5_9 : cr_ff RX5 5 9 (.array (cn_ty false)) := fun C T N h => by cases h; exact ⟨⟨_, tyX5_ok⟩, nmX5, rfl, rfl, by decide +kernel⟩
theorem q_5_10 : cr_ff RX5 5 10 (.array (cn_ty false)) := fun C T N h => by cases h; exact ⟨⟨_, tyX5_ok⟩, nmX5, rfl, rfl, by decide +kernel⟩
theorem q_5_11 : cr_ff RX5 5 11 (.array (cn_ty false)) := fun C T N h => by cases h; exact ⟨⟨_, tyX5_ok⟩, nmX5, rfl, rfl, by decide +kernel⟩
theorem q_5_12 : cr_ff RX5 5 12 (.array (cn_ty false)) := fun C T N h => by cases h; exact ⟨⟨_, tyX5_ok⟩, nmX5, rfl, rfl, by decide +kernel⟩
theorem q_5_13 : cr_ff RX5 5 13 (.array (cn_ty false)) := fun C T N h => by cases h; exact ⟨⟨_, tyX5_ok⟩, nmX5, rfl, rfl, by decide +kernel⟩
theorem q_5_14 : cr_ff RX5 5 14 (.array (cn_ty false)) := fun C T N h => by cases h; exact ⟨⟨_, tyX5_ok⟩, nmX5, rfl, rfl, by decide +kernel⟩
theorem q_5_15 : cr_ff RX5 5 15 (.array (cn_ty false)) := fun C T N h => by cases h; exact ⟨⟨_, tyX5_ok⟩, nmX5, rfl, rfl, by decide +kernel⟩
theorem q_5_16 : cr_ff RX5 5 16 (.array (cn_ty false)) := fun C T N h => by cases h; exact ⟨⟨_, tyX5_ok⟩, nmX5, rfl, rfl, by decide +kernel⟩
theorem q_5_17 : cr_ff RX5 5 17 (.array (cn_ty false)) := fun C T N h => by cases h; exact ⟨⟨_, tyX5_ok⟩, nmX5, rfl, rfl, by decide +kernel⟩
theorem q_5_18 : cr_ff RX5 5 18 (.array (cn_ty false)) := fun C T N h => by cases h; exact ⟨⟨_, tyX5_ok⟩, nmX5, rfl, rfl, by decide +kernel⟩
theorem q_5_19 : cr_ff RX5 5 19 (.array (cn_ty false)) := fun C T N h => by cases h; exact ⟨⟨_, tyX5_ok⟩, nmX5, rfl, rfl, by decide +kernel⟩
theorem q_5_20 : cr_ff RX5 5 20 (.array (cn_ty false)) := fun C T N h => by cases h; exact ⟨⟨_, tyX5_ok⟩, nmX5, rfl, rfl, by decide +kernel⟩
theorem q_5_21 : cr_ff RX5 5 21 (.array (cn_ty false)) := fun C T N h => by cases h; exact ⟨⟨_, tyX5_ok⟩, nmX5, rfl, rfl, by decide +kernel⟩
theorem q_5_22 : cr_ff RX5 5 22 (.array (cn_ty false)) := fun C T N h => by cases h; exact ⟨⟨_, tyX5_ok⟩, nmX5, rfl, rfl, by decide +kernel⟩
theorem q_5_23 : cr_ff RX5 5 23 (.array (cn_ty false)) := fun C T N h => by cases h; exact ⟨⟨_, tyX5_ok⟩, nmX5, rfl, rfl, by decide +kernel⟩
theorem q_5_24 : cr_ff RX5 5 24 (.array (cn_ty false)) := fun C T N h => by cases h; exact ⟨⟨_, tyX5_ok⟩, nmX5, rfl, rfl, by decide +kernel⟩
theorem q_5_25 : cr_ff RX5 5 25 (.array (cn_ty false)) := fun C T N h => by cases h; exact ⟨⟨_, tyX5_ok⟩, nmX5, rfl, rfl, by decide +kernel⟩
theorem q_5_26 : cr_ff RX5 5 26 (.array (cn_ty false)) := fun C T N h => by cases h; exact ⟨⟨_, tyX5_ok⟩, nmX5, rfl, rfl, by decide +kernel⟩
theorem q_5_27 : cr_ff RX5 5 27 (.array (cn_ty false)) := fun C T N h => by cases h; exact ⟨⟨_, tyX5_ok⟩, nmX5, rfl, rfl, by decide +kernel⟩
theorem q_5_28 : cr_ff RX5 5 28 (.array (cn_ty true)) := fun C T N h => by cases h; exact ⟨⟨_, tyX5_ok⟩, nmX5, rfl, rfl, by decide +kernel⟩
theorem q_5_29 : cr_ff RX5 5 29 (.array (cn_ty true)) := fun C T N h => by cases h; exact ⟨⟨_, tyX5_ok⟩, nmX5, rfl, rfl, by decide +kernel⟩
theorem q_5_31 : cr_ff RX5 5 31 (.array (cn_ty false)) := fun C T N h => by cases h; exact ⟨⟨_, tyX5_ok⟩, nmX5, rfl, rfl, by decide +kernel⟩
theorem q_5_32 : cr_ff RX5 5 32 (.array (cn_ty false)) := fun C T N h => by cases h; exact ⟨⟨_, tyX5_ok⟩, nmX5, rfl, rfl, by decide +kernel⟩
theorem q_5_33 : cr_ff RX5 5 33 (.array (cn_ty false)) := fun C T N h => by cases h; exact ⟨⟨_, tyX5_ok⟩, nmX5, rfl, rfl, by decide +kernel⟩
theorem q_5_34 : cr_ff RX5 5 34 (.array (cn_ty false)) := fun C T N h => by cases h; exact ⟨⟨_, tyX5_ok⟩, nmX5, rfl, rfl, by decide +kernel⟩
theorem q_5_35 : cr_ff RX5 5 35 (.array (cn_ty false)) := fun C T N h => by cases h; exact ⟨⟨_, tyX5_ok⟩, nmX5, rfl, rfl, by decide +kernel⟩
theorem q_5_36 : cr_ff RX5 5 36 (.array (cn_ty false)) := fun C T N h => by cases h; exact ⟨⟨_, tyX5_ok⟩, nmX5, rfl, rfl, by decide +kernel⟩
theorem q_5_37 : cr_ff RX5 5 37 (.array (cn_ty false)) := fun C T N h => by cases h; exact ⟨⟨_, tyX5_ok⟩, nmX5, rfl, rfl, by decide +kernel⟩
theorem q_5_38 : cr_ff RX5 5 38 (.array (cn_ty false)) := fun C T N h => by cases h; exact ⟨⟨_, tyX5_ok⟩, nmX5, rfl, rfl, by decide +kernel⟩
theorem q_5_39 : cr_ff RX5 5 39 (.array (cn_ty false)) := fun C T N h => by cases h; exact ⟨⟨_, tyX5_ok⟩, nmX5, rfl, rfl, by decide +kernel⟩
theorem q_5_40 : cr_ff RX5 5 40 (.array (cn_ty false)) := fun C T N h => by cases h; exact ⟨⟨_, tyX5_ok⟩, nmX5, rfl, rfl, by decide +kernel⟩
def m0 : cr_M := fun _ _ => 0
def mF : cr_M := fun k => if k = 0 then (fun i => if i = 6 then 20 else 0) else fun _ => 0
def mX : cr_M := fun k => if k = 1 then (fun i => if i = 6 then 20 else 0) else if k = 26 then (fun i => if i = 6 then 20 else 0) else fun _ => 0
def mM : cr_M := fun k => if k = 0 then (fun i => if i = 7 then 20 else 0) else fun _ => 0

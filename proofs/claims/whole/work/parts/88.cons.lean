/-! ===== constructors ===== -/
theorem dX8_init_0 : decode cX8_init 0 = .ok (.aload_n 0, 1) := by decide +kernel
theorem dX8_init_1 : decode cX8_init 1 = .ok (.invokespecial 3, 3) := by decide +kernel
theorem dX8_init_4 : decode cX8_init 4 = .ok (.aload_n 0, 1) := by decide +kernel
theorem dX8_init_5 : decode cX8_init 5 = .ok (.sipush 240, 3) := by decide +kernel
theorem dX8_init_8 : decode cX8_init 8 = .ok (.newarray .int, 2) := by decide +kernel
theorem dX8_init_10 : decode cX8_init 10 = .ok (.putfield 9, 3) := by decide +kernel
theorem dX8_init_13 : decode cX8_init 13 = .ok (.return_, 1) := by decide +kernel
theorem dX7_init_0 : decode cX7_init 0 = .ok (.aload_n 0, 1) := by decide +kernel
theorem dX7_init_1 : decode cX7_init 1 = .ok (.invokespecial 3, 3) := by decide +kernel
theorem dX7_init_4 : decode cX7_init 4 = .ok (.aload_n 0, 1) := by decide +kernel
theorem dX7_init_5 : decode cX7_init 5 = .ok (.bipush 36, 2) := by decide +kernel
theorem dX7_init_7 : decode cX7_init 7 = .ok (.newarray .int, 2) := by decide +kernel
theorem dX7_init_9 : decode cX7_init 9 = .ok (.putfield 9, 3) := by decide +kernel
theorem dX7_init_12 : decode cX7_init 12 = .ok (.return_, 1) := by decide +kernel
theorem dX2_init_0 : decode cX2_init 0 = .ok (.aload_n 0, 1) := by decide +kernel
theorem dX2_init_1 : decode cX2_init 1 = .ok (.invokespecial 3, 3) := by decide +kernel
theorem dX2_init_4 : decode cX2_init 4 = .ok (.aload_n 0, 1) := by decide +kernel
theorem dX2_init_5 : decode cX2_init 5 = .ok (.bipush 40, 2) := by decide +kernel
theorem dX2_init_7 : decode cX2_init 7 = .ok (.anewarray 9, 3) := by decide +kernel
theorem dX2_init_10 : decode cX2_init 10 = .ok (.putfield 11, 3) := by decide +kernel
theorem dX2_init_13 : decode cX2_init 13 = .ok (.iconst 0, 1) := by decide +kernel
theorem dX2_init_14 : decode cX2_init 14 = .ok (.istore_n 1, 1) := by decide +kernel
theorem dX2_init_15 : decode cX2_init 15 = .ok (.iload_n 1, 1) := by decide +kernel
theorem dX2_init_16 : decode cX2_init 16 = .ok (.bipush 40, 2) := by decide +kernel
theorem dX2_init_18 : decode cX2_init 18 = .ok (.if_icmp .ge 22, 3) := by decide +kernel
theorem dX2_init_21 : decode cX2_init 21 = .ok (.aload_n 0, 1) := by decide +kernel
theorem dX2_init_22 : decode cX2_init 22 = .ok (.getfield 11, 3) := by decide +kernel
theorem dX2_init_25 : decode cX2_init 25 = .ok (.iload_n 1, 1) := by decide +kernel
theorem dX2_init_26 : decode cX2_init 26 = .ok (.new 9, 3) := by decide +kernel
theorem dX2_init_29 : decode cX2_init 29 = .ok (.dup, 1) := by decide +kernel
theorem dX2_init_30 : decode cX2_init 30 = .ok (.invokespecial 17, 3) := by decide +kernel
theorem dX2_init_33 : decode cX2_init 33 = .ok (.aastore, 1) := by decide +kernel
theorem dX2_init_34 : decode cX2_init 34 = .ok (.iinc 1 1, 3) := by decide +kernel
theorem dX2_init_37 : decode cX2_init 37 = .ok (.goto (-22), 3) := by decide +kernel
theorem dX2_init_40 : decode cX2_init 40 = .ok (.return_, 1) := by decide +kernel
theorem dX1_init_0 : decode cX1_init 0 = .ok (.aload_n 0, 1) := by decide +kernel
theorem dX1_init_1 : decode cX1_init 1 = .ok (.invokespecial 3, 3) := by decide +kernel
theorem dX1_init_4 : decode cX1_init 4 = .ok (.aload_n 0, 1) := by decide +kernel
theorem dX1_init_5 : decode cX1_init 5 = .ok (.sipush 4096, 3) := by decide +kernel
theorem dX1_init_8 : decode cX1_init 8 = .ok (.newarray .int, 2) := by decide +kernel
theorem dX1_init_10 : decode cX1_init 10 = .ok (.putfield 9, 3) := by decide +kernel
theorem dX1_init_13 : decode cX1_init 13 = .ok (.return_, 1) := by decide +kernel
theorem dX9_init_0 : decode cX9_init 0 = .ok (.aload_n 0, 1) := by decide +kernel
theorem dX9_init_1 : decode cX9_init 1 = .ok (.invokespecial 3, 3) := by decide +kernel
theorem dX9_init_4 : decode cX9_init 4 = .ok (.aload_n 0, 1) := by decide +kernel
theorem dX9_init_5 : decode cX9_init 5 = .ok (.new 9, 3) := by decide +kernel
theorem dX9_init_8 : decode cX9_init 8 = .ok (.dup, 1) := by decide +kernel
theorem dX9_init_9 : decode cX9_init 9 = .ok (.invokespecial 11, 3) := by decide +kernel
theorem dX9_init_12 : decode cX9_init 12 = .ok (.putfield 12, 3) := by decide +kernel
theorem dX9_init_15 : decode cX9_init 15 = .ok (.aload_n 0, 1) := by decide +kernel
theorem dX9_init_16 : decode cX9_init 16 = .ok (.bipush 6, 2) := by decide +kernel
theorem dX9_init_18 : decode cX9_init 18 = .ok (.newarray .int, 2) := by decide +kernel
theorem dX9_init_20 : decode cX9_init 20 = .ok (.putfield 18, 3) := by decide +kernel
theorem dX9_init_23 : decode cX9_init 23 = .ok (.aload_n 0, 1) := by decide +kernel
theorem dX9_init_24 : decode cX9_init 24 = .ok (.bipush 6, 2) := by decide +kernel
theorem dX9_init_26 : decode cX9_init 26 = .ok (.newarray .int, 2) := by decide +kernel
theorem dX9_init_28 : decode cX9_init 28 = .ok (.putfield 22, 3) := by decide +kernel
theorem dX9_init_31 : decode cX9_init 31 = .ok (.return_, 1) := by decide +kernel
theorem dX6_init_0 : decode cX6_init 0 = .ok (.aload_n 0, 1) := by decide +kernel
theorem dX6_init_1 : decode cX6_init 1 = .ok (.invokespecial 3, 3) := by decide +kernel
theorem dX6_init_4 : decode cX6_init 4 = .ok (.aload_n 0, 1) := by decide +kernel
theorem dX6_init_5 : decode cX6_init 5 = .ok (.new 9, 3) := by decide +kernel
theorem dX6_init_8 : decode cX6_init 8 = .ok (.dup, 1) := by decide +kernel
theorem dX6_init_9 : decode cX6_init 9 = .ok (.invokespecial 11, 3) := by decide +kernel
theorem dX6_init_12 : decode cX6_init 12 = .ok (.putfield 12, 3) := by decide +kernel
theorem dX6_init_15 : decode cX6_init 15 = .ok (.aload_n 0, 1) := by decide +kernel
theorem dX6_init_16 : decode cX6_init 16 = .ok (.bipush 6, 2) := by decide +kernel
theorem dX6_init_18 : decode cX6_init 18 = .ok (.newarray .int, 2) := by decide +kernel
theorem dX6_init_20 : decode cX6_init 20 = .ok (.putfield 18, 3) := by decide +kernel
theorem dX6_init_23 : decode cX6_init 23 = .ok (.aload_n 0, 1) := by decide +kernel
theorem dX6_init_24 : decode cX6_init 24 = .ok (.bipush 6, 2) := by decide +kernel
theorem dX6_init_26 : decode cX6_init 26 = .ok (.newarray .int, 2) := by decide +kernel
theorem dX6_init_28 : decode cX6_init 28 = .ok (.putfield 22, 3) := by decide +kernel
theorem dX6_init_31 : decode cX6_init 31 = .ok (.aload_n 0, 1) := by decide +kernel
theorem dX6_init_32 : decode cX6_init 32 = .ok (.bipush 6, 2) := by decide +kernel
theorem dX6_init_34 : decode cX6_init 34 = .ok (.newarray .int, 2) := by decide +kernel
theorem dX6_init_36 : decode cX6_init 36 = .ok (.putfield 25, 3) := by decide +kernel
theorem dX6_init_39 : decode cX6_init 39 = .ok (.aload_n 0, 1) := by decide +kernel
theorem dX6_init_40 : decode cX6_init 40 = .ok (.bipush 6, 2) := by decide +kernel
theorem dX6_init_42 : decode cX6_init 42 = .ok (.newarray .int, 2) := by decide +kernel
theorem dX6_init_44 : decode cX6_init 44 = .ok (.putfield 28, 3) := by decide +kernel
theorem dX6_init_47 : decode cX6_init 47 = .ok (.return_, 1) := by decide +kernel
theorem dX5_init_0 : decode cX5_init 0 = .ok (.aload_n 0, 1) := by decide +kernel
theorem dX5_init_1 : decode cX5_init 1 = .ok (.invokespecial 3, 3) := by decide +kernel
theorem dX5_init_4 : decode cX5_init 4 = .ok (.aload_n 0, 1) := by decide +kernel
theorem dX5_init_5 : decode cX5_init 5 = .ok (.bipush 6, 2) := by decide +kernel
theorem dX5_init_7 : decode cX5_init 7 = .ok (.newarray .int, 2) := by decide +kernel
theorem dX5_init_9 : decode cX5_init 9 = .ok (.putfield 9, 3) := by decide +kernel
theorem dX5_init_12 : decode cX5_init 12 = .ok (.aload_n 0, 1) := by decide +kernel
theorem dX5_init_13 : decode cX5_init 13 = .ok (.bipush 6, 2) := by decide +kernel
theorem dX5_init_15 : decode cX5_init 15 = .ok (.newarray .int, 2) := by decide +kernel
theorem dX5_init_17 : decode cX5_init 17 = .ok (.putfield 15, 3) := by decide +kernel
theorem dX5_init_20 : decode cX5_init 20 = .ok (.aload_n 0, 1) := by decide +kernel
theorem dX5_init_21 : decode cX5_init 21 = .ok (.bipush 12, 2) := by decide +kernel
theorem dX5_init_23 : decode cX5_init 23 = .ok (.newarray .int, 2) := by decide +kernel
theorem dX5_init_25 : decode cX5_init 25 = .ok (.putfield 18, 3) := by decide +kernel
theorem dX5_init_28 : decode cX5_init 28 = .ok (.aload_n 0, 1) := by decide +kernel
theorem dX5_init_29 : decode cX5_init 29 = .ok (.bipush 12, 2) := by decide +kernel
theorem dX5_init_31 : decode cX5_init 31 = .ok (.newarray .int, 2) := by decide +kernel
theorem dX5_init_33 : decode cX5_init 33 = .ok (.putfield 21, 3) := by decide +kernel
theorem dX5_init_36 : decode cX5_init 36 = .ok (.return_, 1) := by decide +kernel
theorem dX3_init_0 : decode cX3_init 0 = .ok (.aload_n 0, 1) := by decide +kernel
theorem dX3_init_1 : decode cX3_init 1 = .ok (.invokespecial 3, 3) := by decide +kernel
theorem dX3_init_4 : decode cX3_init 4 = .ok (.aload_n 0, 1) := by decide +kernel
theorem dX3_init_5 : decode cX3_init 5 = .ok (.new 9, 3) := by decide +kernel
theorem dX3_init_8 : decode cX3_init 8 = .ok (.dup, 1) := by decide +kernel
theorem dX3_init_9 : decode cX3_init 9 = .ok (.invokespecial 11, 3) := by decide +kernel
theorem dX3_init_12 : decode cX3_init 12 = .ok (.putfield 12, 3) := by decide +kernel
theorem dX3_init_15 : decode cX3_init 15 = .ok (.aload_n 0, 1) := by decide +kernel
theorem dX3_init_16 : decode cX3_init 16 = .ok (.new 9, 3) := by decide +kernel
theorem dX3_init_19 : decode cX3_init 19 = .ok (.dup, 1) := by decide +kernel
theorem dX3_init_20 : decode cX3_init 20 = .ok (.invokespecial 11, 3) := by decide +kernel
theorem dX3_init_23 : decode cX3_init 23 = .ok (.putfield 18, 3) := by decide +kernel
theorem dX3_init_26 : decode cX3_init 26 = .ok (.aload_n 0, 1) := by decide +kernel
theorem dX3_init_27 : decode cX3_init 27 = .ok (.iconst 5, 1) := by decide +kernel
theorem dX3_init_28 : decode cX3_init 28 = .ok (.newarray .int, 2) := by decide +kernel
theorem dX3_init_30 : decode cX3_init 30 = .ok (.putfield 21, 3) := by decide +kernel
theorem dX3_init_33 : decode cX3_init 33 = .ok (.return_, 1) := by decide +kernel
theorem dX0_init_0 : decode cX0_init 0 = .ok (.aload_n 0, 1) := by decide +kernel
theorem dX0_init_1 : decode cX0_init 1 = .ok (.invokespecial 1, 3) := by decide +kernel
theorem dX0_init_4 : decode cX0_init 4 = .ok (.return_, 1) := by decide +kernel
theorem dX4_init_0 : decode cX4_init 0 = .ok (.aload_n 0, 1) := by decide +kernel
theorem dX4_init_1 : decode cX4_init 1 = .ok (.invokespecial 3, 3) := by decide +kernel
theorem dX4_init_4 : decode cX4_init 4 = .ok (.aload_n 0, 1) := by decide +kernel
theorem dX4_init_5 : decode cX4_init 5 = .ok (.bipush 12, 2) := by decide +kernel
theorem dX4_init_7 : decode cX4_init 7 = .ok (.newarray .int, 2) := by decide +kernel
theorem dX4_init_9 : decode cX4_init 9 = .ok (.putfield 9, 3) := by decide +kernel
theorem dX4_init_12 : decode cX4_init 12 = .ok (.aload_n 0, 1) := by decide +kernel
theorem dX4_init_13 : decode cX4_init 13 = .ok (.bipush 12, 2) := by decide +kernel
theorem dX4_init_15 : decode cX4_init 15 = .ok (.newarray .int, 2) := by decide +kernel
theorem dX4_init_17 : decode cX4_init 17 = .ok (.putfield 15, 3) := by decide +kernel
theorem dX4_init_20 : decode cX4_init 20 = .ok (.aload_n 0, 1) := by decide +kernel
theorem dX4_init_21 : decode cX4_init 21 = .ok (.bipush 12, 2) := by decide +kernel
theorem dX4_init_23 : decode cX4_init 23 = .ok (.newarray .int, 2) := by decide +kernel
theorem dX4_init_25 : decode cX4_init 25 = .ok (.putfield 18, 3) := by decide +kernel
theorem dX4_init_28 : decode cX4_init 28 = .ok (.aload_n 0, 1) := by decide +kernel
theorem dX4_init_29 : decode cX4_init 29 = .ok (.bipush 12, 2) := by decide +kernel
theorem dX4_init_31 : decode cX4_init 31 = .ok (.newarray .int, 2) := by decide +kernel
theorem dX4_init_33 : decode cX4_init 33 = .ok (.putfield 21, 3) := by decide +kernel
theorem dX4_init_36 : decode cX4_init 36 = .ok (.return_, 1) := by decide +kernel
theorem dX10_init_0 : decode cX10_init 0 = .ok (.aload_n 0, 1) := by decide +kernel
theorem dX10_init_1 : decode cX10_init 1 = .ok (.invokespecial 3, 3) := by decide +kernel
theorem dX10_init_4 : decode cX10_init 4 = .ok (.aload_n 0, 1) := by decide +kernel
theorem dX10_init_5 : decode cX10_init 5 = .ok (.new 9, 3) := by decide +kernel
theorem dX10_init_8 : decode cX10_init 8 = .ok (.dup, 1) := by decide +kernel
theorem dX10_init_9 : decode cX10_init 9 = .ok (.invokespecial 11, 3) := by decide +kernel
theorem dX10_init_12 : decode cX10_init 12 = .ok (.putfield 12, 3) := by decide +kernel
theorem dX10_init_15 : decode cX10_init 15 = .ok (.aload_n 0, 1) := by decide +kernel
theorem dX10_init_16 : decode cX10_init 16 = .ok (.new 16, 3) := by decide +kernel
theorem dX10_init_19 : decode cX10_init 19 = .ok (.dup, 1) := by decide +kernel
theorem dX10_init_20 : decode cX10_init 20 = .ok (.invokespecial 18, 3) := by decide +kernel
theorem dX10_init_23 : decode cX10_init 23 = .ok (.putfield 19, 3) := by decide +kernel
theorem dX10_init_26 : decode cX10_init 26 = .ok (.aload_n 0, 1) := by decide +kernel
theorem dX10_init_27 : decode cX10_init 27 = .ok (.new 16, 3) := by decide +kernel
theorem dX10_init_30 : decode cX10_init 30 = .ok (.dup, 1) := by decide +kernel
theorem dX10_init_31 : decode cX10_init 31 = .ok (.invokespecial 18, 3) := by decide +kernel
theorem dX10_init_34 : decode cX10_init 34 = .ok (.putfield 23, 3) := by decide +kernel
theorem dX10_init_37 : decode cX10_init 37 = .ok (.aload_n 0, 1) := by decide +kernel
theorem dX10_init_38 : decode cX10_init 38 = .ok (.new 16, 3) := by decide +kernel
theorem dX10_init_41 : decode cX10_init 41 = .ok (.dup, 1) := by decide +kernel
theorem dX10_init_42 : decode cX10_init 42 = .ok (.invokespecial 18, 3) := by decide +kernel
theorem dX10_init_45 : decode cX10_init 45 = .ok (.putfield 26, 3) := by decide +kernel
theorem dX10_init_48 : decode cX10_init 48 = .ok (.aload_n 0, 1) := by decide +kernel
theorem dX10_init_49 : decode cX10_init 49 = .ok (.new 29, 3) := by decide +kernel
theorem dX10_init_52 : decode cX10_init 52 = .ok (.dup, 1) := by decide +kernel
theorem dX10_init_53 : decode cX10_init 53 = .ok (.invokespecial 31, 3) := by decide +kernel
theorem dX10_init_56 : decode cX10_init 56 = .ok (.putfield 32, 3) := by decide +kernel
theorem dX10_init_59 : decode cX10_init 59 = .ok (.aload_n 0, 1) := by decide +kernel
theorem dX10_init_60 : decode cX10_init 60 = .ok (.iconst 4, 1) := by decide +kernel
theorem dX10_init_61 : decode cX10_init 61 = .ok (.anewarray 16, 3) := by decide +kernel
theorem dX10_init_64 : decode cX10_init 64 = .ok (.putfield 36, 3) := by decide +kernel
theorem dX10_init_67 : decode cX10_init 67 = .ok (.aload_n 0, 1) := by decide +kernel
theorem dX10_init_68 : decode cX10_init 68 = .ok (.iconst 5, 1) := by decide +kernel
theorem dX10_init_69 : decode cX10_init 69 = .ok (.anewarray 40, 3) := by decide +kernel
theorem dX10_init_72 : decode cX10_init 72 = .ok (.putfield 42, 3) := by decide +kernel
theorem dX10_init_75 : decode cX10_init 75 = .ok (.aload_n 0, 1) := by decide +kernel
theorem dX10_init_76 : decode cX10_init 76 = .ok (.new 16, 3) := by decide +kernel
theorem dX10_init_79 : decode cX10_init 79 = .ok (.dup, 1) := by decide +kernel
theorem dX10_init_80 : decode cX10_init 80 = .ok (.invokespecial 18, 3) := by decide +kernel
theorem dX10_init_83 : decode cX10_init 83 = .ok (.putfield 46, 3) := by decide +kernel
theorem dX10_init_86 : decode cX10_init 86 = .ok (.aload_n 0, 1) := by decide +kernel
theorem dX10_init_87 : decode cX10_init 87 = .ok (.iconst 4, 1) := by decide +kernel
theorem dX10_init_88 : decode cX10_init 88 = .ok (.newarray .int, 2) := by decide +kernel
theorem dX10_init_90 : decode cX10_init 90 = .ok (.putfield 49, 3) := by decide +kernel
theorem dX10_init_93 : decode cX10_init 93 = .ok (.aload_n 0, 1) := by decide +kernel
theorem dX10_init_94 : decode cX10_init 94 = .ok (.new 53, 3) := by decide +kernel
theorem dX10_init_97 : decode cX10_init 97 = .ok (.dup, 1) := by decide +kernel
theorem dX10_init_98 : decode cX10_init 98 = .ok (.invokespecial 55, 3) := by decide +kernel
theorem dX10_init_101 : decode cX10_init 101 = .ok (.putfield 56, 3) := by decide +kernel
theorem dX10_init_104 : decode cX10_init 104 = .ok (.aload_n 0, 1) := by decide +kernel
theorem dX10_init_105 : decode cX10_init 105 = .ok (.new 60, 3) := by decide +kernel
theorem dX10_init_108 : decode cX10_init 108 = .ok (.dup, 1) := by decide +kernel
theorem dX10_init_109 : decode cX10_init 109 = .ok (.invokespecial 62, 3) := by decide +kernel
theorem dX10_init_112 : decode cX10_init 112 = .ok (.putfield 63, 3) := by decide +kernel
theorem dX10_init_115 : decode cX10_init 115 = .ok (.aload_n 0, 1) := by decide +kernel
theorem dX10_init_116 : decode cX10_init 116 = .ok (.new 60, 3) := by decide +kernel
theorem dX10_init_119 : decode cX10_init 119 = .ok (.dup, 1) := by decide +kernel
theorem dX10_init_120 : decode cX10_init 120 = .ok (.invokespecial 62, 3) := by decide +kernel
theorem dX10_init_123 : decode cX10_init 123 = .ok (.putfield 67, 3) := by decide +kernel
theorem dX10_init_126 : decode cX10_init 126 = .ok (.aload_n 0, 1) := by decide +kernel
theorem dX10_init_127 : decode cX10_init 127 = .ok (.new 70, 3) := by decide +kernel
theorem dX10_init_130 : decode cX10_init 130 = .ok (.dup, 1) := by decide +kernel
theorem dX10_init_131 : decode cX10_init 131 = .ok (.invokespecial 72, 3) := by decide +kernel
theorem dX10_init_134 : decode cX10_init 134 = .ok (.putfield 73, 3) := by decide +kernel
theorem dX10_init_137 : decode cX10_init 137 = .ok (.aload_n 0, 1) := by decide +kernel
theorem dX10_init_138 : decode cX10_init 138 = .ok (.new 77, 3) := by decide +kernel
theorem dX10_init_141 : decode cX10_init 141 = .ok (.dup, 1) := by decide +kernel
theorem dX10_init_142 : decode cX10_init 142 = .ok (.invokespecial 79, 3) := by decide +kernel
theorem dX10_init_145 : decode cX10_init 145 = .ok (.putfield 80, 3) := by decide +kernel
theorem dX10_init_148 : decode cX10_init 148 = .ok (.aload_n 0, 1) := by decide +kernel
theorem dX10_init_149 : decode cX10_init 149 = .ok (.new 84, 3) := by decide +kernel
theorem dX10_init_152 : decode cX10_init 152 = .ok (.dup, 1) := by decide +kernel
theorem dX10_init_153 : decode cX10_init 153 = .ok (.invokespecial 86, 3) := by decide +kernel
theorem dX10_init_156 : decode cX10_init 156 = .ok (.putfield 87, 3) := by decide +kernel
theorem dX10_init_159 : decode cX10_init 159 = .ok (.aload_n 0, 1) := by decide +kernel
theorem dX10_init_160 : decode cX10_init 160 = .ok (.new 91, 3) := by decide +kernel
theorem dX10_init_163 : decode cX10_init 163 = .ok (.dup, 1) := by decide +kernel
theorem dX10_init_164 : decode cX10_init 164 = .ok (.invokespecial 93, 3) := by decide +kernel
theorem dX10_init_167 : decode cX10_init 167 = .ok (.putfield 94, 3) := by decide +kernel
theorem dX10_init_170 : decode cX10_init 170 = .ok (.iconst 0, 1) := by decide +kernel
theorem dX10_init_171 : decode cX10_init 171 = .ok (.istore_n 1, 1) := by decide +kernel
theorem dX10_init_172 : decode cX10_init 172 = .ok (.iload_n 1, 1) := by decide +kernel
theorem dX10_init_173 : decode cX10_init 173 = .ok (.iconst 4, 1) := by decide +kernel
theorem dX10_init_174 : decode cX10_init 174 = .ok (.if_icmp .ge 22, 3) := by decide +kernel
theorem dX10_init_177 : decode cX10_init 177 = .ok (.aload_n 0, 1) := by decide +kernel
theorem dX10_init_178 : decode cX10_init 178 = .ok (.getfield 36, 3) := by decide +kernel
theorem dX10_init_181 : decode cX10_init 181 = .ok (.iload_n 1, 1) := by decide +kernel
theorem dX10_init_182 : decode cX10_init 182 = .ok (.new 16, 3) := by decide +kernel
theorem dX10_init_185 : decode cX10_init 185 = .ok (.dup, 1) := by decide +kernel
theorem dX10_init_186 : decode cX10_init 186 = .ok (.invokespecial 18, 3) := by decide +kernel
theorem dX10_init_189 : decode cX10_init 189 = .ok (.aastore, 1) := by decide +kernel
theorem dX10_init_190 : decode cX10_init 190 = .ok (.iinc 1 1, 3) := by decide +kernel
theorem dX10_init_193 : decode cX10_init 193 = .ok (.goto (-21), 3) := by decide +kernel
theorem dX10_init_196 : decode cX10_init 196 = .ok (.iconst 0, 1) := by decide +kernel
theorem dX10_init_197 : decode cX10_init 197 = .ok (.istore_n 1, 1) := by decide +kernel
theorem dX10_init_198 : decode cX10_init 198 = .ok (.iload_n 1, 1) := by decide +kernel
theorem dX10_init_199 : decode cX10_init 199 = .ok (.iconst 4, 1) := by decide +kernel
theorem dX10_init_200 : decode cX10_init 200 = .ok (.if_icmp .gt 22, 3) := by decide +kernel
theorem dX10_init_203 : decode cX10_init 203 = .ok (.aload_n 0, 1) := by decide +kernel
theorem dX10_init_204 : decode cX10_init 204 = .ok (.getfield 42, 3) := by decide +kernel
theorem dX10_init_207 : decode cX10_init 207 = .ok (.iload_n 1, 1) := by decide +kernel
theorem dX10_init_208 : decode cX10_init 208 = .ok (.new 40, 3) := by decide +kernel
theorem dX10_init_211 : decode cX10_init 211 = .ok (.dup, 1) := by decide +kernel
theorem dX10_init_212 : decode cX10_init 212 = .ok (.invokespecial 98, 3) := by decide +kernel
theorem dX10_init_215 : decode cX10_init 215 = .ok (.aastore, 1) := by decide +kernel
theorem dX10_init_216 : decode cX10_init 216 = .ok (.iinc 1 1, 3) := by decide +kernel
theorem dX10_init_219 : decode cX10_init 219 = .ok (.goto (-21), 3) := by decide +kernel
theorem dX10_init_222 : decode cX10_init 222 = .ok (.return_, 1) := by decide +kernel
theorem dX11_init_0 : decode cX11_init 0 = .ok (.aload_n 0, 1) := by decide +kernel
theorem dX11_init_1 : decode cX11_init 1 = .ok (.invokespecial 3, 3) := by decide +kernel
theorem dX11_init_4 : decode cX11_init 4 = .ok (.aload_n 0, 1) := by decide +kernel
theorem dX11_init_5 : decode cX11_init 5 = .ok (.sipush 240, 3) := by decide +kernel
theorem dX11_init_8 : decode cX11_init 8 = .ok (.newarray .byte, 2) := by decide +kernel
theorem dX11_init_10 : decode cX11_init 10 = .ok (.putfield 9, 3) := by decide +kernel
theorem dX11_init_13 : decode cX11_init 13 = .ok (.aload_n 0, 1) := by decide +kernel
theorem dX11_init_14 : decode cX11_init 14 = .ok (.bipush 38, 2) := by decide +kernel
theorem dX11_init_16 : decode cX11_init 16 = .ok (.newarray .int, 2) := by decide +kernel
theorem dX11_init_18 : decode cX11_init 18 = .ok (.putfield 13, 3) := by decide +kernel
theorem dX11_init_21 : decode cX11_init 21 = .ok (.aload_n 0, 1) := by decide +kernel
theorem dX11_init_22 : decode cX11_init 22 = .ok (.bipush 38, 2) := by decide +kernel
theorem dX11_init_24 : decode cX11_init 24 = .ok (.newarray .int, 2) := by decide +kernel
theorem dX11_init_26 : decode cX11_init 26 = .ok (.putfield 17, 3) := by decide +kernel
theorem dX11_init_29 : decode cX11_init 29 = .ok (.aload_n 0, 1) := by decide +kernel
theorem dX11_init_30 : decode cX11_init 30 = .ok (.bipush 38, 2) := by decide +kernel
theorem dX11_init_32 : decode cX11_init 32 = .ok (.newarray .int, 2) := by decide +kernel
theorem dX11_init_34 : decode cX11_init 34 = .ok (.putfield 20, 3) := by decide +kernel
theorem dX11_init_37 : decode cX11_init 37 = .ok (.aload_n 0, 1) := by decide +kernel
theorem dX11_init_38 : decode cX11_init 38 = .ok (.sipush 152, 3) := by decide +kernel
theorem dX11_init_41 : decode cX11_init 41 = .ok (.newarray .int, 2) := by decide +kernel
theorem dX11_init_43 : decode cX11_init 43 = .ok (.putfield 23, 3) := by decide +kernel
theorem dX11_init_46 : decode cX11_init 46 = .ok (.aload_n 0, 1) := by decide +kernel
theorem dX11_init_47 : decode cX11_init 47 = .ok (.sipush 240, 3) := by decide +kernel
theorem dX11_init_50 : decode cX11_init 50 = .ok (.newarray .int, 2) := by decide +kernel
theorem dX11_init_52 : decode cX11_init 52 = .ok (.putfield 26, 3) := by decide +kernel
theorem dX11_init_55 : decode cX11_init 55 = .ok (.aload_n 0, 1) := by decide +kernel
theorem dX11_init_56 : decode cX11_init 56 = .ok (.iconst 5, 1) := by decide +kernel
theorem dX11_init_57 : decode cX11_init 57 = .ok (.newarray .int, 2) := by decide +kernel
theorem dX11_init_59 : decode cX11_init 59 = .ok (.putfield 29, 3) := by decide +kernel
theorem dX11_init_62 : decode cX11_init 62 = .ok (.aload_n 0, 1) := by decide +kernel
theorem dX11_init_63 : decode cX11_init 63 = .ok (.iconst 4, 1) := by decide +kernel
theorem dX11_init_64 : decode cX11_init 64 = .ok (.newarray .int, 2) := by decide +kernel
theorem dX11_init_66 : decode cX11_init 66 = .ok (.putfield 32, 3) := by decide +kernel
theorem dX11_init_69 : decode cX11_init 69 = .ok (.aload_n 0, 1) := by decide +kernel
theorem dX11_init_70 : decode cX11_init 70 = .ok (.sipush 1520, 3) := by decide +kernel
theorem dX11_init_73 : decode cX11_init 73 = .ok (.newarray .int, 2) := by decide +kernel
theorem dX11_init_75 : decode cX11_init 75 = .ok (.putfield 35, 3) := by decide +kernel
theorem dX11_init_78 : decode cX11_init 78 = .ok (.aload_n 0, 1) := by decide +kernel
theorem dX11_init_79 : decode cX11_init 79 = .ok (.sipush 4096, 3) := by decide +kernel
theorem dX11_init_82 : decode cX11_init 82 = .ok (.newarray .int, 2) := by decide +kernel
theorem dX11_init_84 : decode cX11_init 84 = .ok (.putfield 38, 3) := by decide +kernel
theorem dX11_init_87 : decode cX11_init 87 = .ok (.aload_n 0, 1) := by decide +kernel
theorem dX11_init_88 : decode cX11_init 88 = .ok (.bipush 12, 2) := by decide +kernel
theorem dX11_init_90 : decode cX11_init 90 = .ok (.newarray .int, 2) := by decide +kernel
theorem dX11_init_92 : decode cX11_init 92 = .ok (.putfield 41, 3) := by decide +kernel
theorem dX11_init_95 : decode cX11_init 95 = .ok (.aload_n 0, 1) := by decide +kernel
theorem dX11_init_96 : decode cX11_init 96 = .ok (.bipush 12, 2) := by decide +kernel
theorem dX11_init_98 : decode cX11_init 98 = .ok (.newarray .int, 2) := by decide +kernel
theorem dX11_init_100 : decode cX11_init 100 = .ok (.putfield 44, 3) := by decide +kernel
theorem dX11_init_103 : decode cX11_init 103 = .ok (.aload_n 0, 1) := by decide +kernel
theorem dX11_init_104 : decode cX11_init 104 = .ok (.bipush 38, 2) := by decide +kernel
theorem dX11_init_106 : decode cX11_init 106 = .ok (.newarray .int, 2) := by decide +kernel
theorem dX11_init_108 : decode cX11_init 108 = .ok (.putfield 47, 3) := by decide +kernel
theorem dX11_init_111 : decode cX11_init 111 = .ok (.aload_n 0, 1) := by decide +kernel
theorem dX11_init_112 : decode cX11_init 112 = .ok (.bipush 6, 2) := by decide +kernel
theorem dX11_init_114 : decode cX11_init 114 = .ok (.newarray .int, 2) := by decide +kernel
theorem dX11_init_116 : decode cX11_init 116 = .ok (.putfield 50, 3) := by decide +kernel
theorem dX11_init_119 : decode cX11_init 119 = .ok (.aload_n 0, 1) := by decide +kernel
theorem dX11_init_120 : decode cX11_init 120 = .ok (.bipush 12, 2) := by decide +kernel
theorem dX11_init_122 : decode cX11_init 122 = .ok (.newarray .int, 2) := by decide +kernel
theorem dX11_init_124 : decode cX11_init 124 = .ok (.putfield 53, 3) := by decide +kernel
theorem dX11_init_127 : decode cX11_init 127 = .ok (.aload_n 0, 1) := by decide +kernel
theorem dX11_init_128 : decode cX11_init 128 = .ok (.bipush 12, 2) := by decide +kernel
theorem dX11_init_130 : decode cX11_init 130 = .ok (.newarray .int, 2) := by decide +kernel
theorem dX11_init_132 : decode cX11_init 132 = .ok (.putfield 56, 3) := by decide +kernel
theorem dX11_init_135 : decode cX11_init 135 = .ok (.aload_n 0, 1) := by decide +kernel
theorem dX11_init_136 : decode cX11_init 136 = .ok (.bipush 38, 2) := by decide +kernel
theorem dX11_init_138 : decode cX11_init 138 = .ok (.newarray .int, 2) := by decide +kernel
theorem dX11_init_140 : decode cX11_init 140 = .ok (.putfield 59, 3) := by decide +kernel
theorem dX11_init_143 : decode cX11_init 143 = .ok (.aload_n 0, 1) := by decide +kernel
theorem dX11_init_144 : decode cX11_init 144 = .ok (.bipush 12, 2) := by decide +kernel
theorem dX11_init_146 : decode cX11_init 146 = .ok (.newarray .int, 2) := by decide +kernel
theorem dX11_init_148 : decode cX11_init 148 = .ok (.putfield 62, 3) := by decide +kernel
theorem dX11_init_151 : decode cX11_init 151 = .ok (.aload_n 0, 1) := by decide +kernel
theorem dX11_init_152 : decode cX11_init 152 = .ok (.bipush 38, 2) := by decide +kernel
theorem dX11_init_154 : decode cX11_init 154 = .ok (.newarray .int, 2) := by decide +kernel
theorem dX11_init_156 : decode cX11_init 156 = .ok (.putfield 65, 3) := by decide +kernel
theorem dX11_init_159 : decode cX11_init 159 = .ok (.aload_n 0, 1) := by decide +kernel
theorem dX11_init_160 : decode cX11_init 160 = .ok (.bipush 38, 2) := by decide +kernel
theorem dX11_init_162 : decode cX11_init 162 = .ok (.newarray .int, 2) := by decide +kernel
theorem dX11_init_164 : decode cX11_init 164 = .ok (.putfield 68, 3) := by decide +kernel
theorem dX11_init_167 : decode cX11_init 167 = .ok (.aload_n 0, 1) := by decide +kernel
theorem dX11_init_168 : decode cX11_init 168 = .ok (.bipush 6, 2) := by decide +kernel
theorem dX11_init_170 : decode cX11_init 170 = .ok (.newarray .int, 2) := by decide +kernel
theorem dX11_init_172 : decode cX11_init 172 = .ok (.putfield 71, 3) := by decide +kernel
theorem dX11_init_175 : decode cX11_init 175 = .ok (.aload_n 0, 1) := by decide +kernel
theorem dX11_init_176 : decode cX11_init 176 = .ok (.bipush 6, 2) := by decide +kernel
theorem dX11_init_178 : decode cX11_init 178 = .ok (.newarray .int, 2) := by decide +kernel
theorem dX11_init_180 : decode cX11_init 180 = .ok (.putfield 74, 3) := by decide +kernel
theorem dX11_init_183 : decode cX11_init 183 = .ok (.aload_n 0, 1) := by decide +kernel
theorem dX11_init_184 : decode cX11_init 184 = .ok (.bipush 38, 2) := by decide +kernel
theorem dX11_init_186 : decode cX11_init 186 = .ok (.newarray .int, 2) := by decide +kernel
theorem dX11_init_188 : decode cX11_init 188 = .ok (.putfield 77, 3) := by decide +kernel
theorem dX11_init_191 : decode cX11_init 191 = .ok (.aload_n 0, 1) := by decide +kernel
theorem dX11_init_192 : decode cX11_init 192 = .ok (.bipush 38, 2) := by decide +kernel
theorem dX11_init_194 : decode cX11_init 194 = .ok (.newarray .int, 2) := by decide +kernel
theorem dX11_init_196 : decode cX11_init 196 = .ok (.putfield 80, 3) := by decide +kernel
theorem dX11_init_199 : decode cX11_init 199 = .ok (.return_, 1) := by decide +kernel
theorem oi_i : Cond.instanceMethod Lib.objectInit ∈ lw_gl := gmt tc_1 31 rfl (by decide +kernel)
theorem oi_c : Cond.code Lib.objectInit ⟨#[0xb1]⟩ 1 none ∈ lw_gl := gmt tc_1 32 rfl (by decide +kernel)
theorem ol_X0 : Cond.methodLink RX0 1 Lib.objectInit ∈ lw_gl := gmt tc_1 238 rfl (by decide +kernel)
theorem in_X0 : Cond.instantiable RX0 1 ∈ lw_gl := gmt tc_1 234 rfl (by decide +kernel)
theorem it_X0 : Cond.initialized RX0 ∈ lw_gl := gmt tc_1 10 rfl (by decide +kernel)
theorem ol_X1 : Cond.methodLink RX1 3 Lib.objectInit ∈ lw_gl := gmt tc_1 105 rfl (by decide +kernel)
theorem in_X1 : Cond.instantiable RX1 6 ∈ lw_gl := gmt tc_1 101 rfl (by decide +kernel)
theorem it_X1 : Cond.initialized RX1 ∈ lw_gl := gmt tc_1 5 rfl (by decide +kernel)
theorem ol_X2 : Cond.methodLink RX2 3 Lib.objectInit ∈ lw_gl := gmt tc_1 83 rfl (by decide +kernel)
theorem in_X2 : Cond.instantiable RX2 3 ∈ lw_gl := gmt tc_1 79 rfl (by decide +kernel)
theorem it_X2 : Cond.initialized RX2 ∈ lw_gl := gmt tc_1 4 rfl (by decide +kernel)
theorem ol_X3 : Cond.methodLink RX3 3 Lib.objectInit ∈ lw_gl := gmt tc_1 220 rfl (by decide +kernel)
theorem in_X3 : Cond.instantiable RX3 3 ∈ lw_gl := gmt tc_1 216 rfl (by decide +kernel)
theorem it_X3 : Cond.initialized RX3 ∈ lw_gl := gmt tc_1 9 rfl (by decide +kernel)
theorem ol_X4 : Cond.methodLink RX4 3 Lib.objectInit ∈ lw_gl := gmt tc_2 8 rfl (by decide +kernel)
theorem in_X4 : Cond.instantiable RX4 5 ∈ lw_gl := gmt tc_2 4 rfl (by decide +kernel)
theorem it_X4 : Cond.initialized RX4 ∈ lw_gl := gmt tc_1 11 rfl (by decide +kernel)
theorem ol_X5 : Cond.methodLink RX5 3 Lib.objectInit ∈ lw_gl := gmt tc_1 191 rfl (by decide +kernel)
theorem in_X5 : Cond.instantiable RX5 7 ∈ lw_gl := gmt tc_1 187 rfl (by decide +kernel)
theorem it_X5 : Cond.initialized RX5 ∈ lw_gl := gmt tc_1 8 rfl (by decide +kernel)
theorem ol_X6 : Cond.methodLink RX6 3 Lib.objectInit ∈ lw_gl := gmt tc_1 157 rfl (by decide +kernel)
theorem in_X6 : Cond.instantiable RX6 8 ∈ lw_gl := gmt tc_1 153 rfl (by decide +kernel)
theorem it_X6 : Cond.initialized RX6 ∈ lw_gl := gmt tc_1 7 rfl (by decide +kernel)
theorem ol_X7 : Cond.methodLink RX7 3 Lib.objectInit ∈ lw_gl := gmt tc_1 55 rfl (by decide +kernel)
theorem in_X7 : Cond.instantiable RX7 3 ∈ lw_gl := gmt tc_1 51 rfl (by decide +kernel)
theorem it_X7 : Cond.initialized RX7 ∈ lw_gl := gmt tc_1 3 rfl (by decide +kernel)
theorem ol_X8 : Cond.methodLink RX8 3 Lib.objectInit ∈ lw_gl := gmt tc_1 38 rfl (by decide +kernel)
theorem in_X8 : Cond.instantiable RX8 2 ∈ lw_gl := gmt tc_1 34 rfl (by decide +kernel)
theorem it_X8 : Cond.initialized RX8 ∈ lw_gl := gmt tc_1 2 rfl (by decide +kernel)
theorem ol_X9 : Cond.methodLink RX9 3 Lib.objectInit ∈ lw_gl := gmt tc_1 132 rfl (by decide +kernel)
theorem in_X9 : Cond.instantiable RX9 5 ∈ lw_gl := gmt tc_1 128 rfl (by decide +kernel)
theorem it_X9 : Cond.initialized RX9 ∈ lw_gl := gmt tc_1 6 rfl (by decide +kernel)
theorem ol_X10 : Cond.methodLink RX10 3 Lib.objectInit ∈ lw_gl := gmt tc_1 30 rfl (by decide +kernel)
theorem in_X10 : Cond.instantiable RX10 19 ∈ lw_gl := gmt tc_1 26 rfl (by decide +kernel)
theorem it_X10 : Cond.initialized RX10 ∈ lw_gl := gmt tc_1 1 rfl (by decide +kernel)
theorem ol_X11 : Cond.methodLink RX11 3 Lib.objectInit ∈ lw_gl := gmt tc_5 195 rfl (by decide +kernel)
theorem in_X11 : Cond.instantiable RX11 35 ∈ lw_gl := gmt tc_5 191 rfl (by decide +kernel)
theorem it_X11 : Cond.initialized RX11 ∈ lw_gl := gmt tc_1 12 rfl (by decide +kernel)
theorem nl_X2_9 : Cond.classLink RX2 9 RX7 ∈ lw_gl := gmt tc_1 84 rfl (by decide +kernel)
theorem nl_X3_9 : Cond.classLink RX3 9 RX7 ∈ lw_gl := gmt tc_1 221 rfl (by decide +kernel)
theorem nl_X6_9 : Cond.classLink RX6 9 RX7 ∈ lw_gl := gmt tc_1 158 rfl (by decide +kernel)
theorem nl_X9_9 : Cond.classLink RX9 9 RX7 ∈ lw_gl := gmt tc_1 133 rfl (by decide +kernel)
theorem nl_X10_9 : Cond.classLink RX10 9 RX8 ∈ lw_gl := gmt tc_1 33 rfl (by decide +kernel)
theorem nl_X10_16 : Cond.classLink RX10 16 RX7 ∈ lw_gl := gmt tc_1 50 rfl (by decide +kernel)
theorem nl_X10_29 : Cond.classLink RX10 29 RX2 ∈ lw_gl := gmt tc_1 78 rfl (by decide +kernel)
theorem nl_X10_40 : Cond.classLink RX10 40 RX4 ∈ lw_gl := gmt tc_1 98 rfl (by decide +kernel)
theorem nl_X10_53 : Cond.classLink RX10 53 RX1 ∈ lw_gl := gmt tc_1 100 rfl (by decide +kernel)
theorem nl_X10_60 : Cond.classLink RX10 60 RX9 ∈ lw_gl := gmt tc_1 127 rfl (by decide +kernel)
theorem nl_X10_70 : Cond.classLink RX10 70 RX6 ∈ lw_gl := gmt tc_1 152 rfl (by decide +kernel)
theorem nl_X10_77 : Cond.classLink RX10 77 RX5 ∈ lw_gl := gmt tc_1 186 rfl (by decide +kernel)
theorem nl_X10_84 : Cond.classLink RX10 84 RX3 ∈ lw_gl := gmt tc_1 215 rfl (by decide +kernel)
theorem nl_X10_91 : Cond.classLink RX10 91 RX0 ∈ lw_gl := gmt tc_1 233 rfl (by decide +kernel)
def df0 : List Value := [.long 0]
theorem df0_ok : (∀ j, j < 1 → defaultValue (tyX0 j) = vp_V df0 j) ∧ (∀ r, df0.map (rl r) = df0) := ⟨by decide, fun _ => rfl⟩
def df1 : List Value := [.null, .int 0, .int 0, .int 0, .int 0, .int 0]
theorem df1_ok : (∀ j, j < 6 → defaultValue (tyX1 j) = vp_V df1 j) ∧ (∀ r, df1.map (rl r) = df1) := ⟨by decide, fun _ => rfl⟩
def df2 : List Value := [.null, .int 0, .int 0]
theorem df2_ok : (∀ j, j < 3 → defaultValue (tyX2 j) = vp_V df2 j) ∧ (∀ r, df2.map (rl r) = df2) := ⟨by decide, fun _ => rfl⟩
def df3 : List Value := [.null, .null, .null]
theorem df3_ok : (∀ j, j < 3 → defaultValue (tyX3 j) = vp_V df3 j) ∧ (∀ r, df3.map (rl r) = df3) := ⟨by decide, fun _ => rfl⟩
def df4 : List Value := [.int 0, .null, .null, .null, .null]
theorem df4_ok : (∀ j, j < 5 → defaultValue (tyX4 j) = vp_V df4 j) ∧ (∀ r, df4.map (rl r) = df4) := ⟨by decide, fun _ => rfl⟩
def df5 : List Value := [.int 0, .int 0, .null, .null, .int 0, .null, .null]
theorem df5_ok : (∀ j, j < 7 → defaultValue (tyX5 j) = vp_V df5 j) ∧ (∀ r, df5.map (rl r) = df5) := ⟨by decide, fun _ => rfl⟩
def df6 : List Value := [.null, .null, .null, .null, .null, .int 0, .int 0, .int 0]
theorem df6_ok : (∀ j, j < 8 → defaultValue (tyX6 j) = vp_V df6 j) ∧ (∀ r, df6.map (rl r) = df6) := ⟨by decide, fun _ => rfl⟩
def df7 : List Value := [.int 0, .int 0, .null]
theorem df7_ok : (∀ j, j < 3 → defaultValue (tyX7 j) = vp_V df7 j) ∧ (∀ r, df7.map (rl r) = df7) := ⟨by decide, fun _ => rfl⟩
def df8 : List Value := [.null, .int 0]
theorem df8_ok : (∀ j, j < 2 → defaultValue (tyX8 j) = vp_V df8 j) ∧ (∀ r, df8.map (rl r) = df8) := ⟨by decide, fun _ => rfl⟩
def df9 : List Value := [.null, .null, .null, .int 0, .int 0]
theorem df9_ok : (∀ j, j < 5 → defaultValue (tyX9 j) = vp_V df9 j) ∧ (∀ r, df9.map (rl r) = df9) := ⟨by decide, fun _ => rfl⟩
def df10 : List Value := [.null, .null, .null, .null, .null, .null, .int 0, .null, .int 0, .null, .int 0, .null, .null, .null, .null, .null, .null, .null, .null]
theorem df10_ok : (∀ j, j < 19 → defaultValue (tyX10 j) = vp_V df10 j) ∧ (∀ r, df10.map (rl r) = df10) := ⟨by decide, fun _ => rfl⟩
def df11 : List Value := [.int 0, .null, .int 0, .int 0, .int 0, .null, .null, .null, .null, .null, .null, .null, .int 0, .int 0, .null, .int 0, .null, .null, .null, .null, .null, .int 0, .null, .null, .null, .null, .null, .null, .null, .null, .null, .long 0, .null, .int 0, .int 0]
theorem df11_ok : (∀ j, j < 35 → defaultValue (tyX11 j) = vp_V df11 j) ∧ (∀ r, df11.map (rl r) = df11) := ⟨by decide, fun _ => rfl⟩
theorem b_X7 {w : aW} {a : Nat} (hL : TL a) {ex : List Nat} (hD : DN w (a + 1) (a :: ex)) (he : w.2 a = some (.inr (7, df7))) : Mt mX7_init 1 1 36 [.ref a] w (fun r w2 => r = none ∧ DN w2 (a + 2) ex ∧ ∀ i, i < a → w2.2 i = w.2 i) := by
  refine Mt.of MI_X7_init (Nat.le_of_ble_eq_true rfl) (fun X hC hR hT => ?_)
  have h16 : 16 ≤ a := hL.1.1
  have hlt : a < 202 := hL.1.2.1
  refine R_aload_n (i := 0) hC dX7_init_0 rfl rfl ?_
  refine R_obj hC hR dX7_init_1 (by decide) ol_X7 oi_i oi_c (Nat.le_of_ble_eq_true rfl) ?_
  refine R_aload_n (i := 0) hC dX7_init_4 rfl rfl ?_
  refine R_bipush (v := 36) hC dX7_init_5 (by decide) ?_
  refine R_top (y := nI 36) rfl ?_
  refine B_int (N := 36) (n := (a + 1)) hC hR dX7_init_7 hD (by omega) hL.2 (by decide) ⟨by decide, by decide⟩ (fun w1_ hD1 hz1 => ?_)
  have he1 := (hz1 a (by omega)).trans he
  have hs1 : ∀ i, i < a → w1_.2 i = w.2 i := fun i hi => (hz1 i (by omega)).trans ((fun (i : Nat) (_ : i < a) => rfl) i hi)
  refine B_put (n := ((a + 1) + 1)) (a := a) (v := .ref (a + 1)) hC dX7_init_9 fl_X7_9 rfl hD1 List.mem_cons_self h16 (by omega) he1 (Nat.le_of_ble_eq_true rfl) (fun C T N h => by cases h; rfl) (fun _ => ⟨rfl, rfl⟩) (fun w2_ hD2 he2 hz2 => ?_)
  have hs2 : ∀ i, i < a → w2_.2 i = w.2 i := fun i hi => (hz2 i (by omega)).trans (hs1 i hi)
  exact R_vret hC hT dX7_init_12 rfl ⟨rfl, hD2.done (he2.trans (wdc_at hL.1).symm), hs2⟩
theorem b_X8 {w : aW}  {ex : List Nat} (hD : DN w (17 + 1) (17 :: ex)) (he : w.2 17 = some (.inr (8, df8))) : Mt mX8_init 1 1 240 [.ref 17] w (fun r w2 => r = none ∧ DN w2 (19) ex ∧ ∀ i, i < 17 → w2.2 i = w.2 i) := by
  refine Mt.of MI_X8_init (Nat.le_of_ble_eq_true rfl) (fun X hC hR hT => ?_)
  have h16 : 16 ≤ 17 := L_tape.1
  have hlt : 17 < 202 := L_tape.2.1
  refine R_aload_n (i := 0) hC dX8_init_0 rfl rfl ?_
  refine R_obj hC hR dX8_init_1 (by decide) ol_X8 oi_i oi_c (Nat.le_of_ble_eq_true rfl) ?_
  refine R_aload_n (i := 0) hC dX8_init_4 rfl rfl ?_
  refine R_sipush (v := 240) hC dX8_init_5 (by decide) ?_
  refine R_top (y := nI 240) rfl ?_
  refine B_int (N := 240) (n := (17 + 1)) hC hR dX8_init_8 hD (by omega) L_tape_b (by decide) ⟨by decide, by decide⟩ (fun w1_ hD1 hz1 => ?_)
  have he1 := (hz1 17 (by omega)).trans he
  have hs1 : ∀ i, i < 17 → w1_.2 i = w.2 i := fun i hi => (hz1 i (by omega)).trans ((fun (i : Nat) (_ : i < 17) => rfl) i hi)
  refine B_put (n := ((17 + 1) + 1)) (a := 17) (v := .ref (17 + 1)) hC dX8_init_10 fl_X8_9 rfl hD1 List.mem_cons_self h16 (by omega) he1 (Nat.le_of_ble_eq_true rfl) (fun C T N h => by cases h; rfl) (fun _ => ⟨rfl, rfl⟩) (fun w2_ hD2 he2 hz2 => ?_)
  have hs2 : ∀ i, i < 17 → w2_.2 i = w.2 i := fun i hi => (hz2 i (by omega)).trans (hs1 i hi)
  exact R_vret hC hT dX8_init_13 rfl ⟨rfl, hD2.done (he2.trans (wdc_at L_tape).symm), hs2⟩
theorem b_X1 {w : aW}  {ex : List Nat} (hD : DN w (112 + 1) (112 :: ex)) (he : w.2 112 = some (.inr (1, df1))) : Mt mX1_init 1 1 4096 [.ref 112] w (fun r w2 => r = none ∧ DN w2 (114) ex ∧ ∀ i, i < 112 → w2.2 i = w.2 i) := by
  refine Mt.of MI_X1_init (Nat.le_of_ble_eq_true rfl) (fun X hC hR hT => ?_)
  have h16 : 16 ≤ 112 := L_minors.1
  have hlt : 112 < 202 := L_minors.2.1
  refine R_aload_n (i := 0) hC dX1_init_0 rfl rfl ?_
  refine R_obj hC hR dX1_init_1 (by decide) ol_X1 oi_i oi_c (Nat.le_of_ble_eq_true rfl) ?_
  refine R_aload_n (i := 0) hC dX1_init_4 rfl rfl ?_
  refine R_sipush (v := 4096) hC dX1_init_5 (by decide) ?_
  refine R_top (y := nI 4096) rfl ?_
  refine B_int (N := 4096) (n := (112 + 1)) hC hR dX1_init_8 hD (by omega) L_cdets (by decide) ⟨by decide, by decide⟩ (fun w1_ hD1 hz1 => ?_)
  have he1 := (hz1 112 (by omega)).trans he
  have hs1 : ∀ i, i < 112 → w1_.2 i = w.2 i := fun i hi => (hz1 i (by omega)).trans ((fun (i : Nat) (_ : i < 112) => rfl) i hi)
  refine B_put (n := ((112 + 1) + 1)) (a := 112) (v := .ref (112 + 1)) hC dX1_init_10 fl_X1_9 rfl hD1 List.mem_cons_self h16 (by omega) he1 (Nat.le_of_ble_eq_true rfl) (fun C T N h => by cases h; rfl) (fun _ => ⟨rfl, rfl⟩) (fun w2_ hD2 he2 hz2 => ?_)
  have hs2 : ∀ i, i < 112 → w2_.2 i = w.2 i := fun i hi => (hz2 i (by omega)).trans (hs1 i hi)
  exact R_vret hC hT dX1_init_13 rfl ⟨rfl, hD2.done (he2.trans (wdc_at L_minors).symm), hs2⟩
theorem b_X9 {w : aW} {b : Nat} (hL : DL b) {ex : List Nat} (hD : DN w (b + 1) (b :: ex)) (he : w.2 b = some (.inr (9, df9))) : Mt mX9_init 2 4 51 [.ref b] w (fun r w2 => r = none ∧ DN w2 (b + 5) ex ∧ ∀ i, i < b → w2.2 i = w.2 i) := by
  refine Mt.of MI_X9_init (Nat.le_of_ble_eq_true rfl) (fun X hC hR hT => ?_)
  have h16 : 16 ≤ b := hL.1.1
  have hlt : b < 202 := hL.1.2.1
  refine R_aload_n (i := 0) hC dX9_init_0 rfl rfl ?_
  refine R_obj hC hR dX9_init_1 (by decide) ol_X9 oi_i oi_c (Nat.le_of_ble_eq_true rfl) ?_
  refine R_aload_n (i := 0) hC dX9_init_4 rfl rfl ?_
  refine B_obj (ci := 7) (n := (b + 1)) (fs := df7) hC hR dX9_init_5 nl_X9_9 in_X7 it_X7 rfl cw_X7 tyX7_ok df7_ok.1 df7_ok.2 hD (by omega) ⟨by decide, by decide⟩ (fun w1_ hD1 hn1 hz1 => ?_)
  have he1 := (hz1 b (by omega)).trans he
  have hs1 : ∀ i, i < b → w1_.2 i = w.2 i := fun i hi => (hz1 i (by omega)).trans ((fun (i : Nat) (_ : i < b) => rfl) i hi)
  refine R_dup hC dX9_init_8 rfl ?_
  refine R_callI (As := []) hC hR dX9_init_9 MN_X7_init ml_X9_11 (b_X7 (a := b + 1) hL.2.1 hD1 hn1) rfl (by decide) ⟨by decide, by decide⟩ (Nat.le_of_ble_eq_true rfl) (fun r w2_ hq => ?_)
  obtain ⟨rfl, hD2, hz2⟩ := hq
  have he2 := (hz2 b (by omega)).trans he1
  have hs2 : ∀ i, i < b → w2_.2 i = w.2 i := fun i hi => (hz2 i (by omega)).trans (hs1 i hi)
  refine B_put (n := ((b + 1) + 2)) (a := b) (v := .ref (b + 1)) hC dX9_init_12 fl_X9_12 rfl hD2 List.mem_cons_self h16 (by omega) he2 (Nat.le_of_ble_eq_true rfl) (fun C T N h => by cases h; rfl) (fun _ => ⟨rfl, rfl⟩) (fun w3_ hD3 he3 hz3 => ?_)
  have hs3 : ∀ i, i < b → w3_.2 i = w.2 i := fun i hi => (hz3 i (by omega)).trans (hs2 i hi)
  refine R_aload_n (i := 0) hC dX9_init_15 rfl rfl ?_
  refine R_bipush (v := 6) hC dX9_init_16 (by decide) ?_
  refine R_top (y := nI 6) rfl ?_
  refine B_int (N := 6) (n := ((b + 1) + 2)) hC hR dX9_init_18 hD3 (by omega) hL.2.2.1 (by decide) ⟨by decide, by decide⟩ (fun w4_ hD4 hz4 => ?_)
  have he4 := (hz4 b (by omega)).trans he3
  have hs4 : ∀ i, i < b → w4_.2 i = w.2 i := fun i hi => (hz4 i (by omega)).trans (hs3 i hi)
  refine B_put (n := (((b + 1) + 2) + 1)) (a := b) (v := .ref ((b + 1) + 2)) hC dX9_init_20 fl_X9_18 rfl hD4 List.mem_cons_self h16 (by omega) he4 (Nat.le_of_ble_eq_true rfl) (fun C T N h => by cases h; rfl) (fun _ => ⟨rfl, rfl⟩) (fun w5_ hD5 he5 hz5 => ?_)
  have hs5 : ∀ i, i < b → w5_.2 i = w.2 i := fun i hi => (hz5 i (by omega)).trans (hs4 i hi)
  refine R_aload_n (i := 0) hC dX9_init_23 rfl rfl ?_
  refine R_bipush (v := 6) hC dX9_init_24 (by decide) ?_
  refine R_top (y := nI 6) rfl ?_
  refine B_int (N := 6) (n := (((b + 1) + 2) + 1)) hC hR dX9_init_26 hD5 (by omega) hL.2.2.2 (by decide) ⟨by decide, by decide⟩ (fun w6_ hD6 hz6 => ?_)
  have he6 := (hz6 b (by omega)).trans he5
  have hs6 : ∀ i, i < b → w6_.2 i = w.2 i := fun i hi => (hz6 i (by omega)).trans (hs5 i hi)
  refine B_put (n := ((((b + 1) + 2) + 1) + 1)) (a := b) (v := .ref (((b + 1) + 2) + 1)) hC dX9_init_28 fl_X9_22 rfl hD6 List.mem_cons_self h16 (by omega) he6 (Nat.le_of_ble_eq_true rfl) (fun C T N h => by cases h; rfl) (fun _ => ⟨rfl, rfl⟩) (fun w7_ hD7 he7 hz7 => ?_)
  have hs7 : ∀ i, i < b → w7_.2 i = w.2 i := fun i hi => (hz7 i (by omega)).trans (hs6 i hi)
  exact R_vret hC hT dX9_init_31 rfl ⟨rfl, hD7.done (he7.trans (wdc_at hL.1).symm), hs7⟩
theorem b_X6 {w : aW}  {ex : List Nat} (hD : DN w (124 + 1) (124 :: ex)) (he : w.2 124 = some (.inr (6, df6))) : Mt mX6_init 2 6 63 [.ref 124] w (fun r w2 => r = none ∧ DN w2 (131) ex ∧ ∀ i, i < 124 → w2.2 i = w.2 i) := by
  refine Mt.of MI_X6_init (Nat.le_of_ble_eq_true rfl) (fun X hC hR hT => ?_)
  have h16 : 16 ≤ 124 := L_signing.1
  have hlt : 124 < 202 := L_signing.2.1
  refine R_aload_n (i := 0) hC dX6_init_0 rfl rfl ?_
  refine R_obj hC hR dX6_init_1 (by decide) ol_X6 oi_i oi_c (Nat.le_of_ble_eq_true rfl) ?_
  refine R_aload_n (i := 0) hC dX6_init_4 rfl rfl ?_
  refine B_obj (ci := 7) (n := (124 + 1)) (fs := df7) hC hR dX6_init_5 nl_X6_9 in_X7 it_X7 rfl cw_X7 tyX7_ok df7_ok.1 df7_ok.2 hD (by omega) ⟨by decide, by decide⟩ (fun w1_ hD1 hn1 hz1 => ?_)
  have he1 := (hz1 124 (by omega)).trans he
  have hs1 : ∀ i, i < 124 → w1_.2 i = w.2 i := fun i hi => (hz1 i (by omega)).trans ((fun (i : Nat) (_ : i < 124) => rfl) i hi)
  refine R_dup hC dX6_init_8 rfl ?_
  refine R_callI (As := []) hC hR dX6_init_9 MN_X7_init ml_X6_11 (b_X7 (a := 125) TL_signs hD1 hn1) rfl (by decide) ⟨by decide, by decide⟩ (Nat.le_of_ble_eq_true rfl) (fun r w2_ hq => ?_)
  obtain ⟨rfl, hD2, hz2⟩ := hq
  have he2 := (hz2 124 (by omega)).trans he1
  have hs2 : ∀ i, i < 124 → w2_.2 i = w.2 i := fun i hi => (hz2 i (by omega)).trans (hs1 i hi)
  refine B_put (n := ((124 + 1) + 2)) (a := 124) (v := .ref (124 + 1)) hC dX6_init_12 fl_X6_12 rfl hD2 List.mem_cons_self h16 (by omega) he2 (Nat.le_of_ble_eq_true rfl) (fun C T N h => by cases h; rfl) (fun _ => ⟨rfl, rfl⟩) (fun w3_ hD3 he3 hz3 => ?_)
  have hs3 : ∀ i, i < 124 → w3_.2 i = w.2 i := fun i hi => (hz3 i (by omega)).trans (hs2 i hi)
  refine R_aload_n (i := 0) hC dX6_init_15 rfl rfl ?_
  refine R_bipush (v := 6) hC dX6_init_16 (by decide) ?_
  refine R_top (y := nI 6) rfl ?_
  refine B_int (N := 6) (n := ((124 + 1) + 2)) hC hR dX6_init_18 hD3 (by omega) L_rowParts (by decide) ⟨by decide, by decide⟩ (fun w4_ hD4 hz4 => ?_)
  have he4 := (hz4 124 (by omega)).trans he3
  have hs4 : ∀ i, i < 124 → w4_.2 i = w.2 i := fun i hi => (hz4 i (by omega)).trans (hs3 i hi)
  refine B_put (n := (((124 + 1) + 2) + 1)) (a := 124) (v := .ref ((124 + 1) + 2)) hC dX6_init_20 fl_X6_18 rfl hD4 List.mem_cons_self h16 (by omega) he4 (Nat.le_of_ble_eq_true rfl) (fun C T N h => by cases h; rfl) (fun _ => ⟨rfl, rfl⟩) (fun w5_ hD5 he5 hz5 => ?_)
  have hs5 : ∀ i, i < 124 → w5_.2 i = w.2 i := fun i hi => (hz5 i (by omega)).trans (hs4 i hi)
  refine R_aload_n (i := 0) hC dX6_init_23 rfl rfl ?_
  refine R_bipush (v := 6) hC dX6_init_24 (by decide) ?_
  refine R_top (y := nI 6) rfl ?_
  refine B_int (N := 6) (n := (((124 + 1) + 2) + 1)) hC hR dX6_init_26 hD5 (by omega) L_columnParts (by decide) ⟨by decide, by decide⟩ (fun w6_ hD6 hz6 => ?_)
  have he6 := (hz6 124 (by omega)).trans he5
  have hs6 : ∀ i, i < 124 → w6_.2 i = w.2 i := fun i hi => (hz6 i (by omega)).trans (hs5 i hi)
  refine B_put (n := ((((124 + 1) + 2) + 1) + 1)) (a := 124) (v := .ref (((124 + 1) + 2) + 1)) hC dX6_init_28 fl_X6_22 rfl hD6 List.mem_cons_self h16 (by omega) he6 (Nat.le_of_ble_eq_true rfl) (fun C T N h => by cases h; rfl) (fun _ => ⟨rfl, rfl⟩) (fun w7_ hD7 he7 hz7 => ?_)
  have hs7 : ∀ i, i < 124 → w7_.2 i = w.2 i := fun i hi => (hz7 i (by omega)).trans (hs6 i hi)
  refine R_aload_n (i := 0) hC dX6_init_31 rfl rfl ?_
  refine R_bipush (v := 6) hC dX6_init_32 (by decide) ?_
  refine R_top (y := nI 6) rfl ?_
  refine B_int (N := 6) (n := ((((124 + 1) + 2) + 1) + 1)) hC hR dX6_init_34 hD7 (by omega) L_rowsFar (by decide) ⟨by decide, by decide⟩ (fun w8_ hD8 hz8 => ?_)
  have he8 := (hz8 124 (by omega)).trans he7
  have hs8 : ∀ i, i < 124 → w8_.2 i = w.2 i := fun i hi => (hz8 i (by omega)).trans (hs7 i hi)
  refine B_put (n := (((((124 + 1) + 2) + 1) + 1) + 1)) (a := 124) (v := .ref ((((124 + 1) + 2) + 1) + 1)) hC dX6_init_36 fl_X6_25 rfl hD8 List.mem_cons_self h16 (by omega) he8 (Nat.le_of_ble_eq_true rfl) (fun C T N h => by cases h; rfl) (fun _ => ⟨rfl, rfl⟩) (fun w9_ hD9 he9 hz9 => ?_)
  have hs9 : ∀ i, i < 124 → w9_.2 i = w.2 i := fun i hi => (hz9 i (by omega)).trans (hs8 i hi)
  refine R_aload_n (i := 0) hC dX6_init_39 rfl rfl ?_
  refine R_bipush (v := 6) hC dX6_init_40 (by decide) ?_
  refine R_top (y := nI 6) rfl ?_
  refine B_int (N := 6) (n := (((((124 + 1) + 2) + 1) + 1) + 1)) hC hR dX6_init_42 hD9 (by omega) L_columnsFar (by decide) ⟨by decide, by decide⟩ (fun w10_ hD10 hz10 => ?_)
  have he10 := (hz10 124 (by omega)).trans he9
  have hs10 : ∀ i, i < 124 → w10_.2 i = w.2 i := fun i hi => (hz10 i (by omega)).trans (hs9 i hi)
  refine B_put (n := ((((((124 + 1) + 2) + 1) + 1) + 1) + 1)) (a := 124) (v := .ref (((((124 + 1) + 2) + 1) + 1) + 1)) hC dX6_init_44 fl_X6_28 rfl hD10 List.mem_cons_self h16 (by omega) he10 (Nat.le_of_ble_eq_true rfl) (fun C T N h => by cases h; rfl) (fun _ => ⟨rfl, rfl⟩) (fun w11_ hD11 he11 hz11 => ?_)
  have hs11 : ∀ i, i < 124 → w11_.2 i = w.2 i := fun i hi => (hz11 i (by omega)).trans (hs10 i hi)
  exact R_vret hC hT dX6_init_47 rfl ⟨rfl, hD11.done (he11.trans (wdc_at L_signing).symm), hs11⟩
theorem b_X5 {w : aW}  {ex : List Nat} (hD : DN w (131 + 1) (131 :: ex)) (he : w.2 131 = some (.inr (5, df5))) : Mt mX5_init 1 4 36 [.ref 131] w (fun r w2 => r = none ∧ DN w2 (136) ex ∧ ∀ i, i < 131 → w2.2 i = w.2 i) := by
  refine Mt.of MI_X5_init (Nat.le_of_ble_eq_true rfl) (fun X hC hR hT => ?_)
  have h16 : 16 ≤ 131 := L_shape.1
  have hlt : 131 < 202 := L_shape.2.1
  refine R_aload_n (i := 0) hC dX5_init_0 rfl rfl ?_
  refine R_obj hC hR dX5_init_1 (by decide) ol_X5 oi_i oi_c (Nat.le_of_ble_eq_true rfl) ?_
  refine R_aload_n (i := 0) hC dX5_init_4 rfl rfl ?_
  refine R_bipush (v := 6) hC dX5_init_5 (by decide) ?_
  refine R_top (y := nI 6) rfl ?_
  refine B_int (N := 6) (n := (131 + 1)) hC hR dX5_init_7 hD (by omega) L_across (by decide) ⟨by decide, by decide⟩ (fun w1_ hD1 hz1 => ?_)
  have he1 := (hz1 131 (by omega)).trans he
  have hs1 : ∀ i, i < 131 → w1_.2 i = w.2 i := fun i hi => (hz1 i (by omega)).trans ((fun (i : Nat) (_ : i < 131) => rfl) i hi)
  refine B_put (n := ((131 + 1) + 1)) (a := 131) (v := .ref (131 + 1)) hC dX5_init_9 fl_X5_9 rfl hD1 List.mem_cons_self h16 (by omega) he1 (Nat.le_of_ble_eq_true rfl) (fun C T N h => by cases h; rfl) (fun _ => ⟨rfl, rfl⟩) (fun w2_ hD2 he2 hz2 => ?_)
  have hs2 : ∀ i, i < 131 → w2_.2 i = w.2 i := fun i hi => (hz2 i (by omega)).trans (hs1 i hi)
  refine R_aload_n (i := 0) hC dX5_init_12 rfl rfl ?_
  refine R_bipush (v := 6) hC dX5_init_13 (by decide) ?_
  refine R_top (y := nI 6) rfl ?_
  refine B_int (N := 6) (n := ((131 + 1) + 1)) hC hR dX5_init_15 hD2 (by omega) L_down (by decide) ⟨by decide, by decide⟩ (fun w3_ hD3 hz3 => ?_)
  have he3 := (hz3 131 (by omega)).trans he2
  have hs3 : ∀ i, i < 131 → w3_.2 i = w.2 i := fun i hi => (hz3 i (by omega)).trans (hs2 i hi)
  refine B_put (n := (((131 + 1) + 1) + 1)) (a := 131) (v := .ref ((131 + 1) + 1)) hC dX5_init_17 fl_X5_15 rfl hD3 List.mem_cons_self h16 (by omega) he3 (Nat.le_of_ble_eq_true rfl) (fun C T N h => by cases h; rfl) (fun _ => ⟨rfl, rfl⟩) (fun w4_ hD4 he4 hz4 => ?_)
  have hs4 : ∀ i, i < 131 → w4_.2 i = w.2 i := fun i hi => (hz4 i (by omega)).trans (hs3 i hi)
  refine R_aload_n (i := 0) hC dX5_init_20 rfl rfl ?_
  refine R_bipush (v := 12) hC dX5_init_21 (by decide) ?_
  refine R_top (y := nI 12) rfl ?_
  refine B_int (N := 12) (n := (((131 + 1) + 1) + 1)) hC hR dX5_init_23 hD4 (by omega) L_partRows (by decide) ⟨by decide, by decide⟩ (fun w5_ hD5 hz5 => ?_)
  have he5 := (hz5 131 (by omega)).trans he4
  have hs5 : ∀ i, i < 131 → w5_.2 i = w.2 i := fun i hi => (hz5 i (by omega)).trans (hs4 i hi)
  refine B_put (n := ((((131 + 1) + 1) + 1) + 1)) (a := 131) (v := .ref (((131 + 1) + 1) + 1)) hC dX5_init_25 fl_X5_18 rfl hD5 List.mem_cons_self h16 (by omega) he5 (Nat.le_of_ble_eq_true rfl) (fun C T N h => by cases h; rfl) (fun _ => ⟨rfl, rfl⟩) (fun w6_ hD6 he6 hz6 => ?_)
  have hs6 : ∀ i, i < 131 → w6_.2 i = w.2 i := fun i hi => (hz6 i (by omega)).trans (hs5 i hi)
  refine R_aload_n (i := 0) hC dX5_init_28 rfl rfl ?_
  refine R_bipush (v := 12) hC dX5_init_29 (by decide) ?_
  refine R_top (y := nI 12) rfl ?_
  refine B_int (N := 12) (n := ((((131 + 1) + 1) + 1) + 1)) hC hR dX5_init_31 hD6 (by omega) L_partColumns (by decide) ⟨by decide, by decide⟩ (fun w7_ hD7 hz7 => ?_)
  have he7 := (hz7 131 (by omega)).trans he6
  have hs7 : ∀ i, i < 131 → w7_.2 i = w.2 i := fun i hi => (hz7 i (by omega)).trans (hs6 i hi)
  refine B_put (n := (((((131 + 1) + 1) + 1) + 1) + 1)) (a := 131) (v := .ref ((((131 + 1) + 1) + 1) + 1)) hC dX5_init_33 fl_X5_21 rfl hD7 List.mem_cons_self h16 (by omega) he7 (Nat.le_of_ble_eq_true rfl) (fun C T N h => by cases h; rfl) (fun _ => ⟨rfl, rfl⟩) (fun w8_ hD8 he8 hz8 => ?_)
  have hs8 : ∀ i, i < 131 → w8_.2 i = w.2 i := fun i hi => (hz8 i (by omega)).trans (hs7 i hi)
  exact R_vret hC hT dX5_init_36 rfl ⟨rfl, hD8.done (he8.trans (wdc_at L_shape).symm), hs8⟩
theorem b_X3 {w : aW}  {ex : List Nat} (hD : DN w (136 + 1) (136 :: ex)) (he : w.2 136 = some (.inr (3, df3))) : Mt mX3_init 2 5 83 [.ref 136] w (fun r w2 => r = none ∧ DN w2 (142) ex ∧ ∀ i, i < 136 → w2.2 i = w.2 i) := by
  refine Mt.of MI_X3_init (Nat.le_of_ble_eq_true rfl) (fun X hC hR hT => ?_)
  have h16 : 16 ≤ 136 := L_pattern.1
  have hlt : 136 < 202 := L_pattern.2.1
  refine R_aload_n (i := 0) hC dX3_init_0 rfl rfl ?_
  refine R_obj hC hR dX3_init_1 (by decide) ol_X3 oi_i oi_c (Nat.le_of_ble_eq_true rfl) ?_
  refine R_aload_n (i := 0) hC dX3_init_4 rfl rfl ?_
  refine B_obj (ci := 7) (n := (136 + 1)) (fs := df7) hC hR dX3_init_5 nl_X3_9 in_X7 it_X7 rfl cw_X7 tyX7_ok df7_ok.1 df7_ok.2 hD (by omega) ⟨by decide, by decide⟩ (fun w1_ hD1 hn1 hz1 => ?_)
  have he1 := (hz1 136 (by omega)).trans he
  have hs1 : ∀ i, i < 136 → w1_.2 i = w.2 i := fun i hi => (hz1 i (by omega)).trans ((fun (i : Nat) (_ : i < 136) => rfl) i hi)
  refine R_dup hC dX3_init_8 rfl ?_
  refine R_callI (As := []) hC hR dX3_init_9 MN_X7_init ml_X3_11 (b_X7 (a := 137) TL_special hD1 hn1) rfl (by decide) ⟨by decide, by decide⟩ (Nat.le_of_ble_eq_true rfl) (fun r w2_ hq => ?_)
  obtain ⟨rfl, hD2, hz2⟩ := hq
  have he2 := (hz2 136 (by omega)).trans he1
  have hs2 : ∀ i, i < 136 → w2_.2 i = w.2 i := fun i hi => (hz2 i (by omega)).trans (hs1 i hi)
  refine B_put (n := ((136 + 1) + 2)) (a := 136) (v := .ref (136 + 1)) hC dX3_init_12 fl_X3_12 rfl hD2 List.mem_cons_self h16 (by omega) he2 (Nat.le_of_ble_eq_true rfl) (fun C T N h => by cases h; rfl) (fun _ => ⟨rfl, rfl⟩) (fun w3_ hD3 he3 hz3 => ?_)
  have hs3 : ∀ i, i < 136 → w3_.2 i = w.2 i := fun i hi => (hz3 i (by omega)).trans (hs2 i hi)
  refine R_aload_n (i := 0) hC dX3_init_15 rfl rfl ?_
  refine B_obj (ci := 7) (n := ((136 + 1) + 2)) (fs := df7) hC hR dX3_init_16 nl_X3_9 in_X7 it_X7 rfl cw_X7 tyX7_ok df7_ok.1 df7_ok.2 hD3 (by omega) ⟨by decide, by decide⟩ (fun w4_ hD4 hn4 hz4 => ?_)
  have he4 := (hz4 136 (by omega)).trans he3
  have hs4 : ∀ i, i < 136 → w4_.2 i = w.2 i := fun i hi => (hz4 i (by omega)).trans (hs3 i hi)
  refine R_dup hC dX3_init_19 rfl ?_
  refine R_callI (As := []) hC hR dX3_init_20 MN_X7_init ml_X3_11 (b_X7 (a := 139) TL_moved hD4 hn4) rfl (by decide) ⟨by decide, by decide⟩ (Nat.le_of_ble_eq_true rfl) (fun r w5_ hq => ?_)
  obtain ⟨rfl, hD5, hz5⟩ := hq
  have he5 := (hz5 136 (by omega)).trans he4
  have hs5 : ∀ i, i < 136 → w5_.2 i = w.2 i := fun i hi => (hz5 i (by omega)).trans (hs4 i hi)
  refine B_put (n := (((136 + 1) + 2) + 2)) (a := 136) (v := .ref ((136 + 1) + 2)) hC dX3_init_23 fl_X3_18 rfl hD5 List.mem_cons_self h16 (by omega) he5 (Nat.le_of_ble_eq_true rfl) (fun C T N h => by cases h; rfl) (fun _ => ⟨rfl, rfl⟩) (fun w6_ hD6 he6 hz6 => ?_)
  have hs6 : ∀ i, i < 136 → w6_.2 i = w.2 i := fun i hi => (hz6 i (by omega)).trans (hs5 i hi)
  refine R_aload_n (i := 0) hC dX3_init_26 rfl rfl ?_
  refine R_iconst (v := 5) hC dX3_init_27 (by decide) ?_
  refine R_top (y := nI 5) rfl ?_
  refine B_int (N := 5) (n := (((136 + 1) + 2) + 2)) hC hR dX3_init_28 hD6 (by omega) L_order (by decide) ⟨by decide, by decide⟩ (fun w7_ hD7 hz7 => ?_)
  have he7 := (hz7 136 (by omega)).trans he6
  have hs7 : ∀ i, i < 136 → w7_.2 i = w.2 i := fun i hi => (hz7 i (by omega)).trans (hs6 i hi)
  refine B_put (n := ((((136 + 1) + 2) + 2) + 1)) (a := 136) (v := .ref (((136 + 1) + 2) + 2)) hC dX3_init_30 fl_X3_21 rfl hD7 List.mem_cons_self h16 (by omega) he7 (Nat.le_of_ble_eq_true rfl) (fun C T N h => by cases h; rfl) (fun _ => ⟨rfl, rfl⟩) (fun w8_ hD8 he8 hz8 => ?_)
  have hs8 : ∀ i, i < 136 → w8_.2 i = w.2 i := fun i hi => (hz8 i (by omega)).trans (hs7 i hi)
  exact R_vret hC hT dX3_init_33 rfl ⟨rfl, hD8.done (he8.trans (wdc_at L_pattern).symm), hs8⟩
theorem b_X0 {w : aW}  {ex : List Nat} (hD : DN w (142 + 1) (142 :: ex)) (he : w.2 142 = some (.inr (0, df0))) : Mt mX0_init 1 0 0 [.ref 142] w (fun r w2 => r = none ∧ DN w2 (143) ex ∧ ∀ i, i < 142 → w2.2 i = w.2 i) := by
  refine Mt.of MI_X0_init (Nat.le_of_ble_eq_true rfl) (fun X hC hR hT => ?_)
  have h16 : 16 ≤ 142 := L_dice.1
  have hlt : 142 < 202 := L_dice.2.1
  refine R_aload_n (i := 0) hC dX0_init_0 rfl rfl ?_
  refine R_obj hC hR dX0_init_1 (by decide) ol_X0 oi_i oi_c (Nat.le_of_ble_eq_true rfl) ?_
  exact R_vret hC hT dX0_init_4 rfl ⟨rfl, hD.done (he.trans (wdc_at L_dice).symm), (fun (i : Nat) (_ : i < 142) => rfl)⟩
theorem b_X4 {w : aW} {b : Nat} (hL : SL b) {ex : List Nat} (hD : DN w (b + 1) (b :: ex)) (he : w.2 b = some (.inr (4, df4))) : Mt mX4_init 1 4 48 [.ref b] w (fun r w2 => r = none ∧ DN w2 (b + 5) ex ∧ ∀ i, i < b → w2.2 i = w.2 i) := by
  refine Mt.of MI_X4_init (Nat.le_of_ble_eq_true rfl) (fun X hC hR hT => ?_)
  have h16 : 16 ≤ b := hL.1.1
  have hlt : b < 202 := hL.1.2.1
  refine R_aload_n (i := 0) hC dX4_init_0 rfl rfl ?_
  refine R_obj hC hR dX4_init_1 (by decide) ol_X4 oi_i oi_c (Nat.le_of_ble_eq_true rfl) ?_
  refine R_aload_n (i := 0) hC dX4_init_4 rfl rfl ?_
  refine R_bipush (v := 12) hC dX4_init_5 (by decide) ?_
  refine R_top (y := nI 12) rfl ?_
  refine B_int (N := 12) (n := (b + 1)) hC hR dX4_init_7 hD (by omega) hL.2.1 (by decide) ⟨by decide, by decide⟩ (fun w1_ hD1 hz1 => ?_)
  have he1 := (hz1 b (by omega)).trans he
  have hs1 : ∀ i, i < b → w1_.2 i = w.2 i := fun i hi => (hz1 i (by omega)).trans ((fun (i : Nat) (_ : i < b) => rfl) i hi)
  refine B_put (n := ((b + 1) + 1)) (a := b) (v := .ref (b + 1)) hC dX4_init_9 fl_X4_9 rfl hD1 List.mem_cons_self h16 (by omega) he1 (Nat.le_of_ble_eq_true rfl) (fun C T N h => by cases h; rfl) (fun _ => ⟨rfl, rfl⟩) (fun w2_ hD2 he2 hz2 => ?_)
  have hs2 : ∀ i, i < b → w2_.2 i = w.2 i := fun i hi => (hz2 i (by omega)).trans (hs1 i hi)
  refine R_aload_n (i := 0) hC dX4_init_12 rfl rfl ?_
  refine R_bipush (v := 12) hC dX4_init_13 (by decide) ?_
  refine R_top (y := nI 12) rfl ?_
  refine B_int (N := 12) (n := ((b + 1) + 1)) hC hR dX4_init_15 hD2 (by omega) hL.2.2.1 (by decide) ⟨by decide, by decide⟩ (fun w3_ hD3 hz3 => ?_)
  have he3 := (hz3 b (by omega)).trans he2
  have hs3 : ∀ i, i < b → w3_.2 i = w.2 i := fun i hi => (hz3 i (by omega)).trans (hs2 i hi)
  refine B_put (n := (((b + 1) + 1) + 1)) (a := b) (v := .ref ((b + 1) + 1)) hC dX4_init_17 fl_X4_15 rfl hD3 List.mem_cons_self h16 (by omega) he3 (Nat.le_of_ble_eq_true rfl) (fun C T N h => by cases h; rfl) (fun _ => ⟨rfl, rfl⟩) (fun w4_ hD4 he4 hz4 => ?_)
  have hs4 : ∀ i, i < b → w4_.2 i = w.2 i := fun i hi => (hz4 i (by omega)).trans (hs3 i hi)
  refine R_aload_n (i := 0) hC dX4_init_20 rfl rfl ?_
  refine R_bipush (v := 12) hC dX4_init_21 (by decide) ?_
  refine R_top (y := nI 12) rfl ?_
  refine B_int (N := 12) (n := (((b + 1) + 1) + 1)) hC hR dX4_init_23 hD4 (by omega) hL.2.2.2.1 (by decide) ⟨by decide, by decide⟩ (fun w5_ hD5 hz5 => ?_)
  have he5 := (hz5 b (by omega)).trans he4
  have hs5 : ∀ i, i < b → w5_.2 i = w.2 i := fun i hi => (hz5 i (by omega)).trans (hs4 i hi)
  refine B_put (n := ((((b + 1) + 1) + 1) + 1)) (a := b) (v := .ref (((b + 1) + 1) + 1)) hC dX4_init_25 fl_X4_18 rfl hD5 List.mem_cons_self h16 (by omega) he5 (Nat.le_of_ble_eq_true rfl) (fun C T N h => by cases h; rfl) (fun _ => ⟨rfl, rfl⟩) (fun w6_ hD6 he6 hz6 => ?_)
  have hs6 : ∀ i, i < b → w6_.2 i = w.2 i := fun i hi => (hz6 i (by omega)).trans (hs5 i hi)
  refine R_aload_n (i := 0) hC dX4_init_28 rfl rfl ?_
  refine R_bipush (v := 12) hC dX4_init_29 (by decide) ?_
  refine R_top (y := nI 12) rfl ?_
  refine B_int (N := 12) (n := ((((b + 1) + 1) + 1) + 1)) hC hR dX4_init_31 hD6 (by omega) hL.2.2.2.2 (by decide) ⟨by decide, by decide⟩ (fun w7_ hD7 hz7 => ?_)
  have he7 := (hz7 b (by omega)).trans he6
  have hs7 : ∀ i, i < b → w7_.2 i = w.2 i := fun i hi => (hz7 i (by omega)).trans (hs6 i hi)
  refine B_put (n := (((((b + 1) + 1) + 1) + 1) + 1)) (a := b) (v := .ref ((((b + 1) + 1) + 1) + 1)) hC dX4_init_33 fl_X4_21 rfl hD7 List.mem_cons_self h16 (by omega) he7 (Nat.le_of_ble_eq_true rfl) (fun C T N h => by cases h; rfl) (fun _ => ⟨rfl, rfl⟩) (fun w8_ hD8 he8 hz8 => ?_)
  have hs8 : ∀ i, i < b → w8_.2 i = w.2 i := fun i hi => (hz8 i (by omega)).trans (hs7 i hi)
  exact R_vret hC hT dX4_init_36 rfl ⟨rfl, hD8.done (he8.trans (wdc_at hL.1).symm), hs8⟩
theorem b_X11 {w : aW}  {ex : List Nat} (hD : DN w (176 + 1) (176 :: ex)) (he : w.2 176 = some (.inr (11, df11))) : Mt mX11_init 1 24 6677 [.ref 176] w (fun r w2 => r = none ∧ DN w2 (201) ex ∧ ∀ i, i < 176 → w2.2 i = w.2 i) := by
  refine Mt.of MI_X11_init (Nat.le_of_ble_eq_true rfl) (fun X hC hR hT => ?_)
  have h16 : 16 ≤ 176 := L_M.1
  have hlt : 176 < 202 := L_M.2.1
  refine R_aload_n (i := 0) hC dX11_init_0 rfl rfl ?_
  refine R_obj hC hR dX11_init_1 (by decide) ol_X11 oi_i oi_c (Nat.le_of_ble_eq_true rfl) ?_
  refine R_aload_n (i := 0) hC dX11_init_4 rfl rfl ?_
  refine R_sipush (v := 240) hC dX11_init_5 (by decide) ?_
  refine R_top (y := nI 240) rfl ?_
  refine B_byte (N := 240) (n := (176 + 1)) hC hR dX11_init_8 hD (by omega) L_m_tape (by decide) ⟨by decide, by decide⟩ (fun w1_ hD1 hz1 => ?_)
  have he1 := (hz1 176 (by omega)).trans he
  have hs1 : ∀ i, i < 176 → w1_.2 i = w.2 i := fun i hi => (hz1 i (by omega)).trans ((fun (i : Nat) (_ : i < 176) => rfl) i hi)
  refine B_put (n := ((176 + 1) + 1)) (a := 176) (v := .ref (176 + 1)) hC dX11_init_10 fl_X11_9 rfl hD1 List.mem_cons_self h16 (by omega) he1 (Nat.le_of_ble_eq_true rfl) (fun C T N h => by cases h; rfl) (fun _ => ⟨rfl, rfl⟩) (fun w2_ hD2 he2 hz2 => ?_)
  have hs2 : ∀ i, i < 176 → w2_.2 i = w.2 i := fun i hi => (hz2 i (by omega)).trans (hs1 i hi)
  refine R_aload_n (i := 0) hC dX11_init_13 rfl rfl ?_
  refine R_bipush (v := 38) hC dX11_init_14 (by decide) ?_
  refine R_top (y := nI 38) rfl ?_
  refine B_int (N := 38) (n := ((176 + 1) + 1)) hC hR dX11_init_16 hD2 (by omega) L_m_now (by decide) ⟨by decide, by decide⟩ (fun w3_ hD3 hz3 => ?_)
  have he3 := (hz3 176 (by omega)).trans he2
  have hs3 : ∀ i, i < 176 → w3_.2 i = w.2 i := fun i hi => (hz3 i (by omega)).trans (hs2 i hi)
  refine B_put (n := (((176 + 1) + 1) + 1)) (a := 176) (v := .ref ((176 + 1) + 1)) hC dX11_init_18 fl_X11_13 rfl hD3 List.mem_cons_self h16 (by omega) he3 (Nat.le_of_ble_eq_true rfl) (fun C T N h => by cases h; rfl) (fun _ => ⟨rfl, rfl⟩) (fun w4_ hD4 he4 hz4 => ?_)
  have hs4 : ∀ i, i < 176 → w4_.2 i = w.2 i := fun i hi => (hz4 i (by omega)).trans (hs3 i hi)
  refine R_aload_n (i := 0) hC dX11_init_21 rfl rfl ?_
  refine R_bipush (v := 38) hC dX11_init_22 (by decide) ?_
  refine R_top (y := nI 38) rfl ?_
  refine B_int (N := 38) (n := (((176 + 1) + 1) + 1)) hC hR dX11_init_24 hD4 (by omega) L_m_read (by decide) ⟨by decide, by decide⟩ (fun w5_ hD5 hz5 => ?_)
  have he5 := (hz5 176 (by omega)).trans he4
  have hs5 : ∀ i, i < 176 → w5_.2 i = w.2 i := fun i hi => (hz5 i (by omega)).trans (hs4 i hi)
  refine B_put (n := ((((176 + 1) + 1) + 1) + 1)) (a := 176) (v := .ref (((176 + 1) + 1) + 1)) hC dX11_init_26 fl_X11_17 rfl hD5 List.mem_cons_self h16 (by omega) he5 (Nat.le_of_ble_eq_true rfl) (fun C T N h => by cases h; rfl) (fun _ => ⟨rfl, rfl⟩) (fun w6_ hD6 he6 hz6 => ?_)
  have hs6 : ∀ i, i < 176 → w6_.2 i = w.2 i := fun i hi => (hz6 i (by omega)).trans (hs5 i hi)
  refine R_aload_n (i := 0) hC dX11_init_29 rfl rfl ?_
  refine R_bipush (v := 38) hC dX11_init_30 (by decide) ?_
  refine R_top (y := nI 38) rfl ?_
  refine B_int (N := 38) (n := ((((176 + 1) + 1) + 1) + 1)) hC hR dX11_init_32 hD6 (by omega) L_m_trial (by decide) ⟨by decide, by decide⟩ (fun w7_ hD7 hz7 => ?_)
  have he7 := (hz7 176 (by omega)).trans he6
  have hs7 : ∀ i, i < 176 → w7_.2 i = w.2 i := fun i hi => (hz7 i (by omega)).trans (hs6 i hi)
  refine B_put (n := (((((176 + 1) + 1) + 1) + 1) + 1)) (a := 176) (v := .ref ((((176 + 1) + 1) + 1) + 1)) hC dX11_init_34 fl_X11_20 rfl hD7 List.mem_cons_self h16 (by omega) he7 (Nat.le_of_ble_eq_true rfl) (fun C T N h => by cases h; rfl) (fun _ => ⟨rfl, rfl⟩) (fun w8_ hD8 he8 hz8 => ?_)
  have hs8 : ∀ i, i < 176 → w8_.2 i = w.2 i := fun i hi => (hz8 i (by omega)).trans (hs7 i hi)
  refine R_aload_n (i := 0) hC dX11_init_37 rfl rfl ?_
  refine R_sipush (v := 152) hC dX11_init_38 (by decide) ?_
  refine R_top (y := nI 152) rfl ?_
  refine B_int (N := 152) (n := (((((176 + 1) + 1) + 1) + 1) + 1)) hC hR dX11_init_41 hD8 (by omega) L_m_kept (by decide) ⟨by decide, by decide⟩ (fun w9_ hD9 hz9 => ?_)
  have he9 := (hz9 176 (by omega)).trans he8
  have hs9 : ∀ i, i < 176 → w9_.2 i = w.2 i := fun i hi => (hz9 i (by omega)).trans (hs8 i hi)
  refine B_put (n := ((((((176 + 1) + 1) + 1) + 1) + 1) + 1)) (a := 176) (v := .ref (((((176 + 1) + 1) + 1) + 1) + 1)) hC dX11_init_43 fl_X11_23 rfl hD9 List.mem_cons_self h16 (by omega) he9 (Nat.le_of_ble_eq_true rfl) (fun C T N h => by cases h; rfl) (fun _ => ⟨rfl, rfl⟩) (fun w10_ hD10 he10 hz10 => ?_)
  have hs10 : ∀ i, i < 176 → w10_.2 i = w.2 i := fun i hi => (hz10 i (by omega)).trans (hs9 i hi)
  refine R_aload_n (i := 0) hC dX11_init_46 rfl rfl ?_
  refine R_sipush (v := 240) hC dX11_init_47 (by decide) ?_
  refine R_top (y := nI 240) rfl ?_
  refine B_int (N := 240) (n := ((((((176 + 1) + 1) + 1) + 1) + 1) + 1)) hC hR dX11_init_50 hD10 (by omega) L_m_plan (by decide) ⟨by decide, by decide⟩ (fun w11_ hD11 hz11 => ?_)
  have he11 := (hz11 176 (by omega)).trans he10
  have hs11 : ∀ i, i < 176 → w11_.2 i = w.2 i := fun i hi => (hz11 i (by omega)).trans (hs10 i hi)
  refine B_put (n := (((((((176 + 1) + 1) + 1) + 1) + 1) + 1) + 1)) (a := 176) (v := .ref ((((((176 + 1) + 1) + 1) + 1) + 1) + 1)) hC dX11_init_52 fl_X11_26 rfl hD11 List.mem_cons_self h16 (by omega) he11 (Nat.le_of_ble_eq_true rfl) (fun C T N h => by cases h; rfl) (fun _ => ⟨rfl, rfl⟩) (fun w12_ hD12 he12 hz12 => ?_)
  have hs12 : ∀ i, i < 176 → w12_.2 i = w.2 i := fun i hi => (hz12 i (by omega)).trans (hs11 i hi)
  refine R_aload_n (i := 0) hC dX11_init_55 rfl rfl ?_
  refine R_iconst (v := 5) hC dX11_init_56 (by decide) ?_
  refine R_top (y := nI 5) rfl ?_
  refine B_int (N := 5) (n := (((((((176 + 1) + 1) + 1) + 1) + 1) + 1) + 1)) hC hR dX11_init_57 hD12 (by omega) L_m_planLong (by decide) ⟨by decide, by decide⟩ (fun w13_ hD13 hz13 => ?_)
  have he13 := (hz13 176 (by omega)).trans he12
  have hs13 : ∀ i, i < 176 → w13_.2 i = w.2 i := fun i hi => (hz13 i (by omega)).trans (hs12 i hi)
  refine B_put (n := ((((((((176 + 1) + 1) + 1) + 1) + 1) + 1) + 1) + 1)) (a := 176) (v := .ref (((((((176 + 1) + 1) + 1) + 1) + 1) + 1) + 1)) hC dX11_init_59 fl_X11_29 rfl hD13 List.mem_cons_self h16 (by omega) he13 (Nat.le_of_ble_eq_true rfl) (fun C T N h => by cases h; rfl) (fun _ => ⟨rfl, rfl⟩) (fun w14_ hD14 he14 hz14 => ?_)
  have hs14 : ∀ i, i < 176 → w14_.2 i = w.2 i := fun i hi => (hz14 i (by omega)).trans (hs13 i hi)
  refine R_aload_n (i := 0) hC dX11_init_62 rfl rfl ?_
  refine R_iconst (v := 4) hC dX11_init_63 (by decide) ?_
  refine R_top (y := nI 4) rfl ?_
  refine B_int (N := 4) (n := ((((((((176 + 1) + 1) + 1) + 1) + 1) + 1) + 1) + 1)) hC hR dX11_init_64 hD14 (by omega) L_m_status (by decide) ⟨by decide, by decide⟩ (fun w15_ hD15 hz15 => ?_)
  have he15 := (hz15 176 (by omega)).trans he14
  have hs15 : ∀ i, i < 176 → w15_.2 i = w.2 i := fun i hi => (hz15 i (by omega)).trans (hs14 i hi)
  refine B_put (n := (((((((((176 + 1) + 1) + 1) + 1) + 1) + 1) + 1) + 1) + 1)) (a := 176) (v := .ref ((((((((176 + 1) + 1) + 1) + 1) + 1) + 1) + 1) + 1)) hC dX11_init_66 fl_X11_32 rfl hD15 List.mem_cons_self h16 (by omega) he15 (Nat.le_of_ble_eq_true rfl) (fun C T N h => by cases h; rfl) (fun _ => ⟨rfl, rfl⟩) (fun w16_ hD16 he16 hz16 => ?_)
  have hs16 : ∀ i, i < 176 → w16_.2 i = w.2 i := fun i hi => (hz16 i (by omega)).trans (hs15 i hi)
  refine R_aload_n (i := 0) hC dX11_init_69 rfl rfl ?_
  refine R_sipush (v := 1520) hC dX11_init_70 (by decide) ?_
  refine R_top (y := nI 1520) rfl ?_
  refine B_int (N := 1520) (n := (((((((((176 + 1) + 1) + 1) + 1) + 1) + 1) + 1) + 1) + 1)) hC hR dX11_init_73 hD16 (by omega) L_m_undoRow (by decide) ⟨by decide, by decide⟩ (fun w17_ hD17 hz17 => ?_)
  have he17 := (hz17 176 (by omega)).trans he16
  have hs17 : ∀ i, i < 176 → w17_.2 i = w.2 i := fun i hi => (hz17 i (by omega)).trans (hs16 i hi)
  refine B_put (n := ((((((((((176 + 1) + 1) + 1) + 1) + 1) + 1) + 1) + 1) + 1) + 1)) (a := 176) (v := .ref (((((((((176 + 1) + 1) + 1) + 1) + 1) + 1) + 1) + 1) + 1)) hC dX11_init_75 fl_X11_35 rfl hD17 List.mem_cons_self h16 (by omega) he17 (Nat.le_of_ble_eq_true rfl) (fun C T N h => by cases h; rfl) (fun _ => ⟨rfl, rfl⟩) (fun w18_ hD18 he18 hz18 => ?_)
  have hs18 : ∀ i, i < 176 → w18_.2 i = w.2 i := fun i hi => (hz18 i (by omega)).trans (hs17 i hi)
  refine R_aload_n (i := 0) hC dX11_init_78 rfl rfl ?_
  refine R_sipush (v := 4096) hC dX11_init_79 (by decide) ?_
  refine R_top (y := nI 4096) rfl ?_
  refine B_int (N := 4096) (n := ((((((((((176 + 1) + 1) + 1) + 1) + 1) + 1) + 1) + 1) + 1) + 1)) hC hR dX11_init_82 hD18 (by omega) L_m_dets (by decide) ⟨by decide, by decide⟩ (fun w19_ hD19 hz19 => ?_)
  have he19 := (hz19 176 (by omega)).trans he18
  have hs19 : ∀ i, i < 176 → w19_.2 i = w.2 i := fun i hi => (hz19 i (by omega)).trans (hs18 i hi)
  refine B_put (n := (((((((((((176 + 1) + 1) + 1) + 1) + 1) + 1) + 1) + 1) + 1) + 1) + 1)) (a := 176) (v := .ref ((((((((((176 + 1) + 1) + 1) + 1) + 1) + 1) + 1) + 1) + 1) + 1)) hC dX11_init_84 fl_X11_38 rfl hD19 List.mem_cons_self h16 (by omega) he19 (Nat.le_of_ble_eq_true rfl) (fun C T N h => by cases h; rfl) (fun _ => ⟨rfl, rfl⟩) (fun w20_ hD20 he20 hz20 => ?_)
  have hs20 : ∀ i, i < 176 → w20_.2 i = w.2 i := fun i hi => (hz20 i (by omega)).trans (hs19 i hi)
  refine R_aload_n (i := 0) hC dX11_init_87 rfl rfl ?_
  refine R_bipush (v := 12) hC dX11_init_88 (by decide) ?_
  refine R_top (y := nI 12) rfl ?_
  refine B_int (N := 12) (n := (((((((((((176 + 1) + 1) + 1) + 1) + 1) + 1) + 1) + 1) + 1) + 1) + 1)) hC hR dX11_init_90 hD20 (by omega) L_m_from (by decide) ⟨by decide, by decide⟩ (fun w21_ hD21 hz21 => ?_)
  have he21 := (hz21 176 (by omega)).trans he20
  have hs21 : ∀ i, i < 176 → w21_.2 i = w.2 i := fun i hi => (hz21 i (by omega)).trans (hs20 i hi)
  refine B_put (n := ((((((((((((176 + 1) + 1) + 1) + 1) + 1) + 1) + 1) + 1) + 1) + 1) + 1) + 1)) (a := 176) (v := .ref (((((((((((176 + 1) + 1) + 1) + 1) + 1) + 1) + 1) + 1) + 1) + 1) + 1)) hC dX11_init_92 fl_X11_41 rfl hD21 List.mem_cons_self h16 (by omega) he21 (Nat.le_of_ble_eq_true rfl) (fun C T N h => by cases h; rfl) (fun _ => ⟨rfl, rfl⟩) (fun w22_ hD22 he22 hz22 => ?_)
  have hs22 : ∀ i, i < 176 → w22_.2 i = w.2 i := fun i hi => (hz22 i (by omega)).trans (hs21 i hi)
  refine R_aload_n (i := 0) hC dX11_init_95 rfl rfl ?_
  refine R_bipush (v := 12) hC dX11_init_96 (by decide) ?_
  refine R_top (y := nI 12) rfl ?_
  refine B_int (N := 12) (n := ((((((((((((176 + 1) + 1) + 1) + 1) + 1) + 1) + 1) + 1) + 1) + 1) + 1) + 1)) hC hR dX11_init_98 hD22 (by omega) L_m_to (by decide) ⟨by decide, by decide⟩ (fun w23_ hD23 hz23 => ?_)
  have he23 := (hz23 176 (by omega)).trans he22
  have hs23 : ∀ i, i < 176 → w23_.2 i = w.2 i := fun i hi => (hz23 i (by omega)).trans (hs22 i hi)
  refine B_put (n := (((((((((((((176 + 1) + 1) + 1) + 1) + 1) + 1) + 1) + 1) + 1) + 1) + 1) + 1) + 1)) (a := 176) (v := .ref ((((((((((((176 + 1) + 1) + 1) + 1) + 1) + 1) + 1) + 1) + 1) + 1) + 1) + 1)) hC dX11_init_100 fl_X11_44 rfl hD23 List.mem_cons_self h16 (by omega) he23 (Nat.le_of_ble_eq_true rfl) (fun C T N h => by cases h; rfl) (fun _ => ⟨rfl, rfl⟩) (fun w24_ hD24 he24 hz24 => ?_)
  have hs24 : ∀ i, i < 176 → w24_.2 i = w.2 i := fun i hi => (hz24 i (by omega)).trans (hs23 i hi)
  refine R_aload_n (i := 0) hC dX11_init_103 rfl rfl ?_
  refine R_bipush (v := 38) hC dX11_init_104 (by decide) ?_
  refine R_top (y := nI 38) rfl ?_
  refine B_int (N := 38) (n := (((((((((((((176 + 1) + 1) + 1) + 1) + 1) + 1) + 1) + 1) + 1) + 1) + 1) + 1) + 1)) hC hR dX11_init_106 hD24 (by omega) L_m_treeRow (by decide) ⟨by decide, by decide⟩ (fun w25_ hD25 hz25 => ?_)
  have he25 := (hz25 176 (by omega)).trans he24
  have hs25 : ∀ i, i < 176 → w25_.2 i = w.2 i := fun i hi => (hz25 i (by omega)).trans (hs24 i hi)
  refine B_put (n := ((((((((((((((176 + 1) + 1) + 1) + 1) + 1) + 1) + 1) + 1) + 1) + 1) + 1) + 1) + 1) + 1)) (a := 176) (v := .ref (((((((((((((176 + 1) + 1) + 1) + 1) + 1) + 1) + 1) + 1) + 1) + 1) + 1) + 1) + 1)) hC dX11_init_108 fl_X11_47 rfl hD25 List.mem_cons_self h16 (by omega) he25 (Nat.le_of_ble_eq_true rfl) (fun C T N h => by cases h; rfl) (fun _ => ⟨rfl, rfl⟩) (fun w26_ hD26 he26 hz26 => ?_)
  have hs26 : ∀ i, i < 176 → w26_.2 i = w.2 i := fun i hi => (hz26 i (by omega)).trans (hs25 i hi)
  refine R_aload_n (i := 0) hC dX11_init_111 rfl rfl ?_
  refine R_bipush (v := 6) hC dX11_init_112 (by decide) ?_
  refine R_top (y := nI 6) rfl ?_
  refine B_int (N := 6) (n := ((((((((((((((176 + 1) + 1) + 1) + 1) + 1) + 1) + 1) + 1) + 1) + 1) + 1) + 1) + 1) + 1)) hC hR dX11_init_114 hD26 (by omega) L_m_walk (by decide) ⟨by decide, by decide⟩ (fun w27_ hD27 hz27 => ?_)
  have he27 := (hz27 176 (by omega)).trans he26
  have hs27 : ∀ i, i < 176 → w27_.2 i = w.2 i := fun i hi => (hz27 i (by omega)).trans (hs26 i hi)
  refine B_put (n := (((((((((((((((176 + 1) + 1) + 1) + 1) + 1) + 1) + 1) + 1) + 1) + 1) + 1) + 1) + 1) + 1) + 1)) (a := 176) (v := .ref ((((((((((((((176 + 1) + 1) + 1) + 1) + 1) + 1) + 1) + 1) + 1) + 1) + 1) + 1) + 1) + 1)) hC dX11_init_116 fl_X11_50 rfl hD27 List.mem_cons_self h16 (by omega) he27 (Nat.le_of_ble_eq_true rfl) (fun C T N h => by cases h; rfl) (fun _ => ⟨rfl, rfl⟩) (fun w28_ hD28 he28 hz28 => ?_)
  have hs28 : ∀ i, i < 176 → w28_.2 i = w.2 i := fun i hi => (hz28 i (by omega)).trans (hs27 i hi)
  refine R_aload_n (i := 0) hC dX11_init_119 rfl rfl ?_
  refine R_bipush (v := 12) hC dX11_init_120 (by decide) ?_
  refine R_top (y := nI 12) rfl ?_
  refine B_int (N := 12) (n := (((((((((((((((176 + 1) + 1) + 1) + 1) + 1) + 1) + 1) + 1) + 1) + 1) + 1) + 1) + 1) + 1) + 1)) hC hR dX11_init_122 hD28 (by omega) L_m_part (by decide) ⟨by decide, by decide⟩ (fun w29_ hD29 hz29 => ?_)
  have he29 := (hz29 176 (by omega)).trans he28
  have hs29 : ∀ i, i < 176 → w29_.2 i = w.2 i := fun i hi => (hz29 i (by omega)).trans (hs28 i hi)
  refine B_put (n := ((((((((((((((((176 + 1) + 1) + 1) + 1) + 1) + 1) + 1) + 1) + 1) + 1) + 1) + 1) + 1) + 1) + 1) + 1)) (a := 176) (v := .ref (((((((((((((((176 + 1) + 1) + 1) + 1) + 1) + 1) + 1) + 1) + 1) + 1) + 1) + 1) + 1) + 1) + 1)) hC dX11_init_124 fl_X11_53 rfl hD29 List.mem_cons_self h16 (by omega) he29 (Nat.le_of_ble_eq_true rfl) (fun C T N h => by cases h; rfl) (fun _ => ⟨rfl, rfl⟩) (fun w30_ hD30 he30 hz30 => ?_)
  have hs30 : ∀ i, i < 176 → w30_.2 i = w.2 i := fun i hi => (hz30 i (by omega)).trans (hs29 i hi)
  refine R_aload_n (i := 0) hC dX11_init_127 rfl rfl ?_
  refine R_bipush (v := 12) hC dX11_init_128 (by decide) ?_
  refine R_top (y := nI 12) rfl ?_
  refine B_int (N := 12) (n := ((((((((((((((((176 + 1) + 1) + 1) + 1) + 1) + 1) + 1) + 1) + 1) + 1) + 1) + 1) + 1) + 1) + 1) + 1)) hC hR dX11_init_130 hD30 (by omega) L_m_steps (by decide) ⟨by decide, by decide⟩ (fun w31_ hD31 hz31 => ?_)
  have he31 := (hz31 176 (by omega)).trans he30
  have hs31 : ∀ i, i < 176 → w31_.2 i = w.2 i := fun i hi => (hz31 i (by omega)).trans (hs30 i hi)
  refine B_put (n := (((((((((((((((((176 + 1) + 1) + 1) + 1) + 1) + 1) + 1) + 1) + 1) + 1) + 1) + 1) + 1) + 1) + 1) + 1) + 1)) (a := 176) (v := .ref ((((((((((((((((176 + 1) + 1) + 1) + 1) + 1) + 1) + 1) + 1) + 1) + 1) + 1) + 1) + 1) + 1) + 1) + 1)) hC dX11_init_132 fl_X11_56 rfl hD31 List.mem_cons_self h16 (by omega) he31 (Nat.le_of_ble_eq_true rfl) (fun C T N h => by cases h; rfl) (fun _ => ⟨rfl, rfl⟩) (fun w32_ hD32 he32 hz32 => ?_)
  have hs32 : ∀ i, i < 176 → w32_.2 i = w.2 i := fun i hi => (hz32 i (by omega)).trans (hs31 i hi)
  refine R_aload_n (i := 0) hC dX11_init_135 rfl rfl ?_
  refine R_bipush (v := 38) hC dX11_init_136 (by decide) ?_
  refine R_top (y := nI 38) rfl ?_
  refine B_int (N := 38) (n := (((((((((((((((((176 + 1) + 1) + 1) + 1) + 1) + 1) + 1) + 1) + 1) + 1) + 1) + 1) + 1) + 1) + 1) + 1) + 1)) hC hR dX11_init_138 hD32 (by omega) L_m_sign (by decide) ⟨by decide, by decide⟩ (fun w33_ hD33 hz33 => ?_)
  have he33 := (hz33 176 (by omega)).trans he32
  have hs33 : ∀ i, i < 176 → w33_.2 i = w.2 i := fun i hi => (hz33 i (by omega)).trans (hs32 i hi)
  refine B_put (n := ((((((((((((((((((176 + 1) + 1) + 1) + 1) + 1) + 1) + 1) + 1) + 1) + 1) + 1) + 1) + 1) + 1) + 1) + 1) + 1) + 1)) (a := 176) (v := .ref (((((((((((((((((176 + 1) + 1) + 1) + 1) + 1) + 1) + 1) + 1) + 1) + 1) + 1) + 1) + 1) + 1) + 1) + 1) + 1)) hC dX11_init_140 fl_X11_59 rfl hD33 List.mem_cons_self h16 (by omega) he33 (Nat.le_of_ble_eq_true rfl) (fun C T N h => by cases h; rfl) (fun _ => ⟨rfl, rfl⟩) (fun w34_ hD34 he34 hz34 => ?_)
  have hs34 : ∀ i, i < 176 → w34_.2 i = w.2 i := fun i hi => (hz34 i (by omega)).trans (hs33 i hi)
  refine R_aload_n (i := 0) hC dX11_init_143 rfl rfl ?_
  refine R_bipush (v := 12) hC dX11_init_144 (by decide) ?_
  refine R_top (y := nI 12) rfl ?_
  refine B_int (N := 12) (n := ((((((((((((((((((176 + 1) + 1) + 1) + 1) + 1) + 1) + 1) + 1) + 1) + 1) + 1) + 1) + 1) + 1) + 1) + 1) + 1) + 1)) hC hR dX11_init_146 hD34 (by omega) L_m_factor (by decide) ⟨by decide, by decide⟩ (fun w35_ hD35 hz35 => ?_)
  have he35 := (hz35 176 (by omega)).trans he34
  have hs35 : ∀ i, i < 176 → w35_.2 i = w.2 i := fun i hi => (hz35 i (by omega)).trans (hs34 i hi)
  refine B_put (n := (((((((((((((((((((176 + 1) + 1) + 1) + 1) + 1) + 1) + 1) + 1) + 1) + 1) + 1) + 1) + 1) + 1) + 1) + 1) + 1) + 1) + 1)) (a := 176) (v := .ref ((((((((((((((((((176 + 1) + 1) + 1) + 1) + 1) + 1) + 1) + 1) + 1) + 1) + 1) + 1) + 1) + 1) + 1) + 1) + 1) + 1)) hC dX11_init_148 fl_X11_62 rfl hD35 List.mem_cons_self h16 (by omega) he35 (Nat.le_of_ble_eq_true rfl) (fun C T N h => by cases h; rfl) (fun _ => ⟨rfl, rfl⟩) (fun w36_ hD36 he36 hz36 => ?_)
  have hs36 : ∀ i, i < 176 → w36_.2 i = w.2 i := fun i hi => (hz36 i (by omega)).trans (hs35 i hi)
  refine R_aload_n (i := 0) hC dX11_init_151 rfl rfl ?_
  refine R_bipush (v := 38) hC dX11_init_152 (by decide) ?_
  refine R_top (y := nI 38) rfl ?_
  refine B_int (N := 38) (n := (((((((((((((((((((176 + 1) + 1) + 1) + 1) + 1) + 1) + 1) + 1) + 1) + 1) + 1) + 1) + 1) + 1) + 1) + 1) + 1) + 1) + 1)) hC hR dX11_init_154 hD36 (by omega) L_m_goal (by decide) ⟨by decide, by decide⟩ (fun w37_ hD37 hz37 => ?_)
  have he37 := (hz37 176 (by omega)).trans he36
  have hs37 : ∀ i, i < 176 → w37_.2 i = w.2 i := fun i hi => (hz37 i (by omega)).trans (hs36 i hi)
  refine B_put (n := ((((((((((((((((((((176 + 1) + 1) + 1) + 1) + 1) + 1) + 1) + 1) + 1) + 1) + 1) + 1) + 1) + 1) + 1) + 1) + 1) + 1) + 1) + 1)) (a := 176) (v := .ref (((((((((((((((((((176 + 1) + 1) + 1) + 1) + 1) + 1) + 1) + 1) + 1) + 1) + 1) + 1) + 1) + 1) + 1) + 1) + 1) + 1) + 1)) hC dX11_init_156 fl_X11_65 rfl hD37 List.mem_cons_self h16 (by omega) he37 (Nat.le_of_ble_eq_true rfl) (fun C T N h => by cases h; rfl) (fun _ => ⟨rfl, rfl⟩) (fun w38_ hD38 he38 hz38 => ?_)
  have hs38 : ∀ i, i < 176 → w38_.2 i = w.2 i := fun i hi => (hz38 i (by omega)).trans (hs37 i hi)
  refine R_aload_n (i := 0) hC dX11_init_159 rfl rfl ?_
  refine R_bipush (v := 38) hC dX11_init_160 (by decide) ?_
  refine R_top (y := nI 38) rfl ?_
  refine B_int (N := 38) (n := ((((((((((((((((((((176 + 1) + 1) + 1) + 1) + 1) + 1) + 1) + 1) + 1) + 1) + 1) + 1) + 1) + 1) + 1) + 1) + 1) + 1) + 1) + 1)) hC hR dX11_init_162 hD38 (by omega) L_m_laid (by decide) ⟨by decide, by decide⟩ (fun w39_ hD39 hz39 => ?_)
  have he39 := (hz39 176 (by omega)).trans he38
  have hs39 : ∀ i, i < 176 → w39_.2 i = w.2 i := fun i hi => (hz39 i (by omega)).trans (hs38 i hi)
  refine B_put (n := (((((((((((((((((((((176 + 1) + 1) + 1) + 1) + 1) + 1) + 1) + 1) + 1) + 1) + 1) + 1) + 1) + 1) + 1) + 1) + 1) + 1) + 1) + 1) + 1)) (a := 176) (v := .ref ((((((((((((((((((((176 + 1) + 1) + 1) + 1) + 1) + 1) + 1) + 1) + 1) + 1) + 1) + 1) + 1) + 1) + 1) + 1) + 1) + 1) + 1) + 1)) hC dX11_init_164 fl_X11_68 rfl hD39 List.mem_cons_self h16 (by omega) he39 (Nat.le_of_ble_eq_true rfl) (fun C T N h => by cases h; rfl) (fun _ => ⟨rfl, rfl⟩) (fun w40_ hD40 he40 hz40 => ?_)
  have hs40 : ∀ i, i < 176 → w40_.2 i = w.2 i := fun i hi => (hz40 i (by omega)).trans (hs39 i hi)
  refine R_aload_n (i := 0) hC dX11_init_167 rfl rfl ?_
  refine R_bipush (v := 6) hC dX11_init_168 (by decide) ?_
  refine R_top (y := nI 6) rfl ?_
  refine B_int (N := 6) (n := (((((((((((((((((((((176 + 1) + 1) + 1) + 1) + 1) + 1) + 1) + 1) + 1) + 1) + 1) + 1) + 1) + 1) + 1) + 1) + 1) + 1) + 1) + 1) + 1)) hC hR dX11_init_170 hD40 (by omega) L_m_rowsLaid (by decide) ⟨by decide, by decide⟩ (fun w41_ hD41 hz41 => ?_)
  have he41 := (hz41 176 (by omega)).trans he40
  have hs41 : ∀ i, i < 176 → w41_.2 i = w.2 i := fun i hi => (hz41 i (by omega)).trans (hs40 i hi)
  refine B_put (n := ((((((((((((((((((((((176 + 1) + 1) + 1) + 1) + 1) + 1) + 1) + 1) + 1) + 1) + 1) + 1) + 1) + 1) + 1) + 1) + 1) + 1) + 1) + 1) + 1) + 1)) (a := 176) (v := .ref (((((((((((((((((((((176 + 1) + 1) + 1) + 1) + 1) + 1) + 1) + 1) + 1) + 1) + 1) + 1) + 1) + 1) + 1) + 1) + 1) + 1) + 1) + 1) + 1)) hC dX11_init_172 fl_X11_71 rfl hD41 List.mem_cons_self h16 (by omega) he41 (Nat.le_of_ble_eq_true rfl) (fun C T N h => by cases h; rfl) (fun _ => ⟨rfl, rfl⟩) (fun w42_ hD42 he42 hz42 => ?_)
  have hs42 : ∀ i, i < 176 → w42_.2 i = w.2 i := fun i hi => (hz42 i (by omega)).trans (hs41 i hi)
  refine R_aload_n (i := 0) hC dX11_init_175 rfl rfl ?_
  refine R_bipush (v := 6) hC dX11_init_176 (by decide) ?_
  refine R_top (y := nI 6) rfl ?_
  refine B_int (N := 6) (n := ((((((((((((((((((((((176 + 1) + 1) + 1) + 1) + 1) + 1) + 1) + 1) + 1) + 1) + 1) + 1) + 1) + 1) + 1) + 1) + 1) + 1) + 1) + 1) + 1) + 1)) hC hR dX11_init_178 hD42 (by omega) L_m_columnsLaid (by decide) ⟨by decide, by decide⟩ (fun w43_ hD43 hz43 => ?_)
  have he43 := (hz43 176 (by omega)).trans he42
  have hs43 : ∀ i, i < 176 → w43_.2 i = w.2 i := fun i hi => (hz43 i (by omega)).trans (hs42 i hi)
  refine B_put (n := (((((((((((((((((((((((176 + 1) + 1) + 1) + 1) + 1) + 1) + 1) + 1) + 1) + 1) + 1) + 1) + 1) + 1) + 1) + 1) + 1) + 1) + 1) + 1) + 1) + 1) + 1)) (a := 176) (v := .ref ((((((((((((((((((((((176 + 1) + 1) + 1) + 1) + 1) + 1) + 1) + 1) + 1) + 1) + 1) + 1) + 1) + 1) + 1) + 1) + 1) + 1) + 1) + 1) + 1) + 1)) hC dX11_init_180 fl_X11_74 rfl hD43 List.mem_cons_self h16 (by omega) he43 (Nat.le_of_ble_eq_true rfl) (fun C T N h => by cases h; rfl) (fun _ => ⟨rfl, rfl⟩) (fun w44_ hD44 he44 hz44 => ?_)
  have hs44 : ∀ i, i < 176 → w44_.2 i = w.2 i := fun i hi => (hz44 i (by omega)).trans (hs43 i hi)
  refine R_aload_n (i := 0) hC dX11_init_183 rfl rfl ?_
  refine R_bipush (v := 38) hC dX11_init_184 (by decide) ?_
  refine R_top (y := nI 38) rfl ?_
  refine B_int (N := 38) (n := (((((((((((((((((((((((176 + 1) + 1) + 1) + 1) + 1) + 1) + 1) + 1) + 1) + 1) + 1) + 1) + 1) + 1) + 1) + 1) + 1) + 1) + 1) + 1) + 1) + 1) + 1)) hC hR dX11_init_186 hD44 (by omega) L_m_apart (by decide) ⟨by decide, by decide⟩ (fun w45_ hD45 hz45 => ?_)
  have he45 := (hz45 176 (by omega)).trans he44
  have hs45 : ∀ i, i < 176 → w45_.2 i = w.2 i := fun i hi => (hz45 i (by omega)).trans (hs44 i hi)
  refine B_put (n := ((((((((((((((((((((((((176 + 1) + 1) + 1) + 1) + 1) + 1) + 1) + 1) + 1) + 1) + 1) + 1) + 1) + 1) + 1) + 1) + 1) + 1) + 1) + 1) + 1) + 1) + 1) + 1)) (a := 176) (v := .ref (((((((((((((((((((((((176 + 1) + 1) + 1) + 1) + 1) + 1) + 1) + 1) + 1) + 1) + 1) + 1) + 1) + 1) + 1) + 1) + 1) + 1) + 1) + 1) + 1) + 1) + 1)) hC dX11_init_188 fl_X11_77 rfl hD45 List.mem_cons_self h16 (by omega) he45 (Nat.le_of_ble_eq_true rfl) (fun C T N h => by cases h; rfl) (fun _ => ⟨rfl, rfl⟩) (fun w46_ hD46 he46 hz46 => ?_)
  have hs46 : ∀ i, i < 176 → w46_.2 i = w.2 i := fun i hi => (hz46 i (by omega)).trans (hs45 i hi)
  refine R_aload_n (i := 0) hC dX11_init_191 rfl rfl ?_
  refine R_bipush (v := 38) hC dX11_init_192 (by decide) ?_
  refine R_top (y := nI 38) rfl ?_
  refine B_int (N := 38) (n := ((((((((((((((((((((((((176 + 1) + 1) + 1) + 1) + 1) + 1) + 1) + 1) + 1) + 1) + 1) + 1) + 1) + 1) + 1) + 1) + 1) + 1) + 1) + 1) + 1) + 1) + 1) + 1)) hC hR dX11_init_194 hD46 (by omega) L_m_imageRow (by decide) ⟨by decide, by decide⟩ (fun w47_ hD47 hz47 => ?_)
  have he47 := (hz47 176 (by omega)).trans he46
  have hs47 : ∀ i, i < 176 → w47_.2 i = w.2 i := fun i hi => (hz47 i (by omega)).trans (hs46 i hi)
  refine B_put (n := (((((((((((((((((((((((((176 + 1) + 1) + 1) + 1) + 1) + 1) + 1) + 1) + 1) + 1) + 1) + 1) + 1) + 1) + 1) + 1) + 1) + 1) + 1) + 1) + 1) + 1) + 1) + 1) + 1)) (a := 176) (v := .ref ((((((((((((((((((((((((176 + 1) + 1) + 1) + 1) + 1) + 1) + 1) + 1) + 1) + 1) + 1) + 1) + 1) + 1) + 1) + 1) + 1) + 1) + 1) + 1) + 1) + 1) + 1) + 1)) hC dX11_init_196 fl_X11_80 rfl hD47 List.mem_cons_self h16 (by omega) he47 (Nat.le_of_ble_eq_true rfl) (fun C T N h => by cases h; rfl) (fun _ => ⟨rfl, rfl⟩) (fun w48_ hD48 he48 hz48 => ?_)
  have hs48 : ∀ i, i < 176 → w48_.2 i = w.2 i := fun i hi => (hz48 i (by omega)).trans (hs47 i hi)
  exact R_vret hC hT dX11_init_199 rfl ⟨rfl, hD48.done (he48.trans (wdc_at L_M).symm), hs48⟩

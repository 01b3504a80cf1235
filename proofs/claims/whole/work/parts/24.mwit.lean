theorem dX11_witness_0 : decode cX11_witness 0 = .ok (.aload_n 0, 1) := by decide +kernel
theorem dX11_witness_1 : decode cX11_witness 1 = .ok (.iconst 0, 1) := by decide +kernel
theorem dX11_witness_2 : decode cX11_witness 2 = .ok (.putfield 83, 3) := by decide +kernel
theorem dX11_witness_5 : decode cX11_witness 5 = .ok (.aload_n 0, 1) := by decide +kernel
theorem dX11_witness_6 : decode cX11_witness 6 = .ok (.getfield 13, 3) := by decide +kernel
theorem dX11_witness_9 : decode cX11_witness 9 = .ok (.bipush 36, 2) := by decide +kernel
theorem dX11_witness_11 : decode cX11_witness 11 = .ok (.iaload, 1) := by decide +kernel
theorem dX11_witness_12 : decode cX11_witness 12 = .ok (.ifCond .eq 26, 3) := by decide +kernel
theorem dX11_witness_15 : decode cX11_witness 15 = .ok (.iload_n 1, 1) := by decide +kernel
theorem dX11_witness_16 : decode cX11_witness 16 = .ok (.i2l, 1) := by decide +kernel
theorem dX11_witness_17 : decode cX11_witness 17 = .ok (.lconst 0, 1) := by decide +kernel
theorem dX11_witness_18 : decode cX11_witness 18 = .ok (.ldc2_w 231, 3) := by decide +kernel
theorem dX11_witness_21 : decode cX11_witness 21 = .ok (.invokestatic 140, 3) := by decide +kernel
theorem dX11_witness_24 : decode cX11_witness 24 = .ok (.ifCond .eq 14, 3) := by decide +kernel
theorem dX11_witness_27 : decode cX11_witness 27 = .ok (.aload_n 0, 1) := by decide +kernel
theorem dX11_witness_28 : decode cX11_witness 28 = .ok (.aload_n 0, 1) := by decide +kernel
theorem dX11_witness_29 : decode cX11_witness 29 = .ok (.getfield 13, 3) := by decide +kernel
theorem dX11_witness_32 : decode cX11_witness 32 = .ok (.invokevirtual 227, 3) := by decide +kernel
theorem dX11_witness_35 : decode cX11_witness 35 = .ok (.ifCond .eq 6, 3) := by decide +kernel
theorem dX11_witness_38 : decode cX11_witness 38 = .ok (.ldc 133, 2) := by decide +kernel
theorem dX11_witness_40 : decode cX11_witness 40 = .ok (.ireturn, 1) := by decide +kernel
theorem dX11_witness_41 : decode cX11_witness 41 = .ok (.iconst 1, 1) := by decide +kernel
theorem dX11_witness_42 : decode cX11_witness 42 = .ok (.istore_n 2, 1) := by decide +kernel
theorem dX11_witness_43 : decode cX11_witness 43 = .ok (.iload_n 2, 1) := by decide +kernel
theorem dX11_witness_44 : decode cX11_witness 44 = .ok (.bipush 6, 2) := by decide +kernel
theorem dX11_witness_46 : decode cX11_witness 46 = .ok (.if_icmp .gt 136, 3) := by decide +kernel
theorem dX11_witness_49 : decode cX11_witness 49 = .ok (.iconst 1, 1) := by decide +kernel
theorem dX11_witness_50 : decode cX11_witness 50 = .ok (.istore_n 3, 1) := by decide +kernel
theorem dX11_witness_51 : decode cX11_witness 51 = .ok (.iload_n 3, 1) := by decide +kernel
theorem dX11_witness_52 : decode cX11_witness 52 = .ok (.iconst 1, 1) := by decide +kernel
theorem dX11_witness_53 : decode cX11_witness 53 = .ok (.aload_n 0, 1) := by decide +kernel
theorem dX11_witness_54 : decode cX11_witness 54 = .ok (.getfield 13, 3) := by decide +kernel
theorem dX11_witness_57 : decode cX11_witness 57 = .ok (.bipush 36, 2) := by decide +kernel
theorem dX11_witness_59 : decode cX11_witness 59 = .ok (.iaload, 1) := by decide +kernel
theorem dX11_witness_60 : decode cX11_witness 60 = .ok (.ishl, 1) := by decide +kernel
theorem dX11_witness_61 : decode cX11_witness 61 = .ok (.if_icmp .ge 115, 3) := by decide +kernel
theorem dX11_witness_64 : decode cX11_witness 64 = .ok (.iconst 1, 1) := by decide +kernel
theorem dX11_witness_65 : decode cX11_witness 65 = .ok (.istore 4, 2) := by decide +kernel
theorem dX11_witness_67 : decode cX11_witness 67 = .ok (.iload 4, 2) := by decide +kernel
theorem dX11_witness_69 : decode cX11_witness 69 = .ok (.iconst 1, 1) := by decide +kernel
theorem dX11_witness_70 : decode cX11_witness 70 = .ok (.aload_n 0, 1) := by decide +kernel
theorem dX11_witness_71 : decode cX11_witness 71 = .ok (.getfield 13, 3) := by decide +kernel
theorem dX11_witness_74 : decode cX11_witness 74 = .ok (.bipush 37, 2) := by decide +kernel
theorem dX11_witness_76 : decode cX11_witness 76 = .ok (.iaload, 1) := by decide +kernel
theorem dX11_witness_77 : decode cX11_witness 77 = .ok (.ishl, 1) := by decide +kernel
theorem dX11_witness_78 : decode cX11_witness 78 = .ok (.if_icmp .ge 92, 3) := by decide +kernel
theorem dX11_witness_81 : decode cX11_witness 81 = .ok (.iload_n 3, 1) := by decide +kernel
theorem dX11_witness_82 : decode cX11_witness 82 = .ok (.invokestatic 204, 3) := by decide +kernel
theorem dX11_witness_85 : decode cX11_witness 85 = .ok (.iload_n 2, 1) := by decide +kernel
theorem dX11_witness_86 : decode cX11_witness 86 = .ok (.if_icmp .ne 84, 3) := by decide +kernel
theorem dX11_witness_89 : decode cX11_witness 89 = .ok (.iload 4, 2) := by decide +kernel
theorem dX11_witness_91 : decode cX11_witness 91 = .ok (.invokestatic 204, 3) := by decide +kernel
theorem dX11_witness_94 : decode cX11_witness 94 = .ok (.iload_n 2, 1) := by decide +kernel
theorem dX11_witness_95 : decode cX11_witness 95 = .ok (.if_icmp .ne 69, 3) := by decide +kernel
theorem dX11_witness_98 : decode cX11_witness 98 = .ok (.aload_n 0, 1) := by decide +kernel
theorem dX11_witness_99 : decode cX11_witness 99 = .ok (.getfield 38, 3) := by decide +kernel
theorem dX11_witness_102 : decode cX11_witness 102 = .ok (.bipush 64, 2) := by decide +kernel
theorem dX11_witness_104 : decode cX11_witness 104 = .ok (.iload_n 3, 1) := by decide +kernel
theorem dX11_witness_105 : decode cX11_witness 105 = .ok (.imul, 1) := by decide +kernel
theorem dX11_witness_106 : decode cX11_witness 106 = .ok (.iload 4, 2) := by decide +kernel
theorem dX11_witness_108 : decode cX11_witness 108 = .ok (.iadd, 1) := by decide +kernel
theorem dX11_witness_109 : decode cX11_witness 109 = .ok (.iaload, 1) := by decide +kernel
theorem dX11_witness_110 : decode cX11_witness 110 = .ok (.i2l, 1) := by decide +kernel
theorem dX11_witness_111 : decode cX11_witness 111 = .ok (.ldc2_w 162, 3) := by decide +kernel
theorem dX11_witness_114 : decode cX11_witness 114 = .ok (.lconst 1, 1) := by decide +kernel
theorem dX11_witness_115 : decode cX11_witness 115 = .ok (.invokestatic 140, 3) := by decide +kernel
theorem dX11_witness_118 : decode cX11_witness 118 = .ok (.ifCond .eq 6, 3) := by decide +kernel
theorem dX11_witness_121 : decode cX11_witness 121 = .ok (.goto 43, 3) := by decide +kernel
theorem dX11_witness_124 : decode cX11_witness 124 = .ok (.iload_n 1, 1) := by decide +kernel
theorem dX11_witness_125 : decode cX11_witness 125 = .ok (.ifCond .ne 7, 3) := by decide +kernel
theorem dX11_witness_128 : decode cX11_witness 128 = .ok (.iload_n 2, 1) := by decide +kernel
theorem dX11_witness_129 : decode cX11_witness 129 = .ok (.goto 34, 3) := by decide +kernel
theorem dX11_witness_132 : decode cX11_witness 132 = .ok (.iload_n 1, 1) := by decide +kernel
theorem dX11_witness_133 : decode cX11_witness 133 = .ok (.iconst 1, 1) := by decide +kernel
theorem dX11_witness_134 : decode cX11_witness 134 = .ok (.if_icmp .ne 7, 3) := by decide +kernel
theorem dX11_witness_137 : decode cX11_witness 137 = .ok (.iload_n 3, 1) := by decide +kernel
theorem dX11_witness_138 : decode cX11_witness 138 = .ok (.goto 25, 3) := by decide +kernel
theorem dX11_witness_141 : decode cX11_witness 141 = .ok (.iload_n 1, 1) := by decide +kernel
theorem dX11_witness_142 : decode cX11_witness 142 = .ok (.iconst 2, 1) := by decide +kernel
theorem dX11_witness_143 : decode cX11_witness 143 = .ok (.if_icmp .ne 8, 3) := by decide +kernel
theorem dX11_witness_146 : decode cX11_witness 146 = .ok (.iload 4, 2) := by decide +kernel
theorem dX11_witness_148 : decode cX11_witness 148 = .ok (.goto 15, 3) := by decide +kernel
theorem dX11_witness_151 : decode cX11_witness 151 = .ok (.aload_n 0, 1) := by decide +kernel
theorem dX11_witness_152 : decode cX11_witness 152 = .ok (.getfield 38, 3) := by decide +kernel
theorem dX11_witness_155 : decode cX11_witness 155 = .ok (.bipush 64, 2) := by decide +kernel
theorem dX11_witness_157 : decode cX11_witness 157 = .ok (.iload_n 3, 1) := by decide +kernel
theorem dX11_witness_158 : decode cX11_witness 158 = .ok (.imul, 1) := by decide +kernel
theorem dX11_witness_159 : decode cX11_witness 159 = .ok (.iload 4, 2) := by decide +kernel
theorem dX11_witness_161 : decode cX11_witness 161 = .ok (.iadd, 1) := by decide +kernel
theorem dX11_witness_162 : decode cX11_witness 162 = .ok (.iaload, 1) := by decide +kernel
theorem dX11_witness_163 : decode cX11_witness 163 = .ok (.ireturn, 1) := by decide +kernel
theorem dX11_witness_164 : decode cX11_witness 164 = .ok (.iinc 4 1, 3) := by decide +kernel
theorem dX11_witness_167 : decode cX11_witness 167 = .ok (.goto (-100), 3) := by decide +kernel
theorem dX11_witness_170 : decode cX11_witness 170 = .ok (.iinc 3 1, 3) := by decide +kernel
theorem dX11_witness_173 : decode cX11_witness 173 = .ok (.goto (-122), 3) := by decide +kernel
theorem dX11_witness_176 : decode cX11_witness 176 = .ok (.iinc 2 1, 3) := by decide +kernel
theorem dX11_witness_179 : decode cX11_witness 179 = .ok (.goto (-136), 3) := by decide +kernel
theorem dX11_witness_182 : decode cX11_witness 182 = .ok (.ldc 133, 2) := by decide +kernel
theorem dX11_witness_184 : decode cX11_witness 184 = .ok (.ireturn, 1) := by decide +kernel
theorem dX11_isTotalWith_0 : decode cX11_isTotalWith 0 = .ok (.aload_n 0, 1) := by decide +kernel
theorem dX11_isTotalWith_1 : decode cX11_isTotalWith 1 = .ok (.getfield 13, 3) := by decide +kernel
theorem dX11_isTotalWith_4 : decode cX11_isTotalWith 4 = .ok (.aload_n 0, 1) := by decide +kernel
theorem dX11_isTotalWith_5 : decode cX11_isTotalWith 5 = .ok (.getfield 20, 3) := by decide +kernel
theorem dX11_isTotalWith_8 : decode cX11_isTotalWith 8 = .ok (.invokestatic 170, 3) := by decide +kernel
theorem dX11_isTotalWith_11 : decode cX11_isTotalWith 11 = .ok (.aload_n 0, 1) := by decide +kernel
theorem dX11_isTotalWith_12 : decode cX11_isTotalWith 12 = .ok (.getfield 20, 3) := by decide +kernel
theorem dX11_isTotalWith_15 : decode cX11_isTotalWith 15 = .ok (.iload_n 1, 1) := by decide +kernel
theorem dX11_isTotalWith_16 : decode cX11_isTotalWith 16 = .ok (.iload_n 2, 1) := by decide +kernel
theorem dX11_isTotalWith_17 : decode cX11_isTotalWith 17 = .ok (.iastore, 1) := by decide +kernel
theorem dX11_isTotalWith_18 : decode cX11_isTotalWith 18 = .ok (.aload_n 0, 1) := by decide +kernel
theorem dX11_isTotalWith_19 : decode cX11_isTotalWith 19 = .ok (.aload_n 0, 1) := by decide +kernel
theorem dX11_isTotalWith_20 : decode cX11_isTotalWith 20 = .ok (.getfield 20, 3) := by decide +kernel
theorem dX11_isTotalWith_23 : decode cX11_isTotalWith 23 = .ok (.invokevirtual 227, 3) := by decide +kernel
theorem dX11_isTotalWith_26 : decode cX11_isTotalWith 26 = .ok (.ireturn, 1) := by decide +kernel
theorem dX11_mends_0 : decode cX11_mends 0 = .ok (.aload_n 0, 1) := by decide +kernel
theorem dX11_mends_1 : decode cX11_mends 1 = .ok (.iconst 0, 1) := by decide +kernel
theorem dX11_mends_2 : decode cX11_mends 2 = .ok (.putfield 83, 3) := by decide +kernel
theorem dX11_mends_5 : decode cX11_mends 5 = .ok (.aload_n 0, 1) := by decide +kernel
theorem dX11_mends_6 : decode cX11_mends 6 = .ok (.getfield 13, 3) := by decide +kernel
theorem dX11_mends_9 : decode cX11_mends 9 = .ok (.bipush 36, 2) := by decide +kernel
theorem dX11_mends_11 : decode cX11_mends 11 = .ok (.iaload, 1) := by decide +kernel
theorem dX11_mends_12 : decode cX11_mends 12 = .ok (.ifCond .ne 5, 3) := by decide +kernel
theorem dX11_mends_15 : decode cX11_mends 15 = .ok (.iconst (-1), 1) := by decide +kernel
theorem dX11_mends_16 : decode cX11_mends 16 = .ok (.ireturn, 1) := by decide +kernel
theorem dX11_mends_17 : decode cX11_mends 17 = .ok (.aload_n 0, 1) := by decide +kernel
theorem dX11_mends_18 : decode cX11_mends 18 = .ok (.aload_n 0, 1) := by decide +kernel
theorem dX11_mends_19 : decode cX11_mends 19 = .ok (.getfield 13, 3) := by decide +kernel
theorem dX11_mends_22 : decode cX11_mends 22 = .ok (.invokevirtual 227, 3) := by decide +kernel
theorem dX11_mends_25 : decode cX11_mends 25 = .ok (.ifCond .eq 6, 3) := by decide +kernel
theorem dX11_mends_28 : decode cX11_mends 28 = .ok (.ldc 133, 2) := by decide +kernel
theorem dX11_mends_30 : decode cX11_mends 30 = .ok (.ireturn, 1) := by decide +kernel
theorem dX11_mends_31 : decode cX11_mends 31 = .ok (.iconst 0, 1) := by decide +kernel
theorem dX11_mends_32 : decode cX11_mends 32 = .ok (.istore_n 1, 1) := by decide +kernel
theorem dX11_mends_33 : decode cX11_mends 33 = .ok (.iload_n 1, 1) := by decide +kernel
theorem dX11_mends_34 : decode cX11_mends 34 = .ok (.aload_n 0, 1) := by decide +kernel
theorem dX11_mends_35 : decode cX11_mends 35 = .ok (.getfield 13, 3) := by decide +kernel
theorem dX11_mends_38 : decode cX11_mends 38 = .ok (.bipush 36, 2) := by decide +kernel
theorem dX11_mends_40 : decode cX11_mends 40 = .ok (.iaload, 1) := by decide +kernel
theorem dX11_mends_41 : decode cX11_mends 41 = .ok (.if_icmp .ge 87, 3) := by decide +kernel
theorem dX11_mends_44 : decode cX11_mends 44 = .ok (.iconst 0, 1) := by decide +kernel
theorem dX11_mends_45 : decode cX11_mends 45 = .ok (.istore_n 2, 1) := by decide +kernel
theorem dX11_mends_46 : decode cX11_mends 46 = .ok (.iload_n 2, 1) := by decide +kernel
theorem dX11_mends_47 : decode cX11_mends 47 = .ok (.aload_n 0, 1) := by decide +kernel
theorem dX11_mends_48 : decode cX11_mends 48 = .ok (.getfield 13, 3) := by decide +kernel
theorem dX11_mends_51 : decode cX11_mends 51 = .ok (.bipush 37, 2) := by decide +kernel
theorem dX11_mends_53 : decode cX11_mends 53 = .ok (.iaload, 1) := by decide +kernel
theorem dX11_mends_54 : decode cX11_mends 54 = .ok (.if_icmp .ge 68, 3) := by decide +kernel
theorem dX11_mends_57 : decode cX11_mends 57 = .ok (.iconst (-1), 1) := by decide +kernel
theorem dX11_mends_58 : decode cX11_mends 58 = .ok (.istore_n 3, 1) := by decide +kernel
theorem dX11_mends_59 : decode cX11_mends 59 = .ok (.iload_n 3, 1) := by decide +kernel
theorem dX11_mends_60 : decode cX11_mends 60 = .ok (.iconst 1, 1) := by decide +kernel
theorem dX11_mends_61 : decode cX11_mends 61 = .ok (.if_icmp .gt 55, 3) := by decide +kernel
theorem dX11_mends_64 : decode cX11_mends 64 = .ok (.iload_n 3, 1) := by decide +kernel
theorem dX11_mends_65 : decode cX11_mends 65 = .ok (.aload_n 0, 1) := by decide +kernel
theorem dX11_mends_66 : decode cX11_mends 66 = .ok (.getfield 13, 3) := by decide +kernel
theorem dX11_mends_69 : decode cX11_mends 69 = .ok (.bipush 6, 2) := by decide +kernel
theorem dX11_mends_71 : decode cX11_mends 71 = .ok (.iload_n 1, 1) := by decide +kernel
theorem dX11_mends_72 : decode cX11_mends 72 = .ok (.imul, 1) := by decide +kernel
theorem dX11_mends_73 : decode cX11_mends 73 = .ok (.iload_n 2, 1) := by decide +kernel
theorem dX11_mends_74 : decode cX11_mends 74 = .ok (.iadd, 1) := by decide +kernel
theorem dX11_mends_75 : decode cX11_mends 75 = .ok (.iaload, 1) := by decide +kernel
theorem dX11_mends_76 : decode cX11_mends 76 = .ok (.if_icmp .ne 6, 3) := by decide +kernel
theorem dX11_mends_79 : decode cX11_mends 79 = .ok (.goto 31, 3) := by decide +kernel
theorem dX11_mends_82 : decode cX11_mends 82 = .ok (.aload_n 0, 1) := by decide +kernel
theorem dX11_mends_83 : decode cX11_mends 83 = .ok (.bipush 6, 2) := by decide +kernel
theorem dX11_mends_85 : decode cX11_mends 85 = .ok (.iload_n 1, 1) := by decide +kernel
theorem dX11_mends_86 : decode cX11_mends 86 = .ok (.imul, 1) := by decide +kernel
theorem dX11_mends_87 : decode cX11_mends 87 = .ok (.iload_n 2, 1) := by decide +kernel
theorem dX11_mends_88 : decode cX11_mends 88 = .ok (.iadd, 1) := by decide +kernel
theorem dX11_mends_89 : decode cX11_mends 89 = .ok (.iload_n 3, 1) := by decide +kernel
theorem dX11_mends_90 : decode cX11_mends 90 = .ok (.invokevirtual 313, 3) := by decide +kernel
theorem dX11_mends_93 : decode cX11_mends 93 = .ok (.ifCond .eq 17, 3) := by decide +kernel
theorem dX11_mends_96 : decode cX11_mends 96 = .ok (.bipush 100, 2) := by decide +kernel
theorem dX11_mends_98 : decode cX11_mends 98 = .ok (.iload_n 1, 1) := by decide +kernel
theorem dX11_mends_99 : decode cX11_mends 99 = .ok (.imul, 1) := by decide +kernel
theorem dX11_mends_100 : decode cX11_mends 100 = .ok (.bipush 10, 2) := by decide +kernel
theorem dX11_mends_102 : decode cX11_mends 102 = .ok (.iload_n 2, 1) := by decide +kernel
theorem dX11_mends_103 : decode cX11_mends 103 = .ok (.imul, 1) := by decide +kernel
theorem dX11_mends_104 : decode cX11_mends 104 = .ok (.iadd, 1) := by decide +kernel
theorem dX11_mends_105 : decode cX11_mends 105 = .ok (.iload_n 3, 1) := by decide +kernel
theorem dX11_mends_106 : decode cX11_mends 106 = .ok (.iadd, 1) := by decide +kernel
theorem dX11_mends_107 : decode cX11_mends 107 = .ok (.iconst 1, 1) := by decide +kernel
theorem dX11_mends_108 : decode cX11_mends 108 = .ok (.iadd, 1) := by decide +kernel
theorem dX11_mends_109 : decode cX11_mends 109 = .ok (.ireturn, 1) := by decide +kernel
theorem dX11_mends_110 : decode cX11_mends 110 = .ok (.iinc 3 1, 3) := by decide +kernel
theorem dX11_mends_113 : decode cX11_mends 113 = .ok (.goto (-54), 3) := by decide +kernel
theorem dX11_mends_116 : decode cX11_mends 116 = .ok (.iinc 2 1, 3) := by decide +kernel
theorem dX11_mends_119 : decode cX11_mends 119 = .ok (.goto (-73), 3) := by decide +kernel
theorem dX11_mends_122 : decode cX11_mends 122 = .ok (.iinc 1 1, 3) := by decide +kernel
theorem dX11_mends_125 : decode cX11_mends 125 = .ok (.goto (-92), 3) := by decide +kernel
theorem dX11_mends_128 : decode cX11_mends 128 = .ok (.iconst (-1), 1) := by decide +kernel
theorem dX11_mends_129 : decode cX11_mends 129 = .ok (.ireturn, 1) := by decide +kernel
theorem dX11_fragile_0 : decode cX11_fragile 0 = .ok (.aload_n 0, 1) := by decide +kernel
theorem dX11_fragile_1 : decode cX11_fragile 1 = .ok (.iconst 0, 1) := by decide +kernel
theorem dX11_fragile_2 : decode cX11_fragile 2 = .ok (.putfield 83, 3) := by decide +kernel
theorem dX11_fragile_5 : decode cX11_fragile 5 = .ok (.aload_n 0, 1) := by decide +kernel
theorem dX11_fragile_6 : decode cX11_fragile 6 = .ok (.getfield 13, 3) := by decide +kernel
theorem dX11_fragile_9 : decode cX11_fragile 9 = .ok (.bipush 36, 2) := by decide +kernel
theorem dX11_fragile_11 : decode cX11_fragile 11 = .ok (.iaload, 1) := by decide +kernel
theorem dX11_fragile_12 : decode cX11_fragile 12 = .ok (.ifCond .eq 14, 3) := by decide +kernel
theorem dX11_fragile_15 : decode cX11_fragile 15 = .ok (.aload_n 0, 1) := by decide +kernel
theorem dX11_fragile_16 : decode cX11_fragile 16 = .ok (.aload_n 0, 1) := by decide +kernel
theorem dX11_fragile_17 : decode cX11_fragile 17 = .ok (.getfield 13, 3) := by decide +kernel
theorem dX11_fragile_20 : decode cX11_fragile 20 = .ok (.invokevirtual 227, 3) := by decide +kernel
theorem dX11_fragile_23 : decode cX11_fragile 23 = .ok (.ifCond .ne 5, 3) := by decide +kernel
theorem dX11_fragile_26 : decode cX11_fragile 26 = .ok (.iconst (-1), 1) := by decide +kernel
theorem dX11_fragile_27 : decode cX11_fragile 27 = .ok (.ireturn, 1) := by decide +kernel
theorem dX11_fragile_28 : decode cX11_fragile 28 = .ok (.iconst 0, 1) := by decide +kernel
theorem dX11_fragile_29 : decode cX11_fragile 29 = .ok (.istore_n 1, 1) := by decide +kernel
theorem dX11_fragile_30 : decode cX11_fragile 30 = .ok (.iconst 0, 1) := by decide +kernel
theorem dX11_fragile_31 : decode cX11_fragile 31 = .ok (.istore_n 2, 1) := by decide +kernel
theorem dX11_fragile_32 : decode cX11_fragile 32 = .ok (.iload_n 2, 1) := by decide +kernel
theorem dX11_fragile_33 : decode cX11_fragile 33 = .ok (.aload_n 0, 1) := by decide +kernel
theorem dX11_fragile_34 : decode cX11_fragile 34 = .ok (.getfield 13, 3) := by decide +kernel
theorem dX11_fragile_37 : decode cX11_fragile 37 = .ok (.bipush 36, 2) := by decide +kernel
theorem dX11_fragile_39 : decode cX11_fragile 39 = .ok (.iaload, 1) := by decide +kernel
theorem dX11_fragile_40 : decode cX11_fragile 40 = .ok (.if_icmp .ge 73, 3) := by decide +kernel
theorem dX11_fragile_43 : decode cX11_fragile 43 = .ok (.iconst 0, 1) := by decide +kernel
theorem dX11_fragile_44 : decode cX11_fragile 44 = .ok (.istore_n 3, 1) := by decide +kernel
theorem dX11_fragile_45 : decode cX11_fragile 45 = .ok (.iload_n 3, 1) := by decide +kernel
theorem dX11_fragile_46 : decode cX11_fragile 46 = .ok (.aload_n 0, 1) := by decide +kernel
theorem dX11_fragile_47 : decode cX11_fragile 47 = .ok (.getfield 13, 3) := by decide +kernel
theorem dX11_fragile_50 : decode cX11_fragile 50 = .ok (.bipush 37, 2) := by decide +kernel
theorem dX11_fragile_52 : decode cX11_fragile 52 = .ok (.iaload, 1) := by decide +kernel
theorem dX11_fragile_53 : decode cX11_fragile 53 = .ok (.if_icmp .ge 54, 3) := by decide +kernel
theorem dX11_fragile_56 : decode cX11_fragile 56 = .ok (.aload_n 0, 1) := by decide +kernel
theorem dX11_fragile_57 : decode cX11_fragile 57 = .ok (.getfield 13, 3) := by decide +kernel
theorem dX11_fragile_60 : decode cX11_fragile 60 = .ok (.bipush 6, 2) := by decide +kernel
theorem dX11_fragile_62 : decode cX11_fragile 62 = .ok (.iload_n 2, 1) := by decide +kernel
theorem dX11_fragile_63 : decode cX11_fragile 63 = .ok (.imul, 1) := by decide +kernel
theorem dX11_fragile_64 : decode cX11_fragile 64 = .ok (.iload_n 3, 1) := by decide +kernel
theorem dX11_fragile_65 : decode cX11_fragile 65 = .ok (.iadd, 1) := by decide +kernel
theorem dX11_fragile_66 : decode cX11_fragile 66 = .ok (.iaload, 1) := by decide +kernel
theorem dX11_fragile_67 : decode cX11_fragile 67 = .ok (.istore 4, 2) := by decide +kernel
theorem dX11_fragile_69 : decode cX11_fragile 69 = .ok (.iload 4, 2) := by decide +kernel
theorem dX11_fragile_71 : decode cX11_fragile 71 = .ok (.ifCond .ne 6, 3) := by decide +kernel
theorem dX11_fragile_74 : decode cX11_fragile 74 = .ok (.goto 27, 3) := by decide +kernel
theorem dX11_fragile_77 : decode cX11_fragile 77 = .ok (.iload_n 1, 1) := by decide +kernel
theorem dX11_fragile_78 : decode cX11_fragile 78 = .ok (.aload_n 0, 1) := by decide +kernel
theorem dX11_fragile_79 : decode cX11_fragile 79 = .ok (.bipush 6, 2) := by decide +kernel
theorem dX11_fragile_81 : decode cX11_fragile 81 = .ok (.iload_n 2, 1) := by decide +kernel
theorem dX11_fragile_82 : decode cX11_fragile 82 = .ok (.imul, 1) := by decide +kernel
theorem dX11_fragile_83 : decode cX11_fragile 83 = .ok (.iload_n 3, 1) := by decide +kernel
theorem dX11_fragile_84 : decode cX11_fragile 84 = .ok (.iadd, 1) := by decide +kernel
theorem dX11_fragile_85 : decode cX11_fragile 85 = .ok (.iload 4, 2) := by decide +kernel
theorem dX11_fragile_87 : decode cX11_fragile 87 = .ok (.ineg, 1) := by decide +kernel
theorem dX11_fragile_88 : decode cX11_fragile 88 = .ok (.invokevirtual 313, 3) := by decide +kernel
theorem dX11_fragile_91 : decode cX11_fragile 91 = .ok (.ifCond .eq 7, 3) := by decide +kernel
theorem dX11_fragile_94 : decode cX11_fragile 94 = .ok (.iconst 0, 1) := by decide +kernel
theorem dX11_fragile_95 : decode cX11_fragile 95 = .ok (.goto 4, 3) := by decide +kernel
theorem dX11_fragile_98 : decode cX11_fragile 98 = .ok (.iconst 1, 1) := by decide +kernel
theorem dX11_fragile_99 : decode cX11_fragile 99 = .ok (.iadd, 1) := by decide +kernel
theorem dX11_fragile_100 : decode cX11_fragile 100 = .ok (.istore_n 1, 1) := by decide +kernel
theorem dX11_fragile_101 : decode cX11_fragile 101 = .ok (.iinc 3 1, 3) := by decide +kernel
theorem dX11_fragile_104 : decode cX11_fragile 104 = .ok (.goto (-59), 3) := by decide +kernel
theorem dX11_fragile_107 : decode cX11_fragile 107 = .ok (.iinc 2 1, 3) := by decide +kernel
theorem dX11_fragile_110 : decode cX11_fragile 110 = .ok (.goto (-78), 3) := by decide +kernel
theorem dX11_fragile_113 : decode cX11_fragile 113 = .ok (.iload_n 1, 1) := by decide +kernel
theorem dX11_fragile_114 : decode cX11_fragile 114 = .ok (.ireturn, 1) := by decide +kernel
theorem dX11_fills_0 : decode cX11_fills 0 = .ok (.aload_n 0, 1) := by decide +kernel
theorem dX11_fills_1 : decode cX11_fills 1 = .ok (.iconst 0, 1) := by decide +kernel
theorem dX11_fills_2 : decode cX11_fills 2 = .ok (.putfield 83, 3) := by decide +kernel
theorem dX11_fills_5 : decode cX11_fills 5 = .ok (.aload_n 0, 1) := by decide +kernel
theorem dX11_fills_6 : decode cX11_fills 6 = .ok (.aload_n 0, 1) := by decide +kernel
theorem dX11_fills_7 : decode cX11_fills 7 = .ok (.getfield 13, 3) := by decide +kernel
theorem dX11_fills_10 : decode cX11_fills 10 = .ok (.iload_n 1, 1) := by decide +kernel
theorem dX11_fills_11 : decode cX11_fills 11 = .ok (.iload_n 2, 1) := by decide +kernel
theorem dX11_fills_12 : decode cX11_fills 12 = .ok (.invokevirtual 158, 3) := by decide +kernel
theorem dX11_fills_15 : decode cX11_fills 15 = .ok (.ifCond .ne 5, 3) := by decide +kernel
theorem dX11_fills_18 : decode cX11_fills 18 = .ok (.iconst (-1), 1) := by decide +kernel
theorem dX11_fills_19 : decode cX11_fills 19 = .ok (.ireturn, 1) := by decide +kernel
theorem dX11_fills_20 : decode cX11_fills 20 = .ok (.iconst 0, 1) := by decide +kernel
theorem dX11_fills_21 : decode cX11_fills 21 = .ok (.istore_n 3, 1) := by decide +kernel
theorem dX11_fills_22 : decode cX11_fills 22 = .ok (.iconst (-1), 1) := by decide +kernel
theorem dX11_fills_23 : decode cX11_fills 23 = .ok (.istore 4, 2) := by decide +kernel
theorem dX11_fills_25 : decode cX11_fills 25 = .ok (.iload 4, 2) := by decide +kernel
theorem dX11_fills_27 : decode cX11_fills 27 = .ok (.iconst 1, 1) := by decide +kernel
theorem dX11_fills_28 : decode cX11_fills 28 = .ok (.if_icmp .gt 37, 3) := by decide +kernel
theorem dX11_fills_31 : decode cX11_fills 31 = .ok (.iload_n 3, 1) := by decide +kernel
theorem dX11_fills_32 : decode cX11_fills 32 = .ok (.aload_n 0, 1) := by decide +kernel
theorem dX11_fills_33 : decode cX11_fills 33 = .ok (.bipush 6, 2) := by decide +kernel
theorem dX11_fills_35 : decode cX11_fills 35 = .ok (.iload_n 1, 1) := by decide +kernel
theorem dX11_fills_36 : decode cX11_fills 36 = .ok (.imul, 1) := by decide +kernel
theorem dX11_fills_37 : decode cX11_fills 37 = .ok (.iload_n 2, 1) := by decide +kernel
theorem dX11_fills_38 : decode cX11_fills 38 = .ok (.iadd, 1) := by decide +kernel
theorem dX11_fills_39 : decode cX11_fills 39 = .ok (.iload 4, 2) := by decide +kernel
theorem dX11_fills_41 : decode cX11_fills 41 = .ok (.invokevirtual 313, 3) := by decide +kernel
theorem dX11_fills_44 : decode cX11_fills 44 = .ok (.ifCond .eq 12, 3) := by decide +kernel
theorem dX11_fills_47 : decode cX11_fills 47 = .ok (.iconst 1, 1) := by decide +kernel
theorem dX11_fills_48 : decode cX11_fills 48 = .ok (.iload 4, 2) := by decide +kernel
theorem dX11_fills_50 : decode cX11_fills 50 = .ok (.iconst 1, 1) := by decide +kernel
theorem dX11_fills_51 : decode cX11_fills 51 = .ok (.iadd, 1) := by decide +kernel
theorem dX11_fills_52 : decode cX11_fills 52 = .ok (.ishl, 1) := by decide +kernel
theorem dX11_fills_53 : decode cX11_fills 53 = .ok (.goto 4, 3) := by decide +kernel
theorem dX11_fills_56 : decode cX11_fills 56 = .ok (.iconst 0, 1) := by decide +kernel
theorem dX11_fills_57 : decode cX11_fills 57 = .ok (.ior, 1) := by decide +kernel
theorem dX11_fills_58 : decode cX11_fills 58 = .ok (.istore_n 3, 1) := by decide +kernel
theorem dX11_fills_59 : decode cX11_fills 59 = .ok (.iinc 4 1, 3) := by decide +kernel
theorem dX11_fills_62 : decode cX11_fills 62 = .ok (.goto (-37), 3) := by decide +kernel
theorem dX11_fills_65 : decode cX11_fills 65 = .ok (.iload_n 3, 1) := by decide +kernel
theorem dX11_fills_66 : decode cX11_fills 66 = .ok (.ireturn, 1) := by decide +kernel
/-- a square beyond -1 .. 1 -/
def bey (T : tb) (R C : Nat) : Prop := sq T R C ∧ ¬ sml (dD T.2.2 R C)
def lx (R C R' C' : Nat) : Prop := pc6 R < pc6 R' ∨ (pc6 R = pc6 R' ∧ (R < R' ∨ (R = R' ∧ C ≤ C')))
def wit (T : tb) (p : Nat × Nat) : Prop := bey T p.1 p.2 ∧ ∀ R' C', bey T R' C' → lx p.1 p.2 R' C'
theorem wit_u {T : tb} {p q : Nat × Nat} (h : wit T p) (k : wit T q) : p = q := by
  have h1 := h.2 _ _ k.1
  have h2 := k.2 _ _ h.1
  unfold lx at h1 h2
  exact Prod.ext (by omega) (by omega)
def wv (T : tb) (w : Int32) (p : Nat × Nat) : Int32 := if w = 0 then nI (pc6 p.1) else if w = 1 then nI p.1 else if w = 2 then nI p.2 else dD T.2.2 p.1 p.2
noncomputable def opWitness (α : aS) (w : Int32) : Int32 := by classical exact
  (if (¬ (tT α).1 = 0 ∧ 0 ≤ w.toInt ∧ w.toInt ≤ 3) then (if h : ∃ p, wit (tT α) p then wv (tT α) w (Classical.choose h) else -1000000) else -1000000)
theorem opWitness_y {α : aS} {w : Int32} {p : Nat × Nat} (h : ¬ (tT α).1 = 0 ∧ 0 ≤ w.toInt ∧ w.toInt ≤ 3) (hp : wit (tT α) p) : opWitness α w = wv (tT α) w p := by
  unfold opWitness
  rw [if_pos h, dif_pos ⟨p, hp⟩, wit_u (Classical.choose_spec ⟨p, hp⟩) hp]
theorem opWitness_n {α : aS} {w : Int32} (h : ∀ R C, ¬ bey (tT α) R C) : opWitness α w = -1000000 := by
  unfold opWitness
  split
  · rw [dif_neg (fun ⟨p, hp⟩ => h _ _ hp.1)]
  · rfl
theorem mo_witness {σ : sg} {x : aW} {α : aS} (h : MInv σ α) (ok : aOK α) (w : Int32) : Mt mX11_witness 3 0 0 [.ref i_M, .int w] (wd σ x) (MPost σ x (opWitness α w) α) := by
  refine Mt.of MI_X11_witness (Nat.le_of_ble_eq_true rfl) (fun X hC hR hT => ?_)
  have hT1 : σ.2.2 i_m_now 36 = nI (tT α).1 := h.2.1.1
  have hTB : TB (σ.2.2 i_m_now) (tT α) := h.2.1.TB ok.2.2.1
  have h1 := M_thr h 0
  have hR6 := ok.2.2.1.1
  have hC6 := ok.2.2.1.2.1
  have p1 := pw6 hR6
  have p2 := pw6 hC6
  have no : ¬ (¬ (tT α).1 = 0 ∧ 0 ≤ w.toInt ∧ w.toInt ≤ 3) → opWitness α w = -1000000 := fun q => by unfold opWitness; rw [if_neg q]
  have loop : ∀ ω, MD σ ω α → (¬ (tT α).1 = 0 ∧ 0 ≤ w.toInt ∧ w.toInt ≤ 3) → ∀ k, k ≤ 7 → 1 ≤ k → (∀ R C, bey (tT α) R C → k ≤ pc6 R) → ∀ u3 u4, Rw mX11_witness X 43 [some (.ref i_M), some (.int w), some (.int (nI k)), u3, u4] [] (wd ω x) 0 0 := by
    intro ω hω hw
    refine up_loop 7 ?_ ?_
    · intro k1 hk u3 u4
      refine R_iload_n (i := 2) hC dX11_witness_43 rfl rfl (R_bipush (v := 6) hC dX11_witness_44 (by decide) ?_)
      refine R_icmp_gt hC 182 dX11_witness_46 (by decide) (fun _ => ?_) (fun h => absurd (by decide) h)
      refine R_ldc hC dX11_witness_182 kc_X11_133 ?_
      exact R_iret hC hT dX11_witness_184 rfl (by rw [opWitness_n (fun R C z => by have := hk R C z; have := pc6_le R (by have := z.1.2.1; omega); omega)]; exact hω.p)
    · intro k hk7 ih k1 hk u3 u4
      have row : ∀ n, n ≤ 2 ^ (tT α).1 → 1 ≤ n → (∀ R C, bey (tT α) R C → pc6 R = k → n ≤ R) → ∀ u4, Rw mX11_witness X 51 [some (.ref i_M), some (.int w), some (.int (nI k)), some (.int (nI n)), u4] [] (wd ω x) 0 0 := by
        refine up_loop (2 ^ (tT α).1) ?_ ?_
        · intro n1 hn u4
          refine R_iload_n (i := 3) hC dX11_witness_51 rfl rfl (R_iconst (v := 1) hC dX11_witness_52 (by decide) (R_aload_n (i := 0) hC dX11_witness_53 rfl rfl (R_gR hC dX11_witness_54 fl_X11_13 L_M rfl (R_bipush (v := 36) hC dX11_witness_57 (by decide) (R_aI hC dX11_witness_59 L_m_now 36 rfl (by decide) (by decide) ?_)))))
          refine R_top (y := nI (tT α).1) (hω.R) ?_
          refine R_ishl hC dX11_witness_60 ?_
          refine R_top (y := nI (2 ^ (tT α).1)) (shl1 _ hR6) ?_
          refine R_icmp_ge hC 176 dX11_witness_61 (by decide) (fun _ => ?_) (fun h => absurd (Int32.le_refl _) h)
          refine R_iinc hC dX11_witness_176 rfl (inc1 _) (by decide) rfl (R_goto hC 43 dX11_witness_179 (by decide) ?_)
          exact ih (by omega) (fun R C z => by have a := hk R C z; by_cases e : pc6 R = k; have := hn R C z e; have := z.1.2.1; omega; omega) _ _
        · intro n hn ihn n1 hnb u4
          have col : ∀ c, c ≤ 2 ^ (tT α).2.1 → 1 ≤ c → (∀ C, bey (tT α) n C → pc6 n = k → c ≤ C) → Rw mX11_witness X 67 [some (.ref i_M), some (.int w), some (.int (nI k)), some (.int (nI n)), some (.int (nI c))] [] (wd ω x) 0 0 := by
            have em := pcI (s := n) (k := k) (by omega) (by omega)
            have nx : (∀ C, bey (tT α) n C → ¬ pc6 n = k) → Rw mX11_witness X 51 [some (.ref i_M), some (.int w), some (.int (nI k)), some (.int (nI (n + 1))), none] [] (wd ω x) 0 0 := fun z => ihn (by omega) (fun R C y e => by have := hnb R C y e; rcases (by omega : n + 1 ≤ R ∨ R = n) with q | rfl; exact q; exact absurd e (z C y)) _
            refine up_loop (2 ^ (tT α).2.1) ?_ ?_
            · intro c1 hcb
              refine R_iload hC dX11_witness_67 rfl (R_iconst (v := 1) hC dX11_witness_69 (by decide) (R_aload_n (i := 0) hC dX11_witness_70 rfl rfl (R_gR hC dX11_witness_71 fl_X11_13 L_M rfl (R_bipush (v := 37) hC dX11_witness_74 (by decide) (R_aI hC dX11_witness_76 L_m_now 37 rfl (by decide) (by decide) ?_)))))
              refine R_top (y := nI (tT α).2.1) (hω.C) ?_
              refine R_ishl hC dX11_witness_77 ?_
              refine R_top (y := nI (2 ^ (tT α).2.1)) (shl1 _ hC6) ?_
              refine R_icmp_ge hC 170 dX11_witness_78 (by decide) (fun _ => ?_) (fun h => absurd (Int32.le_refl _) h)
              refine R_iinc hC dX11_witness_170 rfl (inc1 _) (by decide) rfl (R_goto hC 51 dX11_witness_173 (by decide) ?_)
              exact ihn (by omega) (fun R C y e => by have := hnb R C y e; rcases (by omega : n + 1 ≤ R ∨ R = n) with q | rfl; exact q; have := hcb C y e; have := y.1.2.2.2.1; omega) _
            · intro c hc ihc c1 hcb
              have em2 := pcI (s := c) (k := k) (by omega) (by omega)
              have skp : ¬ bey (tT α) n c → Rw mX11_witness X 164 [some (.ref i_M), some (.int w), some (.int (nI k)), some (.int (nI n)), some (.int (nI c))] [] (wd ω x) 0 0 := by
                intro z
                refine R_iinc hC dX11_witness_164 rfl (inc1 _) (by decide) rfl (R_goto hC 67 dX11_witness_167 (by decide) ?_)
                exact ihc (by omega) (fun C y e => by have := hcb C y e; rcases (by omega : c + 1 ≤ C ∨ C = c) with q | rfl; exact q; exact absurd y z)
              refine R_iload hC dX11_witness_67 rfl (R_iconst (v := 1) hC dX11_witness_69 (by decide) (R_aload_n (i := 0) hC dX11_witness_70 rfl rfl (R_gR hC dX11_witness_71 fl_X11_13 L_M rfl (R_bipush (v := 37) hC dX11_witness_74 (by decide) (R_aI hC dX11_witness_76 L_m_now 37 rfl (by decide) (by decide) ?_)))))
              refine R_top (y := nI (tT α).2.1) (hω.C) ?_
              refine R_ishl hC dX11_witness_77 ?_
              refine R_top (y := nI (2 ^ (tT α).2.1)) (shl1 _ hC6) ?_
              refine R_icmp_ge hC 170 dX11_witness_78 (by decide) (fun h => absurd h (nI_ge hc (by omega))) (fun _ => ?_)
              refine R_iload_n (i := 3) hC dX11_witness_81 rfl rfl ?_
              refine R_S1i hC hR dX11_witness_82 MS_X11_sizeOf ml_X11_204 (s_sizeOf n (by omega) _) (by decide) ⟨by decide, by decide⟩ (Nat.le_of_ble_eq_true rfl) ?_
              refine R_iload_n (i := 2) hC dX11_witness_85 rfl rfl ?_
              refine R_icmp_ne hC 170 dX11_witness_86 (by decide) (fun h86 => ?_) (fun h86 => ?_)
              · refine R_iinc hC dX11_witness_170 rfl (inc1 _) (by decide) rfl (R_goto hC 51 dX11_witness_173 (by decide) ?_)
                exact ihn (by omega) (fun R C y e => by have := hnb R C y e; rcases (by omega : n + 1 ≤ R ∨ R = n) with q | rfl; exact q; exact absurd (em.mpr e) h86) _
              · refine R_iload hC dX11_witness_89 rfl ?_
                refine R_S1i hC hR dX11_witness_91 MS_X11_sizeOf ml_X11_204 (s_sizeOf c (by omega) _) (by decide) ⟨by decide, by decide⟩ (Nat.le_of_ble_eq_true rfl) ?_
                refine R_iload_n (i := 2) hC dX11_witness_94 rfl rfl ?_
                refine R_icmp_ne hC 164 dX11_witness_95 (by decide) (fun h95 => ?_) (fun h95 => ?_)
                · exact skp (by first | exact fun z => h95 (em2.mpr (by have := z.1.2.2.2.2; have := em.mp h86; omega)) | exact fun z => z.2 (sml_in.mpr (ite1 h118)))
                · have e1 := em.mp h86
                  have e2 := em2.mp h95
                  refine R_aload_n (i := 0) hC dX11_witness_98 rfl rfl (R_gR hC dX11_witness_99 fl_X11_38 L_M rfl (R_bipush (v := 64) hC dX11_witness_102 (by decide) (R_iload_n (i := 3) hC dX11_witness_104 rfl rfl (R_imul hC dX11_witness_105 (R_iload hC dX11_witness_106 rfl (R_iadd hC dX11_witness_108 (R_aI hC dX11_witness_109 L_m_dets (64 * n + c) (n64 n c) (by omega) (by decide) ?_)))))))
                  refine R_top (y := dD (tT α).2.2 n c) (hω.2.2 n c hn hc (by omega)) ?_
                  refine R_i2l hC dX11_witness_110 (R_ldc2 hC dX11_witness_111 kc_X11_162 (R_lconst (v := 1) hC dX11_witness_114 (by decide) ?_))
                  refine R_S3i hC hR dX11_witness_115 MS_X11_isIn ml_X11_140 (s_isInZ (dD (tT α).2.2 n c) (-1) 1 (-1) 1 (by decide) (by decide) _) (by decide) ⟨by decide, by decide⟩ (Nat.le_of_ble_eq_true rfl) ?_
                  refine R_if_eq hC 124 dX11_witness_118 (by decide) (fun h118 => ?_) (fun h118 => ?_)
                  · have hb : bey (tT α) n c := ⟨⟨n1, hn, c1, hc, by omega⟩, fun z => ite0 h118 (sml_in.mp z)⟩
                    have hwt : wit (tT α) (n, c) := ⟨hb, fun R C y => by
                      have a := hk R C y
                      by_cases e : pc6 R = k
                      · have b := hnb R C y e
                        rcases (by omega : n < R ∨ R = n) with q | rfl
                        · exact Or.inr ⟨by show pc6 n = pc6 R; omega, Or.inl q⟩
                        · exact Or.inr ⟨rfl, Or.inr ⟨rfl, hcb C y e⟩⟩
                      · exact Or.inl (by show pc6 n < pc6 R; omega)⟩
                    have ev := opWitness_y hw hwt
                    refine R_iload_n (i := 1) hC dX11_witness_124 rfl rfl ?_
                    refine R_if_ne hC 132 dX11_witness_125 (by decide) (fun h125 => ?_) (fun h125 => ?_)
                    · refine R_iload_n (i := 1) hC dX11_witness_132 rfl rfl (R_iconst (v := 1) hC dX11_witness_133 (by decide) ?_)
                      refine R_icmp_ne hC 141 dX11_witness_134 (by decide) (fun h134 => ?_) (fun h134 => ?_)
                      · refine R_iload_n (i := 1) hC dX11_witness_141 rfl rfl (R_iconst (v := 2) hC dX11_witness_142 (by decide) ?_)
                        refine R_icmp_ne hC 151 dX11_witness_143 (by decide) (fun h143 => ?_) (fun h143 => ?_)
                        · refine R_aload_n (i := 0) hC dX11_witness_151 rfl rfl (R_gR hC dX11_witness_152 fl_X11_38 L_M rfl (R_bipush (v := 64) hC dX11_witness_155 (by decide) (R_iload_n (i := 3) hC dX11_witness_157 rfl rfl (R_imul hC dX11_witness_158 (R_iload hC dX11_witness_159 rfl (R_iadd hC dX11_witness_161 (R_aI hC dX11_witness_162 L_m_dets (64 * n + c) (n64 n c) (by omega) (by decide) ?_)))))))
                          try refine R_top (y := dD (tT α).2.2 n c) (hω.2.2 n c hn hc (by omega)) ?_
                          exact R_iret hC hT dX11_witness_163 rfl (by
                          rw [ev]
                          unfold wv
                          first
                          | (rw [if_neg h125, if_neg h134, if_neg h143]; exact hω.p)
                          | (have h144 := h143; rw [if_neg h125, if_neg h134, if_pos h144]; exact hω.p)
                          | (have h135 := h134; rw [if_neg h125, if_pos h135]; exact hω.p)
                          | (have h126 := h125; rw [if_pos h126, show pc6 (n, c).1 = k from e1]; exact hω.p))
                        · refine R_iload hC dX11_witness_146 rfl (R_goto hC 163 dX11_witness_148 (by decide) ?_)
                          try refine R_top (y := dD (tT α).2.2 n c) (hω.2.2 n c hn hc (by omega)) ?_
                          exact R_iret hC hT dX11_witness_163 rfl (by
                          rw [ev]
                          unfold wv
                          first
                          | (rw [if_neg h125, if_neg h134, if_neg h143]; exact hω.p)
                          | (have h144 := h143; rw [if_neg h125, if_neg h134, if_pos h144]; exact hω.p)
                          | (have h135 := h134; rw [if_neg h125, if_pos h135]; exact hω.p)
                          | (have h126 := h125; rw [if_pos h126, show pc6 (n, c).1 = k from e1]; exact hω.p))
                      · refine R_iload_n (i := 3) hC dX11_witness_137 rfl rfl (R_goto hC 163 dX11_witness_138 (by decide) ?_)
                        try refine R_top (y := dD (tT α).2.2 n c) (hω.2.2 n c hn hc (by omega)) ?_
                        exact R_iret hC hT dX11_witness_163 rfl (by
                        rw [ev]
                        unfold wv
                        first
                        | (rw [if_neg h125, if_neg h134, if_neg h143]; exact hω.p)
                        | (have h144 := h143; rw [if_neg h125, if_neg h134, if_pos h144]; exact hω.p)
                        | (have h135 := h134; rw [if_neg h125, if_pos h135]; exact hω.p)
                        | (have h126 := h125; rw [if_pos h126, show pc6 (n, c).1 = k from e1]; exact hω.p))
                    · refine R_iload_n (i := 2) hC dX11_witness_128 rfl rfl (R_goto hC 163 dX11_witness_129 (by decide) ?_)
                      try refine R_top (y := dD (tT α).2.2 n c) (hω.2.2 n c hn hc (by omega)) ?_
                      exact R_iret hC hT dX11_witness_163 rfl (by
                      rw [ev]
                      unfold wv
                      first
                      | (rw [if_neg h125, if_neg h134, if_neg h143]; exact hω.p)
                      | (have h144 := h143; rw [if_neg h125, if_neg h134, if_pos h144]; exact hω.p)
                      | (have h135 := h134; rw [if_neg h125, if_pos h135]; exact hω.p)
                      | (have h126 := h125; rw [if_pos h126, show pc6 (n, c).1 = k from e1]; exact hω.p))
                  · refine R_goto hC 164 dX11_witness_121 (by decide) ?_
                    exact skp (by first | exact fun z => h95 (em2.mpr (by have := z.1.2.2.2.2; have := em.mp h86; omega)) | exact fun z => z.2 (sml_in.mpr (ite1 h118)))
          refine R_iload_n (i := 3) hC dX11_witness_51 rfl rfl (R_iconst (v := 1) hC dX11_witness_52 (by decide) (R_aload_n (i := 0) hC dX11_witness_53 rfl rfl (R_gR hC dX11_witness_54 fl_X11_13 L_M rfl (R_bipush (v := 36) hC dX11_witness_57 (by decide) (R_aI hC dX11_witness_59 L_m_now 36 rfl (by decide) (by decide) ?_)))))
          refine R_top (y := nI (tT α).1) (hω.R) ?_
          refine R_ishl hC dX11_witness_60 ?_
          refine R_top (y := nI (2 ^ (tT α).1)) (shl1 _ hR6) ?_
          refine R_icmp_ge hC 176 dX11_witness_61 (by decide) (fun h => absurd h (nI_ge hn (by omega))) (fun _ => ?_)
          refine R_iconst (v := 1) hC dX11_witness_64 (by decide) (R_istore hC dX11_witness_65 (by decide) rfl ?_)
          exact col 1 (Nat.one_le_two_pow) (Nat.le_refl _) (fun C y _ => y.1.2.2.1)
      refine R_iload_n (i := 2) hC dX11_witness_43 rfl rfl (R_bipush (v := 6) hC dX11_witness_44 (by decide) ?_)
      refine R_icmp_gt hC 182 dX11_witness_46 (by decide) (fun h => absurd h (nI_nlt (b := k) (a := 6) (by omega) (by decide))) (fun _ => ?_)
      refine R_iconst (v := 1) hC dX11_witness_49 (by decide) (R_istore_n (i := 3) hC dX11_witness_50 rfl (by decide) rfl ?_)
      exact row 1 (Nat.one_le_two_pow) (Nat.le_refl _) (fun R C y _ => y.1.1) _
  refine R_aload_n (i := 0) hC dX11_witness_0 rfl rfl (R_iconst (v := 0) hC dX11_witness_1 (by decide) (R_pI hC dX11_witness_2 fl_X11_83 L_M rfl (R_aload_n (i := 0) hC dX11_witness_5 rfl rfl (R_gR hC dX11_witness_6 fl_X11_13 L_M rfl (R_bipush (v := 36) hC dX11_witness_9 (by decide) (R_aI hC dX11_witness_11 L_m_now 36 rfl (by decide) (by decide) ?_))))))
  refine R_top (y := nI (tT α).1) hT1 ?_
  refine R_if_eq hC 38 dX11_witness_12 (by decide) (fun h12 => ?_) (fun h12 => ?_)
  · refine R_ldc hC dX11_witness_38 kc_X11_133 ?_
    exact R_iret hC hT dX11_witness_40 rfl (by
    first
    | (rw [no (fun z => z.1 ((T0_iff ok).mp h12))]; exact MPost.i h1 (M_ceq σ))
    | (rw [no (fun z => ite0 h24 z.2)]; exact MPost.i h1 (M_ceq σ))
    | (rw [opWitness_n (fun R C z => z.2 (b2i_ne h35 R C z.1))]; exact (MD.of h hg).p))
  · refine R_iload_n (i := 1) hC dX11_witness_15 rfl rfl (R_i2l hC dX11_witness_16 (R_lconst (v := 0) hC dX11_witness_17 (by decide) (R_ldc2 hC dX11_witness_18 kc_X11_231 ?_)))
    refine R_S3i hC hR dX11_witness_21 MS_X11_isIn ml_X11_140 (s_isInZ w 0 3 0 3 (by decide) (by decide) _) (by decide) ⟨by decide, by decide⟩ (Nat.le_of_ble_eq_true rfl) ?_
    refine R_if_eq hC 38 dX11_witness_24 (by decide) (fun h24 => ?_) (fun h24 => ?_)
    · refine R_ldc hC dX11_witness_38 kc_X11_133 ?_
      exact R_iret hC hT dX11_witness_40 rfl (by
      first
      | (rw [no (fun z => z.1 ((T0_iff ok).mp h12))]; exact MPost.i h1 (M_ceq σ))
      | (rw [no (fun z => ite0 h24 z.2)]; exact MPost.i h1 (M_ceq σ))
      | (rw [opWitness_n (fun R C z => z.2 (b2i_ne h35 R C z.1))]; exact (MD.of h hg).p))
    · refine R_aload_n (i := 0) hC dX11_witness_27 rfl rfl (R_aload_n (i := 0) hC dX11_witness_28 rfl rfl (R_gR hC dX11_witness_29 fl_X11_13 L_M rfl ?_))
      refine R_V1g hC hR dX11_witness_32 MV_X11_isTotal ml_X11_227 L_M rfl (s_isTotal (sG σ i_M 0 0) x i_m_now L_m_now (by decide) (tT α) hTB) (by decide) ⟨by decide, by decide⟩ (Nat.le_of_ble_eq_true rfl) (fun r w1 hq => ?_)
      obtain ⟨rfl, g, rfl, hg⟩ := hq
      have n0 : ¬ (tT α).1 = 0 := fun z => h12 ((T0_iff ok).mpr z)
      refine R_if_eq hC 41 dX11_witness_35 (by decide) (fun h35 => ?_) (fun h35 => ?_)
      · refine R_iconst (v := 1) hC dX11_witness_41 (by decide) (R_istore_n (i := 2) hC dX11_witness_42 rfl (by decide) rfl ?_)
        exact loop _ (MD.of h hg) ⟨n0, ite1 h24⟩ 1 (by decide) (by decide) (fun R C z => by have := z.1.1; have := pc6_0 R (by have := z.1.2.1; omega); omega) _ _
      · refine R_ldc hC dX11_witness_38 kc_X11_133 ?_
        exact R_iret hC hT dX11_witness_40 rfl (by
        first
        | (rw [no (fun z => z.1 ((T0_iff ok).mp h12))]; exact MPost.i h1 (M_ceq σ))
        | (rw [no (fun z => ite0 h24 z.2)]; exact MPost.i h1 (M_ceq σ))
        | (rw [opWitness_n (fun R C z => z.2 (b2i_ne h35 R C z.1))]; exact (MD.of h hg).p))
/-- the model's cells that a call's answer leaves -/
def MZ (σ ω : sg) (α : aS) : Prop := MInv ω α ∧ CEq σ ω
theorem s_isTotalWith (σ : sg) (x : aW) (T : tb) (hT0 : TB (σ.2.2 i_m_now) T) (r c : Nat) (hr : r < T.1) (hc : c < T.2.1) (v : Int32) (hv : sml v) :
    Mt mX11_isTotalWith 3 0 0 [.ref i_M, .int (nI (6 * r + c)), .int v] (wd σ x) (fun q w => q = some (.int (b2i (tot (tset T r c v)))) ∧ ∃ g1 g2, w = wd (sA (sA σ i_m_trial g1) i_m_dets g2) x) := by
  refine Mt.of MI_X11_isTotalWith (Nat.le_of_ble_eq_true rfl) (fun X hC hR hT => ?_)
  obtain ⟨hR1, hC1, hR6, hC6, hE⟩ := id hT0
  have hTR : TB ((sA σ i_m_trial (upd (cpy (σ.2.2 i_m_now) (σ.2.2 i_m_trial) 38) (6 * r + c) v)).2.2 i_m_trial) (tset T r c v) := by
    rw [sA_eq]
    refine ⟨?_, ?_, hR6, hC6, fun i j hi hj => ⟨?_, ?_⟩⟩
    · rw [upd, if_neg (by omega)]; unfold cpy; rw [if_pos (by decide)]; exact hR1
    · rw [upd, if_neg (by omega)]; unfold cpy; rw [if_pos (by decide)]; exact hC1
    · have hi : i < T.1 := hi
      have hj : j < T.2.1 := hj
      rw [upd6 (by omega) (by omega)]
      show _ = if i = r ∧ j = c then v else T.2.2 i j
      split
      · rfl
      · unfold cpy; rw [if_pos (by omega)]; exact (hE i j hi hj).1
    · show sml (if i = r ∧ j = c then v else T.2.2 i j)
      split
      · exact hv
      · exact (hE i j hi hj).2
  refine R_aload_n (i := 0) hC dX11_isTotalWith_0 rfl rfl (R_gR hC dX11_isTotalWith_1 fl_X11_13 L_M rfl (R_aload_n (i := 0) hC dX11_isTotalWith_4 rfl rfl (R_gR hC dX11_isTotalWith_5 fl_X11_20 L_M rfl ?_)))
  refine R_S2v hC hR dX11_isTotalWith_8 MS_X11_copy ml_X11_170 (s_copy σ x i_m_now i_m_trial L_m_now L_m_trial (by decide)) (by decide) ⟨by decide, by decide⟩ (Nat.le_of_ble_eq_true rfl) ?_
  refine R_aload_n (i := 0) hC dX11_isTotalWith_11 rfl rfl (R_gR hC dX11_isTotalWith_12 fl_X11_20 L_M rfl (R_iload_n (i := 1) hC dX11_isTotalWith_15 rfl rfl (R_iload_n (i := 2) hC dX11_isTotalWith_16 rfl rfl (R_sI hC dX11_isTotalWith_17 L_m_trial (6 * r + c) rfl (by omega) (by decide) ?_))))
  refine R_wd (by rw [sA_eq, sA_sA]) ?_
  refine R_aload_n (i := 0) hC dX11_isTotalWith_18 rfl rfl (R_aload_n (i := 0) hC dX11_isTotalWith_19 rfl rfl (R_gR hC dX11_isTotalWith_20 fl_X11_20 L_M rfl ?_))
  refine R_V1g hC hR dX11_isTotalWith_23 MV_X11_isTotal ml_X11_227 L_M rfl (s_isTotal (sA σ i_m_trial (upd (cpy (σ.2.2 i_m_now) (σ.2.2 i_m_trial) 38) (6 * r + c) v)) x i_m_trial L_m_trial (by decide) (tset T r c v) hTR) (by decide) ⟨by decide, by decide⟩ (Nat.le_of_ble_eq_true rfl) (fun r w1 hq => ?_)
  obtain ⟨rfl, g, rfl, -⟩ := hq
  exact R_zret hC hT dX11_isTotalWith_26 rfl (b2i_z _) ⟨rfl, _, _, rfl⟩
theorem MZ.of {σ : sg} {α : aS} (h : MInv σ α) : MZ σ (sG σ i_M 0 0) α := ⟨M_thr h 0, M_ceq σ⟩
theorem MZ.R {σ ω : sg} {α : aS} (h : MZ σ ω α) : ω.2.2 i_m_now 36 = nI (tT α).1 := h.1.2.1.1
theorem MZ.C {σ ω : sg} {α : aS} (h : MZ σ ω α) : ω.2.2 i_m_now 37 = nI (tT α).2.1 := h.1.2.1.2.1
theorem MZ.T {σ ω : sg} {α : aS} (h : MZ σ ω α) (ok : aOK α) : TB (ω.2.2 i_m_now) (tT α) := h.1.2.1.TB ok.2.2.1
theorem MZ.p {σ ω : sg} {x : aW} {α : aS} {v : Int32} (h : MZ σ ω α) : MPost σ x v α (some (.int v)) (wd ω x) := MPost.i h.1 h.2
theorem MZ.a {σ ω : sg} {α : aS} (h : MZ σ ω α) {i : Nat} {f : Nat → Int32} (hc : i_M ≤ i) (hi : i ≠ i_m_tape ∧ i ≠ i_m_now ∧ i ≠ i_m_kept ∧ i ≠ i_m_plan ∧ i ≠ i_m_planLong ∧ i ≠ i_m_status ∧ i ≠ i_m_undoRow ∧ i ≠ i_m_imageRow) : MZ σ (sA ω i f) α := ⟨h.1.a hi, h.2.a hc⟩
theorem MZ.g {σ ω : sg} {α : aS} (h : MZ σ ω α) {k : Nat} {v : Int32} (hk : k ≠ 2 ∧ k ≠ 12 ∧ k ≠ 13 ∧ k ≠ 15 ∧ k ≠ 33 ∧ k ≠ 34) : MZ σ (sG ω i_M k v) α := ⟨h.1.g hk, h.2.g (Nat.le_refl _)⟩
theorem MZ.e {σ ω : sg} {α : aS} (h : MZ σ ω α) {i j : Nat} (hi : i < (tT α).1) (hj : j < (tT α).2.1) : ω.2.2 i_m_now (6 * i + j) = (tT α).2.2 i j := h.1.2.1.2.2 i j hi hj
/-- another value somewhere makes the table total -/
def isMend (T : tb) (r c j : Nat) : Prop := r < T.1 ∧ c < T.2.1 ∧ j < 3 ∧ tot (tset T r c (nI j - 1))
def fstM (T : tb) (p : Nat × Nat × Nat) : Prop := isMend T p.1 p.2.1 p.2.2 ∧ ∀ r c j, isMend T r c j → p.1 < r ∨ (p.1 = r ∧ (p.2.1 < c ∨ (p.2.1 = c ∧ p.2.2 ≤ j)))
theorem fstM_u {T : tb} {p q : Nat × Nat × Nat} (h : fstM T p) (k : fstM T q) : p = q := by
  have h1 := h.2 _ _ _ k.1
  have h2 := k.2 _ _ _ h.1
  exact Prod.ext (by omega) (Prod.ext (by omega) (by omega))
noncomputable def opMends (α : aS) : Int32 := by classical exact
  (if (tT α).1 = 0 then -1 else if tot (tT α) then -1000000 else if h : ∃ p, fstM (tT α) p then nI (100 * (Classical.choose h).1 + 10 * (Classical.choose h).2.1 + (Classical.choose h).2.2) else -1)
theorem opMends_y {α : aS} {p : Nat × Nat × Nat} (h0 : ¬ (tT α).1 = 0) (ht : ¬ tot (tT α)) (hp : fstM (tT α) p) : opMends α = nI (100 * p.1 + 10 * p.2.1 + p.2.2) := by
  unfold opMends
  rw [if_neg h0, if_neg ht, dif_pos ⟨p, hp⟩, fstM_u (Classical.choose_spec ⟨p, hp⟩) hp]
theorem opMends_n {α : aS} (h0 : ¬ (tT α).1 = 0) (ht : ¬ tot (tT α)) (hp : ∀ r c j, ¬ isMend (tT α) r c j) : opMends α = -1 := by
  unfold opMends
  rw [if_neg h0, if_neg ht, dif_neg (fun ⟨p, q⟩ => hp _ _ _ q.1)]
theorem vj {j : Nat} (h : j < 3) : sml (nI j - 1) := by
  rcases (by omega : j = 0 ∨ j = 1 ∨ j = 2) with rfl | rfl | rfl
  · exact Or.inl (by decide)
  · exact Or.inr (Or.inl (by decide))
  · exact Or.inr (Or.inr (by decide))
theorem vj_s (j : Nat) : nI j - 1 + Int32.ofInt 1 = nI (j + 1) - 1 := by rw [nI_pred, show Int32.ofInt 1 = 1 from rfl, Int32.sub_add_cancel]
theorem vj_3 : (1 : Int32) < nI 3 - 1 := by decide
theorem vj_n {j : Nat} (h : j < 3) : ¬ (1 : Int32) < nI j - 1 := by
  rcases (by omega : j = 0 ∨ j = 1 ∨ j = 2) with rfl | rfl | rfl <;> decide
theorem tset_self {T : tb} {r c : Nat} {v : Int32} (h : v = T.2.2 r c) : tset T r c v = T := by
  subst h
  refine Prod.ext rfl (Prod.ext rfl ?_)
  funext i j
  show (if i = r ∧ j = c then T.2.2 r c else T.2.2 i j) = T.2.2 i j
  split
  · rename_i q; rw [q.1, q.2]
  · rfl
theorem mend_v (r c j : Nat) : (100 : Int32) * nI r + (10 : Int32) * nI c + (nI j - 1) + 1 = nI (100 * r + 10 * c + j) := by
  rw [show (100 : Int32) = nI 100 from rfl, show (10 : Int32) = nI 10 from rfl, pk_mul, pk_mul, nI_add, Int32.add_assoc, Int32.sub_add_cancel, nI_add]
theorem mo_mends {σ : sg} {x : aW} {α : aS} (h : MInv σ α) (ok : aOK α) : Mt mX11_mends 4 0 0 [.ref i_M] (wd σ x) (MPost σ x (opMends α) α) := by
  refine Mt.of MI_X11_mends (Nat.le_of_ble_eq_true rfl) (fun X hC hR hT => ?_)
  have hT1 : σ.2.2 i_m_now 36 = nI (tT α).1 := h.2.1.1
  have hTB : TB (σ.2.2 i_m_now) (tT α) := h.2.1.TB ok.2.2.1
  have h1 := M_thr h 0
  have hR6 := ok.2.2.1.1
  have hC6 := ok.2.2.1.2.1
  have loop : ¬ (tT α).1 = 0 → ¬ tot (tT α) → ∀ n, n ≤ (tT α).1 → ∀ ω, MZ σ ω α → (∀ r c j, isMend (tT α) r c j → n ≤ r) → ∀ u2 u3, Rw mX11_mends X 33 [some (.ref i_M), some (.int (nI n)), u2, u3] [] (wd ω x) 0 0 := by
    intro n0 nt
    refine up_loop (tT α).1 ?_ ?_
    · intro ω hω hb u2 u3
      refine R_iload_n (i := 1) hC dX11_mends_33 rfl rfl (R_aload_n (i := 0) hC dX11_mends_34 rfl rfl (R_gR hC dX11_mends_35 fl_X11_13 L_M rfl (R_bipush (v := 36) hC dX11_mends_38 (by decide) (R_aI hC dX11_mends_40 L_m_now 36 rfl (by decide) (by decide) ?_))))
      refine R_top (y := nI (tT α).1) (hω.R) ?_
      refine R_icmp_ge hC 128 dX11_mends_41 (by decide) (fun _ => ?_) (fun h => absurd (Int32.le_refl _) h)
      refine R_iconst (v := (-1)) hC dX11_mends_128 (by decide) ?_
      exact R_iret hC hT dX11_mends_129 rfl (by rw [opMends_n n0 nt (fun r c j z => by have := hb r c j z; have := z.1; omega)]; exact hω.p)
    · intro n hn ih ω hω hb u2 u3
      have col : ∀ c, c ≤ (tT α).2.1 → ∀ ω, MZ σ ω α → (∀ c2 j, isMend (tT α) n c2 j → c ≤ c2) → ∀ u3, Rw mX11_mends X 46 [some (.ref i_M), some (.int (nI n)), some (.int (nI c)), u3] [] (wd ω x) 0 0 := by
        refine up_loop (tT α).2.1 ?_ ?_
        · intro ω hω hcb u3
          refine R_iload_n (i := 2) hC dX11_mends_46 rfl rfl (R_aload_n (i := 0) hC dX11_mends_47 rfl rfl (R_gR hC dX11_mends_48 fl_X11_13 L_M rfl (R_bipush (v := 37) hC dX11_mends_51 (by decide) (R_aI hC dX11_mends_53 L_m_now 37 rfl (by decide) (by decide) ?_))))
          refine R_top (y := nI (tT α).2.1) (hω.C) ?_
          refine R_icmp_ge hC 122 dX11_mends_54 (by decide) (fun _ => ?_) (fun h => absurd (Int32.le_refl _) h)
          refine R_iinc hC dX11_mends_122 rfl (inc1 _) (by decide) rfl (R_goto hC 33 dX11_mends_125 (by decide) ?_)
          exact ih ω hω (fun r c j z => by have := hb r c j z; rcases (by omega : n + 1 ≤ r ∨ r = n) with q | rfl; exact q; have := hcb c j z; have := z.2.1; omega) _ _
        · intro c hc ihc ω hω hcb u3
          have vl : ∀ j, j ≤ 3 → ∀ ω, MZ σ ω α → (∀ j2, isMend (tT α) n c j2 → j ≤ j2) → Rw mX11_mends X 59 [some (.ref i_M), some (.int (nI n)), some (.int (nI c)), some (.int (nI j - 1))] [] (wd ω x) 0 0 := by
            refine up_loop 3 ?_ ?_
            · intro ω hω hjb
              refine R_iload_n (i := 3) hC dX11_mends_59 rfl rfl (R_iconst (v := 1) hC dX11_mends_60 (by decide) ?_)
              refine R_icmp_gt hC 116 dX11_mends_61 (by decide) (fun _ => ?_) (fun h => absurd vj_3 h)
              refine R_iinc hC dX11_mends_116 rfl (inc1 _) (by decide) rfl (R_goto hC 46 dX11_mends_119 (by decide) ?_)
              exact ihc ω hω (fun c2 j z => by have := hcb c2 j z; rcases (by omega : c + 1 ≤ c2 ∨ c2 = c) with q | rfl; exact q; have := hjb j z; have := z.2.2.1; omega) _
            · intro j hj ihj ω hω hjb
              have nx : ¬ isMend (tT α) n c j → ∀ ω, MZ σ ω α → Rw mX11_mends X 110 [some (.ref i_M), some (.int (nI n)), some (.int (nI c)), some (.int (nI j - 1))] [] (wd ω x) 0 0 := by
                intro z ω hω
                refine R_iinc hC dX11_mends_110 rfl (vj_s j) (by decide) rfl (R_goto hC 59 dX11_mends_113 (by decide) ?_)
                exact ihj ω hω (fun j2 y => by have := hjb j2 y; rcases (by omega : j + 1 ≤ j2 ∨ j2 = j) with q | rfl; exact q; exact absurd y z)
              refine R_iload_n (i := 3) hC dX11_mends_59 rfl rfl (R_iconst (v := 1) hC dX11_mends_60 (by decide) ?_)
              refine R_icmp_gt hC 116 dX11_mends_61 (by decide) (fun h => absurd h (vj_n hj)) (fun _ => ?_)
              refine R_iload_n (i := 3) hC dX11_mends_64 rfl rfl (R_aload_n (i := 0) hC dX11_mends_65 rfl rfl (R_gR hC dX11_mends_66 fl_X11_13 L_M rfl (R_bipush (v := 6) hC dX11_mends_69 (by decide) (R_iload_n (i := 1) hC dX11_mends_71 rfl rfl (R_imul hC dX11_mends_72 (R_iload_n (i := 2) hC dX11_mends_73 rfl rfl (R_iadd hC dX11_mends_74 ?_)))))))
              refine R_aI hC dX11_mends_75 L_m_now (6 * n + c) (n6 n c) (by omega) (by decide) ?_
              refine R_top (y := (tT α).2.2 n c) (hω.e hn hc) ?_
              refine R_icmp_ne hC 82 dX11_mends_76 (by decide) (fun h76 => ?_) (fun h76 => ?_)
              · refine R_aload_n (i := 0) hC dX11_mends_82 rfl rfl (R_bipush (v := 6) hC dX11_mends_83 (by decide) (R_iload_n (i := 1) hC dX11_mends_85 rfl rfl (R_imul hC dX11_mends_86 (R_iload_n (i := 2) hC dX11_mends_87 rfl rfl (R_iadd hC dX11_mends_88 ?_)))))
                refine R_top (y := nI (6 * n + c)) (n6 n c) ?_
                refine R_iload_n (i := 3) hC dX11_mends_89 rfl rfl ?_
                refine R_V2g hC hR dX11_mends_90 MV_X11_isTotalWith ml_X11_313 L_M rfl (s_isTotalWith ω x (tT α) (hω.T ok) n c hn hc _ (vj hj)) (by decide) ⟨by decide, by decide⟩ (Nat.le_of_ble_eq_true rfl) (fun r w1 hq => ?_)
                obtain ⟨rfl, g1, g2, rfl⟩ := hq
                have hω2 : MZ σ (sA (sA ω i_m_trial g1) i_m_dets g2) α := (hω.a (by decide) (by decide)).a (by decide) (by decide)
                refine R_if_eq hC 110 dX11_mends_93 (by decide) (fun h93 => ?_) (fun h93 => ?_)
                · first
                  | exact nx (fun z => b2i_0 h93 z.2.2.2) _ hω2
                  | (have h77 := h76; exact nx (fun z => nt (by have := z.2.2.2; rwa [tset_self h77] at this)) _ hω)
                · refine R_bipush (v := 100) hC dX11_mends_96 (by decide) (R_iload_n (i := 1) hC dX11_mends_98 rfl rfl (R_imul hC dX11_mends_99 (R_bipush (v := 10) hC dX11_mends_100 (by decide) (R_iload_n (i := 2) hC dX11_mends_102 rfl rfl (R_imul hC dX11_mends_103 (R_iadd hC dX11_mends_104 (R_iload_n (i := 3) hC dX11_mends_105 rfl rfl ?_)))))))
                  refine R_iadd hC dX11_mends_106 (R_iconst (v := 1) hC dX11_mends_107 (by decide) (R_iadd hC dX11_mends_108 ?_))
                  exact R_iret hC hT dX11_mends_109 rfl (by
                  rw [mend_v, opMends_y n0 nt (p := (n, c, j)) ⟨⟨hn, hc, hj, b2i_ne h93⟩, fun r c2 j2 z => by
                    have := hb r c2 j2 z
                    rcases (by omega : n < r ∨ r = n) with q | rfl
                    · exact Or.inl q
                    · have := hcb c2 j2 z
                      rcases (by omega : c < c2 ∨ c2 = c) with q | rfl
                      · exact Or.inr ⟨rfl, Or.inl q⟩
                      · exact Or.inr ⟨rfl, Or.inr ⟨rfl, hjb j2 z⟩⟩⟩]
                  exact hω2.p)
              · refine R_goto hC 110 dX11_mends_79 (by decide) ?_
                first
                | exact nx (fun z => b2i_0 h93 z.2.2.2) _ hω2
                | (have h77 := h76; exact nx (fun z => nt (by have := z.2.2.2; rwa [tset_self h77] at this)) _ hω)
          refine R_iload_n (i := 2) hC dX11_mends_46 rfl rfl (R_aload_n (i := 0) hC dX11_mends_47 rfl rfl (R_gR hC dX11_mends_48 fl_X11_13 L_M rfl (R_bipush (v := 37) hC dX11_mends_51 (by decide) (R_aI hC dX11_mends_53 L_m_now 37 rfl (by decide) (by decide) ?_))))
          refine R_top (y := nI (tT α).2.1) (hω.C) ?_
          refine R_icmp_ge hC 122 dX11_mends_54 (by decide) (fun h => absurd h (nI_ge hc (by omega))) (fun _ => ?_)
          refine R_iconst (v := (-1)) hC dX11_mends_57 (by decide) (R_istore_n (i := 3) hC dX11_mends_58 rfl (by decide) rfl ?_)
          exact vl 0 (by decide) ω hω (fun _ _ => Nat.zero_le _)
      refine R_iload_n (i := 1) hC dX11_mends_33 rfl rfl (R_aload_n (i := 0) hC dX11_mends_34 rfl rfl (R_gR hC dX11_mends_35 fl_X11_13 L_M rfl (R_bipush (v := 36) hC dX11_mends_38 (by decide) (R_aI hC dX11_mends_40 L_m_now 36 rfl (by decide) (by decide) ?_))))
      refine R_top (y := nI (tT α).1) (hω.R) ?_
      refine R_icmp_ge hC 128 dX11_mends_41 (by decide) (fun h => absurd h (nI_ge hn (by omega))) (fun _ => ?_)
      refine R_iconst (v := 0) hC dX11_mends_44 (by decide) (R_istore_n (i := 2) hC dX11_mends_45 rfl (by decide) rfl ?_)
      exact col 0 (Nat.zero_le _) ω hω (fun _ _ _ => Nat.zero_le _) _
  refine R_aload_n (i := 0) hC dX11_mends_0 rfl rfl (R_iconst (v := 0) hC dX11_mends_1 (by decide) (R_pI hC dX11_mends_2 fl_X11_83 L_M rfl (R_aload_n (i := 0) hC dX11_mends_5 rfl rfl (R_gR hC dX11_mends_6 fl_X11_13 L_M rfl (R_bipush (v := 36) hC dX11_mends_9 (by decide) (R_aI hC dX11_mends_11 L_m_now 36 rfl (by decide) (by decide) ?_))))))
  refine R_top (y := nI (tT α).1) hT1 ?_
  refine R_if_ne hC 17 dX11_mends_12 (by decide) (fun h12 => ?_) (fun h12 => ?_)
  · refine R_aload_n (i := 0) hC dX11_mends_17 rfl rfl (R_aload_n (i := 0) hC dX11_mends_18 rfl rfl (R_gR hC dX11_mends_19 fl_X11_13 L_M rfl ?_))
    refine R_V1g hC hR dX11_mends_22 MV_X11_isTotal ml_X11_227 L_M rfl (s_isTotal (sG σ i_M 0 0) x i_m_now L_m_now (by decide) (tT α) hTB) (by decide) ⟨by decide, by decide⟩ (Nat.le_of_ble_eq_true rfl) (fun r w1 hq => ?_)
    obtain ⟨rfl, g, rfl, hg⟩ := hq
    have n0 : ¬ (tT α).1 = 0 := fun z => h12 ((T0_iff ok).mpr z)
    refine R_if_eq hC 31 dX11_mends_25 (by decide) (fun h25 => ?_) (fun h25 => ?_)
    · refine R_iconst (v := 0) hC dX11_mends_31 (by decide) (R_istore_n (i := 1) hC dX11_mends_32 rfl (by decide) rfl ?_)
      exact loop n0 (b2i_0 h25) 0 (Nat.zero_le _) _ ((MZ.of h).a (by decide) (by decide)) (fun _ _ _ _ => Nat.zero_le _) _ _
    · refine R_ldc hC dX11_mends_28 kc_X11_133 ?_
      exact R_iret hC hT dX11_mends_30 rfl (by
      first
      | (have e : opMends α = -1000000 := (by unfold opMends; rw [if_neg n0, if_pos (b2i_ne h25)]); rw [e]; exact (MD.of h hg).p)
      | (have e : opMends α = -1 := (by unfold opMends; rw [if_pos ((T0_iff ok).mp h12)]); rw [e]; exact MPost.i h1 (M_ceq σ)))
  · refine R_iconst (v := (-1)) hC dX11_mends_15 (by decide) ?_
    exact R_iret hC hT dX11_mends_16 rfl (by
    first
    | (have e : opMends α = -1000000 := (by unfold opMends; rw [if_neg n0, if_pos (b2i_ne h25)]); rw [e]; exact (MD.of h hg).p)
    | (have e : opMends α = -1 := (by unfold opMends; rw [if_pos ((T0_iff ok).mp h12)]); rw [e]; exact MPost.i h1 (M_ceq σ)))
-- fragile
noncomputable def frH (T : tb) (r c : Nat) (v : Int32) : Int32 := by classical exact (if (¬ T.2.2 r c = 0 ∧ ¬ tot (tset T r c (-(T.2.2 r c)))) then v + 1 else v)
noncomputable def opFragile (α : aS) : Int32 := by classical exact
  (if (¬ (tT α).1 = 0 ∧ tot (tT α)) then fo (fun r v => fo (frH (tT α) r) 0 (tT α).2.1 v) 0 (tT α).1 0 else -1)
theorem mo_fragile {σ : sg} {x : aW} {α : aS} (h : MInv σ α) (ok : aOK α) : Mt mX11_fragile 4 0 0 [.ref i_M] (wd σ x) (MPost σ x (opFragile α) α) := by
  refine Mt.of MI_X11_fragile (Nat.le_of_ble_eq_true rfl) (fun X hC hR hT => ?_)
  have hT1 : σ.2.2 i_m_now 36 = nI (tT α).1 := h.2.1.1
  have hTB : TB (σ.2.2 i_m_now) (tT α) := h.2.1.TB ok.2.2.1
  have h1 := M_thr h 0
  have hR6 := ok.2.2.1.1
  have hC6 := ok.2.2.1.2.1
  have no : ¬ (¬ (tT α).1 = 0 ∧ tot (tT α)) → opFragile α = -1 := fun q => by unfold opFragile; rw [if_neg q]
  have loop : opFragile α = fo (fun r v => fo (frH (tT α) r) 0 (tT α).2.1 v) 0 (tT α).1 0 → ∀ n, n ≤ (tT α).1 → ∀ ω, MZ σ ω α → ∀ u3 u4, Rw mX11_fragile X 32 [some (.ref i_M), some (.int (fo (fun r v => fo (frH (tT α) r) 0 (tT α).2.1 v) 0 n 0)), some (.int (nI n)), u3, u4] [] (wd ω x) 0 0 := by
    intro eo
    refine up_loop (tT α).1 ?_ ?_
    · intro ω hω u3 u4
      refine R_iload_n (i := 2) hC dX11_fragile_32 rfl rfl (R_aload_n (i := 0) hC dX11_fragile_33 rfl rfl (R_gR hC dX11_fragile_34 fl_X11_13 L_M rfl (R_bipush (v := 36) hC dX11_fragile_37 (by decide) (R_aI hC dX11_fragile_39 L_m_now 36 rfl (by decide) (by decide) ?_))))
      refine R_top (y := nI (tT α).1) (hω.R) ?_
      refine R_icmp_ge hC 113 dX11_fragile_40 (by decide) (fun _ => ?_) (fun h => absurd (Int32.le_refl _) h)
      refine R_iload_n (i := 1) hC dX11_fragile_113 rfl rfl ?_
      exact R_iret hC hT dX11_fragile_114 rfl (by rw [eo]; exact hω.p)
    · intro n hn ih ω hω u3 u4
      rw [fo_s _ (Nat.zero_le n)] at ih
      generalize hv0 : fo (fun r v => fo (frH (tT α) r) 0 (tT α).2.1 v) 0 n 0 = v0 at ih ⊢
      have col : ∀ c, c ≤ (tT α).2.1 → ∀ ω, MZ σ ω α → ∀ u4, Rw mX11_fragile X 45 [some (.ref i_M), some (.int (fo (frH (tT α) n) 0 c v0)), some (.int (nI n)), some (.int (nI c)), u4] [] (wd ω x) 0 0 := by
        refine up_loop (tT α).2.1 ?_ ?_
        · intro ω hω u4
          refine R_iload_n (i := 3) hC dX11_fragile_45 rfl rfl (R_aload_n (i := 0) hC dX11_fragile_46 rfl rfl (R_gR hC dX11_fragile_47 fl_X11_13 L_M rfl (R_bipush (v := 37) hC dX11_fragile_50 (by decide) (R_aI hC dX11_fragile_52 L_m_now 37 rfl (by decide) (by decide) ?_))))
          refine R_top (y := nI (tT α).2.1) (hω.C) ?_
          refine R_icmp_ge hC 107 dX11_fragile_53 (by decide) (fun _ => ?_) (fun h => absurd (Int32.le_refl _) h)
          refine R_iinc hC dX11_fragile_107 rfl (inc1 _) (by decide) rfl (R_goto hC 32 dX11_fragile_110 (by decide) ?_)
          exact ih ω hω _ _
        · intro c hc ihc ω hω u4
          rw [fo_s _ (Nat.zero_le c)] at ihc
          generalize hvc : fo (frH (tT α) n) 0 c v0 = vc at ihc ⊢
          have nx : ∀ b, frH (tT α) n c vc = vc + b → ∀ ω, MZ σ ω α → ∀ u4, Rw mX11_fragile X 99 [some (.ref i_M), some (.int vc), some (.int (nI n)), some (.int (nI c)), u4] [.int b, .int vc] (wd ω x) 0 0 := by
            intro b hb ω hω u4
            rw [hb] at ihc
            refine R_iadd hC dX11_fragile_99 (R_istore_n (i := 1) hC dX11_fragile_100 rfl (by decide) rfl (R_iinc hC dX11_fragile_101 rfl (inc1 _) (by decide) rfl (R_goto hC 45 dX11_fragile_104 (by decide) ?_)))
            exact ihc ω hω _
          have hsm := ok.2.2.1.2.2.2 n c hn hc
          refine R_iload_n (i := 3) hC dX11_fragile_45 rfl rfl (R_aload_n (i := 0) hC dX11_fragile_46 rfl rfl (R_gR hC dX11_fragile_47 fl_X11_13 L_M rfl (R_bipush (v := 37) hC dX11_fragile_50 (by decide) (R_aI hC dX11_fragile_52 L_m_now 37 rfl (by decide) (by decide) ?_))))
          refine R_top (y := nI (tT α).2.1) (hω.C) ?_
          refine R_icmp_ge hC 107 dX11_fragile_53 (by decide) (fun h => absurd h (nI_ge hc (by omega))) (fun _ => ?_)
          refine R_aload_n (i := 0) hC dX11_fragile_56 rfl rfl (R_gR hC dX11_fragile_57 fl_X11_13 L_M rfl (R_bipush (v := 6) hC dX11_fragile_60 (by decide) (R_iload_n (i := 2) hC dX11_fragile_62 rfl rfl (R_imul hC dX11_fragile_63 (R_iload_n (i := 3) hC dX11_fragile_64 rfl rfl (R_iadd hC dX11_fragile_65 (R_aI hC dX11_fragile_66 L_m_now (6 * n + c) (n6 n c) (by omega) (by decide) ?_)))))))
          refine R_top (y := (tT α).2.2 n c) (hω.e hn hc) ?_
          refine R_istore hC dX11_fragile_67 (by decide) rfl (R_iload hC dX11_fragile_69 rfl ?_)
          refine R_if_ne hC 77 dX11_fragile_71 (by decide) (fun h71 => ?_) (fun h71 => ?_)
          · refine R_iload_n (i := 1) hC dX11_fragile_77 rfl rfl (R_aload_n (i := 0) hC dX11_fragile_78 rfl rfl (R_bipush (v := 6) hC dX11_fragile_79 (by decide) (R_iload_n (i := 2) hC dX11_fragile_81 rfl rfl (R_imul hC dX11_fragile_82 (R_iload_n (i := 3) hC dX11_fragile_83 rfl rfl (R_iadd hC dX11_fragile_84 ?_))))))
            refine R_top (y := nI (6 * n + c)) (n6 n c) ?_
            refine R_iload hC dX11_fragile_85 rfl (R_ineg hC dX11_fragile_87 ?_)
            refine R_V2g hC hR dX11_fragile_88 MV_X11_isTotalWith ml_X11_313 L_M rfl (s_isTotalWith ω x (tT α) (hω.T ok) n c hn hc _ (sml_neg hsm)) (by decide) ⟨by decide, by decide⟩ (Nat.le_of_ble_eq_true rfl) (fun r w1 hq => ?_)
            obtain ⟨rfl, g1, g2, rfl⟩ := hq
            have hω2 : MZ σ (sA (sA ω i_m_trial g1) i_m_dets g2) α := (hω.a (by decide) (by decide)).a (by decide) (by decide)
            refine R_if_eq hC 98 dX11_fragile_91 (by decide) (fun h91 => ?_) (fun h91 => ?_)
            · refine R_iconst (v := 1) hC dX11_fragile_98 (by decide) ?_
              exact nx _ (by
              unfold frH
              first
              | (have h92 := h91; rw [if_pos ⟨h71, b2i_0 h92⟩]; done)
              | (rw [if_neg (fun z => z.2 (b2i_ne h91)), Int32.add_zero]; done)) _ hω2 _
            · refine R_iconst (v := 0) hC dX11_fragile_94 (by decide) (R_goto hC 99 dX11_fragile_95 (by decide) ?_)
              exact nx _ (by
              unfold frH
              first
              | (have h92 := h91; rw [if_pos ⟨h71, b2i_0 h92⟩]; done)
              | (rw [if_neg (fun z => z.2 (b2i_ne h91)), Int32.add_zero]; done)) _ hω2 _
          · refine R_goto hC 101 dX11_fragile_74 (by decide) (R_iinc hC dX11_fragile_101 rfl (inc1 _) (by decide) rfl (R_goto hC 45 dX11_fragile_104 (by decide) ?_))
            (have e : frH (tT α) n c vc = vc := (by unfold frH; rw [if_neg (fun z => z.1 h71)]); rw [e] at ihc; exact ihc ω hω _)
      refine R_iload_n (i := 2) hC dX11_fragile_32 rfl rfl (R_aload_n (i := 0) hC dX11_fragile_33 rfl rfl (R_gR hC dX11_fragile_34 fl_X11_13 L_M rfl (R_bipush (v := 36) hC dX11_fragile_37 (by decide) (R_aI hC dX11_fragile_39 L_m_now 36 rfl (by decide) (by decide) ?_))))
      refine R_top (y := nI (tT α).1) (hω.R) ?_
      refine R_icmp_ge hC 113 dX11_fragile_40 (by decide) (fun h => absurd h (nI_ge hn (by omega))) (fun _ => ?_)
      refine R_iconst (v := 0) hC dX11_fragile_43 (by decide) (R_istore_n (i := 3) hC dX11_fragile_44 rfl (by decide) rfl ?_)
      exact col 0 (Nat.zero_le _) ω hω _
  refine R_aload_n (i := 0) hC dX11_fragile_0 rfl rfl (R_iconst (v := 0) hC dX11_fragile_1 (by decide) (R_pI hC dX11_fragile_2 fl_X11_83 L_M rfl (R_aload_n (i := 0) hC dX11_fragile_5 rfl rfl (R_gR hC dX11_fragile_6 fl_X11_13 L_M rfl (R_bipush (v := 36) hC dX11_fragile_9 (by decide) (R_aI hC dX11_fragile_11 L_m_now 36 rfl (by decide) (by decide) ?_))))))
  refine R_top (y := nI (tT α).1) hT1 ?_
  refine R_if_eq hC 26 dX11_fragile_12 (by decide) (fun h12 => ?_) (fun h12 => ?_)
  · refine R_iconst (v := (-1)) hC dX11_fragile_26 (by decide) ?_
    exact R_iret hC hT dX11_fragile_27 rfl (by
    first
    | (have h24 := h23; rw [no (fun z => b2i_0 h24 z.2)]; exact (MD.of h hg).p)
    | (rw [no (fun z => z.1 ((T0_iff ok).mp h12))]; exact MPost.i h1 (M_ceq σ)))
  · refine R_aload_n (i := 0) hC dX11_fragile_15 rfl rfl (R_aload_n (i := 0) hC dX11_fragile_16 rfl rfl (R_gR hC dX11_fragile_17 fl_X11_13 L_M rfl ?_))
    refine R_V1g hC hR dX11_fragile_20 MV_X11_isTotal ml_X11_227 L_M rfl (s_isTotal (sG σ i_M 0 0) x i_m_now L_m_now (by decide) (tT α) hTB) (by decide) ⟨by decide, by decide⟩ (Nat.le_of_ble_eq_true rfl) (fun r w1 hq => ?_)
    obtain ⟨rfl, g, rfl, hg⟩ := hq
    have n0 : ¬ (tT α).1 = 0 := fun z => h12 ((T0_iff ok).mpr z)
    refine R_if_ne hC 28 dX11_fragile_23 (by decide) (fun h23 => ?_) (fun h23 => ?_)
    · refine R_iconst (v := 0) hC dX11_fragile_28 (by decide) (R_istore_n (i := 1) hC dX11_fragile_29 rfl (by decide) rfl (R_iconst (v := 0) hC dX11_fragile_30 (by decide) (R_istore_n (i := 2) hC dX11_fragile_31 rfl (by decide) rfl ?_)))
      exact loop (by unfold opFragile; rw [if_pos ⟨n0, b2i_ne h23⟩]) 0 (Nat.zero_le _) _ ((MZ.of h).a (by decide) (by decide)) _ _
    · refine R_iconst (v := (-1)) hC dX11_fragile_26 (by decide) ?_
      exact R_iret hC hT dX11_fragile_27 rfl (by
      first
      | (have h24 := h23; rw [no (fun z => b2i_0 h24 z.2)]; exact (MD.of h hg).p)
      | (rw [no (fun z => z.1 ((T0_iff ok).mp h12))]; exact MPost.i h1 (M_ceq σ)))
-- fills
noncomputable def fiH (T : tb) (r c : Nat) (j : Nat) (v : Int32) : Int32 := by classical exact (if tot (tset T r c (nI j - 1)) then v ||| (1 : Int32) <<< (nI j &&& 31) else v)
noncomputable def opFills (α : aS) (r c : Int32) : Int32 := by classical exact
  (if (inR (tT α).1 r ∧ inR (tT α).2.1 c) then fo (fiH (tT α) r.toNatClampNeg c.toNatClampNeg) 0 3 0 else -1)
theorem mo_fills {σ : sg} {x : aW} {α : aS} (h : MInv σ α) (ok : aOK α) (r c : Int32) : Mt mX11_fills 4 0 0 [.ref i_M, .int r, .int c] (wd σ x) (MPost σ x (opFills α r c) α) := by
  refine Mt.of MI_X11_fills (Nat.le_of_ble_eq_true rfl) (fun X hC hR hT => ?_)
  have hTB : TB (σ.2.2 i_m_now) (tT α) := h.2.1.TB ok.2.2.1
  have h1 := M_thr h 0
  have hR6 := ok.2.2.1.1
  have hC6 := ok.2.2.1.2.1
  have loop : ∀ i k, r = nI i → c = nI k → i < (tT α).1 → k < (tT α).2.1 → opFills α r c = fo (fiH (tT α) i k) 0 3 0 → ∀ j, j ≤ 3 → ∀ ω, MZ σ ω α → Rw mX11_fills X 25 [some (.ref i_M), some (.int r), some (.int c), some (.int (fo (fiH (tT α) i k) 0 j 0)), some (.int (nI j - 1))] [] (wd ω x) 0 0 := by
    intro i k er ec hi hk eo
    refine up_loop 3 ?_ ?_
    · intro ω hω
      refine R_iload hC dX11_fills_25 rfl (R_iconst (v := 1) hC dX11_fills_27 (by decide) ?_)
      refine R_icmp_gt hC 65 dX11_fills_28 (by decide) (fun _ => ?_) (fun h => absurd vj_3 h)
      refine R_iload_n (i := 3) hC dX11_fills_65 rfl rfl ?_
      exact R_iret hC hT dX11_fills_66 rfl (by rw [eo]; exact hω.p)
    · intro j hj ih ω hω
      rw [fo_s _ (Nat.zero_le j)] at ih
      generalize hv0 : fo (fiH (tT α) i k) 0 j 0 = v0 at ih ⊢
      have nx : ∀ b, fiH (tT α) i k j v0 = v0 ||| b → ∀ ω, MZ σ ω α → Rw mX11_fills X 57 [some (.ref i_M), some (.int r), some (.int c), some (.int v0), some (.int (nI j - 1))] [.int b, .int v0] (wd ω x) 0 0 := by
        intro b hb ω hω
        rw [hb] at ih
        refine R_ior hC dX11_fills_57 (R_istore_n (i := 3) hC dX11_fills_58 rfl (by decide) rfl (R_iinc hC dX11_fills_59 rfl (vj_s j) (by decide) rfl (R_goto hC 25 dX11_fills_62 (by decide) ?_)))
        exact ih ω hω
      refine R_iload hC dX11_fills_25 rfl (R_iconst (v := 1) hC dX11_fills_27 (by decide) ?_)
      refine R_icmp_gt hC 65 dX11_fills_28 (by decide) (fun h => absurd h (vj_n hj)) (fun _ => ?_)
      refine R_iload_n (i := 3) hC dX11_fills_31 rfl rfl (R_aload_n (i := 0) hC dX11_fills_32 rfl rfl (R_bipush (v := 6) hC dX11_fills_33 (by decide) (R_iload_n (i := 1) hC dX11_fills_35 rfl rfl (R_imul hC dX11_fills_36 (R_iload_n (i := 2) hC dX11_fills_37 rfl rfl (R_iadd hC dX11_fills_38 ?_))))))
      refine R_top (y := nI (6 * i + k)) (by rw [er, ec]; exact n6 i k) ?_
      refine R_iload hC dX11_fills_39 rfl ?_
      refine R_V2g hC hR dX11_fills_41 MV_X11_isTotalWith ml_X11_313 L_M rfl (s_isTotalWith ω x (tT α) (hω.T ok) i k hi hk _ (vj hj)) (by decide) ⟨by decide, by decide⟩ (Nat.le_of_ble_eq_true rfl) (fun r w1 hq => ?_)
      obtain ⟨rfl, g1, g2, rfl⟩ := hq
      have hω2 : MZ σ (sA (sA ω i_m_trial g1) i_m_dets g2) α := (hω.a (by decide) (by decide)).a (by decide) (by decide)
      refine R_if_eq hC 56 dX11_fills_44 (by decide) (fun h44 => ?_) (fun h44 => ?_)
      · refine R_iconst (v := 0) hC dX11_fills_56 (by decide) ?_
        exact nx _ (by
        unfold fiH
        first
        | (rw [if_pos (b2i_ne h44)]; done)
        | (have h45 := h44; rw [if_neg (b2i_0 h45), Int32.or_zero]; done)) _ hω2
      · refine R_iconst (v := 1) hC dX11_fills_47 (by decide) (R_iload hC dX11_fills_48 rfl (R_iconst (v := 1) hC dX11_fills_50 (by decide) (R_iadd hC dX11_fills_51 ?_)))
        refine R_top (y := nI j) (Int32.sub_add_cancel _ _) ?_
        refine R_ishl hC dX11_fills_52 (R_goto hC 57 dX11_fills_53 (by decide) ?_)
        exact nx _ (by
        unfold fiH
        first
        | (rw [if_pos (b2i_ne h44)]; done)
        | (have h45 := h44; rw [if_neg (b2i_0 h45), Int32.or_zero]; done)) _ hω2
  refine R_aload_n (i := 0) hC dX11_fills_0 rfl rfl (R_iconst (v := 0) hC dX11_fills_1 (by decide) (R_pI hC dX11_fills_2 fl_X11_83 L_M rfl (R_aload_n (i := 0) hC dX11_fills_5 rfl rfl (R_aload_n (i := 0) hC dX11_fills_6 rfl rfl (R_gR hC dX11_fills_7 fl_X11_13 L_M rfl (R_iload_n (i := 1) hC dX11_fills_10 rfl rfl (R_iload_n (i := 2) hC dX11_fills_11 rfl rfl ?_)))))))
  refine R_V3i hC hR dX11_fills_12 MV_X11_isCell ml_X11_158 L_M rfl (s_isCell _ _ _ L_m_now _ _) (by decide) ⟨by decide, by decide⟩ (Nat.le_of_ble_eq_true rfl) ?_
  refine R_if_ne hC 20 dX11_fills_15 (by decide) (fun h15 => ?_) (fun h15 => ?_)
  · have hin := hTB.inT_iff.mp (b2i_ne h15)
    obtain ⟨i, er, hi, hi2⟩ := inR_i hin.1
    obtain ⟨k, ec, hk, hk2⟩ := inR_i hin.2
    have eo : opFills α r c = fo (fiH (tT α) i k) 0 3 0 := by unfold opFills; rw [if_pos hin, er, ec, nI_clamp hi2, nI_clamp hk2]
    refine R_iconst (v := 0) hC dX11_fills_20 (by decide) (R_istore_n (i := 3) hC dX11_fills_21 rfl (by decide) rfl (R_iconst (v := (-1)) hC dX11_fills_22 (by decide) (R_istore hC dX11_fills_23 (by decide) rfl ?_)))
    exact loop i k er ec hi hk eo 0 (by decide) _ (MZ.of h)
  · refine R_iconst (v := (-1)) hC dX11_fills_18 (by decide) ?_
    exact R_iret hC hT dX11_fills_19 rfl (by have e : opFills α r c = -1 := (by unfold opFills; rw [if_neg (fun z => b2i_0 h15 (hTB.inT_iff.mpr z))]); rw [e]; exact MPost.i h1 (M_ceq σ))

theorem dX11_draw_0 : decode cX11_draw 0 = .ok (.aload_n 0, 1) := by decide +kernel
theorem dX11_draw_1 : decode cX11_draw 1 = .ok (.aload_n 0, 1) := by decide +kernel
theorem dX11_draw_2 : decode cX11_draw 2 = .ok (.getfield 336, 3) := by decide +kernel
theorem dX11_draw_5 : decode cX11_draw 5 = .ok (.ldc2_w 340, 3) := by decide +kernel
theorem dX11_draw_8 : decode cX11_draw 8 = .ok (.lmul, 1) := by decide +kernel
theorem dX11_draw_9 : decode cX11_draw 9 = .ok (.ldc2_w 342, 3) := by decide +kernel
theorem dX11_draw_12 : decode cX11_draw 12 = .ok (.ladd, 1) := by decide +kernel
theorem dX11_draw_13 : decode cX11_draw 13 = .ok (.putfield 336, 3) := by decide +kernel
theorem dX11_draw_16 : decode cX11_draw 16 = .ok (.aload_n 0, 1) := by decide +kernel
theorem dX11_draw_17 : decode cX11_draw 17 = .ok (.getfield 336, 3) := by decide +kernel
theorem dX11_draw_20 : decode cX11_draw 20 = .ok (.bipush 33, 2) := by decide +kernel
theorem dX11_draw_22 : decode cX11_draw 22 = .ok (.lushr, 1) := by decide +kernel
theorem dX11_draw_23 : decode cX11_draw 23 = .ok (.iload_n 1, 1) := by decide +kernel
theorem dX11_draw_24 : decode cX11_draw 24 = .ok (.i2l, 1) := by decide +kernel
theorem dX11_draw_25 : decode cX11_draw 25 = .ok (.lrem, 1) := by decide +kernel
theorem dX11_draw_26 : decode cX11_draw 26 = .ok (.l2i, 1) := by decide +kernel
theorem dX11_draw_27 : decode cX11_draw 27 = .ok (.ireturn, 1) := by decide +kernel
theorem dX11_draws_0 : decode cX11_draws 0 = .ok (.aload_n 0, 1) := by decide +kernel
theorem dX11_draws_1 : decode cX11_draws 1 = .ok (.iconst 0, 1) := by decide +kernel
theorem dX11_draws_2 : decode cX11_draws 2 = .ok (.putfield 83, 3) := by decide +kernel
theorem dX11_draws_5 : decode cX11_draws 5 = .ok (.aload_n 0, 1) := by decide +kernel
theorem dX11_draws_6 : decode cX11_draws 6 = .ok (.getfield 13, 3) := by decide +kernel
theorem dX11_draws_9 : decode cX11_draws 9 = .ok (.bipush 36, 2) := by decide +kernel
theorem dX11_draws_11 : decode cX11_draws 11 = .ok (.iaload, 1) := by decide +kernel
theorem dX11_draws_12 : decode cX11_draws 12 = .ok (.ifCond .eq 15, 3) := by decide +kernel
theorem dX11_draws_15 : decode cX11_draws 15 = .ok (.iload_n 1, 1) := by decide +kernel
theorem dX11_draws_16 : decode cX11_draws 16 = .ok (.i2l, 1) := by decide +kernel
theorem dX11_draws_17 : decode cX11_draws 17 = .ok (.lconst 1, 1) := by decide +kernel
theorem dX11_draws_18 : decode cX11_draws 18 = .ok (.ldc2_w 344, 3) := by decide +kernel
theorem dX11_draws_21 : decode cX11_draws 21 = .ok (.invokestatic 140, 3) := by decide +kernel
theorem dX11_draws_24 : decode cX11_draws 24 = .ok (.ifCond .ne 5, 3) := by decide +kernel
theorem dX11_draws_27 : decode cX11_draws 27 = .ok (.iconst (-1), 1) := by decide +kernel
theorem dX11_draws_28 : decode cX11_draws 28 = .ok (.ireturn, 1) := by decide +kernel
theorem dX11_draws_29 : decode cX11_draws 29 = .ok (.aload_n 0, 1) := by decide +kernel
theorem dX11_draws_30 : decode cX11_draws 30 = .ok (.lload_n 2, 1) := by decide +kernel
theorem dX11_draws_31 : decode cX11_draws 31 = .ok (.putfield 336, 3) := by decide +kernel
theorem dX11_draws_34 : decode cX11_draws 34 = .ok (.iconst 0, 1) := by decide +kernel
theorem dX11_draws_35 : decode cX11_draws 35 = .ok (.istore 4, 2) := by decide +kernel
theorem dX11_draws_37 : decode cX11_draws 37 = .ok (.iconst 0, 1) := by decide +kernel
theorem dX11_draws_38 : decode cX11_draws 38 = .ok (.istore 5, 2) := by decide +kernel
theorem dX11_draws_40 : decode cX11_draws 40 = .ok (.iload 5, 2) := by decide +kernel
theorem dX11_draws_42 : decode cX11_draws 42 = .ok (.iload_n 1, 1) := by decide +kernel
theorem dX11_draws_43 : decode cX11_draws 43 = .ok (.if_icmp .ge 193, 3) := by decide +kernel
theorem dX11_draws_46 : decode cX11_draws 46 = .ok (.aload_n 0, 1) := by decide +kernel
theorem dX11_draws_47 : decode cX11_draws 47 = .ok (.bipush 6, 2) := by decide +kernel
theorem dX11_draws_49 : decode cX11_draws 49 = .ok (.invokevirtual 346, 3) := by decide +kernel
theorem dX11_draws_52 : decode cX11_draws 52 = .ok (.istore 6, 2) := by decide +kernel
theorem dX11_draws_54 : decode cX11_draws 54 = .ok (.aload_n 0, 1) := by decide +kernel
theorem dX11_draws_55 : decode cX11_draws 55 = .ok (.aload_n 0, 1) := by decide +kernel
theorem dX11_draws_56 : decode cX11_draws 56 = .ok (.getfield 13, 3) := by decide +kernel
theorem dX11_draws_59 : decode cX11_draws 59 = .ok (.iload 6, 2) := by decide +kernel
theorem dX11_draws_61 : decode cX11_draws 61 = .ok (.iconst 1, 1) := by decide +kernel
theorem dX11_draws_62 : decode cX11_draws 62 = .ok (.if_icmp .eq 9, 3) := by decide +kernel
theorem dX11_draws_65 : decode cX11_draws 65 = .ok (.iload 6, 2) := by decide +kernel
theorem dX11_draws_67 : decode cX11_draws 67 = .ok (.iconst 3, 1) := by decide +kernel
theorem dX11_draws_68 : decode cX11_draws 68 = .ok (.if_icmp .ne 8, 3) := by decide +kernel
theorem dX11_draws_71 : decode cX11_draws 71 = .ok (.bipush 37, 2) := by decide +kernel
theorem dX11_draws_73 : decode cX11_draws 73 = .ok (.goto 5, 3) := by decide +kernel
theorem dX11_draws_76 : decode cX11_draws 76 = .ok (.bipush 36, 2) := by decide +kernel
theorem dX11_draws_78 : decode cX11_draws 78 = .ok (.iaload, 1) := by decide +kernel
theorem dX11_draws_79 : decode cX11_draws 79 = .ok (.invokevirtual 346, 3) := by decide +kernel
theorem dX11_draws_82 : decode cX11_draws 82 = .ok (.istore 7, 2) := by decide +kernel
theorem dX11_draws_84 : decode cX11_draws 84 = .ok (.iload 6, 2) := by decide +kernel
theorem dX11_draws_86 : decode cX11_draws 86 = .ok (.iconst 2, 1) := by decide +kernel
theorem dX11_draws_87 : decode cX11_draws 87 = .ok (.if_icmp .ge 7, 3) := by decide +kernel
theorem dX11_draws_90 : decode cX11_draws 90 = .ok (.iconst 0, 1) := by decide +kernel
theorem dX11_draws_91 : decode cX11_draws 91 = .ok (.goto 25, 3) := by decide +kernel
theorem dX11_draws_94 : decode cX11_draws 94 = .ok (.aload_n 0, 1) := by decide +kernel
theorem dX11_draws_95 : decode cX11_draws 95 = .ok (.aload_n 0, 1) := by decide +kernel
theorem dX11_draws_96 : decode cX11_draws 96 = .ok (.getfield 13, 3) := by decide +kernel
theorem dX11_draws_99 : decode cX11_draws 99 = .ok (.iload 6, 2) := by decide +kernel
theorem dX11_draws_101 : decode cX11_draws 101 = .ok (.iconst 2, 1) := by decide +kernel
theorem dX11_draws_102 : decode cX11_draws 102 = .ok (.if_icmp .ne 8, 3) := by decide +kernel
theorem dX11_draws_105 : decode cX11_draws 105 = .ok (.bipush 36, 2) := by decide +kernel
theorem dX11_draws_107 : decode cX11_draws 107 = .ok (.goto 5, 3) := by decide +kernel
theorem dX11_draws_110 : decode cX11_draws 110 = .ok (.bipush 37, 2) := by decide +kernel
theorem dX11_draws_112 : decode cX11_draws 112 = .ok (.iaload, 1) := by decide +kernel
theorem dX11_draws_113 : decode cX11_draws 113 = .ok (.invokevirtual 346, 3) := by decide +kernel
theorem dX11_draws_116 : decode cX11_draws 116 = .ok (.istore 8, 2) := by decide +kernel
theorem dX11_draws_118 : decode cX11_draws 118 = .ok (.iload 6, 2) := by decide +kernel
theorem dX11_draws_120 : decode cX11_draws 120 = .ok (.iconst 5, 1) := by decide +kernel
theorem dX11_draws_121 : decode cX11_draws 121 = .ok (.if_icmp .ne 13, 3) := by decide +kernel
theorem dX11_draws_124 : decode cX11_draws 124 = .ok (.aload_n 0, 1) := by decide +kernel
theorem dX11_draws_125 : decode cX11_draws 125 = .ok (.iconst 3, 1) := by decide +kernel
theorem dX11_draws_126 : decode cX11_draws 126 = .ok (.invokevirtual 346, 3) := by decide +kernel
theorem dX11_draws_129 : decode cX11_draws 129 = .ok (.iconst 1, 1) := by decide +kernel
theorem dX11_draws_130 : decode cX11_draws 130 = .ok (.isub, 1) := by decide +kernel
theorem dX11_draws_131 : decode cX11_draws 131 = .ok (.goto 4, 3) := by decide +kernel
theorem dX11_draws_134 : decode cX11_draws 134 = .ok (.iconst 0, 1) := by decide +kernel
theorem dX11_draws_135 : decode cX11_draws 135 = .ok (.istore 9, 2) := by decide +kernel
theorem dX11_draws_137 : decode cX11_draws 137 = .ok (.iload 6, 2) := by decide +kernel
theorem dX11_draws_139 : decode cX11_draws 139 = .ok (.iconst 5, 1) := by decide +kernel
theorem dX11_draws_140 : decode cX11_draws 140 = .ok (.if_icmp .ne 24, 3) := by decide +kernel
theorem dX11_draws_143 : decode cX11_draws 143 = .ok (.aload_n 0, 1) := by decide +kernel
theorem dX11_draws_144 : decode cX11_draws 144 = .ok (.getfield 13, 3) := by decide +kernel
theorem dX11_draws_147 : decode cX11_draws 147 = .ok (.bipush 6, 2) := by decide +kernel
theorem dX11_draws_149 : decode cX11_draws 149 = .ok (.iload 7, 2) := by decide +kernel
theorem dX11_draws_151 : decode cX11_draws 151 = .ok (.imul, 1) := by decide +kernel
theorem dX11_draws_152 : decode cX11_draws 152 = .ok (.iload 8, 2) := by decide +kernel
theorem dX11_draws_154 : decode cX11_draws 154 = .ok (.iadd, 1) := by decide +kernel
theorem dX11_draws_155 : decode cX11_draws 155 = .ok (.iaload, 1) := by decide +kernel
theorem dX11_draws_156 : decode cX11_draws 156 = .ok (.iload 9, 2) := by decide +kernel
theorem dX11_draws_158 : decode cX11_draws 158 = .ok (.if_icmp .ne 27, 3) := by decide +kernel
theorem dX11_draws_161 : decode cX11_draws 161 = .ok (.goto 69, 3) := by decide +kernel
theorem dX11_draws_164 : decode cX11_draws 164 = .ok (.aload_n 0, 1) := by decide +kernel
theorem dX11_draws_165 : decode cX11_draws 165 = .ok (.aload_n 0, 1) := by decide +kernel
theorem dX11_draws_166 : decode cX11_draws 166 = .ok (.getfield 13, 3) := by decide +kernel
theorem dX11_draws_169 : decode cX11_draws 169 = .ok (.iload 6, 2) := by decide +kernel
theorem dX11_draws_171 : decode cX11_draws 171 = .ok (.iload 7, 2) := by decide +kernel
theorem dX11_draws_173 : decode cX11_draws 173 = .ok (.iload 8, 2) := by decide +kernel
theorem dX11_draws_175 : decode cX11_draws 175 = .ok (.invokevirtual 181, 3) := by decide +kernel
theorem dX11_draws_178 : decode cX11_draws 178 = .ok (.iconst (-1), 1) := by decide +kernel
theorem dX11_draws_179 : decode cX11_draws 179 = .ok (.if_icmp .eq 6, 3) := by decide +kernel
theorem dX11_draws_182 : decode cX11_draws 182 = .ok (.goto 48, 3) := by decide +kernel
theorem dX11_draws_185 : decode cX11_draws 185 = .ok (.aload_n 0, 1) := by decide +kernel
theorem dX11_draws_186 : decode cX11_draws 186 = .ok (.invokevirtual 167, 3) := by decide +kernel
theorem dX11_draws_189 : decode cX11_draws 189 = .ok (.iload 6, 2) := by decide +kernel
theorem dX11_draws_191 : decode cX11_draws 191 = .ok (.iconst 5, 1) := by decide +kernel
theorem dX11_draws_192 : decode cX11_draws 192 = .ok (.if_icmp .ne 21, 3) := by decide +kernel
theorem dX11_draws_195 : decode cX11_draws 195 = .ok (.aload_n 0, 1) := by decide +kernel
theorem dX11_draws_196 : decode cX11_draws 196 = .ok (.getfield 13, 3) := by decide +kernel
theorem dX11_draws_199 : decode cX11_draws 199 = .ok (.bipush 6, 2) := by decide +kernel
theorem dX11_draws_201 : decode cX11_draws 201 = .ok (.iload 7, 2) := by decide +kernel
theorem dX11_draws_203 : decode cX11_draws 203 = .ok (.imul, 1) := by decide +kernel
theorem dX11_draws_204 : decode cX11_draws 204 = .ok (.iload 8, 2) := by decide +kernel
theorem dX11_draws_206 : decode cX11_draws 206 = .ok (.iadd, 1) := by decide +kernel
theorem dX11_draws_207 : decode cX11_draws 207 = .ok (.iload 9, 2) := by decide +kernel
theorem dX11_draws_209 : decode cX11_draws 209 = .ok (.iastore, 1) := by decide +kernel
theorem dX11_draws_210 : decode cX11_draws 210 = .ok (.goto 17, 3) := by decide +kernel
theorem dX11_draws_213 : decode cX11_draws 213 = .ok (.aload_n 0, 1) := by decide +kernel
theorem dX11_draws_214 : decode cX11_draws 214 = .ok (.aload_n 0, 1) := by decide +kernel
theorem dX11_draws_215 : decode cX11_draws 215 = .ok (.getfield 13, 3) := by decide +kernel
theorem dX11_draws_218 : decode cX11_draws 218 = .ok (.iload 6, 2) := by decide +kernel
theorem dX11_draws_220 : decode cX11_draws 220 = .ok (.iload 7, 2) := by decide +kernel
theorem dX11_draws_222 : decode cX11_draws 222 = .ok (.iload 8, 2) := by decide +kernel
theorem dX11_draws_224 : decode cX11_draws 224 = .ok (.invokevirtual 185, 3) := by decide +kernel
theorem dX11_draws_227 : decode cX11_draws 227 = .ok (.iinc 4 1, 3) := by decide +kernel
theorem dX11_draws_230 : decode cX11_draws 230 = .ok (.iinc 5 1, 3) := by decide +kernel
theorem dX11_draws_233 : decode cX11_draws 233 = .ok (.goto (-193), 3) := by decide +kernel
theorem dX11_draws_236 : decode cX11_draws 236 = .ok (.iload 4, 2) := by decide +kernel
theorem dX11_draws_238 : decode cX11_draws 238 = .ok (.ireturn, 1) := by decide +kernel
theorem dX11_step_0 : decode cX11_step 0 = .ok (.aload_n 0, 1) := by decide +kernel
theorem dX11_step_1 : decode cX11_step 1 = .ok (.iconst 0, 1) := by decide +kernel
theorem dX11_step_2 : decode cX11_step 2 = .ok (.putfield 83, 3) := by decide +kernel
theorem dX11_step_5 : decode cX11_step 5 = .ok (.aload_n 0, 1) := by decide +kernel
theorem dX11_step_6 : decode cX11_step 6 = .ok (.iload_n 1, 1) := by decide +kernel
theorem dX11_step_7 : decode cX11_step 7 = .ok (.invokevirtual 325, 3) := by decide +kernel
theorem dX11_step_10 : decode cX11_step 10 = .ok (.ifCond .eq 51, 3) := by decide +kernel
theorem dX11_step_13 : decode cX11_step 13 = .ok (.iload_n 2, 1) := by decide +kernel
theorem dX11_step_14 : decode cX11_step 14 = .ok (.i2l, 1) := by decide +kernel
theorem dX11_step_15 : decode cX11_step 15 = .ok (.lconst 0, 1) := by decide +kernel
theorem dX11_step_16 : decode cX11_step 16 = .ok (.aload_n 0, 1) := by decide +kernel
theorem dX11_step_17 : decode cX11_step 17 = .ok (.getfield 29, 3) := by decide +kernel
theorem dX11_step_20 : decode cX11_step 20 = .ok (.iload_n 1, 1) := by decide +kernel
theorem dX11_step_21 : decode cX11_step 21 = .ok (.iaload, 1) := by decide +kernel
theorem dX11_step_22 : decode cX11_step 22 = .ok (.iconst 1, 1) := by decide +kernel
theorem dX11_step_23 : decode cX11_step 23 = .ok (.isub, 1) := by decide +kernel
theorem dX11_step_24 : decode cX11_step 24 = .ok (.i2l, 1) := by decide +kernel
theorem dX11_step_25 : decode cX11_step 25 = .ok (.invokestatic 140, 3) := by decide +kernel
theorem dX11_step_28 : decode cX11_step 28 = .ok (.ifCond .eq 33, 3) := by decide +kernel
theorem dX11_step_31 : decode cX11_step 31 = .ok (.iload_n 3, 1) := by decide +kernel
theorem dX11_step_32 : decode cX11_step 32 = .ok (.i2l, 1) := by decide +kernel
theorem dX11_step_33 : decode cX11_step 33 = .ok (.lconst 0, 1) := by decide +kernel
theorem dX11_step_34 : decode cX11_step 34 = .ok (.ldc2_w 231, 3) := by decide +kernel
theorem dX11_step_37 : decode cX11_step 37 = .ok (.invokestatic 140, 3) := by decide +kernel
theorem dX11_step_40 : decode cX11_step 40 = .ok (.ifCond .eq 21, 3) := by decide +kernel
theorem dX11_step_43 : decode cX11_step 43 = .ok (.aload_n 0, 1) := by decide +kernel
theorem dX11_step_44 : decode cX11_step 44 = .ok (.getfield 26, 3) := by decide +kernel
theorem dX11_step_47 : decode cX11_step 47 = .ok (.iconst 4, 1) := by decide +kernel
theorem dX11_step_48 : decode cX11_step 48 = .ok (.bipush 12, 2) := by decide +kernel
theorem dX11_step_50 : decode cX11_step 50 = .ok (.iload_n 1, 1) := by decide +kernel
theorem dX11_step_51 : decode cX11_step 51 = .ok (.imul, 1) := by decide +kernel
theorem dX11_step_52 : decode cX11_step 52 = .ok (.iload_n 2, 1) := by decide +kernel
theorem dX11_step_53 : decode cX11_step 53 = .ok (.iadd, 1) := by decide +kernel
theorem dX11_step_54 : decode cX11_step 54 = .ok (.imul, 1) := by decide +kernel
theorem dX11_step_55 : decode cX11_step 55 = .ok (.iload_n 3, 1) := by decide +kernel
theorem dX11_step_56 : decode cX11_step 56 = .ok (.iadd, 1) := by decide +kernel
theorem dX11_step_57 : decode cX11_step 57 = .ok (.iaload, 1) := by decide +kernel
theorem dX11_step_58 : decode cX11_step 58 = .ok (.goto 5, 3) := by decide +kernel
theorem dX11_step_61 : decode cX11_step 61 = .ok (.ldc 133, 2) := by decide +kernel
theorem dX11_step_63 : decode cX11_step 63 = .ok (.ireturn, 1) := by decide +kernel
theorem dX11_count_0 : decode cX11_count 0 = .ok (.aload_n 0, 1) := by decide +kernel
theorem dX11_count_1 : decode cX11_count 1 = .ok (.iconst 0, 1) := by decide +kernel
theorem dX11_count_2 : decode cX11_count 2 = .ok (.putfield 83, 3) := by decide +kernel
theorem dX11_count_5 : decode cX11_count 5 = .ok (.iconst 0, 1) := by decide +kernel
theorem dX11_count_6 : decode cX11_count 6 = .ok (.istore_n 2, 1) := by decide +kernel
theorem dX11_count_7 : decode cX11_count 7 = .ok (.iconst 0, 1) := by decide +kernel
theorem dX11_count_8 : decode cX11_count 8 = .ok (.istore_n 3, 1) := by decide +kernel
theorem dX11_count_9 : decode cX11_count 9 = .ok (.iload_n 3, 1) := by decide +kernel
theorem dX11_count_10 : decode cX11_count 10 = .ok (.bipush 36, 2) := by decide +kernel
theorem dX11_count_12 : decode cX11_count 12 = .ok (.if_icmp .ge 45, 3) := by decide +kernel
theorem dX11_count_15 : decode cX11_count 15 = .ok (.iload_n 2, 1) := by decide +kernel
theorem dX11_count_16 : decode cX11_count 16 = .ok (.aload_n 0, 1) := by decide +kernel
theorem dX11_count_17 : decode cX11_count 17 = .ok (.aload_n 0, 1) := by decide +kernel
theorem dX11_count_18 : decode cX11_count 18 = .ok (.getfield 13, 3) := by decide +kernel
theorem dX11_count_21 : decode cX11_count 21 = .ok (.iload_n 3, 1) := by decide +kernel
theorem dX11_count_22 : decode cX11_count 22 = .ok (.bipush 6, 2) := by decide +kernel
theorem dX11_count_24 : decode cX11_count 24 = .ok (.idiv, 1) := by decide +kernel
theorem dX11_count_25 : decode cX11_count 25 = .ok (.iload_n 3, 1) := by decide +kernel
theorem dX11_count_26 : decode cX11_count 26 = .ok (.bipush 6, 2) := by decide +kernel
theorem dX11_count_28 : decode cX11_count 28 = .ok (.irem, 1) := by decide +kernel
theorem dX11_count_29 : decode cX11_count 29 = .ok (.invokevirtual 158, 3) := by decide +kernel
theorem dX11_count_32 : decode cX11_count 32 = .ok (.ifCond .eq 16, 3) := by decide +kernel
theorem dX11_count_35 : decode cX11_count 35 = .ok (.aload_n 0, 1) := by decide +kernel
theorem dX11_count_36 : decode cX11_count 36 = .ok (.getfield 13, 3) := by decide +kernel
theorem dX11_count_39 : decode cX11_count 39 = .ok (.iload_n 3, 1) := by decide +kernel
theorem dX11_count_40 : decode cX11_count 40 = .ok (.iaload, 1) := by decide +kernel
theorem dX11_count_41 : decode cX11_count 41 = .ok (.ifCond .eq 7, 3) := by decide +kernel
theorem dX11_count_44 : decode cX11_count 44 = .ok (.iconst 1, 1) := by decide +kernel
theorem dX11_count_45 : decode cX11_count 45 = .ok (.goto 4, 3) := by decide +kernel
theorem dX11_count_48 : decode cX11_count 48 = .ok (.iconst 0, 1) := by decide +kernel
theorem dX11_count_49 : decode cX11_count 49 = .ok (.iadd, 1) := by decide +kernel
theorem dX11_count_50 : decode cX11_count 50 = .ok (.istore_n 2, 1) := by decide +kernel
theorem dX11_count_51 : decode cX11_count 51 = .ok (.iinc 3 1, 3) := by decide +kernel
theorem dX11_count_54 : decode cX11_count 54 = .ok (.goto (-45), 3) := by decide +kernel
theorem dX11_count_57 : decode cX11_count 57 = .ok (.iload_n 1, 1) := by decide +kernel
theorem dX11_count_58 : decode cX11_count 58 = .ok (.tableswitch 80 0 6 #[42, 50, 58, 63, 68, 73, 78], 42) := by decide +kernel
theorem dX11_count_100 : decode cX11_count 100 = .ok (.aload_n 0, 1) := by decide +kernel
theorem dX11_count_101 : decode cX11_count 101 = .ok (.getfield 13, 3) := by decide +kernel
theorem dX11_count_104 : decode cX11_count 104 = .ok (.bipush 36, 2) := by decide +kernel
theorem dX11_count_106 : decode cX11_count 106 = .ok (.iaload, 1) := by decide +kernel
theorem dX11_count_107 : decode cX11_count 107 = .ok (.ireturn, 1) := by decide +kernel
theorem dX11_count_108 : decode cX11_count 108 = .ok (.aload_n 0, 1) := by decide +kernel
theorem dX11_count_109 : decode cX11_count 109 = .ok (.getfield 13, 3) := by decide +kernel
theorem dX11_count_112 : decode cX11_count 112 = .ok (.bipush 37, 2) := by decide +kernel
theorem dX11_count_114 : decode cX11_count 114 = .ok (.iaload, 1) := by decide +kernel
theorem dX11_count_115 : decode cX11_count 115 = .ok (.ireturn, 1) := by decide +kernel
theorem dX11_count_116 : decode cX11_count 116 = .ok (.aload_n 0, 1) := by decide +kernel
theorem dX11_count_117 : decode cX11_count 117 = .ok (.getfield 189, 3) := by decide +kernel
theorem dX11_count_120 : decode cX11_count 120 = .ok (.ireturn, 1) := by decide +kernel
theorem dX11_count_121 : decode cX11_count 121 = .ok (.aload_n 0, 1) := by decide +kernel
theorem dX11_count_122 : decode cX11_count 122 = .ok (.getfield 150, 3) := by decide +kernel
theorem dX11_count_125 : decode cX11_count 125 = .ok (.ireturn, 1) := by decide +kernel
theorem dX11_count_126 : decode cX11_count 126 = .ok (.aload_n 0, 1) := by decide +kernel
theorem dX11_count_127 : decode cX11_count 127 = .ok (.getfield 87, 3) := by decide +kernel
theorem dX11_count_130 : decode cX11_count 130 = .ok (.ireturn, 1) := by decide +kernel
theorem dX11_count_131 : decode cX11_count 131 = .ok (.aload_n 0, 1) := by decide +kernel
theorem dX11_count_132 : decode cX11_count 132 = .ok (.getfield 155, 3) := by decide +kernel
theorem dX11_count_135 : decode cX11_count 135 = .ok (.ireturn, 1) := by decide +kernel
theorem dX11_count_136 : decode cX11_count 136 = .ok (.iload_n 2, 1) := by decide +kernel
theorem dX11_count_137 : decode cX11_count 137 = .ok (.ireturn, 1) := by decide +kernel
theorem dX11_count_138 : decode cX11_count 138 = .ok (.ldc 133, 2) := by decide +kernel
theorem dX11_count_140 : decode cX11_count 140 = .ok (.ireturn, 1) := by decide +kernel
theorem TB_tset {g : Nat → Int32} {T : tb} (h : TB g T) {i j : Nat} (hi : i < T.1) (hj : j < T.2.1) {v : Int32} (hv : sml v) : TB (upd g (6 * i + j) v) (tset T i j v) := by
  obtain ⟨h1, h2, h3, h4, h5⟩ := h
  refine ⟨by rw [upd_36 (Or.inl rfl) (by omega) (by omega)]; exact h1, by rw [upd_36 (Or.inr rfl) (by omega) (by omega)]; exact h2, h3, h4, fun a b ha hb => ?_⟩
  have ha : a < T.1 := ha
  have hb : b < T.2.1 := hb
  rw [upd6 (by omega) (by omega)]
  show _ = (if a = i ∧ b = j then v else T.2.2 a b) ∧ sml (if a = i ∧ b = j then v else T.2.2 a b)
  split
  · exact ⟨rfl, hv⟩
  · exact h5 a b ha hb
theorem s_doesStep {σ : sg} {x : aW} {t : Nat} (ht : LY t (0, 38, [])) (hne : t ≠ i_m_trial) (hnp : t ≠ i_m_plan) {T : tb} (hT0 : TB (σ.2.2 t) T) (ok : tbOK T) (q : Nat) (hq : q + 3 < 240) {s : Nat → Int32} (hs : stepOK s) (hsr : ∀ j, j < 4 → σ.2.2 i_m_plan (q + j) = s j) (hc : stepCan T s) :
    Mt mX11_doesStep 3 0 0 [.ref i_M, .ref t, .int (nI q)] (wd σ x) (fun r w => r = none ∧ ∃ g h : Nat → Int32, w = wd (sA (sA σ i_m_trial h) t g) x ∧ TB g (stepA T s)) := by
  refine Mt.of MI_X11_doesStep (Nat.le_of_ble_eq_true rfl) (fun X hC hR hT => ?_)
  have r0 := hsr 0 (by decide)
  have r1 := hsr 1 (by decide)
  have r2 := hsr 2 (by decide)
  have r3 := hsr 3 (by decide)
  have o1 := ok.1
  have o2 := ok.2.1
  rcases hc with ⟨k, hk, e, hz⟩ | ⟨e, h1, h2, h3⟩
  · have r0 : σ.2.2 i_m_plan q = nI k := by rw [← e]; exact r0
    have ea : stepA T s = doA k (s 1).toNatClampNeg (s 2).toNatClampNeg T := by
      unfold stepA; rw [if_neg (by rw [e]; exact nI_ne (by omega) (by omega) (by omega)), e, nI_clamp (by omega)]
    refine R_aload_n (i := 0) hC dX11_doesStep_0 rfl rfl (R_gR hC dX11_doesStep_1 fl_X11_26 L_M rfl (R_iload_n (i := 2) hC dX11_doesStep_4 rfl rfl (R_aI hC dX11_doesStep_5 L_m_plan q rfl (by omega) (by decide) ?_)))
    refine R_top (y := nI k) r0 ?_
    refine R_bipush (v := 6) hC dX11_doesStep_6 (by decide) ?_
    refine R_icmp_ge hC 41 dX11_doesStep_8 (by decide) (fun h => absurd h (nI_ge (b := 6) hk (by decide))) (fun _ => ?_)
    refine R_aload_n (i := 0) hC dX11_doesStep_11 rfl rfl (R_aload_n (i := 1) hC dX11_doesStep_12 rfl rfl (R_aload_n (i := 0) hC dX11_doesStep_13 rfl rfl (R_gR hC dX11_doesStep_14 fl_X11_26 L_M rfl (R_iload_n (i := 2) hC dX11_doesStep_17 rfl rfl (R_aI hC dX11_doesStep_18 L_m_plan q rfl (by omega) (by decide) ?_)))))
    refine R_top (y := nI k) r0 ?_
    refine R_aload_n (i := 0) hC dX11_doesStep_19 rfl rfl (R_gR hC dX11_doesStep_20 fl_X11_26 L_M rfl (R_iload_n (i := 2) hC dX11_doesStep_23 rfl rfl (R_iconst (v := 1) hC dX11_doesStep_24 (by decide) (R_iadd hC dX11_doesStep_25 (R_aI hC dX11_doesStep_26 L_m_plan (q + 1) (nI_1 q) (by omega) (by decide) ?_)))))
    refine R_top (y := s 1) r1 ?_
    refine R_aload_n (i := 0) hC dX11_doesStep_27 rfl rfl (R_gR hC dX11_doesStep_28 fl_X11_26 L_M rfl (R_iload_n (i := 2) hC dX11_doesStep_31 rfl rfl (R_iconst (v := 2) hC dX11_doesStep_32 (by decide) (R_iadd hC dX11_doesStep_33 (R_aI hC dX11_doesStep_34 L_m_plan (q + 2) (by rw [show (2 : Int32) = nI 2 from rfl, nI_add]) (by omega) (by decide) ?_)))))
    refine R_top (y := s 2) r2 ?_
    refine R_V4g hC hR dX11_doesStep_35 MV_X11_does ml_X11_185 L_M rfl (s_does ht hne hT0 ok hz) (by decide) ⟨by decide, by decide⟩ (Nat.le_of_ble_eq_true rfl) (fun r w1 hq => ?_)
    obtain ⟨rfl, g, h, rfl, hg⟩ := hq
    refine R_goto hC 71 dX11_doesStep_38 (by decide) ?_
    exact R_vret hC hT dX11_doesStep_71 rfl ⟨rfl, g, h, rfl, by rw [ea]; exact hg⟩
  · obtain ⟨i, ei, hi, hi2⟩ := inR_i h1
    obtain ⟨j, ej, hj, hj2⟩ := inR_i h2
    have r0 : σ.2.2 i_m_plan q = nI 6 := by rw [← e]; exact r0
    have hv : sml (s 3) := by
      obtain ⟨k, hk, e2, -, -, h6⟩ := hs
      exact h6 ((nI_eq (by omega) (by decide)).mp (e2.symm.trans e))
    have ea : stepA T s = tset T i j (s 3) := by
      unfold stepA; rw [if_pos e, ei, ej, nI_clamp hi2, nI_clamp hj2]
    refine R_aload_n (i := 0) hC dX11_doesStep_0 rfl rfl (R_gR hC dX11_doesStep_1 fl_X11_26 L_M rfl (R_iload_n (i := 2) hC dX11_doesStep_4 rfl rfl (R_aI hC dX11_doesStep_5 L_m_plan q rfl (by omega) (by decide) ?_)))
    refine R_top (y := nI 6) r0 ?_
    refine R_bipush (v := 6) hC dX11_doesStep_6 (by decide) ?_
    refine R_icmp_ge hC 41 dX11_doesStep_8 (by decide) (fun _ => ?_) (fun h => absurd (by decide) h)
    refine R_aload_n (i := 1) hC dX11_doesStep_41 rfl rfl (R_bipush (v := 6) hC dX11_doesStep_42 (by decide) (R_aload_n (i := 0) hC dX11_doesStep_44 rfl rfl (R_gR hC dX11_doesStep_45 fl_X11_26 L_M rfl (R_iload_n (i := 2) hC dX11_doesStep_48 rfl rfl (R_iconst (v := 1) hC dX11_doesStep_49 (by decide) (R_iadd hC dX11_doesStep_50 (R_aI hC dX11_doesStep_51 L_m_plan (q + 1) (nI_1 q) (by omega) (by decide) ?_)))))))
    refine R_top (y := nI i) (r1.trans ei) ?_
    refine R_imul hC dX11_doesStep_52 (R_aload_n (i := 0) hC dX11_doesStep_53 rfl rfl (R_gR hC dX11_doesStep_54 fl_X11_26 L_M rfl (R_iload_n (i := 2) hC dX11_doesStep_57 rfl rfl (R_iconst (v := 2) hC dX11_doesStep_58 (by decide) (R_iadd hC dX11_doesStep_59 (R_aI hC dX11_doesStep_60 L_m_plan (q + 2) (by rw [show (2 : Int32) = nI 2 from rfl, nI_add]) (by omega) (by decide) ?_))))))
    refine R_top (y := nI j) (r2.trans ej) ?_
    refine R_iadd hC dX11_doesStep_61 (R_aload_n (i := 0) hC dX11_doesStep_62 rfl rfl (R_gR hC dX11_doesStep_63 fl_X11_26 L_M rfl (R_iload_n (i := 2) hC dX11_doesStep_66 rfl rfl (R_iconst (v := 3) hC dX11_doesStep_67 (by decide) (R_iadd hC dX11_doesStep_68 (R_aI hC dX11_doesStep_69 L_m_plan (q + 3) (by rw [show (3 : Int32) = nI 3 from rfl, nI_add]) (by omega) (by decide) ?_))))))
    refine R_top (y := s 3) r3 ?_
    refine R_sI hC dX11_doesStep_70 ht (6 * i + j) (n6 i j) (by omega) (by decide) ?_
    exact R_vret hC hT dX11_doesStep_71 rfl ⟨rfl, upd (σ.2.2 t) (6 * i + j) (s 3), σ.2.2 i_m_trial, by rw [sA_self], by rw [ea]; exact TB_tset hT0 hi hj hv⟩
theorem s_canStepB {σ : sg} {x : aW} {t : Nat} (ht : LY t (0, 38, [])) (hne : t ≠ i_m_trial) {T : tb} (hT0 : TB (σ.2.2 t) T) (q : Nat) (hq : q + 3 < 240) {s : Nat → Int32} (hs : stepOK s) (hsr : ∀ j, j < 4 → σ.2.2 i_m_plan (q + j) = s j) :
    Mt mX11_canStep 3 0 0 [.ref i_M, .ref t, .int (nI q)] (wd σ x) (fun r w => ∃ g : Nat → Int32, w = wd (sA σ i_m_trial g) x ∧ r = some (.int (b2i (stepCan T s)))) := by
  refine (s_canStep ht hne hT0 q hq hs hsr).mono ?_
  rintro r w ⟨g, rfl, ⟨h, rfl⟩ | ⟨h, rfl⟩⟩
  · exact ⟨g, rfl, by rw [b2i_t h]⟩
  · exact ⟨g, rfl, by rw [b2i_f h]⟩
/-- the steps of a script done one by one, as acts -/
noncomputable def perfA (s : scr) : Nat → Nat → aS → Nat × aS
  | 0, i, α => (i, α)
  | f + 1, i, α => by classical exact if i < s.1 ∧ stepCan (tT α) (s.2 i) then perfA s f (i + 1) (pushT α (stepA (tT α) (s.2 i))) else (i, α)
theorem perfA_y {s : scr} {f i : Nat} {α : aS} (h : i < s.1 ∧ stepCan (tT α) (s.2 i)) : perfA s (f + 1) i α = perfA s f (i + 1) (pushT α (stepA (tT α) (s.2 i))) := by
  rw [perfA, if_pos h]
theorem perfA_n {s : scr} {f i : Nat} {α : aS} (h : ¬ (i < s.1 ∧ stepCan (tT α) (s.2 i))) : perfA s (f + 1) i α = (i, α) := by
  rw [perfA, if_neg h]
theorem pushP_ok {P : Nat × (Nat → tb)} {T : tb} (h : P.1 ≤ 40 ∧ ∀ k, k < P.1 → tbOK (P.2 k)) (hT : tbOK T) : (pushP P T).1 ≤ 40 ∧ ∀ k, k < (pushP P T).1 → tbOK ((pushP P T).2 k) := by
  unfold pushP
  by_cases e : P.1 = 40
  · rw [if_pos e]
    refine ⟨Nat.le_refl _, fun k hk => ?_⟩
    show tbOK (if k = 39 then T else P.2 (k + 1))
    have hk : k < 40 := hk
    split
    · exact hT
    · exact h.2 _ (by omega)
  · rw [if_neg e]
    refine ⟨by show P.1 + 1 ≤ 40; omega, fun k hk => ?_⟩
    show tbOK (if k = P.1 then T else P.2 k)
    have hk : k < P.1 + 1 := hk
    split
    · exact hT
    · exact h.2 _ (by omega)
theorem aOK_push {α : aS} (ok : aOK α) {T : tb} (hT : tbOK T) : aOK (pushT α T) := by
  obtain ⟨o1, o2, o3, o4, o5, o6, o7⟩ := ok
  exact ⟨o1, o2, hT, o4, o5, pushP_ok o6 o3, o7⟩
theorem stepA_pos {T : tb} (ok : tbOK T) {s : Nat → Int32} (h : stepCan T s) (h0 : ¬ T.1 = 0) : ¬ (stepA T s).1 = 0 := by
  have o3 := ok.2.2.1
  unfold stepA
  rcases h with ⟨k, hk, e, h⟩ | ⟨e, -⟩
  · rw [if_neg (by rw [e]; exact nI_ne (by omega) (by omega) (by omega)), e, nI_clamp (by omega)]
    match k, hk with
    | 0, _ => exact h0
    | 1, _ => exact h0
    | 2, _ => exact h0
    | 3, _ => exact h0
    | 4, _ => exact h0
    | 5, _ => show ¬ T.2.1 = 0; omega
  · rw [if_pos e]; exact h0
noncomputable def opPerform (α : aS) (k : Int32) : Int32 × aS := by classical exact
  if (¬ (tT α).1 = 0 ∧ inR (tS α).1 k) then (nI (perfA ((tS α).2 k.toNatClampNeg) 13 0 α).1, (perfA ((tS α).2 k.toNatClampNeg) 13 0 α).2) else (-1, α)
theorem mo_perform {σ : sg} {x : aW} {α : aS} (h : MInv σ α) (ok : aOK α) (k : Int32) : Mt mX11_perform 4 0 0 [.ref i_M, .int k] (wd σ x) (MPost σ x (opPerform α k).1 (opPerform α k).2) := by
  refine Mt.of MI_X11_perform (Nat.le_of_ble_eq_true rfl) (fun X hC hR hT => ?_)
  have hT1 : σ.2.2 i_m_now 36 = nI (tT α).1 := h.2.1.1
  have h1 := M_thr h 0
  have c1 : CEq σ (sG σ i_M 0 0) := (CEq.rf σ).g (Nat.le_refl _)
  have loop : ∀ (q : Nat), k = nI q → q < (tS α).1 → opPerform α k = (nI (perfA ((tS α).2 q) 13 0 α).1, (perfA ((tS α).2 q) 13 0 α).2) → ∀ f i τ β, i + f = 13 → MInv τ β → aOK β → tS β = tS α → ¬ (tT β).1 = 0 → CEq σ τ → perfA ((tS α).2 q) 13 0 α = perfA ((tS α).2 q) f i β → i ≤ 12 → Rw mX11_perform X 27 [some (.ref i_M), some (.int k), some (.int (nI i))] [] (wd τ x) 0 0 := by
    intro q ek hq eo f
    have hS := ok.2.2.2.2.1
    have b1 := hS.1
    obtain ⟨b2, b3, b4⟩ := hS.2 q hq
    induction f with
    | zero => intro i τ β hf; intros; omega
    | succ f ih =>
      intro i τ β hf hm okβ eS hne hce hp hi
      have eS2 : (tS β).2 q = (tS α).2 q := by rw [eS]
      have hpl : τ.2.2 i_m_planLong q = nI ((tS α).2 q).1 := by rw [← eS2]; exact (hm.2.2.2.1.2 q (by rw [eS]; exact hq)).1
      have hst : ∀ j, j < 4 → i < ((tS α).2 q).1 → τ.2.2 i_m_plan (4 * (12 * q + i) + j) = ((tS α).2 q).2 i j := fun j hj hi2 => by
        have := (hm.2.2.2.1.2 q (by rw [eS]; exact hq)).2 i j (by rw [eS2]; exact hi2) hj
        rw [eS2] at this; exact this
      have e27 : ∀ j : Nat, k * 1 = k := fun _ => Int32.mul_one _
      by_cases hlt : i < ((tS α).2 q).1
      · refine R_iload_n (i := 2) hC dX11_perform_27 rfl rfl (R_aload_n (i := 0) hC dX11_perform_28 rfl rfl (R_gR hC dX11_perform_29 fl_X11_29 L_M rfl (R_iload_n (i := 1) hC dX11_perform_32 rfl rfl (R_aI hC dX11_perform_33 L_m_planLong q ek (by omega) (by decide) ?_))))
        refine R_top (y := nI ((tS α).2 q).1) hpl ?_
        refine R_icmp_ge hC 82 dX11_perform_34 (by decide) (fun h => absurd h (nI_ge hlt (by omega))) (fun _ => ?_)
        refine R_aload_n (i := 0) hC dX11_perform_37 rfl rfl (R_aload_n (i := 0) hC dX11_perform_38 rfl rfl (R_gR hC dX11_perform_39 fl_X11_13 L_M rfl (R_iconst (v := 4) hC dX11_perform_42 (by decide) (R_bipush (v := 12) hC dX11_perform_43 (by decide) (R_iload_n (i := 1) hC dX11_perform_45 rfl rfl (R_imul hC dX11_perform_46 (R_iload_n (i := 2) hC dX11_perform_47 rfl rfl ?_)))))))
        refine R_iadd hC dX11_perform_48 (R_imul hC dX11_perform_49 ?_)
        refine R_top (y := nI (4 * (12 * q + i))) (by rw [ek]; exact n412 q i) ?_
        refine R_V2g hC hR dX11_perform_50 MV_X11_canStep ml_X11_328 L_M rfl (s_canStepB L_m_now (by decide) (hm.2.1.TB okβ.2.2.1) (4 * (12 * q + i)) (by omega) (b4 i hlt) (fun j hj => hst j hj hlt)) (by decide) ⟨by decide, by decide⟩ (Nat.le_of_ble_eq_true rfl) (fun r w1 hq => ?_)
        obtain ⟨g, rfl, rfl⟩ := hq
        have hm2 : MInv (sA τ i_m_trial g) β := hm.a (by decide)
        refine R_if_eq hC 82 dX11_perform_53 (by decide) (fun h53 => ?_) (fun h53 => ?_)
        · refine R_iload_n (i := 2) hC dX11_perform_82 rfl rfl ?_
          exact R_iret hC hT dX11_perform_83 rfl (by rw [eo, hp, perfA_n (fun z => b2i_0 h53 z.2)]; exact MPost.i hm2 (hce.a (by decide)))
        · have hcan := b2i_ne h53
          refine R_aload_n (i := 0) hC dX11_perform_56 rfl rfl ?_
          refine R_V0g hC hR dX11_perform_57 MV_X11_remember ml_X11_167 L_M rfl (s_remember hm2 okβ) (by decide) ⟨by decide, by decide⟩ (Nat.le_of_ble_eq_true rfl) (fun r w1 hq => ?_)
          obtain ⟨rfl, p, g2, rfl, hm3⟩ := hq
          refine R_aload_n (i := 0) hC dX11_perform_60 rfl rfl (R_aload_n (i := 0) hC dX11_perform_61 rfl rfl (R_gR hC dX11_perform_62 fl_X11_13 L_M rfl (R_iconst (v := 4) hC dX11_perform_65 (by decide) (R_bipush (v := 12) hC dX11_perform_66 (by decide) (R_iload_n (i := 1) hC dX11_perform_68 rfl rfl (R_imul hC dX11_perform_69 (R_iload_n (i := 2) hC dX11_perform_70 rfl rfl ?_)))))))
          refine R_iadd hC dX11_perform_71 (R_imul hC dX11_perform_72 ?_)
          refine R_top (y := nI (4 * (12 * q + i))) (by rw [ek]; exact n412 q i) ?_
          refine R_V2g hC hR dX11_perform_73 MV_X11_doesStep ml_X11_332 L_M rfl (s_doesStep L_m_now (by decide) (by decide) (hm3.2.1.TB okβ.2.2.1) okβ.2.2.1 (4 * (12 * q + i)) (by omega) (b4 i hlt) (fun j hj => hst j hj hlt) hcan) (by decide) ⟨by decide, by decide⟩ (Nat.le_of_ble_eq_true rfl) (fun r w1 hq => ?_)
          obtain ⟨rfl, g3, h3, rfl, hg3⟩ := hq
          refine R_iinc hC dX11_perform_76 rfl (inc1 _) (by decide) rfl (R_goto hC 27 dX11_perform_79 (by decide) ?_)
          exact ih (i + 1) _ (pushT β (stepA (tT β) (((tS α).2 q).2 i))) (by omega) ((hm3.a (i := i_m_trial) (by decide)).now hg3.TR) (aOK_push okβ (tbOK_step okβ.2.2.1 (b4 i hlt) hcan)) eS (stepA_pos okβ.2.2.1 hcan hne) (((((hce.a (by decide)).g (Nat.le_refl _)).a (by decide)).a (by decide)).a (by decide)) (by rw [hp, perfA_y ⟨hlt, hcan⟩]) (by omega)
      · refine R_iload_n (i := 2) hC dX11_perform_27 rfl rfl (R_aload_n (i := 0) hC dX11_perform_28 rfl rfl (R_gR hC dX11_perform_29 fl_X11_29 L_M rfl (R_iload_n (i := 1) hC dX11_perform_32 rfl rfl (R_aI hC dX11_perform_33 L_m_planLong q ek (by omega) (by decide) ?_))))
        refine R_top (y := nI ((tS α).2 q).1) hpl ?_
        refine R_icmp_ge hC 82 dX11_perform_34 (by decide) (fun _ => ?_) (fun h => absurd (nI_le (by omega) (by omega)) h)
        refine R_iload_n (i := 2) hC dX11_perform_82 rfl rfl ?_
        exact R_iret hC hT dX11_perform_83 rfl (by rw [eo, hp, perfA_n (fun z => hlt z.1)]; exact MPost.i hm hce)
  refine R_aload_n (i := 0) hC dX11_perform_0 rfl rfl (R_iconst (v := 0) hC dX11_perform_1 (by decide) (R_pI hC dX11_perform_2 fl_X11_83 L_M rfl (R_aload_n (i := 0) hC dX11_perform_5 rfl rfl (R_gR hC dX11_perform_6 fl_X11_13 L_M rfl (R_bipush (v := 36) hC dX11_perform_9 (by decide) (R_aI hC dX11_perform_11 L_m_now 36 rfl (by decide) (by decide) ?_))))))
  refine R_top (y := nI (tT α).1) hT1 ?_
  refine R_if_eq hC 23 dX11_perform_12 (by decide) (fun h12 => ?_) (fun h12 => ?_)
  · refine R_iconst (v := (-1)) hC dX11_perform_23 (by decide) ?_
    exact R_iret hC hT dX11_perform_24 rfl (by
    have e : opPerform α k = (-1, α) := by
      unfold opPerform
      rw [if_neg]
      rintro ⟨z1, z2⟩
      first
      | exact z1 ((T0_iff ok).mp h12)
      | exact b2i_0 h20 z2
    rw [e]; exact MPost.i h1 c1)
  · refine R_aload_n (i := 0) hC dX11_perform_15 rfl rfl (R_iload_n (i := 1) hC dX11_perform_16 rfl rfl ?_)
    refine R_V1i hC hR dX11_perform_17 MV_X11_isPlan ml_X11_325 L_M rfl (s_isPlan _ _ _) (by decide) ⟨by decide, by decide⟩ (Nat.le_of_ble_eq_true rfl) ?_
    have e13 : ((sG σ i_M 0 0).1 i_M 13).toInt = (tS α).1 := by rw [sG_nk (by decide), h.2.2.2.1.1, nI_toInt (by have := ok.2.2.2.2.1.1; omega)]
    rw [e13]
    refine R_if_ne hC 25 dX11_perform_20 (by decide) (fun h20 => ?_) (fun h20 => ?_)
    · have hin := b2i_ne h20
      obtain ⟨q, ek, hq, hq2⟩ := inR_i (n := (tS α).1) hin
      have n0 : ¬ (tT α).1 = 0 := fun z => h12 ((T0_iff ok).mpr z)
      refine R_iconst (v := 0) hC dX11_perform_25 (by decide) (R_istore_n (i := 2) hC dX11_perform_26 rfl (by decide) rfl ?_)
      exact loop q ek hq (by unfold opPerform; rw [if_pos ⟨n0, hin⟩, ek, nI_clamp hq2]) 13 0 _ α rfl h1 ok rfl n0 c1 rfl (by decide)
    · refine R_iconst (v := (-1)) hC dX11_perform_23 (by decide) ?_
      exact R_iret hC hT dX11_perform_24 rfl (by
      have e : opPerform α k = (-1, α) := by
        unfold opPerform
        rw [if_neg]
        rintro ⟨z1, z2⟩
        first
        | exact z1 ((T0_iff ok).mp h12)
        | exact b2i_0 h20 z2
      rw [e]; exact MPost.i h1 c1)

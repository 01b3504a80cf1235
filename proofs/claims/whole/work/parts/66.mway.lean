/-! ===== the model's ways ===== -/
theorem dX11_isWay_0 : decode cX11_isWay 0 = .ok (.iconst 0, 1) := by decide +kernel
theorem dX11_isWay_1 : decode cX11_isWay 1 = .ok (.istore 5, 2) := by decide +kernel
theorem dX11_isWay_3 : decode cX11_isWay 3 = .ok (.iconst 0, 1) := by decide +kernel
theorem dX11_isWay_4 : decode cX11_isWay 4 = .ok (.istore 6, 2) := by decide +kernel
theorem dX11_isWay_6 : decode cX11_isWay 6 = .ok (.iload 6, 2) := by decide +kernel
theorem dX11_isWay_8 : decode cX11_isWay 8 = .ok (.iload 4, 2) := by decide +kernel
theorem dX11_isWay_10 : decode cX11_isWay 10 = .ok (.if_icmp .ge 30, 3) := by decide +kernel
theorem dX11_isWay_13 : decode cX11_isWay 13 = .ok (.aload_n 1, 1) := by decide +kernel
theorem dX11_isWay_14 : decode cX11_isWay 14 = .ok (.bipush 6, 2) := by decide +kernel
theorem dX11_isWay_16 : decode cX11_isWay 16 = .ok (.iload 6, 2) := by decide +kernel
theorem dX11_isWay_18 : decode cX11_isWay 18 = .ok (.imul, 1) := by decide +kernel
theorem dX11_isWay_19 : decode cX11_isWay 19 = .ok (.iload_n 3, 1) := by decide +kernel
theorem dX11_isWay_20 : decode cX11_isWay 20 = .ok (.iadd, 1) := by decide +kernel
theorem dX11_isWay_21 : decode cX11_isWay 21 = .ok (.iaload, 1) := by decide +kernel
theorem dX11_isWay_22 : decode cX11_isWay 22 = .ok (.ifCond .eq 12, 3) := by decide +kernel
theorem dX11_isWay_25 : decode cX11_isWay 25 = .ok (.iload 5, 2) := by decide +kernel
theorem dX11_isWay_27 : decode cX11_isWay 27 = .ok (.iconst 1, 1) := by decide +kernel
theorem dX11_isWay_28 : decode cX11_isWay 28 = .ok (.iload 6, 2) := by decide +kernel
theorem dX11_isWay_30 : decode cX11_isWay 30 = .ok (.ishl, 1) := by decide +kernel
theorem dX11_isWay_31 : decode cX11_isWay 31 = .ok (.ior, 1) := by decide +kernel
theorem dX11_isWay_32 : decode cX11_isWay 32 = .ok (.istore 5, 2) := by decide +kernel
theorem dX11_isWay_34 : decode cX11_isWay 34 = .ok (.iinc 6 1, 3) := by decide +kernel
theorem dX11_isWay_37 : decode cX11_isWay 37 = .ok (.goto (-31), 3) := by decide +kernel
theorem dX11_isWay_40 : decode cX11_isWay 40 = .ok (.aload_n 0, 1) := by decide +kernel
theorem dX11_isWay_41 : decode cX11_isWay 41 = .ok (.iconst 0, 1) := by decide +kernel
theorem dX11_isWay_42 : decode cX11_isWay 42 = .ok (.putfield 239, 3) := by decide +kernel
theorem dX11_isWay_45 : decode cX11_isWay 45 = .ok (.iload 5, 2) := by decide +kernel
theorem dX11_isWay_47 : decode cX11_isWay 47 = .ok (.invokestatic 204, 3) := by decide +kernel
theorem dX11_isWay_50 : decode cX11_isWay 50 = .ok (.istore 6, 2) := by decide +kernel
theorem dX11_isWay_52 : decode cX11_isWay 52 = .ok (.iload 6, 2) := by decide +kernel
theorem dX11_isWay_54 : decode cX11_isWay 54 = .ok (.ifCond .ne 5, 3) := by decide +kernel
theorem dX11_isWay_57 : decode cX11_isWay 57 = .ok (.iconst 1, 1) := by decide +kernel
theorem dX11_isWay_58 : decode cX11_isWay 58 = .ok (.ireturn, 1) := by decide +kernel
theorem dX11_isWay_59 : decode cX11_isWay 59 = .ok (.iconst (-1), 1) := by decide +kernel
theorem dX11_isWay_60 : decode cX11_isWay 60 = .ok (.istore 7, 2) := by decide +kernel
theorem dX11_isWay_62 : decode cX11_isWay 62 = .ok (.iconst 0, 1) := by decide +kernel
theorem dX11_isWay_63 : decode cX11_isWay 63 = .ok (.istore 8, 2) := by decide +kernel
theorem dX11_isWay_65 : decode cX11_isWay 65 = .ok (.iload 8, 2) := by decide +kernel
theorem dX11_isWay_67 : decode cX11_isWay 67 = .ok (.iload 4, 2) := by decide +kernel
theorem dX11_isWay_69 : decode cX11_isWay 69 = .ok (.if_icmp .ge 97, 3) := by decide +kernel
theorem dX11_isWay_72 : decode cX11_isWay 72 = .ok (.iload 7, 2) := by decide +kernel
theorem dX11_isWay_74 : decode cX11_isWay 74 = .ok (.iconst (-1), 1) := by decide +kernel
theorem dX11_isWay_75 : decode cX11_isWay 75 = .ok (.if_icmp .ne 91, 3) := by decide +kernel
theorem dX11_isWay_78 : decode cX11_isWay 78 = .ok (.iload 5, 2) := by decide +kernel
theorem dX11_isWay_80 : decode cX11_isWay 80 = .ok (.iload 8, 2) := by decide +kernel
theorem dX11_isWay_82 : decode cX11_isWay 82 = .ok (.invokestatic 200, 3) := by decide +kernel
theorem dX11_isWay_85 : decode cX11_isWay 85 = .ok (.ifCond .ne 6, 3) := by decide +kernel
theorem dX11_isWay_88 : decode cX11_isWay 88 = .ok (.goto 72, 3) := by decide +kernel
theorem dX11_isWay_91 : decode cX11_isWay 91 = .ok (.iconst 1, 1) := by decide +kernel
theorem dX11_isWay_92 : decode cX11_isWay 92 = .ok (.istore 9, 2) := by decide +kernel
theorem dX11_isWay_94 : decode cX11_isWay 94 = .ok (.iconst 0, 1) := by decide +kernel
theorem dX11_isWay_95 : decode cX11_isWay 95 = .ok (.istore 10, 2) := by decide +kernel
theorem dX11_isWay_97 : decode cX11_isWay 97 = .ok (.iload 10, 2) := by decide +kernel
theorem dX11_isWay_99 : decode cX11_isWay 99 = .ok (.iload 4, 2) := by decide +kernel
theorem dX11_isWay_101 : decode cX11_isWay 101 = .ok (.if_icmp .ge 50, 3) := by decide +kernel
theorem dX11_isWay_104 : decode cX11_isWay 104 = .ok (.iload 10, 2) := by decide +kernel
theorem dX11_isWay_106 : decode cX11_isWay 106 = .ok (.iload 8, 2) := by decide +kernel
theorem dX11_isWay_108 : decode cX11_isWay 108 = .ok (.if_icmp .eq 37, 3) := by decide +kernel
theorem dX11_isWay_111 : decode cX11_isWay 111 = .ok (.iload 5, 2) := by decide +kernel
theorem dX11_isWay_113 : decode cX11_isWay 113 = .ok (.iload 10, 2) := by decide +kernel
theorem dX11_isWay_115 : decode cX11_isWay 115 = .ok (.invokestatic 200, 3) := by decide +kernel
theorem dX11_isWay_118 : decode cX11_isWay 118 = .ok (.ifCond .eq 27, 3) := by decide +kernel
theorem dX11_isWay_121 : decode cX11_isWay 121 = .ok (.aload_n 0, 1) := by decide +kernel
theorem dX11_isWay_122 : decode cX11_isWay 122 = .ok (.aload_n 1, 1) := by decide +kernel
theorem dX11_isWay_123 : decode cX11_isWay 123 = .ok (.iload_n 2, 1) := by decide +kernel
theorem dX11_isWay_124 : decode cX11_isWay 124 = .ok (.iload_n 3, 1) := by decide +kernel
theorem dX11_isWay_125 : decode cX11_isWay 125 = .ok (.iload 10, 2) := by decide +kernel
theorem dX11_isWay_127 : decode cX11_isWay 127 = .ok (.invokevirtual 242, 3) := by decide +kernel
theorem dX11_isWay_130 : decode cX11_isWay 130 = .ok (.aload_n 0, 1) := by decide +kernel
theorem dX11_isWay_131 : decode cX11_isWay 131 = .ok (.aload_n 1, 1) := by decide +kernel
theorem dX11_isWay_132 : decode cX11_isWay 132 = .ok (.iload_n 2, 1) := by decide +kernel
theorem dX11_isWay_133 : decode cX11_isWay 133 = .ok (.iload_n 3, 1) := by decide +kernel
theorem dX11_isWay_134 : decode cX11_isWay 134 = .ok (.iload 8, 2) := by decide +kernel
theorem dX11_isWay_136 : decode cX11_isWay 136 = .ok (.invokevirtual 245, 3) := by decide +kernel
theorem dX11_isWay_139 : decode cX11_isWay 139 = .ok (.if_icmp .ne 6, 3) := by decide +kernel
theorem dX11_isWay_142 : decode cX11_isWay 142 = .ok (.iconst 0, 1) := by decide +kernel
theorem dX11_isWay_143 : decode cX11_isWay 143 = .ok (.istore 9, 2) := by decide +kernel
theorem dX11_isWay_145 : decode cX11_isWay 145 = .ok (.iinc 10 1, 3) := by decide +kernel
theorem dX11_isWay_148 : decode cX11_isWay 148 = .ok (.goto (-51), 3) := by decide +kernel
theorem dX11_isWay_151 : decode cX11_isWay 151 = .ok (.iload 9, 2) := by decide +kernel
theorem dX11_isWay_153 : decode cX11_isWay 153 = .ok (.ifCond .eq 7, 3) := by decide +kernel
theorem dX11_isWay_156 : decode cX11_isWay 156 = .ok (.iload 8, 2) := by decide +kernel
theorem dX11_isWay_158 : decode cX11_isWay 158 = .ok (.istore 7, 2) := by decide +kernel
theorem dX11_isWay_160 : decode cX11_isWay 160 = .ok (.iinc 8 1, 3) := by decide +kernel
theorem dX11_isWay_163 : decode cX11_isWay 163 = .ok (.goto (-98), 3) := by decide +kernel
theorem dX11_isWay_166 : decode cX11_isWay 166 = .ok (.iload 7, 2) := by decide +kernel
theorem dX11_isWay_168 : decode cX11_isWay 168 = .ok (.iconst (-1), 1) := by decide +kernel
theorem dX11_isWay_169 : decode cX11_isWay 169 = .ok (.if_icmp .ne 5, 3) := by decide +kernel
theorem dX11_isWay_172 : decode cX11_isWay 172 = .ok (.iconst 0, 1) := by decide +kernel
theorem dX11_isWay_173 : decode cX11_isWay 173 = .ok (.ireturn, 1) := by decide +kernel
theorem dX11_isWay_174 : decode cX11_isWay 174 = .ok (.iload 7, 2) := by decide +kernel
theorem dX11_isWay_176 : decode cX11_isWay 176 = .ok (.istore 8, 2) := by decide +kernel
theorem dX11_isWay_178 : decode cX11_isWay 178 = .ok (.iload 5, 2) := by decide +kernel
theorem dX11_isWay_180 : decode cX11_isWay 180 = .ok (.istore 9, 2) := by decide +kernel
theorem dX11_isWay_182 : decode cX11_isWay 182 = .ok (.iload 8, 2) := by decide +kernel
theorem dX11_isWay_184 : decode cX11_isWay 184 = .ok (.iconst (-1), 1) := by decide +kernel
theorem dX11_isWay_185 : decode cX11_isWay 185 = .ok (.if_icmp .eq 100, 3) := by decide +kernel
theorem dX11_isWay_188 : decode cX11_isWay 188 = .ok (.aload_n 0, 1) := by decide +kernel
theorem dX11_isWay_189 : decode cX11_isWay 189 = .ok (.getfield 50, 3) := by decide +kernel
theorem dX11_isWay_192 : decode cX11_isWay 192 = .ok (.aload_n 0, 1) := by decide +kernel
theorem dX11_isWay_193 : decode cX11_isWay 193 = .ok (.getfield 239, 3) := by decide +kernel
theorem dX11_isWay_196 : decode cX11_isWay 196 = .ok (.iload 8, 2) := by decide +kernel
theorem dX11_isWay_198 : decode cX11_isWay 198 = .ok (.iastore, 1) := by decide +kernel
theorem dX11_isWay_199 : decode cX11_isWay 199 = .ok (.aload_n 0, 1) := by decide +kernel
theorem dX11_isWay_200 : decode cX11_isWay 200 = .ok (.dup, 1) := by decide +kernel
theorem dX11_isWay_201 : decode cX11_isWay 201 = .ok (.getfield 239, 3) := by decide +kernel
theorem dX11_isWay_204 : decode cX11_isWay 204 = .ok (.iconst 1, 1) := by decide +kernel
theorem dX11_isWay_205 : decode cX11_isWay 205 = .ok (.iadd, 1) := by decide +kernel
theorem dX11_isWay_206 : decode cX11_isWay 206 = .ok (.putfield 239, 3) := by decide +kernel
theorem dX11_isWay_209 : decode cX11_isWay 209 = .ok (.iload 9, 2) := by decide +kernel
theorem dX11_isWay_211 : decode cX11_isWay 211 = .ok (.iconst 1, 1) := by decide +kernel
theorem dX11_isWay_212 : decode cX11_isWay 212 = .ok (.iload 8, 2) := by decide +kernel
theorem dX11_isWay_214 : decode cX11_isWay 214 = .ok (.ishl, 1) := by decide +kernel
theorem dX11_isWay_215 : decode cX11_isWay 215 = .ok (.iconst (-1), 1) := by decide +kernel
theorem dX11_isWay_216 : decode cX11_isWay 216 = .ok (.ixor, 1) := by decide +kernel
theorem dX11_isWay_217 : decode cX11_isWay 217 = .ok (.iand, 1) := by decide +kernel
theorem dX11_isWay_218 : decode cX11_isWay 218 = .ok (.istore 9, 2) := by decide +kernel
theorem dX11_isWay_220 : decode cX11_isWay 220 = .ok (.aload_n 0, 1) := by decide +kernel
theorem dX11_isWay_221 : decode cX11_isWay 221 = .ok (.aload_n 1, 1) := by decide +kernel
theorem dX11_isWay_222 : decode cX11_isWay 222 = .ok (.iload_n 2, 1) := by decide +kernel
theorem dX11_isWay_223 : decode cX11_isWay 223 = .ok (.iload_n 3, 1) := by decide +kernel
theorem dX11_isWay_224 : decode cX11_isWay 224 = .ok (.iload 8, 2) := by decide +kernel
theorem dX11_isWay_226 : decode cX11_isWay 226 = .ok (.invokevirtual 242, 3) := by decide +kernel
theorem dX11_isWay_229 : decode cX11_isWay 229 = .ok (.istore 10, 2) := by decide +kernel
theorem dX11_isWay_231 : decode cX11_isWay 231 = .ok (.iconst (-1), 1) := by decide +kernel
theorem dX11_isWay_232 : decode cX11_isWay 232 = .ok (.istore 11, 2) := by decide +kernel
theorem dX11_isWay_234 : decode cX11_isWay 234 = .ok (.iconst 0, 1) := by decide +kernel
theorem dX11_isWay_235 : decode cX11_isWay 235 = .ok (.istore 12, 2) := by decide +kernel
theorem dX11_isWay_237 : decode cX11_isWay 237 = .ok (.iload 12, 2) := by decide +kernel
theorem dX11_isWay_239 : decode cX11_isWay 239 = .ok (.iload 4, 2) := by decide +kernel
theorem dX11_isWay_241 : decode cX11_isWay 241 = .ok (.if_icmp .ge 37, 3) := by decide +kernel
theorem dX11_isWay_244 : decode cX11_isWay 244 = .ok (.iload 9, 2) := by decide +kernel
theorem dX11_isWay_246 : decode cX11_isWay 246 = .ok (.iload 12, 2) := by decide +kernel
theorem dX11_isWay_248 : decode cX11_isWay 248 = .ok (.invokestatic 200, 3) := by decide +kernel
theorem dX11_isWay_251 : decode cX11_isWay 251 = .ok (.ifCond .eq 21, 3) := by decide +kernel
theorem dX11_isWay_254 : decode cX11_isWay 254 = .ok (.aload_n 0, 1) := by decide +kernel
theorem dX11_isWay_255 : decode cX11_isWay 255 = .ok (.aload_n 1, 1) := by decide +kernel
theorem dX11_isWay_256 : decode cX11_isWay 256 = .ok (.iload_n 2, 1) := by decide +kernel
theorem dX11_isWay_257 : decode cX11_isWay 257 = .ok (.iload_n 3, 1) := by decide +kernel
theorem dX11_isWay_258 : decode cX11_isWay 258 = .ok (.iload 12, 2) := by decide +kernel
theorem dX11_isWay_260 : decode cX11_isWay 260 = .ok (.invokevirtual 245, 3) := by decide +kernel
theorem dX11_isWay_263 : decode cX11_isWay 263 = .ok (.iload 10, 2) := by decide +kernel
theorem dX11_isWay_265 : decode cX11_isWay 265 = .ok (.if_icmp .ne 7, 3) := by decide +kernel
theorem dX11_isWay_268 : decode cX11_isWay 268 = .ok (.iload 12, 2) := by decide +kernel
theorem dX11_isWay_270 : decode cX11_isWay 270 = .ok (.istore 11, 2) := by decide +kernel
theorem dX11_isWay_272 : decode cX11_isWay 272 = .ok (.iinc 12 1, 3) := by decide +kernel
theorem dX11_isWay_275 : decode cX11_isWay 275 = .ok (.goto (-38), 3) := by decide +kernel
theorem dX11_isWay_278 : decode cX11_isWay 278 = .ok (.iload 11, 2) := by decide +kernel
theorem dX11_isWay_280 : decode cX11_isWay 280 = .ok (.istore 8, 2) := by decide +kernel
theorem dX11_isWay_282 : decode cX11_isWay 282 = .ok (.goto (-100), 3) := by decide +kernel
theorem dX11_isWay_285 : decode cX11_isWay 285 = .ok (.aload_n 0, 1) := by decide +kernel
theorem dX11_isWay_286 : decode cX11_isWay 286 = .ok (.getfield 239, 3) := by decide +kernel
theorem dX11_isWay_289 : decode cX11_isWay 289 = .ok (.iload 6, 2) := by decide +kernel
theorem dX11_isWay_291 : decode cX11_isWay 291 = .ok (.if_icmp .ne 7, 3) := by decide +kernel
theorem dX11_isWay_294 : decode cX11_isWay 294 = .ok (.iconst 1, 1) := by decide +kernel
theorem dX11_isWay_295 : decode cX11_isWay 295 = .ok (.goto 4, 3) := by decide +kernel
theorem dX11_isWay_298 : decode cX11_isWay 298 = .ok (.iconst 0, 1) := by decide +kernel
theorem dX11_isWay_299 : decode cX11_isWay 299 = .ok (.ireturn, 1) := by decide +kernel
theorem dX11_headOf_0 : decode cX11_headOf 0 = .ok (.aload_n 1, 1) := by decide +kernel
theorem dX11_headOf_1 : decode cX11_headOf 1 = .ok (.bipush 6, 2) := by decide +kernel
theorem dX11_headOf_3 : decode cX11_headOf 3 = .ok (.iload 4, 2) := by decide +kernel
theorem dX11_headOf_5 : decode cX11_headOf 5 = .ok (.imul, 1) := by decide +kernel
theorem dX11_headOf_6 : decode cX11_headOf 6 = .ok (.iload_n 3, 1) := by decide +kernel
theorem dX11_headOf_7 : decode cX11_headOf 7 = .ok (.iadd, 1) := by decide +kernel
theorem dX11_headOf_8 : decode cX11_headOf 8 = .ok (.iaload, 1) := by decide +kernel
theorem dX11_headOf_9 : decode cX11_headOf 9 = .ok (.iconst 1, 1) := by decide +kernel
theorem dX11_headOf_10 : decode cX11_headOf 10 = .ok (.if_icmp .ne 18, 3) := by decide +kernel
theorem dX11_headOf_13 : decode cX11_headOf 13 = .ok (.aload_n 0, 1) := by decide +kernel
theorem dX11_headOf_14 : decode cX11_headOf 14 = .ok (.getfield 44, 3) := by decide +kernel
theorem dX11_headOf_17 : decode cX11_headOf 17 = .ok (.bipush 6, 2) := by decide +kernel
theorem dX11_headOf_19 : decode cX11_headOf 19 = .ok (.iload_n 2, 1) := by decide +kernel
theorem dX11_headOf_20 : decode cX11_headOf 20 = .ok (.imul, 1) := by decide +kernel
theorem dX11_headOf_21 : decode cX11_headOf 21 = .ok (.iload 4, 2) := by decide +kernel
theorem dX11_headOf_23 : decode cX11_headOf 23 = .ok (.iadd, 1) := by decide +kernel
theorem dX11_headOf_24 : decode cX11_headOf 24 = .ok (.iaload, 1) := by decide +kernel
theorem dX11_headOf_25 : decode cX11_headOf 25 = .ok (.goto 15, 3) := by decide +kernel
theorem dX11_headOf_28 : decode cX11_headOf 28 = .ok (.aload_n 0, 1) := by decide +kernel
theorem dX11_headOf_29 : decode cX11_headOf 29 = .ok (.getfield 41, 3) := by decide +kernel
theorem dX11_headOf_32 : decode cX11_headOf 32 = .ok (.bipush 6, 2) := by decide +kernel
theorem dX11_headOf_34 : decode cX11_headOf 34 = .ok (.iload_n 2, 1) := by decide +kernel
theorem dX11_headOf_35 : decode cX11_headOf 35 = .ok (.imul, 1) := by decide +kernel
theorem dX11_headOf_36 : decode cX11_headOf 36 = .ok (.iload 4, 2) := by decide +kernel
theorem dX11_headOf_38 : decode cX11_headOf 38 = .ok (.iadd, 1) := by decide +kernel
theorem dX11_headOf_39 : decode cX11_headOf 39 = .ok (.iaload, 1) := by decide +kernel
theorem dX11_headOf_40 : decode cX11_headOf 40 = .ok (.ireturn, 1) := by decide +kernel
theorem dX11_tailOf_0 : decode cX11_tailOf 0 = .ok (.aload_n 1, 1) := by decide +kernel
theorem dX11_tailOf_1 : decode cX11_tailOf 1 = .ok (.bipush 6, 2) := by decide +kernel
theorem dX11_tailOf_3 : decode cX11_tailOf 3 = .ok (.iload 4, 2) := by decide +kernel
theorem dX11_tailOf_5 : decode cX11_tailOf 5 = .ok (.imul, 1) := by decide +kernel
theorem dX11_tailOf_6 : decode cX11_tailOf 6 = .ok (.iload_n 3, 1) := by decide +kernel
theorem dX11_tailOf_7 : decode cX11_tailOf 7 = .ok (.iadd, 1) := by decide +kernel
theorem dX11_tailOf_8 : decode cX11_tailOf 8 = .ok (.iaload, 1) := by decide +kernel
theorem dX11_tailOf_9 : decode cX11_tailOf 9 = .ok (.iconst 1, 1) := by decide +kernel
theorem dX11_tailOf_10 : decode cX11_tailOf 10 = .ok (.if_icmp .ne 18, 3) := by decide +kernel
theorem dX11_tailOf_13 : decode cX11_tailOf 13 = .ok (.aload_n 0, 1) := by decide +kernel
theorem dX11_tailOf_14 : decode cX11_tailOf 14 = .ok (.getfield 41, 3) := by decide +kernel
theorem dX11_tailOf_17 : decode cX11_tailOf 17 = .ok (.bipush 6, 2) := by decide +kernel
theorem dX11_tailOf_19 : decode cX11_tailOf 19 = .ok (.iload_n 2, 1) := by decide +kernel
theorem dX11_tailOf_20 : decode cX11_tailOf 20 = .ok (.imul, 1) := by decide +kernel
theorem dX11_tailOf_21 : decode cX11_tailOf 21 = .ok (.iload 4, 2) := by decide +kernel
theorem dX11_tailOf_23 : decode cX11_tailOf 23 = .ok (.iadd, 1) := by decide +kernel
theorem dX11_tailOf_24 : decode cX11_tailOf 24 = .ok (.iaload, 1) := by decide +kernel
theorem dX11_tailOf_25 : decode cX11_tailOf 25 = .ok (.goto 15, 3) := by decide +kernel
theorem dX11_tailOf_28 : decode cX11_tailOf 28 = .ok (.aload_n 0, 1) := by decide +kernel
theorem dX11_tailOf_29 : decode cX11_tailOf 29 = .ok (.getfield 44, 3) := by decide +kernel
theorem dX11_tailOf_32 : decode cX11_tailOf 32 = .ok (.bipush 6, 2) := by decide +kernel
theorem dX11_tailOf_34 : decode cX11_tailOf 34 = .ok (.iload_n 2, 1) := by decide +kernel
theorem dX11_tailOf_35 : decode cX11_tailOf 35 = .ok (.imul, 1) := by decide +kernel
theorem dX11_tailOf_36 : decode cX11_tailOf 36 = .ok (.iload 4, 2) := by decide +kernel
theorem dX11_tailOf_38 : decode cX11_tailOf 38 = .ok (.iadd, 1) := by decide +kernel
theorem dX11_tailOf_39 : decode cX11_tailOf 39 = .ok (.iaload, 1) := by decide +kernel
theorem dX11_tailOf_40 : decode cX11_tailOf 40 = .ok (.ireturn, 1) := by decide +kernel
theorem dX11_areWays_0 : decode cX11_areWays 0 = .ok (.iconst 0, 1) := by decide +kernel
theorem dX11_areWays_1 : decode cX11_areWays 1 = .ok (.istore 4, 2) := by decide +kernel
theorem dX11_areWays_3 : decode cX11_areWays 3 = .ok (.iload 4, 2) := by decide +kernel
theorem dX11_areWays_5 : decode cX11_areWays 5 = .ok (.aload_n 1, 1) := by decide +kernel
theorem dX11_areWays_6 : decode cX11_areWays 6 = .ok (.bipush 37, 2) := by decide +kernel
theorem dX11_areWays_8 : decode cX11_areWays 8 = .ok (.iaload, 1) := by decide +kernel
theorem dX11_areWays_9 : decode cX11_areWays 9 = .ok (.if_icmp .ge 23, 3) := by decide +kernel
theorem dX11_areWays_12 : decode cX11_areWays 12 = .ok (.aload_n 0, 1) := by decide +kernel
theorem dX11_areWays_13 : decode cX11_areWays 13 = .ok (.aload_n 1, 1) := by decide +kernel
theorem dX11_areWays_14 : decode cX11_areWays 14 = .ok (.iload_n 2, 1) := by decide +kernel
theorem dX11_areWays_15 : decode cX11_areWays 15 = .ok (.iload 4, 2) := by decide +kernel
theorem dX11_areWays_17 : decode cX11_areWays 17 = .ok (.iload_n 3, 1) := by decide +kernel
theorem dX11_areWays_18 : decode cX11_areWays 18 = .ok (.invokevirtual 248, 3) := by decide +kernel
theorem dX11_areWays_21 : decode cX11_areWays 21 = .ok (.ifCond .ne 5, 3) := by decide +kernel
theorem dX11_areWays_24 : decode cX11_areWays 24 = .ok (.iconst 0, 1) := by decide +kernel
theorem dX11_areWays_25 : decode cX11_areWays 25 = .ok (.ireturn, 1) := by decide +kernel
theorem dX11_areWays_26 : decode cX11_areWays 26 = .ok (.iinc 4 1, 3) := by decide +kernel
theorem dX11_areWays_29 : decode cX11_areWays 29 = .ok (.goto (-26), 3) := by decide +kernel
theorem dX11_areWays_32 : decode cX11_areWays 32 = .ok (.iconst 1, 1) := by decide +kernel
theorem dX11_areWays_33 : decode cX11_areWays 33 = .ok (.ireturn, 1) := by decide +kernel
theorem dX11_endsAt_0 : decode cX11_endsAt 0 = .ok (.iconst 0, 1) := by decide +kernel
theorem dX11_endsAt_1 : decode cX11_endsAt 1 = .ok (.istore 4, 2) := by decide +kernel
theorem dX11_endsAt_3 : decode cX11_endsAt 3 = .ok (.iconst 0, 1) := by decide +kernel
theorem dX11_endsAt_4 : decode cX11_endsAt 4 = .ok (.istore 5, 2) := by decide +kernel
theorem dX11_endsAt_6 : decode cX11_endsAt 6 = .ok (.iload 5, 2) := by decide +kernel
theorem dX11_endsAt_8 : decode cX11_endsAt 8 = .ok (.iload_n 3, 1) := by decide +kernel
theorem dX11_endsAt_9 : decode cX11_endsAt 9 = .ok (.if_icmp .ge 50, 3) := by decide +kernel
theorem dX11_endsAt_12 : decode cX11_endsAt 12 = .ok (.aload_n 0, 1) := by decide +kernel
theorem dX11_endsAt_13 : decode cX11_endsAt 13 = .ok (.getfield 41, 3) := by decide +kernel
theorem dX11_endsAt_16 : decode cX11_endsAt 16 = .ok (.bipush 6, 2) := by decide +kernel
theorem dX11_endsAt_18 : decode cX11_endsAt 18 = .ok (.iload_n 1, 1) := by decide +kernel
theorem dX11_endsAt_19 : decode cX11_endsAt 19 = .ok (.imul, 1) := by decide +kernel
theorem dX11_endsAt_20 : decode cX11_endsAt 20 = .ok (.iload 5, 2) := by decide +kernel
theorem dX11_endsAt_22 : decode cX11_endsAt 22 = .ok (.iadd, 1) := by decide +kernel
theorem dX11_endsAt_23 : decode cX11_endsAt 23 = .ok (.iaload, 1) := by decide +kernel
theorem dX11_endsAt_24 : decode cX11_endsAt 24 = .ok (.iload_n 2, 1) := by decide +kernel
theorem dX11_endsAt_25 : decode cX11_endsAt 25 = .ok (.if_icmp .eq 19, 3) := by decide +kernel
theorem dX11_endsAt_28 : decode cX11_endsAt 28 = .ok (.aload_n 0, 1) := by decide +kernel
theorem dX11_endsAt_29 : decode cX11_endsAt 29 = .ok (.getfield 44, 3) := by decide +kernel
theorem dX11_endsAt_32 : decode cX11_endsAt 32 = .ok (.bipush 6, 2) := by decide +kernel
theorem dX11_endsAt_34 : decode cX11_endsAt 34 = .ok (.iload_n 1, 1) := by decide +kernel
theorem dX11_endsAt_35 : decode cX11_endsAt 35 = .ok (.imul, 1) := by decide +kernel
theorem dX11_endsAt_36 : decode cX11_endsAt 36 = .ok (.iload 5, 2) := by decide +kernel
theorem dX11_endsAt_38 : decode cX11_endsAt 38 = .ok (.iadd, 1) := by decide +kernel
theorem dX11_endsAt_39 : decode cX11_endsAt 39 = .ok (.iaload, 1) := by decide +kernel
theorem dX11_endsAt_40 : decode cX11_endsAt 40 = .ok (.iload_n 2, 1) := by decide +kernel
theorem dX11_endsAt_41 : decode cX11_endsAt 41 = .ok (.if_icmp .ne 12, 3) := by decide +kernel
theorem dX11_endsAt_44 : decode cX11_endsAt 44 = .ok (.iload 4, 2) := by decide +kernel
theorem dX11_endsAt_46 : decode cX11_endsAt 46 = .ok (.iconst 1, 1) := by decide +kernel
theorem dX11_endsAt_47 : decode cX11_endsAt 47 = .ok (.iload 5, 2) := by decide +kernel
theorem dX11_endsAt_49 : decode cX11_endsAt 49 = .ok (.ishl, 1) := by decide +kernel
theorem dX11_endsAt_50 : decode cX11_endsAt 50 = .ok (.ior, 1) := by decide +kernel
theorem dX11_endsAt_51 : decode cX11_endsAt 51 = .ok (.istore 4, 2) := by decide +kernel
theorem dX11_endsAt_53 : decode cX11_endsAt 53 = .ok (.iinc 5 1, 3) := by decide +kernel
theorem dX11_endsAt_56 : decode cX11_endsAt 56 = .ok (.goto (-50), 3) := by decide +kernel
theorem dX11_endsAt_59 : decode cX11_endsAt 59 = .ok (.iload 4, 2) := by decide +kernel
theorem dX11_endsAt_61 : decode cX11_endsAt 61 = .ok (.ireturn, 1) := by decide +kernel
theorem dX11_bends_0 : decode cX11_bends 0 = .ok (.iconst 0, 1) := by decide +kernel
theorem dX11_bends_1 : decode cX11_bends 1 = .ok (.istore 5, 2) := by decide +kernel
theorem dX11_bends_3 : decode cX11_bends 3 = .ok (.iload 5, 2) := by decide +kernel
theorem dX11_bends_5 : decode cX11_bends 5 = .ok (.bipush 6, 2) := by decide +kernel
theorem dX11_bends_7 : decode cX11_bends 7 = .ok (.if_icmp .ge 68, 3) := by decide +kernel
theorem dX11_bends_10 : decode cX11_bends 10 = .ok (.iload_n 2, 1) := by decide +kernel
theorem dX11_bends_11 : decode cX11_bends 11 = .ok (.iload 5, 2) := by decide +kernel
theorem dX11_bends_13 : decode cX11_bends 13 = .ok (.invokestatic 200, 3) := by decide +kernel
theorem dX11_bends_16 : decode cX11_bends 16 = .ok (.ifCond .ne 6, 3) := by decide +kernel
theorem dX11_bends_19 : decode cX11_bends 19 = .ok (.goto 50, 3) := by decide +kernel
theorem dX11_bends_22 : decode cX11_bends 22 = .ok (.aload_n 0, 1) := by decide +kernel
theorem dX11_bends_23 : decode cX11_bends 23 = .ok (.getfield 41, 3) := by decide +kernel
theorem dX11_bends_26 : decode cX11_bends 26 = .ok (.bipush 6, 2) := by decide +kernel
theorem dX11_bends_28 : decode cX11_bends 28 = .ok (.iload_n 1, 1) := by decide +kernel
theorem dX11_bends_29 : decode cX11_bends 29 = .ok (.imul, 1) := by decide +kernel
theorem dX11_bends_30 : decode cX11_bends 30 = .ok (.iload 5, 2) := by decide +kernel
theorem dX11_bends_32 : decode cX11_bends 32 = .ok (.iadd, 1) := by decide +kernel
theorem dX11_bends_33 : decode cX11_bends 33 = .ok (.iaload, 1) := by decide +kernel
theorem dX11_bends_34 : decode cX11_bends 34 = .ok (.iload_n 3, 1) := by decide +kernel
theorem dX11_bends_35 : decode cX11_bends 35 = .ok (.if_icmp .ne 20, 3) := by decide +kernel
theorem dX11_bends_38 : decode cX11_bends 38 = .ok (.aload_n 0, 1) := by decide +kernel
theorem dX11_bends_39 : decode cX11_bends 39 = .ok (.getfield 41, 3) := by decide +kernel
theorem dX11_bends_42 : decode cX11_bends 42 = .ok (.bipush 6, 2) := by decide +kernel
theorem dX11_bends_44 : decode cX11_bends 44 = .ok (.iload_n 1, 1) := by decide +kernel
theorem dX11_bends_45 : decode cX11_bends 45 = .ok (.imul, 1) := by decide +kernel
theorem dX11_bends_46 : decode cX11_bends 46 = .ok (.iload 5, 2) := by decide +kernel
theorem dX11_bends_48 : decode cX11_bends 48 = .ok (.iadd, 1) := by decide +kernel
theorem dX11_bends_49 : decode cX11_bends 49 = .ok (.iload 4, 2) := by decide +kernel
theorem dX11_bends_51 : decode cX11_bends 51 = .ok (.iastore, 1) := by decide +kernel
theorem dX11_bends_52 : decode cX11_bends 52 = .ok (.goto 17, 3) := by decide +kernel
theorem dX11_bends_55 : decode cX11_bends 55 = .ok (.aload_n 0, 1) := by decide +kernel
theorem dX11_bends_56 : decode cX11_bends 56 = .ok (.getfield 44, 3) := by decide +kernel
theorem dX11_bends_59 : decode cX11_bends 59 = .ok (.bipush 6, 2) := by decide +kernel
theorem dX11_bends_61 : decode cX11_bends 61 = .ok (.iload_n 1, 1) := by decide +kernel
theorem dX11_bends_62 : decode cX11_bends 62 = .ok (.imul, 1) := by decide +kernel
theorem dX11_bends_63 : decode cX11_bends 63 = .ok (.iload 5, 2) := by decide +kernel
theorem dX11_bends_65 : decode cX11_bends 65 = .ok (.iadd, 1) := by decide +kernel
theorem dX11_bends_66 : decode cX11_bends 66 = .ok (.iload 4, 2) := by decide +kernel
theorem dX11_bends_68 : decode cX11_bends 68 = .ok (.iastore, 1) := by decide +kernel
theorem dX11_bends_69 : decode cX11_bends 69 = .ok (.iinc 5 1, 3) := by decide +kernel
theorem dX11_bends_72 : decode cX11_bends 72 = .ok (.goto (-69), 3) := by decide +kernel
theorem dX11_bends_75 : decode cX11_bends 75 = .ok (.return_, 1) := by decide +kernel
theorem dX11_grows_0 : decode cX11_grows 0 = .ok (.iload_n 3, 1) := by decide +kernel
theorem dX11_grows_1 : decode cX11_grows 1 = .ok (.aload_n 1, 1) := by decide +kernel
theorem dX11_grows_2 : decode cX11_grows 2 = .ok (.bipush 36, 2) := by decide +kernel
theorem dX11_grows_4 : decode cX11_grows 4 = .ok (.iaload, 1) := by decide +kernel
theorem dX11_grows_5 : decode cX11_grows 5 = .ok (.if_icmp .ne 5, 3) := by decide +kernel
theorem dX11_grows_8 : decode cX11_grows 8 = .ok (.iconst 1, 1) := by decide +kernel
theorem dX11_grows_9 : decode cX11_grows 9 = .ok (.ireturn, 1) := by decide +kernel
theorem dX11_grows_10 : decode cX11_grows 10 = .ok (.iload_n 3, 1) := by decide +kernel
theorem dX11_grows_11 : decode cX11_grows 11 = .ok (.iconst 1, 1) := by decide +kernel
theorem dX11_grows_12 : decode cX11_grows 12 = .ok (.iadd, 1) := by decide +kernel
theorem dX11_grows_13 : decode cX11_grows 13 = .ok (.istore 4, 2) := by decide +kernel
theorem dX11_grows_15 : decode cX11_grows 15 = .ok (.iconst 0, 1) := by decide +kernel
theorem dX11_grows_16 : decode cX11_grows 16 = .ok (.istore 5, 2) := by decide +kernel
theorem dX11_grows_18 : decode cX11_grows 18 = .ok (.iload 5, 2) := by decide +kernel
theorem dX11_grows_20 : decode cX11_grows 20 = .ok (.iload_n 3, 1) := by decide +kernel
theorem dX11_grows_21 : decode cX11_grows 21 = .ok (.if_icmp .gt 157, 3) := by decide +kernel
theorem dX11_grows_24 : decode cX11_grows 24 = .ok (.aload_n 0, 1) := by decide +kernel
theorem dX11_grows_25 : decode cX11_grows 25 = .ok (.iload_n 2, 1) := by decide +kernel
theorem dX11_grows_26 : decode cX11_grows 26 = .ok (.iload 5, 2) := by decide +kernel
theorem dX11_grows_28 : decode cX11_grows 28 = .ok (.iload_n 3, 1) := by decide +kernel
theorem dX11_grows_29 : decode cX11_grows 29 = .ok (.invokevirtual 252, 3) := by decide +kernel
theorem dX11_grows_32 : decode cX11_grows 32 = .ok (.istore 6, 2) := by decide +kernel
theorem dX11_grows_34 : decode cX11_grows 34 = .ok (.iconst 0, 1) := by decide +kernel
theorem dX11_grows_35 : decode cX11_grows 35 = .ok (.istore 7, 2) := by decide +kernel
theorem dX11_grows_37 : decode cX11_grows 37 = .ok (.iload 7, 2) := by decide +kernel
theorem dX11_grows_39 : decode cX11_grows 39 = .ok (.iload 6, 2) := by decide +kernel
theorem dX11_grows_41 : decode cX11_grows 41 = .ok (.if_icmp .gt 131, 3) := by decide +kernel
theorem dX11_grows_44 : decode cX11_grows 44 = .ok (.iload 7, 2) := by decide +kernel
theorem dX11_grows_46 : decode cX11_grows 46 = .ok (.iload 6, 2) := by decide +kernel
theorem dX11_grows_48 : decode cX11_grows 48 = .ok (.iconst (-1), 1) := by decide +kernel
theorem dX11_grows_49 : decode cX11_grows 49 = .ok (.ixor, 1) := by decide +kernel
theorem dX11_grows_50 : decode cX11_grows 50 = .ok (.iand, 1) := by decide +kernel
theorem dX11_grows_51 : decode cX11_grows 51 = .ok (.ifCond .eq 6, 3) := by decide +kernel
theorem dX11_grows_54 : decode cX11_grows 54 = .ok (.goto 112, 3) := by decide +kernel
theorem dX11_grows_57 : decode cX11_grows 57 = .ok (.aload_n 0, 1) := by decide +kernel
theorem dX11_grows_58 : decode cX11_grows 58 = .ok (.iload_n 2, 1) := by decide +kernel
theorem dX11_grows_59 : decode cX11_grows 59 = .ok (.iload 7, 2) := by decide +kernel
theorem dX11_grows_61 : decode cX11_grows 61 = .ok (.iload 5, 2) := by decide +kernel
theorem dX11_grows_63 : decode cX11_grows 63 = .ok (.iload 4, 2) := by decide +kernel
theorem dX11_grows_65 : decode cX11_grows 65 = .ok (.invokevirtual 255, 3) := by decide +kernel
theorem dX11_grows_68 : decode cX11_grows 68 = .ok (.iconst 0, 1) := by decide +kernel
theorem dX11_grows_69 : decode cX11_grows 69 = .ok (.istore 8, 2) := by decide +kernel
theorem dX11_grows_71 : decode cX11_grows 71 = .ok (.iload 8, 2) := by decide +kernel
theorem dX11_grows_73 : decode cX11_grows 73 = .ok (.iconst 2, 1) := by decide +kernel
theorem dX11_grows_74 : decode cX11_grows 74 = .ok (.if_icmp .ge 81, 3) := by decide +kernel
theorem dX11_grows_77 : decode cX11_grows 77 = .ok (.aload_n 0, 1) := by decide +kernel
theorem dX11_grows_78 : decode cX11_grows 78 = .ok (.getfield 41, 3) := by decide +kernel
theorem dX11_grows_81 : decode cX11_grows 81 = .ok (.bipush 6, 2) := by decide +kernel
theorem dX11_grows_83 : decode cX11_grows 83 = .ok (.iload_n 2, 1) := by decide +kernel
theorem dX11_grows_84 : decode cX11_grows 84 = .ok (.imul, 1) := by decide +kernel
theorem dX11_grows_85 : decode cX11_grows 85 = .ok (.iload_n 3, 1) := by decide +kernel
theorem dX11_grows_86 : decode cX11_grows 86 = .ok (.iadd, 1) := by decide +kernel
theorem dX11_grows_87 : decode cX11_grows 87 = .ok (.iload 8, 2) := by decide +kernel
theorem dX11_grows_89 : decode cX11_grows 89 = .ok (.ifCond .ne 8, 3) := by decide +kernel
theorem dX11_grows_92 : decode cX11_grows 92 = .ok (.iload 5, 2) := by decide +kernel
theorem dX11_grows_94 : decode cX11_grows 94 = .ok (.goto 5, 3) := by decide +kernel
theorem dX11_grows_97 : decode cX11_grows 97 = .ok (.iload 4, 2) := by decide +kernel
theorem dX11_grows_99 : decode cX11_grows 99 = .ok (.iastore, 1) := by decide +kernel
theorem dX11_grows_100 : decode cX11_grows 100 = .ok (.aload_n 0, 1) := by decide +kernel
theorem dX11_grows_101 : decode cX11_grows 101 = .ok (.getfield 44, 3) := by decide +kernel
theorem dX11_grows_104 : decode cX11_grows 104 = .ok (.bipush 6, 2) := by decide +kernel
theorem dX11_grows_106 : decode cX11_grows 106 = .ok (.iload_n 2, 1) := by decide +kernel
theorem dX11_grows_107 : decode cX11_grows 107 = .ok (.imul, 1) := by decide +kernel
theorem dX11_grows_108 : decode cX11_grows 108 = .ok (.iload_n 3, 1) := by decide +kernel
theorem dX11_grows_109 : decode cX11_grows 109 = .ok (.iadd, 1) := by decide +kernel
theorem dX11_grows_110 : decode cX11_grows 110 = .ok (.iload 8, 2) := by decide +kernel
theorem dX11_grows_112 : decode cX11_grows 112 = .ok (.ifCond .ne 8, 3) := by decide +kernel
theorem dX11_grows_115 : decode cX11_grows 115 = .ok (.iload 4, 2) := by decide +kernel
theorem dX11_grows_117 : decode cX11_grows 117 = .ok (.goto 5, 3) := by decide +kernel
theorem dX11_grows_120 : decode cX11_grows 120 = .ok (.iload 5, 2) := by decide +kernel
theorem dX11_grows_122 : decode cX11_grows 122 = .ok (.iastore, 1) := by decide +kernel
theorem dX11_grows_123 : decode cX11_grows 123 = .ok (.aload_n 0, 1) := by decide +kernel
theorem dX11_grows_124 : decode cX11_grows 124 = .ok (.aload_n 1, 1) := by decide +kernel
theorem dX11_grows_125 : decode cX11_grows 125 = .ok (.iload_n 2, 1) := by decide +kernel
theorem dX11_grows_126 : decode cX11_grows 126 = .ok (.iload_n 3, 1) := by decide +kernel
theorem dX11_grows_127 : decode cX11_grows 127 = .ok (.iconst 1, 1) := by decide +kernel
theorem dX11_grows_128 : decode cX11_grows 128 = .ok (.iadd, 1) := by decide +kernel
theorem dX11_grows_129 : decode cX11_grows 129 = .ok (.invokevirtual 259, 3) := by decide +kernel
theorem dX11_grows_132 : decode cX11_grows 132 = .ok (.ifCond .eq 17, 3) := by decide +kernel
theorem dX11_grows_135 : decode cX11_grows 135 = .ok (.aload_n 0, 1) := by decide +kernel
theorem dX11_grows_136 : decode cX11_grows 136 = .ok (.aload_n 1, 1) := by decide +kernel
theorem dX11_grows_137 : decode cX11_grows 137 = .ok (.iload_n 2, 1) := by decide +kernel
theorem dX11_grows_138 : decode cX11_grows 138 = .ok (.iload_n 3, 1) := by decide +kernel
theorem dX11_grows_139 : decode cX11_grows 139 = .ok (.iconst 1, 1) := by decide +kernel
theorem dX11_grows_140 : decode cX11_grows 140 = .ok (.iadd, 1) := by decide +kernel
theorem dX11_grows_141 : decode cX11_grows 141 = .ok (.invokevirtual 262, 3) := by decide +kernel
theorem dX11_grows_144 : decode cX11_grows 144 = .ok (.ifCond .eq 5, 3) := by decide +kernel
theorem dX11_grows_147 : decode cX11_grows 147 = .ok (.iconst 1, 1) := by decide +kernel
theorem dX11_grows_148 : decode cX11_grows 148 = .ok (.ireturn, 1) := by decide +kernel
theorem dX11_grows_149 : decode cX11_grows 149 = .ok (.iinc 8 1, 3) := by decide +kernel
theorem dX11_grows_152 : decode cX11_grows 152 = .ok (.goto (-81), 3) := by decide +kernel
theorem dX11_grows_155 : decode cX11_grows 155 = .ok (.aload_n 0, 1) := by decide +kernel
theorem dX11_grows_156 : decode cX11_grows 156 = .ok (.iload_n 2, 1) := by decide +kernel
theorem dX11_grows_157 : decode cX11_grows 157 = .ok (.iload 7, 2) := by decide +kernel
theorem dX11_grows_159 : decode cX11_grows 159 = .ok (.iload 4, 2) := by decide +kernel
theorem dX11_grows_161 : decode cX11_grows 161 = .ok (.iload 5, 2) := by decide +kernel
theorem dX11_grows_163 : decode cX11_grows 163 = .ok (.invokevirtual 255, 3) := by decide +kernel
theorem dX11_grows_166 : decode cX11_grows 166 = .ok (.iinc 7 1, 3) := by decide +kernel
theorem dX11_grows_169 : decode cX11_grows 169 = .ok (.goto (-132), 3) := by decide +kernel
theorem dX11_grows_172 : decode cX11_grows 172 = .ok (.iinc 5 1, 3) := by decide +kernel
theorem dX11_grows_175 : decode cX11_grows 175 = .ok (.goto (-157), 3) := by decide +kernel
theorem dX11_grows_178 : decode cX11_grows 178 = .ok (.iconst 0, 1) := by decide +kernel
theorem dX11_grows_179 : decode cX11_grows 179 = .ok (.ireturn, 1) := by decide +kernel
theorem dX11_laysSide_0 : decode cX11_laysSide 0 = .ok (.aload_n 0, 1) := by decide +kernel
theorem dX11_laysSide_1 : decode cX11_laysSide 1 = .ok (.getfield 13, 3) := by decide +kernel
theorem dX11_laysSide_4 : decode cX11_laysSide 4 = .ok (.aload_n 0, 1) := by decide +kernel
theorem dX11_laysSide_5 : decode cX11_laysSide 5 = .ok (.getfield 47, 3) := by decide +kernel
theorem dX11_laysSide_8 : decode cX11_laysSide 8 = .ok (.invokestatic 170, 3) := by decide +kernel
theorem dX11_laysSide_11 : decode cX11_laysSide 11 = .ok (.iload_n 1, 1) := by decide +kernel
theorem dX11_laysSide_12 : decode cX11_laysSide 12 = .ok (.iconst 1, 1) := by decide +kernel
theorem dX11_laysSide_13 : decode cX11_laysSide 13 = .ok (.if_icmp .ne 14, 3) := by decide +kernel
theorem dX11_laysSide_16 : decode cX11_laysSide 16 = .ok (.aload_n 0, 1) := by decide +kernel
theorem dX11_laysSide_17 : decode cX11_laysSide 17 = .ok (.aload_n 0, 1) := by decide +kernel
theorem dX11_laysSide_18 : decode cX11_laysSide 18 = .ok (.getfield 47, 3) := by decide +kernel
theorem dX11_laysSide_21 : decode cX11_laysSide 21 = .ok (.iconst 5, 1) := by decide +kernel
theorem dX11_laysSide_22 : decode cX11_laysSide 22 = .ok (.iconst 0, 1) := by decide +kernel
theorem dX11_laysSide_23 : decode cX11_laysSide 23 = .ok (.iconst 0, 1) := by decide +kernel
theorem dX11_laysSide_24 : decode cX11_laysSide 24 = .ok (.invokevirtual 185, 3) := by decide +kernel
theorem dX11_laysSide_27 : decode cX11_laysSide 27 = .ok (.return_, 1) := by decide +kernel
theorem dX11_hasTree_0 : decode cX11_hasTree 0 = .ok (.aload_n 0, 1) := by decide +kernel
theorem dX11_hasTree_1 : decode cX11_hasTree 1 = .ok (.iload_n 1, 1) := by decide +kernel
theorem dX11_hasTree_2 : decode cX11_hasTree 2 = .ok (.invokevirtual 265, 3) := by decide +kernel
theorem dX11_hasTree_5 : decode cX11_hasTree 5 = .ok (.aload_n 0, 1) := by decide +kernel
theorem dX11_hasTree_6 : decode cX11_hasTree 6 = .ok (.aload_n 0, 1) := by decide +kernel
theorem dX11_hasTree_7 : decode cX11_hasTree 7 = .ok (.getfield 47, 3) := by decide +kernel
theorem dX11_hasTree_10 : decode cX11_hasTree 10 = .ok (.invokevirtual 227, 3) := by decide +kernel
theorem dX11_hasTree_13 : decode cX11_hasTree 13 = .ok (.ifCond .ne 5, 3) := by decide +kernel
theorem dX11_hasTree_16 : decode cX11_hasTree 16 = .ok (.iconst 0, 1) := by decide +kernel
theorem dX11_hasTree_17 : decode cX11_hasTree 17 = .ok (.ireturn, 1) := by decide +kernel
theorem dX11_hasTree_18 : decode cX11_hasTree 18 = .ok (.aload_n 0, 1) := by decide +kernel
theorem dX11_hasTree_19 : decode cX11_hasTree 19 = .ok (.aload_n 0, 1) := by decide +kernel
theorem dX11_hasTree_20 : decode cX11_hasTree 20 = .ok (.getfield 47, 3) := by decide +kernel
theorem dX11_hasTree_23 : decode cX11_hasTree 23 = .ok (.iload_n 1, 1) := by decide +kernel
theorem dX11_hasTree_24 : decode cX11_hasTree 24 = .ok (.iconst 0, 1) := by decide +kernel
theorem dX11_hasTree_25 : decode cX11_hasTree 25 = .ok (.invokevirtual 262, 3) := by decide +kernel
theorem dX11_hasTree_28 : decode cX11_hasTree 28 = .ok (.ireturn, 1) := by decide +kernel
theorem dX11_network_0 : decode cX11_network 0 = .ok (.aload_n 0, 1) := by decide +kernel
theorem dX11_network_1 : decode cX11_network 1 = .ok (.iconst 0, 1) := by decide +kernel
theorem dX11_network_2 : decode cX11_network 2 = .ok (.putfield 83, 3) := by decide +kernel
theorem dX11_network_5 : decode cX11_network 5 = .ok (.aload_n 0, 1) := by decide +kernel
theorem dX11_network_6 : decode cX11_network 6 = .ok (.getfield 13, 3) := by decide +kernel
theorem dX11_network_9 : decode cX11_network 9 = .ok (.bipush 36, 2) := by decide +kernel
theorem dX11_network_11 : decode cX11_network 11 = .ok (.iaload, 1) := by decide +kernel
theorem dX11_network_12 : decode cX11_network 12 = .ok (.ifCond .eq 13, 3) := by decide +kernel
theorem dX11_network_15 : decode cX11_network 15 = .ok (.iload_n 1, 1) := by decide +kernel
theorem dX11_network_16 : decode cX11_network 16 = .ok (.i2l, 1) := by decide +kernel
theorem dX11_network_17 : decode cX11_network 17 = .ok (.lconst 0, 1) := by decide +kernel
theorem dX11_network_18 : decode cX11_network 18 = .ok (.lconst 1, 1) := by decide +kernel
theorem dX11_network_19 : decode cX11_network 19 = .ok (.invokestatic 140, 3) := by decide +kernel
theorem dX11_network_22 : decode cX11_network 22 = .ok (.ifCond .ne 7, 3) := by decide +kernel
theorem dX11_network_25 : decode cX11_network 25 = .ok (.iconst (-1), 1) := by decide +kernel
theorem dX11_network_26 : decode cX11_network 26 = .ok (.goto 16, 3) := by decide +kernel
theorem dX11_network_29 : decode cX11_network 29 = .ok (.aload_n 0, 1) := by decide +kernel
theorem dX11_network_30 : decode cX11_network 30 = .ok (.iload_n 1, 1) := by decide +kernel
theorem dX11_network_31 : decode cX11_network 31 = .ok (.invokevirtual 268, 3) := by decide +kernel
theorem dX11_network_34 : decode cX11_network 34 = .ok (.ifCond .eq 7, 3) := by decide +kernel
theorem dX11_network_37 : decode cX11_network 37 = .ok (.iconst 1, 1) := by decide +kernel
theorem dX11_network_38 : decode cX11_network 38 = .ok (.goto 4, 3) := by decide +kernel
theorem dX11_network_41 : decode cX11_network 41 = .ok (.iconst 0, 1) := by decide +kernel
theorem dX11_network_42 : decode cX11_network 42 = .ok (.ireturn, 1) := by decide +kernel
theorem dX11_arc_0 : decode cX11_arc 0 = .ok (.aload_n 0, 1) := by decide +kernel
theorem dX11_arc_1 : decode cX11_arc 1 = .ok (.iconst 0, 1) := by decide +kernel
theorem dX11_arc_2 : decode cX11_arc 2 = .ok (.putfield 83, 3) := by decide +kernel
theorem dX11_arc_5 : decode cX11_arc 5 = .ok (.aload_n 0, 1) := by decide +kernel
theorem dX11_arc_6 : decode cX11_arc 6 = .ok (.getfield 13, 3) := by decide +kernel
theorem dX11_arc_9 : decode cX11_arc 9 = .ok (.bipush 36, 2) := by decide +kernel
theorem dX11_arc_11 : decode cX11_arc 11 = .ok (.iaload, 1) := by decide +kernel
theorem dX11_arc_12 : decode cX11_arc 12 = .ok (.ifCond .eq 55, 3) := by decide +kernel
theorem dX11_arc_15 : decode cX11_arc 15 = .ok (.iload_n 1, 1) := by decide +kernel
theorem dX11_arc_16 : decode cX11_arc 16 = .ok (.i2l, 1) := by decide +kernel
theorem dX11_arc_17 : decode cX11_arc 17 = .ok (.lconst 0, 1) := by decide +kernel
theorem dX11_arc_18 : decode cX11_arc 18 = .ok (.lconst 1, 1) := by decide +kernel
theorem dX11_arc_19 : decode cX11_arc 19 = .ok (.invokestatic 140, 3) := by decide +kernel
theorem dX11_arc_22 : decode cX11_arc 22 = .ok (.ifCond .eq 45, 3) := by decide +kernel
theorem dX11_arc_25 : decode cX11_arc 25 = .ok (.iload_n 2, 1) := by decide +kernel
theorem dX11_arc_26 : decode cX11_arc 26 = .ok (.ifCond .lt 41, 3) := by decide +kernel
theorem dX11_arc_29 : decode cX11_arc 29 = .ok (.iload_n 2, 1) := by decide +kernel
theorem dX11_arc_30 : decode cX11_arc 30 = .ok (.aload_n 0, 1) := by decide +kernel
theorem dX11_arc_31 : decode cX11_arc 31 = .ok (.getfield 13, 3) := by decide +kernel
theorem dX11_arc_34 : decode cX11_arc 34 = .ok (.iload_n 1, 1) := by decide +kernel
theorem dX11_arc_35 : decode cX11_arc 35 = .ok (.ifCond .ne 8, 3) := by decide +kernel
theorem dX11_arc_38 : decode cX11_arc 38 = .ok (.bipush 36, 2) := by decide +kernel
theorem dX11_arc_40 : decode cX11_arc 40 = .ok (.goto 5, 3) := by decide +kernel
theorem dX11_arc_43 : decode cX11_arc 43 = .ok (.bipush 37, 2) := by decide +kernel
theorem dX11_arc_45 : decode cX11_arc 45 = .ok (.iaload, 1) := by decide +kernel
theorem dX11_arc_46 : decode cX11_arc 46 = .ok (.if_icmp .ge 21, 3) := by decide +kernel
theorem dX11_arc_49 : decode cX11_arc 49 = .ok (.iload_n 3, 1) := by decide +kernel
theorem dX11_arc_50 : decode cX11_arc 50 = .ok (.i2l, 1) := by decide +kernel
theorem dX11_arc_51 : decode cX11_arc 51 = .ok (.lconst 0, 1) := by decide +kernel
theorem dX11_arc_52 : decode cX11_arc 52 = .ok (.lconst 1, 1) := by decide +kernel
theorem dX11_arc_53 : decode cX11_arc 53 = .ok (.invokestatic 140, 3) := by decide +kernel
theorem dX11_arc_56 : decode cX11_arc 56 = .ok (.ifCond .eq 11, 3) := by decide +kernel
theorem dX11_arc_59 : decode cX11_arc 59 = .ok (.aload_n 0, 1) := by decide +kernel
theorem dX11_arc_60 : decode cX11_arc 60 = .ok (.iload_n 1, 1) := by decide +kernel
theorem dX11_arc_61 : decode cX11_arc 61 = .ok (.invokevirtual 268, 3) := by decide +kernel
theorem dX11_arc_64 : decode cX11_arc 64 = .ok (.ifCond .ne 5, 3) := by decide +kernel
theorem dX11_arc_67 : decode cX11_arc 67 = .ok (.iconst (-1), 1) := by decide +kernel
theorem dX11_arc_68 : decode cX11_arc 68 = .ok (.ireturn, 1) := by decide +kernel
theorem dX11_arc_69 : decode cX11_arc 69 = .ok (.iload_n 3, 1) := by decide +kernel
theorem dX11_arc_70 : decode cX11_arc 70 = .ok (.ifCond .ne 17, 3) := by decide +kernel
theorem dX11_arc_73 : decode cX11_arc 73 = .ok (.aload_n 0, 1) := by decide +kernel
theorem dX11_arc_74 : decode cX11_arc 74 = .ok (.getfield 41, 3) := by decide +kernel
theorem dX11_arc_77 : decode cX11_arc 77 = .ok (.bipush 6, 2) := by decide +kernel
theorem dX11_arc_79 : decode cX11_arc 79 = .ok (.iload_n 1, 1) := by decide +kernel
theorem dX11_arc_80 : decode cX11_arc 80 = .ok (.imul, 1) := by decide +kernel
theorem dX11_arc_81 : decode cX11_arc 81 = .ok (.iload_n 2, 1) := by decide +kernel
theorem dX11_arc_82 : decode cX11_arc 82 = .ok (.iadd, 1) := by decide +kernel
theorem dX11_arc_83 : decode cX11_arc 83 = .ok (.iaload, 1) := by decide +kernel
theorem dX11_arc_84 : decode cX11_arc 84 = .ok (.goto 14, 3) := by decide +kernel
theorem dX11_arc_87 : decode cX11_arc 87 = .ok (.aload_n 0, 1) := by decide +kernel
theorem dX11_arc_88 : decode cX11_arc 88 = .ok (.getfield 44, 3) := by decide +kernel
theorem dX11_arc_91 : decode cX11_arc 91 = .ok (.bipush 6, 2) := by decide +kernel
theorem dX11_arc_93 : decode cX11_arc 93 = .ok (.iload_n 1, 1) := by decide +kernel
theorem dX11_arc_94 : decode cX11_arc 94 = .ok (.imul, 1) := by decide +kernel
theorem dX11_arc_95 : decode cX11_arc 95 = .ok (.iload_n 2, 1) := by decide +kernel
theorem dX11_arc_96 : decode cX11_arc 96 = .ok (.iadd, 1) := by decide +kernel
theorem dX11_arc_97 : decode cX11_arc 97 = .ok (.iaload, 1) := by decide +kernel
theorem dX11_arc_98 : decode cX11_arc 98 = .ok (.ireturn, 1) := by decide +kernel
theorem dX11_way_0 : decode cX11_way 0 = .ok (.aload_n 0, 1) := by decide +kernel
theorem dX11_way_1 : decode cX11_way 1 = .ok (.iconst 0, 1) := by decide +kernel
theorem dX11_way_2 : decode cX11_way 2 = .ok (.putfield 83, 3) := by decide +kernel
theorem dX11_way_5 : decode cX11_way 5 = .ok (.aload_n 0, 1) := by decide +kernel
theorem dX11_way_6 : decode cX11_way 6 = .ok (.getfield 13, 3) := by decide +kernel
theorem dX11_way_9 : decode cX11_way 9 = .ok (.bipush 36, 2) := by decide +kernel
theorem dX11_way_11 : decode cX11_way 11 = .ok (.iaload, 1) := by decide +kernel
theorem dX11_way_12 : decode cX11_way 12 = .ok (.ifCond .eq 49, 3) := by decide +kernel
theorem dX11_way_15 : decode cX11_way 15 = .ok (.iload_n 1, 1) := by decide +kernel
theorem dX11_way_16 : decode cX11_way 16 = .ok (.i2l, 1) := by decide +kernel
theorem dX11_way_17 : decode cX11_way 17 = .ok (.lconst 0, 1) := by decide +kernel
theorem dX11_way_18 : decode cX11_way 18 = .ok (.lconst 1, 1) := by decide +kernel
theorem dX11_way_19 : decode cX11_way 19 = .ok (.invokestatic 140, 3) := by decide +kernel
theorem dX11_way_22 : decode cX11_way 22 = .ok (.ifCond .eq 39, 3) := by decide +kernel
theorem dX11_way_25 : decode cX11_way 25 = .ok (.iload_n 2, 1) := by decide +kernel
theorem dX11_way_26 : decode cX11_way 26 = .ok (.ifCond .lt 35, 3) := by decide +kernel
theorem dX11_way_29 : decode cX11_way 29 = .ok (.iload_n 2, 1) := by decide +kernel
theorem dX11_way_30 : decode cX11_way 30 = .ok (.aload_n 0, 1) := by decide +kernel
theorem dX11_way_31 : decode cX11_way 31 = .ok (.getfield 13, 3) := by decide +kernel
theorem dX11_way_34 : decode cX11_way 34 = .ok (.iload_n 1, 1) := by decide +kernel
theorem dX11_way_35 : decode cX11_way 35 = .ok (.ifCond .ne 8, 3) := by decide +kernel
theorem dX11_way_38 : decode cX11_way 38 = .ok (.bipush 37, 2) := by decide +kernel
theorem dX11_way_40 : decode cX11_way 40 = .ok (.goto 5, 3) := by decide +kernel
theorem dX11_way_43 : decode cX11_way 43 = .ok (.bipush 36, 2) := by decide +kernel
theorem dX11_way_45 : decode cX11_way 45 = .ok (.iaload, 1) := by decide +kernel
theorem dX11_way_46 : decode cX11_way 46 = .ok (.if_icmp .ge 15, 3) := by decide +kernel
theorem dX11_way_49 : decode cX11_way 49 = .ok (.iload_n 3, 1) := by decide +kernel
theorem dX11_way_50 : decode cX11_way 50 = .ok (.ifCond .lt 11, 3) := by decide +kernel
theorem dX11_way_53 : decode cX11_way 53 = .ok (.aload_n 0, 1) := by decide +kernel
theorem dX11_way_54 : decode cX11_way 54 = .ok (.iload_n 1, 1) := by decide +kernel
theorem dX11_way_55 : decode cX11_way 55 = .ok (.invokevirtual 268, 3) := by decide +kernel
theorem dX11_way_58 : decode cX11_way 58 = .ok (.ifCond .ne 5, 3) := by decide +kernel
theorem dX11_way_61 : decode cX11_way 61 = .ok (.iconst (-1), 1) := by decide +kernel
theorem dX11_way_62 : decode cX11_way 62 = .ok (.ireturn, 1) := by decide +kernel
theorem dX11_way_63 : decode cX11_way 63 = .ok (.aload_n 0, 1) := by decide +kernel
theorem dX11_way_64 : decode cX11_way 64 = .ok (.aload_n 0, 1) := by decide +kernel
theorem dX11_way_65 : decode cX11_way 65 = .ok (.getfield 47, 3) := by decide +kernel
theorem dX11_way_68 : decode cX11_way 68 = .ok (.iload_n 1, 1) := by decide +kernel
theorem dX11_way_69 : decode cX11_way 69 = .ok (.iload_n 2, 1) := by decide +kernel
theorem dX11_way_70 : decode cX11_way 70 = .ok (.aload_n 0, 1) := by decide +kernel
theorem dX11_way_71 : decode cX11_way 71 = .ok (.getfield 47, 3) := by decide +kernel
theorem dX11_way_74 : decode cX11_way 74 = .ok (.bipush 36, 2) := by decide +kernel
theorem dX11_way_76 : decode cX11_way 76 = .ok (.iaload, 1) := by decide +kernel
theorem dX11_way_77 : decode cX11_way 77 = .ok (.invokevirtual 248, 3) := by decide +kernel
theorem dX11_way_80 : decode cX11_way 80 = .ok (.istore 4, 2) := by decide +kernel
theorem dX11_way_82 : decode cX11_way 82 = .ok (.iload_n 3, 1) := by decide +kernel
theorem dX11_way_83 : decode cX11_way 83 = .ok (.aload_n 0, 1) := by decide +kernel
theorem dX11_way_84 : decode cX11_way 84 = .ok (.getfield 239, 3) := by decide +kernel
theorem dX11_way_87 : decode cX11_way 87 = .ok (.if_icmp .ge 12, 3) := by decide +kernel
theorem dX11_way_90 : decode cX11_way 90 = .ok (.aload_n 0, 1) := by decide +kernel
theorem dX11_way_91 : decode cX11_way 91 = .ok (.getfield 50, 3) := by decide +kernel
theorem dX11_way_94 : decode cX11_way 94 = .ok (.iload_n 3, 1) := by decide +kernel
theorem dX11_way_95 : decode cX11_way 95 = .ok (.iaload, 1) := by decide +kernel
theorem dX11_way_96 : decode cX11_way 96 = .ok (.goto 4, 3) := by decide +kernel
theorem dX11_way_99 : decode cX11_way 99 = .ok (.iconst (-1), 1) := by decide +kernel
theorem dX11_way_100 : decode cX11_way 100 = .ok (.ireturn, 1) := by decide +kernel
def AR (σ : sg) (s : Nat) (t : tre) (n : Nat) : Prop := ArR (σ.2.2 i_m_from) (σ.2.2 i_m_to) (6 * s) t n
theorem s_headOf {σ : sg} {x : aW} {T : tb} {s n r c : Nat} {t : tre} (hT0 : TB (σ.2.2 i_m_treeRow) T) (ha : AR σ s t n) (hs : s < 2) (hr : r < n) (hn : n ≤ T.1) (hc : c < T.2.1) : Mt mX11_headOf 0 0 0 [.ref i_M, .ref i_m_treeRow, .int (nI s), .int (nI c), .int (nI r)] (wd σ x) (QI (nI (rcA T t c r)) (wd σ x)) := by
  refine Mt.of MI_X11_headOf (Nat.le_of_ble_eq_true rfl) (fun X hC hR hT => ?_)
  obtain ⟨g1, g2, g3, g4, g5⟩ := id hT0
  obtain ⟨a1, a2⟩ := ha r hr
  refine R_aload_n (i := 1) hC dX11_headOf_0 rfl rfl (R_bipush (v := 6) hC dX11_headOf_1 (by decide) (R_iload hC dX11_headOf_3 rfl (R_imul hC dX11_headOf_5 (R_iload_n (i := 3) hC dX11_headOf_6 rfl rfl (R_iadd hC dX11_headOf_7 (R_aI hC dX11_headOf_8 L_m_treeRow (6 * r + c) (n6 r c) (by omega) (by decide) ?_))))))
  refine R_top (y := T.2.2 r c) ((g5 r c (by omega) hc).1) ?_
  refine R_iconst (v := 1) hC dX11_headOf_9 (by decide) ?_
  refine R_icmp_ne hC 28 dX11_headOf_10 (by decide) (fun h10 => ?_) (fun h10 => ?_)
  · refine R_aload_n (i := 0) hC dX11_headOf_28 rfl rfl (R_gR hC dX11_headOf_29 fl_X11_41 L_M rfl (R_bipush (v := 6) hC dX11_headOf_32 (by decide) (R_iload_n (i := 2) hC dX11_headOf_34 rfl rfl (R_imul hC dX11_headOf_35 (R_iload hC dX11_headOf_36 rfl (R_iadd hC dX11_headOf_38 (R_aI hC dX11_headOf_39 L_m_from (6 * s + r) (n6 s r) (by omega) (by decide) ?_)))))))
    exact R_iret hC hT dX11_headOf_40 rfl ⟨by unfold rcA; first | (rw [if_pos h10, a2]; done) | (rw [if_neg h10, a1]; done), rfl⟩
  · refine R_aload_n (i := 0) hC dX11_headOf_13 rfl rfl (R_gR hC dX11_headOf_14 fl_X11_44 L_M rfl (R_bipush (v := 6) hC dX11_headOf_17 (by decide) (R_iload_n (i := 2) hC dX11_headOf_19 rfl rfl (R_imul hC dX11_headOf_20 (R_iload hC dX11_headOf_21 rfl (R_iadd hC dX11_headOf_23 (R_aI hC dX11_headOf_24 L_m_to (6 * s + r) (n6 s r) (by omega) (by decide) ?_)))))))
    refine R_goto hC 40 dX11_headOf_25 (by decide) ?_
    exact R_iret hC hT dX11_headOf_40 rfl ⟨by unfold rcA; first | (rw [if_pos h10, a2]; done) | (rw [if_neg h10, a1]; done), rfl⟩
theorem s_tailOf {σ : sg} {x : aW} {T : tb} {s n r c : Nat} {t : tre} (hT0 : TB (σ.2.2 i_m_treeRow) T) (ha : AR σ s t n) (hs : s < 2) (hr : r < n) (hn : n ≤ T.1) (hc : c < T.2.1) : Mt mX11_tailOf 0 0 0 [.ref i_M, .ref i_m_treeRow, .int (nI s), .int (nI c), .int (nI r)] (wd σ x) (QI (nI (lvA T t c r)) (wd σ x)) := by
  refine Mt.of MI_X11_tailOf (Nat.le_of_ble_eq_true rfl) (fun X hC hR hT => ?_)
  obtain ⟨g1, g2, g3, g4, g5⟩ := id hT0
  obtain ⟨a1, a2⟩ := ha r hr
  refine R_aload_n (i := 1) hC dX11_tailOf_0 rfl rfl (R_bipush (v := 6) hC dX11_tailOf_1 (by decide) (R_iload hC dX11_tailOf_3 rfl (R_imul hC dX11_tailOf_5 (R_iload_n (i := 3) hC dX11_tailOf_6 rfl rfl (R_iadd hC dX11_tailOf_7 (R_aI hC dX11_tailOf_8 L_m_treeRow (6 * r + c) (n6 r c) (by omega) (by decide) ?_))))))
  refine R_top (y := T.2.2 r c) ((g5 r c (by omega) hc).1) ?_
  refine R_iconst (v := 1) hC dX11_tailOf_9 (by decide) ?_
  refine R_icmp_ne hC 28 dX11_tailOf_10 (by decide) (fun h10 => ?_) (fun h10 => ?_)
  · refine R_aload_n (i := 0) hC dX11_tailOf_28 rfl rfl (R_gR hC dX11_tailOf_29 fl_X11_44 L_M rfl (R_bipush (v := 6) hC dX11_tailOf_32 (by decide) (R_iload_n (i := 2) hC dX11_tailOf_34 rfl rfl (R_imul hC dX11_tailOf_35 (R_iload hC dX11_tailOf_36 rfl (R_iadd hC dX11_tailOf_38 (R_aI hC dX11_tailOf_39 L_m_to (6 * s + r) (n6 s r) (by omega) (by decide) ?_)))))))
    exact R_iret hC hT dX11_tailOf_40 rfl ⟨by unfold lvA; first | (rw [if_pos h10, a1]; done) | (rw [if_neg h10, a2]; done), rfl⟩
  · refine R_aload_n (i := 0) hC dX11_tailOf_13 rfl rfl (R_gR hC dX11_tailOf_14 fl_X11_41 L_M rfl (R_bipush (v := 6) hC dX11_tailOf_17 (by decide) (R_iload_n (i := 2) hC dX11_tailOf_19 rfl rfl (R_imul hC dX11_tailOf_20 (R_iload hC dX11_tailOf_21 rfl (R_iadd hC dX11_tailOf_23 (R_aI hC dX11_tailOf_24 L_m_from (6 * s + r) (n6 s r) (by omega) (by decide) ?_)))))))
    refine R_goto hC 40 dX11_tailOf_25 (by decide) ?_
    exact R_iret hC hT dX11_tailOf_40 rfl ⟨by unfold lvA; first | (rw [if_pos h10, a1]; done) | (rw [if_neg h10, a2]; done), rfl⟩
/-- what isWay leaves: the walk alone -/
def WL (σ τ : sg) : Prop := ∃ v g, τ = sA (sG σ i_M 21 v) i_m_walk g
def WE (τ : sg) (T : tb) (t : tre) (n c : Nat) : Prop := ∃ K, K ≤ 6 ∧ τ.1 i_M 21 = nI K ∧ (∀ i, i < K → ∃ a, a < 6 ∧ wsq T t n c i = some a ∧ τ.2.2 i_m_walk i = nI a) ∧ ∀ i, K ≤ i → wsq T t n c i = none
theorem lv7 {T : tb} {t : tre} {n c r : Nat} (h : nodOK t n) (hr : r < n) : lvA T t c r ≤ n ∧ rcA T t c r ≤ n := by
  have := h r hr
  unfold lvA rcA
  split <;> omega
theorem s_isWay {σ : sg} {x : aW} {T : tb} {s n c : Nat} {t : tre} (hT0 : TB (σ.2.2 i_m_treeRow) T) (ha : AR σ s t n) (hs : s < 2) (hn : n ≤ T.1) (hc : c < T.2.1) (hF : F2 t n) (hok : nodOK t n) : Mt mX11_isWay 1 0 0 [.ref i_M, .ref i_m_treeRow, .int (nI s), .int (nI c), .int (nI n)] (wd σ x) (fun r w => ∃ τ, w = wd τ x ∧ WL σ τ ∧ r = some (.int (b2i (WayP T t n c))) ∧ (WayP T t n c → WE τ T t n c)) := by
  refine Mt.of MI_X11_isWay (Nat.le_of_ble_eq_true rfl) (fun X hC hR hT => ?_)
  obtain ⟨g1, g2, g3, g4, g5⟩ := id hT0
  have n6' : n ≤ 6 := by omega
  generalize hS : mkm (fun r => ¬ T.2.2 r c = 0) n = S
  have S64 : S < 64 := by rw [← hS]; exact mkm64 _ n6'
  have Sb : ∀ q, S.testBit q = true ↔ onC T n c q := fun q => by rw [← hS, mkm_bit]; exact Iff.rfl
  have frm : ∀ τ, WL σ τ → TB (τ.2.2 i_m_treeRow) T ∧ AR τ s t n := by
    rintro τ ⟨v, g, rfl⟩
    refine ⟨by rw [sA_ne (by decide)]; exact hT0, ?_⟩
    unfold AR ArR
    rw [sA_ne (by decide), sA_ne (by decide)]
    exact ha
  have lvI : ∀ r q, r < n → q < n → (nI (rcA T t c q) = nI (lvA T t c r) ↔ rcA T t c q = lvA T t c r) := fun r q h1 h2 => nI_eq (by have := (lv7 (T := T) (c := c) hok h2).2; omega) (by have := (lv7 (T := T) (c := c) hok h1).1; omega)
  -- the walk
  have walk : ∀ f k (w : Nat → Nat) L τ, pc6 L = f → L < 64 → f + k = pc6 S → (∀ q, L.testBit q = true ↔ onC T n c q ∧ ∀ i, i < k → q ≠ w i) → WK T t n c w k → WL σ τ → τ.1 i_M 21 = nI k → (∀ i, i < k → τ.2.2 i_m_walk i = nI (w i)) → ∀ (u7 : Int32) u10 u11 u12, Rw mX11_isWay X 182 [some (.ref i_M), some (.ref i_m_treeRow), some (.int (nI s)), some (.int (nI c)), some (.int (nI n)), some (.int (nI S)), some (.int (nI (pc6 S))), some (.int u7), some (.int (nI (w k))), some (.int (nI L)), u10, u11, u12] [] (wd τ x) 0 0 := by
    intro f
    induction f with
    | zero =>
      intro k w L τ hf hL hk hb hw
      have := pc6_0 L hL hf
      have z := (hb (w k)).mpr ⟨hw.1 k (Nat.le_refl _), fun i hi e => hw.2.1 i k hi (Nat.le_refl _) e.symm⟩
      rw [this] at z; simp at z
    | succ f ih =>
      intro k w L τ hf hL hk hb hw hl hm hwk u7 u10 u11 u12
      have ok := hw.1 k (Nat.le_refl _)
      have wk6 : w k < 6 := by have := ok.1; omega
      have wb := (hb (w k)).mpr ⟨ok, fun i hi e => hw.2.1 i k hi (Nat.le_refl _) e.symm⟩
      have S6 := pc6_le S S64
      have k6 : k < 6 := by omega
      have cp := clr_pc L hL (w k) wk6 wb
      have L64 := clr_sub L hL (w k) wk6
      have cb : ∀ q, q < n → ((clr L (w k)).testBit q = true ↔ onC T n c q ∧ ∀ i, i < k + 1 → q ≠ w i) := fun q hq => by
        rw [clr_o L hL (w k) wk6 q (by omega), Bool.and_eq_true, hb q]
        simp only [Bool.not_eq_true', beq_eq_false_iff_ne, ne_eq]
        constructor
        · rintro ⟨⟨y1, y2⟩, y3⟩; exact ⟨y1, fun i hi => by rcases (by omega : i < k ∨ i = k) with z | rfl; exact y2 i z; exact y3⟩
        · rintro ⟨y1, y2⟩; exact ⟨⟨y1, fun i hi => y2 i (by omega)⟩, y2 k (by omega)⟩
      obtain ⟨v0, g0, rfl⟩ := hl
      generalize hτ : sA (sG (sA (sG σ i_M 21 v0) i_m_walk g0) i_M 21 (nI (k + 1))) i_m_walk (upd g0 k (nI (w k))) = τ2
      have wl2 : WL σ τ2 := by
        refine ⟨nI (k + 1), upd g0 k (nI (w k)), ?_⟩
        rw [← hτ]
        refine Prod.ext (funext fun a => funext fun b => ?_) (Prod.ext rfl (funext fun a => ?_))
        · show (if a = i_M then (if b = 21 then nI (k + 1) else (if a = i_M then (if b = 21 then v0 else σ.1 a b) else σ.1 a b)) else (if a = i_M then (if b = 21 then v0 else σ.1 a b) else σ.1 a b)) = (if a = i_M then (if b = 21 then nI (k + 1) else σ.1 a b) else σ.1 a b)
          split
          · split <;> rfl
          · rfl
        · show (if a = i_m_walk then upd g0 k (nI (w k)) else if a = i_m_walk then g0 else σ.2.2 a) = if a = i_m_walk then upd g0 k (nI (w k)) else σ.2.2 a
          split <;> rfl
      have f21 : τ2.1 i_M 21 = nI (k + 1) := by
        rw [← hτ]
        show (sG (sA (sG σ i_M 21 v0) i_m_walk g0) i_M 21 (nI (k+1))).1 i_M 21 = _
        exact sG_eq _ _ _ _
      have fwk : ∀ i, i < k + 1 → τ2.2.2 i_m_walk i = nI (w i) := fun i hi => by
        rw [← hτ, sA_eq]; unfold upd
        by_cases y : i = k
        · rw [if_pos y, y]
        · rw [if_neg y]
          have := hwk i (by omega)
          rwa [sA_eq] at this
      obtain ⟨tb2, ar2⟩ := frm τ2 wl2
      -- the next arc
      have find : ∀ q, q ≤ n → ∀ nx : Int32, ((nx = -1 ∧ ∀ p, p < q → ¬ ((clr L (w k)).testBit p = true ∧ lvA T t c p = rcA T t c (w k))) ∨ ∃ p, p < q ∧ nx = nI p ∧ (clr L (w k)).testBit p = true ∧ lvA T t c p = rcA T t c (w k)) → Rw mX11_isWay X 237 [some (.ref i_M), some (.ref i_m_treeRow), some (.int (nI s)), some (.int (nI c)), some (.int (nI n)), some (.int (nI S)), some (.int (nI (pc6 S))), some (.int u7), some (.int (nI (w k))), some (.int (nI (clr L (w k)))), some (.int (nI (rcA T t c (w k)))), some (.int nx), some (.int (nI q))] [] (wd τ2 x) 0 0 := by
        refine up_loop n ?_ ?_
        · intro nx hx
          rcases hx with ⟨rfl, no⟩ | ⟨p, p1, rfl, p2, p3⟩
          · have stuck : ∀ q, onC T n c q → (∀ i, i ≤ k → q ≠ w i) → ¬ lvA T t c q = rcA T t c (w k) := fun q hq hi z => no q hq.1 ⟨(cb q hq.1).mpr ⟨hq, fun i hi2 => hi i (by omega)⟩, z⟩
            have ceq := nI_eq (a := k + 1) (b := pc6 S) (by omega) (by omega)
            have cov : (k + 1 = pc6 S) ↔ ∀ q, onC T n c q → ∃ i, i ≤ k ∧ q = w i := by
              constructor
              · intro z q hq
                have l0 := pc6_0 _ L64 (by omega)
                refine Classical.byContradiction fun y => ?_
                have := (cb q hq.1).mpr ⟨hq, fun i hi e => y ⟨i, by omega, e⟩⟩
                rw [l0] at this; simp at this
              · intro z
                have : clr L (w k) = 0 := eq_bits L64 (by decide) (fun i hi => by
                  simp only [Nat.zero_testBit, Bool.false_eq_true, iff_false]
                  intro y
                  by_cases hin : i < n
                  · obtain ⟨y1, y2⟩ := (cb i hin).mp y
                    obtain ⟨j, j1, j2⟩ := z i y1
                    exact y2 j (by omega) j2
                  · rw [clr_o L hL (w k) wk6 i hi, Bool.and_eq_true, hb i] at y
                    exact hin y.1.1.1)
                rw [this] at cp
                have : pc6 0 = 0 := by decide
                omega
            have wy : WayP T t n c ↔ k + 1 = pc6 S := ⟨fun z => cov.mpr (hw.full hF hok z stuck), fun z => hw.way hF hok (cov.mp z)⟩
            have fin : WayP T t n c → WE τ2 T t n c := fun z => ⟨k + 1, by omega, f21, fun i hi => ⟨w i, by have := (hw.1 i (by omega)).1; omega, hw.seq z i (by omega), fwk i hi⟩, fun i hi => hw.nil hF hok z (cov.mp (wy.mp z)) i (by omega)⟩
            refine R_iload hC dX11_isWay_237 rfl (R_iload hC dX11_isWay_239 rfl ?_)
            refine R_icmp_ge hC 278 dX11_isWay_241 (by decide) (fun _ => ?_) (fun h => absurd (Int32.le_refl _) h)
            refine R_iload hC dX11_isWay_278 rfl (R_istore hC dX11_isWay_280 (by decide) rfl (R_goto hC 182 dX11_isWay_282 (by decide) ?_))
            skip
            refine R_iload hC dX11_isWay_182 rfl (R_iconst (v := (-1)) hC dX11_isWay_184 (by decide) ?_)
            refine R_icmp_eq hC 285 dX11_isWay_185 (by decide) (fun _ => ?_) (fun h => absurd rfl h)
            refine R_aload_n (i := 0) hC dX11_isWay_285 rfl rfl (R_gI hC dX11_isWay_286 fl_X11_239 L_M rfl ?_)
            refine R_top (y := nI (k + 1)) (f21) ?_
            refine R_iload hC dX11_isWay_289 rfl ?_
            refine R_icmp_ne hC 298 dX11_isWay_291 (by decide) (fun h291 => ?_) (fun h291 => ?_)
            · refine R_iconst (v := 0) hC dX11_isWay_298 (by decide) ?_
              exact R_zret hC hT dX11_isWay_299 rfl (by decide) ⟨τ2, rfl, wl2, by first | (have y := wy.mpr (ceq.mp h291); rw [b2i_t y]) | (rw [b2i_f (fun y => h291 (ceq.mpr (wy.mp y)))]), fin⟩
            · refine R_iconst (v := 1) hC dX11_isWay_294 (by decide) (R_goto hC 299 dX11_isWay_295 (by decide) ?_)
              exact R_zret hC hT dX11_isWay_299 rfl (by decide) ⟨τ2, rfl, wl2, by first | (have y := wy.mpr (ceq.mp h291); rw [b2i_t y]) | (rw [b2i_f (fun y => h291 (ceq.mpr (wy.mp y)))]), fin⟩
          · obtain ⟨o1, o2⟩ := (cb p p1).mp p2
            have wk2 : WK T t n c (fun i => if i = k + 1 then p else w i) (k + 1) := by
              refine ⟨fun i hi => ?_, fun i j hij hj => ?_, fun i hi => ?_, ?_⟩
              · by_cases y : i = k + 1
                · simp only [y, if_true]; exact o1
                · simp only [y, if_false]; exact hw.1 i (by omega)
              · have yi : ¬ i = k + 1 := by omega
                by_cases y : j = k + 1
                · simp only [y, yi, if_true, if_false]; exact (o2 i (by omega)).symm
                · simp only [y, yi, if_false]; exact hw.2.1 i j hij (by omega)
              · have yi : ¬ i = k + 1 := by omega
                by_cases y : i + 1 = k + 1
                · have : i = k := by omega
                  subst this
                  simp only [yi, if_false, if_true]; exact p3.symm
                · simp only [y, yi, if_false]; exact hw.2.2.1 i (by omega)
              · have : ¬ (0 : Nat) = k + 1 := by omega
                simp only [this, if_false]; exact hw.2.2.2
            have nx := ih (k + 1) (fun i => if i = k + 1 then p else w i) (clr L (w k)) τ2 (by omega) L64 (by omega) (fun q => by
              constructor
              · intro y
                have hq : q < n := Classical.byContradiction fun hin => by
                  by_cases q6 : q < 6
                  · rw [clr_o L hL (w k) wk6 q q6, Bool.and_eq_true, hb q] at y
                    exact hin y.1.1.1
                  · rw [Nat.testBit_lt_two_pow (Nat.lt_of_lt_of_le L64 (Nat.pow_le_pow_right (n := 2) (by decide) (show 6 ≤ q by omega)))] at y; cases y
                obtain ⟨z1, z2⟩ := (cb q hq).mp y
                exact ⟨z1, fun i hi => by simp only [show ¬ i = k + 1 by omega, if_false]; exact z2 i hi⟩
              · rintro ⟨z1, z2⟩
                exact (cb q z1.1).mpr ⟨z1, fun i hi => by have := z2 i hi; simp only [show ¬ i = k + 1 by omega, if_false] at this; exact this⟩) wk2 wl2 f21 (fun i hi => by simp only [show ¬ i = k + 1 by omega, if_false]; exact fwk i hi)
            simp only [if_true] at nx
            refine R_iload hC dX11_isWay_237 rfl (R_iload hC dX11_isWay_239 rfl ?_)
            refine R_icmp_ge hC 278 dX11_isWay_241 (by decide) (fun _ => ?_) (fun h => absurd (Int32.le_refl _) h)
            refine R_iload hC dX11_isWay_278 rfl (R_istore hC dX11_isWay_280 (by decide) rfl (R_goto hC 182 dX11_isWay_282 (by decide) ?_))
            exact nx _ _ _ _
        · intro q hq ihq nx hx
          have lvq := nI_eq (a := lvA T t c q) (b := rcA T t c (w k)) (by have := (lv7 (T := T) (c := c) hok hq).1; omega) (by have := (lv7 (T := T) (c := c) hok ok.1).2; omega)
          have keep : ¬ ((clr L (w k)).testBit q = true ∧ lvA T t c q = rcA T t c (w k)) → Rw mX11_isWay X 272 [some (.ref i_M), some (.ref i_m_treeRow), some (.int (nI s)), some (.int (nI c)), some (.int (nI n)), some (.int (nI S)), some (.int (nI (pc6 S))), some (.int u7), some (.int (nI (w k))), some (.int (nI (clr L (w k)))), some (.int (nI (rcA T t c (w k)))), some (.int nx), some (.int (nI q))] [] (wd τ2 x) 0 0 := by
            intro z
            refine R_iinc hC dX11_isWay_272 rfl (inc1 _) (by decide) rfl (R_goto hC 237 dX11_isWay_275 (by decide) ?_)
            exact ihq nx (by
              rcases hx with ⟨y1, y2⟩ | ⟨p, p1, y⟩
              · exact Or.inl ⟨y1, fun p hp => by rcases (by omega : p < q ∨ p = q) with w | rfl; exact y2 p w; exact z⟩
              · exact Or.inr ⟨p, by omega, y⟩)
          refine R_iload hC dX11_isWay_237 rfl (R_iload hC dX11_isWay_239 rfl ?_)
          refine R_icmp_ge hC 278 dX11_isWay_241 (by decide) (fun h => absurd h (nI_ge hq (by omega))) (fun _ => ?_)
          refine R_iload hC dX11_isWay_244 rfl (R_iload hC dX11_isWay_246 rfl ?_)
          refine R_S2i hC hR dX11_isWay_248 MS_X11_has ml_X11_200 (s_has _ q L64 (by omega) _) (by first | decide | omega) ⟨by decide, by decide⟩ (Nat.le_of_ble_eq_true rfl) ?_
          refine R_if_eq hC 272 dX11_isWay_251 (by decide) (fun h251 => ?_) (fun h251 => ?_)
          · first | (have z := tst0 h251; exact keep (fun y => z y.1)) | (have z := mt lvq.mpr h265; exact keep (fun y => z y.2))
          · refine R_aload_n (i := 0) hC dX11_isWay_254 rfl rfl (R_aload_n (i := 1) hC dX11_isWay_255 rfl rfl (R_iload_n (i := 2) hC dX11_isWay_256 rfl rfl (R_iload_n (i := 3) hC dX11_isWay_257 rfl rfl (R_iload hC dX11_isWay_258 rfl ?_))))
            refine R_V4i hC hR dX11_isWay_260 MV_X11_tailOf ml_X11_245 L_M rfl (s_tailOf tb2 ar2 hs hq hn hc) (by first | decide | omega) ⟨by decide, by decide⟩ (Nat.le_of_ble_eq_true rfl) ?_
            refine R_iload hC dX11_isWay_263 rfl ?_
            refine R_icmp_ne hC 272 dX11_isWay_265 (by decide) (fun h265 => ?_) (fun h265 => ?_)
            · first | (have z := tst0 h251; exact keep (fun y => z y.1)) | (have z := mt lvq.mpr h265; exact keep (fun y => z y.2))
            · (refine R_iload hC dX11_isWay_268 rfl (R_istore hC dX11_isWay_270 (by decide) rfl (R_iinc hC dX11_isWay_272 rfl (inc1 _) (by decide) rfl (R_goto hC 237 dX11_isWay_275 (by decide) ?_))); exact ihq (nI q) (Or.inr ⟨q, by omega, rfl, tst h251, lvq.mp h265⟩))
      refine R_iload hC dX11_isWay_182 rfl (R_iconst (v := (-1)) hC dX11_isWay_184 (by decide) ?_)
      refine R_icmp_eq hC 285 dX11_isWay_185 (by decide) (fun h => absurd h (nI_n1 (by omega))) (fun _ => ?_)
      refine R_aload_n (i := 0) hC dX11_isWay_188 rfl rfl (R_gR hC dX11_isWay_189 fl_X11_50 L_M rfl (R_aload_n (i := 0) hC dX11_isWay_192 rfl rfl (R_gI hC dX11_isWay_193 fl_X11_239 L_M rfl ?_)))
      refine R_top (y := nI k) (hm) ?_
      refine R_iload hC dX11_isWay_196 rfl (R_sI hC dX11_isWay_198 L_m_walk k rfl (by omega) (by decide) (R_aload_n (i := 0) hC dX11_isWay_199 rfl rfl (R_dup hC dX11_isWay_200 rfl (R_gI hC dX11_isWay_201 fl_X11_239 L_M rfl ?_))))
      refine R_top (y := nI k) (hm) ?_
      refine R_iconst (v := 1) hC dX11_isWay_204 (by decide) (R_iadd hC dX11_isWay_205 ?_)
      refine R_top (y := nI (k + 1)) (nI_1 k) ?_
      refine R_pI hC dX11_isWay_206 fl_X11_239 L_M rfl ?_
      refine R_wd (τ := τ2) (by rw [← hτ, sA_eq]; rfl) ?_
      refine R_iload hC dX11_isWay_209 rfl (R_iconst (v := 1) hC dX11_isWay_211 (by decide) (R_iload hC dX11_isWay_212 rfl (R_ishl hC dX11_isWay_214 ?_)))
      refine R_top (y := nI (2 ^ w k)) (shl1 _ (by omega)) ?_
      refine R_iconst (v := (-1)) hC dX11_isWay_215 (by decide) (R_ixor hC dX11_isWay_216 (R_iand hC dX11_isWay_217 ?_))
      refine R_top (y := nI (clr L (w k))) (and_clr2 L hL (w k) wk6) ?_
      refine R_istore hC dX11_isWay_218 (by decide) rfl (R_aload_n (i := 0) hC dX11_isWay_220 rfl rfl (R_aload_n (i := 1) hC dX11_isWay_221 rfl rfl (R_iload_n (i := 2) hC dX11_isWay_222 rfl rfl (R_iload_n (i := 3) hC dX11_isWay_223 rfl rfl (R_iload hC dX11_isWay_224 rfl ?_)))))
      refine R_V4i hC hR dX11_isWay_226 MV_X11_headOf ml_X11_242 L_M rfl (s_headOf tb2 ar2 hs ok.1 hn hc) (by first | decide | omega) ⟨by decide, by decide⟩ (Nat.le_of_ble_eq_true rfl) ?_
      refine R_istore hC dX11_isWay_229 (by decide) rfl (R_iconst (v := (-1)) hC dX11_isWay_231 (by decide) (R_istore hC dX11_isWay_232 (by decide) rfl (R_iconst (v := 0) hC dX11_isWay_234 (by decide) (R_istore hC dX11_isWay_235 (by decide) rfl ?_))))
      exact find 0 (Nat.zero_le _) (-1) (Or.inl ⟨rfl, fun p hp => absurd hp (Nat.not_lt_zero _)⟩)
  generalize hτ : sA (sG σ i_M 21 (nI 0)) i_m_walk (σ.2.2 i_m_walk) = τ0
  have wl0 : WL σ τ0 := ⟨_, _, hτ.symm⟩
  have nz : (nI 0 : Int32) = 0 := by decide
  have e0 : sG σ i_M 21 (nI 0) = τ0 := by
    rw [← hτ]
    refine Prod.ext rfl (Prod.ext rfl (funext fun a => ?_))
    show σ.2.2 a = if a = i_m_walk then σ.2.2 i_m_walk else σ.2.2 a
    split
    · rename_i y; rw [y]
    · rfl
  have q0 : τ0.1 i_M 21 = nI 0 := by rw [← e0]; exact sG_eq _ _ _ _
  obtain ⟨tb0, ar0⟩ := frm τ0 wl0
  -- the first arc
  have fst : (∃ q, onC T n c q) → ∀ r, r ≤ n → (∀ p, p < r → ¬ beg T t n c p) → ∀ u9 u10, Rw mX11_isWay X 65 [some (.ref i_M), some (.ref i_m_treeRow), some (.int (nI s)), some (.int (nI c)), some (.int (nI n)), some (.int (nI S)), some (.int (nI (pc6 S))), some (.int (-1)), some (.int (nI r)), u9, u10, none, none] [] (wd τ0 x) 0 0 := by
    intro ex
    refine up_loop n ?_ ?_
    · intro no
      obtain ⟨q, hq⟩ := ex
      obtain ⟨r, r1, r2, r3⟩ := has_beg (T := T) (c := c) hF hok _ (fun q => onC T n c q) rfl ⟨q, hq.1, hq⟩
      refine absurd (show beg T t n c r from ⟨r2, fun p hp z => ?_⟩) (no r r1)
      by_cases y : p = r
      · rw [y] at z; exact lv_rc hok r1 z.symm
      · exact r3 p hp.1 hp y z
    · intro r hr ih no u9 u10
      have skp : ¬ beg T t n c r → ∀ u9 u10, Rw mX11_isWay X 160 [some (.ref i_M), some (.ref i_m_treeRow), some (.int (nI s)), some (.int (nI c)), some (.int (nI n)), some (.int (nI S)), some (.int (nI (pc6 S))), some (.int (-1)), some (.int (nI r)), u9, u10, none, none] [] (wd τ0 x) 0 0 := by
        intro z u9 u10
        refine R_iinc hC dX11_isWay_160 rfl (inc1 _) (by decide) rfl (R_goto hC 65 dX11_isWay_163 (by decide) ?_)
        exact ih (fun p hp => by rcases (by omega : p < r ∨ p = r) with y | rfl; exact no p y; exact z) _ _
      have inner : onC T n c r → ∀ j, j ≤ n → ∀ v : Int32, ((v = 1 ∧ ∀ q, q < j → onC T n c q → ¬ rcA T t c q = lvA T t c r) ∨ (v = 0 ∧ ∃ q, onC T n c q ∧ rcA T t c q = lvA T t c r)) → Rw mX11_isWay X 97 [some (.ref i_M), some (.ref i_m_treeRow), some (.int (nI s)), some (.int (nI c)), some (.int (nI n)), some (.int (nI S)), some (.int (nI (pc6 S))), some (.int (-1)), some (.int (nI r)), some (.int v), some (.int (nI j)), none, none] [] (wd τ0 x) 0 0 := by
        intro onr
        refine up_loop n ?_ ?_
        · intro v hv
          rcases hv with ⟨rfl, hv⟩ | ⟨rfl, q, hq, hv⟩
          · have hb : beg T t n c r := ⟨onr, fun q hq => hv q hq.1 hq⟩
            have go := walk (pc6 S) 0 (fun _ => r) S τ0 rfl S64 (by omega) (fun q => by rw [Sb q]; exact ⟨fun y => ⟨y, fun i hi => absurd hi (Nat.not_lt_zero _)⟩, fun y => y.1⟩) ⟨fun i hi => onr, fun i j hij hj => by omega, fun i hi => absurd hi (Nat.not_lt_zero _), hb⟩ wl0 q0 (fun i hi => absurd hi (Nat.not_lt_zero _))
            refine R_iload hC dX11_isWay_97 rfl (R_iload hC dX11_isWay_99 rfl ?_)
            refine R_icmp_ge hC 151 dX11_isWay_101 (by decide) (fun _ => ?_) (fun h => absurd (Int32.le_refl _) h)
            refine R_iload hC dX11_isWay_151 rfl ?_
            refine R_if_eq hC 160 dX11_isWay_153 (by decide) (fun h => absurd h (by decide)) (fun _ => ?_)
            refine R_iload hC dX11_isWay_156 rfl (R_istore hC dX11_isWay_158 (by decide) rfl (R_iinc hC dX11_isWay_160 rfl (inc1 _) (by decide) rfl (R_goto hC 65 dX11_isWay_163 (by decide) (R_iload hC dX11_isWay_65 rfl (R_iload hC dX11_isWay_67 rfl ?_)))))
            refine R_icmp_ge hC 166 dX11_isWay_69 (by decide) (fun h69 => ?_) (fun h69 => ?_)
            · refine R_iload hC dX11_isWay_166 rfl (R_iconst (v := (-1)) hC dX11_isWay_168 (by decide) ?_)
              refine R_icmp_ne hC 174 dX11_isWay_169 (by decide) (fun _ => ?_) (fun h => absurd h (nI_n1 (by omega)))
              refine R_iload hC dX11_isWay_174 rfl (R_istore hC dX11_isWay_176 (by decide) rfl (R_iload hC dX11_isWay_178 rfl (R_istore hC dX11_isWay_180 (by decide) rfl ?_)))
              exact go _ _ _ _
            · refine R_iload hC dX11_isWay_72 rfl (R_iconst (v := (-1)) hC dX11_isWay_74 (by decide) ?_)
              refine R_icmp_ne hC 166 dX11_isWay_75 (by decide) (fun _ => ?_) (fun h => absurd h (nI_n1 (by omega)))
              refine R_iload hC dX11_isWay_166 rfl (R_iconst (v := (-1)) hC dX11_isWay_168 (by decide) ?_)
              refine R_icmp_ne hC 174 dX11_isWay_169 (by decide) (fun _ => ?_) (fun h => absurd h (nI_n1 (by omega)))
              refine R_iload hC dX11_isWay_174 rfl (R_istore hC dX11_isWay_176 (by decide) rfl (R_iload hC dX11_isWay_178 rfl (R_istore hC dX11_isWay_180 (by decide) rfl ?_)))
              exact go _ _ _ _
          · refine R_iload hC dX11_isWay_97 rfl (R_iload hC dX11_isWay_99 rfl ?_)
            refine R_icmp_ge hC 151 dX11_isWay_101 (by decide) (fun _ => ?_) (fun h => absurd (Int32.le_refl _) h)
            refine R_iload hC dX11_isWay_151 rfl ?_
            refine R_if_eq hC 160 dX11_isWay_153 (by decide) (fun _ => ?_) (fun h => absurd rfl h)
            exact skp (fun y => y.2 q hq hv) _ _
        · intro j hj ihj v hv
          have heq := lvI r j hr hj
          have keep : ¬ (onC T n c j ∧ rcA T t c j = lvA T t c r) → Rw mX11_isWay X 145 [some (.ref i_M), some (.ref i_m_treeRow), some (.int (nI s)), some (.int (nI c)), some (.int (nI n)), some (.int (nI S)), some (.int (nI (pc6 S))), some (.int (-1)), some (.int (nI r)), some (.int v), some (.int (nI j)), none, none] [] (wd τ0 x) 0 0 := by
            intro z
            refine R_iinc hC dX11_isWay_145 rfl (inc1 _) (by decide) rfl (R_goto hC 97 dX11_isWay_148 (by decide) ?_)
            exact ihj v (by
              rcases hv with ⟨y1, y2⟩ | y
              · exact Or.inl ⟨y1, fun p hp => by rcases (by omega : p < j ∨ p = j) with w | rfl; exact y2 p w; exact fun y3 y4 => z ⟨y3, y4⟩⟩
              · exact Or.inr y)
          have self : nI j = nI r → ¬ (onC T n c j ∧ rcA T t c j = lvA T t c r) := fun z y => by
            have : j = r := (nI_eq (by omega) (by omega)).mp z
            rw [this] at y
            exact lv_rc hok hr y.2.symm
          refine R_iload hC dX11_isWay_97 rfl (R_iload hC dX11_isWay_99 rfl ?_)
          refine R_icmp_ge hC 151 dX11_isWay_101 (by decide) (fun h => absurd h (nI_ge hj (by omega))) (fun _ => ?_)
          refine R_iload hC dX11_isWay_104 rfl (R_iload hC dX11_isWay_106 rfl ?_)
          refine R_icmp_eq hC 145 dX11_isWay_108 (by decide) (fun h108 => ?_) (fun h108 => ?_)
          · first | (exact keep (self h108)) | (have z := tst0 h118; exact keep (fun y => z ((Sb j).mpr y.1))) | (have z := mt heq.mpr h139; exact keep (fun y => z y.2))
          · refine R_iload hC dX11_isWay_111 rfl (R_iload hC dX11_isWay_113 rfl ?_)
            refine R_S2i hC hR dX11_isWay_115 MS_X11_has ml_X11_200 (s_has S j S64 (by omega) _) (by first | decide | omega) ⟨by decide, by decide⟩ (Nat.le_of_ble_eq_true rfl) ?_
            refine R_if_eq hC 145 dX11_isWay_118 (by decide) (fun h118 => ?_) (fun h118 => ?_)
            · first | (exact keep (self h108)) | (have z := tst0 h118; exact keep (fun y => z ((Sb j).mpr y.1))) | (have z := mt heq.mpr h139; exact keep (fun y => z y.2))
            · refine R_aload_n (i := 0) hC dX11_isWay_121 rfl rfl (R_aload_n (i := 1) hC dX11_isWay_122 rfl rfl (R_iload_n (i := 2) hC dX11_isWay_123 rfl rfl (R_iload_n (i := 3) hC dX11_isWay_124 rfl rfl (R_iload hC dX11_isWay_125 rfl ?_))))
              refine R_V4i hC hR dX11_isWay_127 MV_X11_headOf ml_X11_242 L_M rfl (s_headOf tb0 ar0 hs hj hn hc) (by first | decide | omega) ⟨by decide, by decide⟩ (Nat.le_of_ble_eq_true rfl) ?_
              refine R_aload_n (i := 0) hC dX11_isWay_130 rfl rfl (R_aload_n (i := 1) hC dX11_isWay_131 rfl rfl (R_iload_n (i := 2) hC dX11_isWay_132 rfl rfl (R_iload_n (i := 3) hC dX11_isWay_133 rfl rfl (R_iload hC dX11_isWay_134 rfl ?_))))
              refine R_V4i hC hR dX11_isWay_136 MV_X11_tailOf ml_X11_245 L_M rfl (s_tailOf tb0 ar0 hs hr hn hc) (by first | decide | omega) ⟨by decide, by decide⟩ (Nat.le_of_ble_eq_true rfl) ?_
              refine R_icmp_ne hC 145 dX11_isWay_139 (by decide) (fun h139 => ?_) (fun h139 => ?_)
              · first | (exact keep (self h108)) | (have z := tst0 h118; exact keep (fun y => z ((Sb j).mpr y.1))) | (have z := mt heq.mpr h139; exact keep (fun y => z y.2))
              · (refine R_iconst (v := 0) hC dX11_isWay_142 (by decide) (R_istore hC dX11_isWay_143 (by decide) rfl (R_iinc hC dX11_isWay_145 rfl (inc1 _) (by decide) rfl (R_goto hC 97 dX11_isWay_148 (by decide) ?_))); exact ihj 0 (Or.inr ⟨rfl, j, (Sb j).mp (tst h118), heq.mp h139⟩))
      refine R_iload hC dX11_isWay_65 rfl (R_iload hC dX11_isWay_67 rfl ?_)
      refine R_icmp_ge hC 166 dX11_isWay_69 (by decide) (fun h => absurd h (nI_ge hr (by omega))) (fun _ => ?_)
      refine R_iload hC dX11_isWay_72 rfl (R_iconst (v := (-1)) hC dX11_isWay_74 (by decide) ?_)
      refine R_icmp_ne hC 166 dX11_isWay_75 (by decide) (fun h => absurd rfl h) (fun _ => ?_)
      refine R_iload hC dX11_isWay_78 rfl (R_iload hC dX11_isWay_80 rfl ?_)
      refine R_S2i hC hR dX11_isWay_82 MS_X11_has ml_X11_200 (s_has S r S64 (by omega) _) (by first | decide | omega) ⟨by decide, by decide⟩ (Nat.le_of_ble_eq_true rfl) ?_
      refine R_if_ne hC 91 dX11_isWay_85 (by decide) (fun h85 => ?_) (fun h85 => ?_)
      · refine R_iconst (v := 1) hC dX11_isWay_91 (by decide) (R_istore hC dX11_isWay_92 (by decide) rfl (R_iconst (v := 0) hC dX11_isWay_94 (by decide) (R_istore hC dX11_isWay_95 (by decide) rfl ?_)))
        exact inner ((Sb r).mp (tst h85)) 0 (Nat.zero_le _) 1 (Or.inl ⟨rfl, fun q hq => absurd hq (Nat.not_lt_zero _)⟩)
      · refine R_goto hC 160 dX11_isWay_88 (by decide) ?_
        exact skp (fun y => tst0 h85 ((Sb r).mpr y.1)) _ _
  -- the arcs of the column
  have msk : ∀ j, j ≤ n → Rw mX11_isWay X 6 [some (.ref i_M), some (.ref i_m_treeRow), some (.int (nI s)), some (.int (nI c)), some (.int (nI n)), some (.int (nI (mkm (fun r => ¬ T.2.2 r c = 0) j))), some (.int (nI j)), none, none, none, none, none, none] [] (wd σ x) 0 0 := by
    refine up_loop n ?_ ?_
    · rw [hS]
      have sz0 := nI_eq (a := pc6 S) (b := 0) (by have := pc6_le S S64; omega) (by decide)
      rw [nz] at sz0
      have emp : pc6 S = 0 → ∀ q, ¬ onC T n c q := fun z q hq => by
        have := (Sb q).mpr hq
        rw [pc6_0 S S64 z] at this; simp at this
      have way0 : (∀ q, ¬ onC T n c q) → WayP T t n c := fun z => ⟨fun r _ h => absurd h (z r), fun r _ h => absurd h.1 (z r)⟩
      have we0 : (∀ q, ¬ onC T n c q) → WE τ0 T t n c := fun z => by
        have w0 : wsq T t n c 0 = none := by
          rw [wsq]
          exact fs_nn.mpr (fun r _ hr => cnd_f (fun y => z r y.1))
        refine ⟨0, by decide, q0, fun i hi => absurd hi (Nat.not_lt_zero _), fun i _ => ?_⟩
        induction i with
        | zero => exact w0
        | succ i ih => rw [wsq, ih (Nat.zero_le _)]
      refine R_iload hC dX11_isWay_6 rfl (R_iload hC dX11_isWay_8 rfl ?_)
      refine R_icmp_ge hC 40 dX11_isWay_10 (by decide) (fun _ => ?_) (fun h => absurd (Int32.le_refl _) h)
      refine R_aload_n (i := 0) hC dX11_isWay_40 rfl rfl (R_iconst (v := 0) hC dX11_isWay_41 (by decide) (R_pI hC dX11_isWay_42 fl_X11_239 L_M rfl ?_))
      refine R_wd (τ := τ0) (by rw [← nz]; exact e0) ?_
      refine R_iload hC dX11_isWay_45 rfl ?_
      refine R_S1i hC hR dX11_isWay_47 MS_X11_sizeOf ml_X11_204 (s_sizeOf S S64 _) (by first | decide | omega) ⟨by decide, by decide⟩ (Nat.le_of_ble_eq_true rfl) ?_
      refine R_istore hC dX11_isWay_50 (by decide) rfl (R_iload hC dX11_isWay_52 rfl ?_)
      refine R_if_ne hC 59 dX11_isWay_54 (by decide) (fun h54 => ?_) (fun h54 => ?_)
      · refine R_iconst (v := (-1)) hC dX11_isWay_59 (by decide) (R_istore hC dX11_isWay_60 (by decide) rfl (R_iconst (v := 0) hC dX11_isWay_62 (by decide) (R_istore hC dX11_isWay_63 (by decide) rfl ?_)))
        exact fst (Classical.byContradiction fun y => h54 (sz0.mpr (by
          have : S = 0 := eq_bits S64 (by decide) (fun i hi => by
            simp only [Nat.zero_testBit, Bool.false_eq_true, iff_false]
            exact fun z => y ⟨i, (Sb i).mp z⟩)
          rw [this]; decide))) 0 (Nat.zero_le _) (fun p hp => absurd hp (Nat.not_lt_zero _)) _ _
      · refine R_iconst (v := 1) hC dX11_isWay_57 (by decide) ?_
        exact R_zret hC hT dX11_isWay_58 rfl (by decide) ⟨τ0, rfl, wl0, by rw [b2i_t (way0 (emp (sz0.mp h54)))], fun _ => we0 (emp (sz0.mp h54))⟩
    · intro j hj ih
      have mkn : T.2.2 j c = 0 → mkm (fun r => ¬ T.2.2 r c = 0) (j + 1) = mkm (fun r => ¬ T.2.2 r c = 0) j := fun y => mkm_n (fun z => z y)
      have mko : ¬ T.2.2 j c = 0 → nI (mkm (fun r => ¬ T.2.2 r c = 0) j) ||| nI (2 ^ j) = nI (mkm (fun r => ¬ T.2.2 r c = 0) (j + 1)) := fun y => mkm_or (p := fun r => ¬ T.2.2 r c = 0) (by omega) y
      generalize mkm (fun r => ¬ T.2.2 r c = 0) (j + 1) = A at ih mkn mko
      generalize mkm (fun r => ¬ T.2.2 r c = 0) j = B at mkn mko ⊢
      refine R_iload hC dX11_isWay_6 rfl (R_iload hC dX11_isWay_8 rfl ?_)
      refine R_icmp_ge hC 40 dX11_isWay_10 (by decide) (fun h => absurd h (nI_ge hj (by omega))) (fun _ => ?_)
      refine R_aload_n (i := 1) hC dX11_isWay_13 rfl rfl (R_bipush (v := 6) hC dX11_isWay_14 (by decide) (R_iload hC dX11_isWay_16 rfl (R_imul hC dX11_isWay_18 (R_iload_n (i := 3) hC dX11_isWay_19 rfl rfl (R_iadd hC dX11_isWay_20 (R_aI hC dX11_isWay_21 L_m_treeRow (6 * j + c) (n6 j c) (by omega) (by decide) ?_))))))
      refine R_top (y := T.2.2 j c) ((g5 j c (by omega) hc).1) ?_
      refine R_if_eq hC 34 dX11_isWay_22 (by decide) (fun h22 => ?_) (fun h22 => ?_)
      · refine R_iinc hC dX11_isWay_34 rfl (inc1 _) (by decide) rfl (R_goto hC 6 dX11_isWay_37 (by decide) ?_)
        first | (have z := mkn h22; rw [z] at ih; exact ih) | exact ih
      · refine R_iload hC dX11_isWay_25 rfl (R_iconst (v := 1) hC dX11_isWay_27 (by decide) (R_iload hC dX11_isWay_28 rfl (R_ishl hC dX11_isWay_30 ?_)))
        refine R_top (y := nI (2 ^ j)) (shl1 _ (by omega)) ?_
        refine R_ior hC dX11_isWay_31 ?_
        refine R_top (y := nI A) (mko h22) ?_
        refine R_istore hC dX11_isWay_32 (by decide) rfl (R_iinc hC dX11_isWay_34 rfl (inc1 _) (by decide) rfl (R_goto hC 6 dX11_isWay_37 (by decide) ?_))
        first | (have z := mkn h22; rw [z] at ih; exact ih) | exact ih
  refine R_iconst (v := 0) hC dX11_isWay_0 (by decide) (R_istore hC dX11_isWay_1 (by decide) rfl (R_iconst (v := 0) hC dX11_isWay_3 (by decide) (R_istore hC dX11_isWay_4 (by decide) rfl ?_)))
  (have z := msk 0 (Nat.zero_le _); rw [show mkm (fun r => ¬ T.2.2 r c = 0) 0 = 0 from rfl, nz] at z; exact z)

theorem dX11_isScaled_0 : decode cX11_isScaled 0 = .ok (.iconst 0, 1) := by decide +kernel
theorem dX11_isScaled_1 : decode cX11_isScaled 1 = .ok (.istore_n 3, 1) := by decide +kernel
theorem dX11_isScaled_2 : decode cX11_isScaled 2 = .ok (.iload_n 3, 1) := by decide +kernel
theorem dX11_isScaled_3 : decode cX11_isScaled 3 = .ok (.bipush 12, 2) := by decide +kernel
theorem dX11_isScaled_5 : decode cX11_isScaled 5 = .ok (.if_icmp .ge 16, 3) := by decide +kernel
theorem dX11_isScaled_8 : decode cX11_isScaled 8 = .ok (.aload_n 0, 1) := by decide +kernel
theorem dX11_isScaled_9 : decode cX11_isScaled 9 = .ok (.getfield 62, 3) := by decide +kernel
theorem dX11_isScaled_12 : decode cX11_isScaled 12 = .ok (.iload_n 3, 1) := by decide +kernel
theorem dX11_isScaled_13 : decode cX11_isScaled 13 = .ok (.iconst 0, 1) := by decide +kernel
theorem dX11_isScaled_14 : decode cX11_isScaled 14 = .ok (.iastore, 1) := by decide +kernel
theorem dX11_isScaled_15 : decode cX11_isScaled 15 = .ok (.iinc 3 1, 3) := by decide +kernel
theorem dX11_isScaled_18 : decode cX11_isScaled 18 = .ok (.goto (-16), 3) := by decide +kernel
theorem dX11_isScaled_21 : decode cX11_isScaled 21 = .ok (.iconst 0, 1) := by decide +kernel
theorem dX11_isScaled_22 : decode cX11_isScaled 22 = .ok (.istore_n 3, 1) := by decide +kernel
theorem dX11_isScaled_23 : decode cX11_isScaled 23 = .ok (.iload_n 3, 1) := by decide +kernel
theorem dX11_isScaled_24 : decode cX11_isScaled 24 = .ok (.bipush 12, 2) := by decide +kernel
theorem dX11_isScaled_26 : decode cX11_isScaled 26 = .ok (.if_icmp .ge 283, 3) := by decide +kernel
theorem dX11_isScaled_29 : decode cX11_isScaled 29 = .ok (.iconst 1, 1) := by decide +kernel
theorem dX11_isScaled_30 : decode cX11_isScaled 30 = .ok (.istore 4, 2) := by decide +kernel
theorem dX11_isScaled_32 : decode cX11_isScaled 32 = .ok (.iload 4, 2) := by decide +kernel
theorem dX11_isScaled_34 : decode cX11_isScaled 34 = .ok (.ifCond .eq 228, 3) := by decide +kernel
theorem dX11_isScaled_37 : decode cX11_isScaled 37 = .ok (.iconst 0, 1) := by decide +kernel
theorem dX11_isScaled_38 : decode cX11_isScaled 38 = .ok (.istore 4, 2) := by decide +kernel
theorem dX11_isScaled_40 : decode cX11_isScaled 40 = .ok (.iconst 0, 1) := by decide +kernel
theorem dX11_isScaled_41 : decode cX11_isScaled 41 = .ok (.istore 5, 2) := by decide +kernel
theorem dX11_isScaled_43 : decode cX11_isScaled 43 = .ok (.iload 5, 2) := by decide +kernel
theorem dX11_isScaled_45 : decode cX11_isScaled 45 = .ok (.aload_n 1, 1) := by decide +kernel
theorem dX11_isScaled_46 : decode cX11_isScaled 46 = .ok (.bipush 36, 2) := by decide +kernel
theorem dX11_isScaled_48 : decode cX11_isScaled 48 = .ok (.iaload, 1) := by decide +kernel
theorem dX11_isScaled_49 : decode cX11_isScaled 49 = .ok (.if_icmp .ge 210, 3) := by decide +kernel
theorem dX11_isScaled_52 : decode cX11_isScaled 52 = .ok (.iconst 0, 1) := by decide +kernel
theorem dX11_isScaled_53 : decode cX11_isScaled 53 = .ok (.istore 6, 2) := by decide +kernel
theorem dX11_isScaled_55 : decode cX11_isScaled 55 = .ok (.iload 6, 2) := by decide +kernel
theorem dX11_isScaled_57 : decode cX11_isScaled 57 = .ok (.aload_n 1, 1) := by decide +kernel
theorem dX11_isScaled_58 : decode cX11_isScaled 58 = .ok (.bipush 37, 2) := by decide +kernel
theorem dX11_isScaled_60 : decode cX11_isScaled 60 = .ok (.iaload, 1) := by decide +kernel
theorem dX11_isScaled_61 : decode cX11_isScaled 61 = .ok (.if_icmp .ge 192, 3) := by decide +kernel
theorem dX11_isScaled_64 : decode cX11_isScaled 64 = .ok (.aload_n 1, 1) := by decide +kernel
theorem dX11_isScaled_65 : decode cX11_isScaled 65 = .ok (.bipush 6, 2) := by decide +kernel
theorem dX11_isScaled_67 : decode cX11_isScaled 67 = .ok (.iload 5, 2) := by decide +kernel
theorem dX11_isScaled_69 : decode cX11_isScaled 69 = .ok (.imul, 1) := by decide +kernel
theorem dX11_isScaled_70 : decode cX11_isScaled 70 = .ok (.iload 6, 2) := by decide +kernel
theorem dX11_isScaled_72 : decode cX11_isScaled 72 = .ok (.iadd, 1) := by decide +kernel
theorem dX11_isScaled_73 : decode cX11_isScaled 73 = .ok (.iaload, 1) := by decide +kernel
theorem dX11_isScaled_74 : decode cX11_isScaled 74 = .ok (.istore 7, 2) := by decide +kernel
theorem dX11_isScaled_76 : decode cX11_isScaled 76 = .ok (.aload_n 2, 1) := by decide +kernel
theorem dX11_isScaled_77 : decode cX11_isScaled 77 = .ok (.bipush 6, 2) := by decide +kernel
theorem dX11_isScaled_79 : decode cX11_isScaled 79 = .ok (.iload 5, 2) := by decide +kernel
theorem dX11_isScaled_81 : decode cX11_isScaled 81 = .ok (.imul, 1) := by decide +kernel
theorem dX11_isScaled_82 : decode cX11_isScaled 82 = .ok (.iload 6, 2) := by decide +kernel
theorem dX11_isScaled_84 : decode cX11_isScaled 84 = .ok (.iadd, 1) := by decide +kernel
theorem dX11_isScaled_85 : decode cX11_isScaled 85 = .ok (.iaload, 1) := by decide +kernel
theorem dX11_isScaled_86 : decode cX11_isScaled 86 = .ok (.istore 8, 2) := by decide +kernel
theorem dX11_isScaled_88 : decode cX11_isScaled 88 = .ok (.iload 7, 2) := by decide +kernel
theorem dX11_isScaled_90 : decode cX11_isScaled 90 = .ok (.iload 7, 2) := by decide +kernel
theorem dX11_isScaled_92 : decode cX11_isScaled 92 = .ok (.imul, 1) := by decide +kernel
theorem dX11_isScaled_93 : decode cX11_isScaled 93 = .ok (.iload 8, 2) := by decide +kernel
theorem dX11_isScaled_95 : decode cX11_isScaled 95 = .ok (.iload 8, 2) := by decide +kernel
theorem dX11_isScaled_97 : decode cX11_isScaled 97 = .ok (.imul, 1) := by decide +kernel
theorem dX11_isScaled_98 : decode cX11_isScaled 98 = .ok (.if_icmp .eq 5, 3) := by decide +kernel
theorem dX11_isScaled_101 : decode cX11_isScaled 101 = .ok (.iconst 0, 1) := by decide +kernel
theorem dX11_isScaled_102 : decode cX11_isScaled 102 = .ok (.ireturn, 1) := by decide +kernel
theorem dX11_isScaled_103 : decode cX11_isScaled 103 = .ok (.iload 7, 2) := by decide +kernel
theorem dX11_isScaled_105 : decode cX11_isScaled 105 = .ok (.ifCond .eq 142, 3) := by decide +kernel
theorem dX11_isScaled_108 : decode cX11_isScaled 108 = .ok (.aload_n 0, 1) := by decide +kernel
theorem dX11_isScaled_109 : decode cX11_isScaled 109 = .ok (.getfield 62, 3) := by decide +kernel
theorem dX11_isScaled_112 : decode cX11_isScaled 112 = .ok (.iload 5, 2) := by decide +kernel
theorem dX11_isScaled_114 : decode cX11_isScaled 114 = .ok (.iaload, 1) := by decide +kernel
theorem dX11_isScaled_115 : decode cX11_isScaled 115 = .ok (.ifCond .ne 19, 3) := by decide +kernel
theorem dX11_isScaled_118 : decode cX11_isScaled 118 = .ok (.aload_n 0, 1) := by decide +kernel
theorem dX11_isScaled_119 : decode cX11_isScaled 119 = .ok (.getfield 62, 3) := by decide +kernel
theorem dX11_isScaled_122 : decode cX11_isScaled 122 = .ok (.bipush 6, 2) := by decide +kernel
theorem dX11_isScaled_124 : decode cX11_isScaled 124 = .ok (.iload 6, 2) := by decide +kernel
theorem dX11_isScaled_126 : decode cX11_isScaled 126 = .ok (.iadd, 1) := by decide +kernel
theorem dX11_isScaled_127 : decode cX11_isScaled 127 = .ok (.iaload, 1) := by decide +kernel
theorem dX11_isScaled_128 : decode cX11_isScaled 128 = .ok (.ifCond .ne 6, 3) := by decide +kernel
theorem dX11_isScaled_131 : decode cX11_isScaled 131 = .ok (.goto 116, 3) := by decide +kernel
theorem dX11_isScaled_134 : decode cX11_isScaled 134 = .ok (.aload_n 0, 1) := by decide +kernel
theorem dX11_isScaled_135 : decode cX11_isScaled 135 = .ok (.getfield 62, 3) := by decide +kernel
theorem dX11_isScaled_138 : decode cX11_isScaled 138 = .ok (.iload 5, 2) := by decide +kernel
theorem dX11_isScaled_140 : decode cX11_isScaled 140 = .ok (.iaload, 1) := by decide +kernel
theorem dX11_isScaled_141 : decode cX11_isScaled 141 = .ok (.ifCond .eq 44, 3) := by decide +kernel
theorem dX11_isScaled_144 : decode cX11_isScaled 144 = .ok (.aload_n 0, 1) := by decide +kernel
theorem dX11_isScaled_145 : decode cX11_isScaled 145 = .ok (.getfield 62, 3) := by decide +kernel
theorem dX11_isScaled_148 : decode cX11_isScaled 148 = .ok (.bipush 6, 2) := by decide +kernel
theorem dX11_isScaled_150 : decode cX11_isScaled 150 = .ok (.iload 6, 2) := by decide +kernel
theorem dX11_isScaled_152 : decode cX11_isScaled 152 = .ok (.iadd, 1) := by decide +kernel
theorem dX11_isScaled_153 : decode cX11_isScaled 153 = .ok (.iaload, 1) := by decide +kernel
theorem dX11_isScaled_154 : decode cX11_isScaled 154 = .ok (.ifCond .eq 31, 3) := by decide +kernel
theorem dX11_isScaled_157 : decode cX11_isScaled 157 = .ok (.iload 7, 2) := by decide +kernel
theorem dX11_isScaled_159 : decode cX11_isScaled 159 = .ok (.aload_n 0, 1) := by decide +kernel
theorem dX11_isScaled_160 : decode cX11_isScaled 160 = .ok (.getfield 62, 3) := by decide +kernel
theorem dX11_isScaled_163 : decode cX11_isScaled 163 = .ok (.iload 5, 2) := by decide +kernel
theorem dX11_isScaled_165 : decode cX11_isScaled 165 = .ok (.iaload, 1) := by decide +kernel
theorem dX11_isScaled_166 : decode cX11_isScaled 166 = .ok (.imul, 1) := by decide +kernel
theorem dX11_isScaled_167 : decode cX11_isScaled 167 = .ok (.aload_n 0, 1) := by decide +kernel
theorem dX11_isScaled_168 : decode cX11_isScaled 168 = .ok (.getfield 62, 3) := by decide +kernel
theorem dX11_isScaled_171 : decode cX11_isScaled 171 = .ok (.bipush 6, 2) := by decide +kernel
theorem dX11_isScaled_173 : decode cX11_isScaled 173 = .ok (.iload 6, 2) := by decide +kernel
theorem dX11_isScaled_175 : decode cX11_isScaled 175 = .ok (.iadd, 1) := by decide +kernel
theorem dX11_isScaled_176 : decode cX11_isScaled 176 = .ok (.iaload, 1) := by decide +kernel
theorem dX11_isScaled_177 : decode cX11_isScaled 177 = .ok (.imul, 1) := by decide +kernel
theorem dX11_isScaled_178 : decode cX11_isScaled 178 = .ok (.iload 8, 2) := by decide +kernel
theorem dX11_isScaled_180 : decode cX11_isScaled 180 = .ok (.if_icmp .eq 67, 3) := by decide +kernel
theorem dX11_isScaled_183 : decode cX11_isScaled 183 = .ok (.iconst 0, 1) := by decide +kernel
theorem dX11_isScaled_184 : decode cX11_isScaled 184 = .ok (.ireturn, 1) := by decide +kernel
theorem dX11_isScaled_185 : decode cX11_isScaled 185 = .ok (.aload_n 0, 1) := by decide +kernel
theorem dX11_isScaled_186 : decode cX11_isScaled 186 = .ok (.getfield 62, 3) := by decide +kernel
theorem dX11_isScaled_189 : decode cX11_isScaled 189 = .ok (.iload 5, 2) := by decide +kernel
theorem dX11_isScaled_191 : decode cX11_isScaled 191 = .ok (.iaload, 1) := by decide +kernel
theorem dX11_isScaled_192 : decode cX11_isScaled 192 = .ok (.ifCond .ne 29, 3) := by decide +kernel
theorem dX11_isScaled_195 : decode cX11_isScaled 195 = .ok (.aload_n 0, 1) := by decide +kernel
theorem dX11_isScaled_196 : decode cX11_isScaled 196 = .ok (.getfield 62, 3) := by decide +kernel
theorem dX11_isScaled_199 : decode cX11_isScaled 199 = .ok (.iload 5, 2) := by decide +kernel
theorem dX11_isScaled_201 : decode cX11_isScaled 201 = .ok (.iload 7, 2) := by decide +kernel
theorem dX11_isScaled_203 : decode cX11_isScaled 203 = .ok (.iload 8, 2) := by decide +kernel
theorem dX11_isScaled_205 : decode cX11_isScaled 205 = .ok (.imul, 1) := by decide +kernel
theorem dX11_isScaled_206 : decode cX11_isScaled 206 = .ok (.aload_n 0, 1) := by decide +kernel
theorem dX11_isScaled_207 : decode cX11_isScaled 207 = .ok (.getfield 62, 3) := by decide +kernel
theorem dX11_isScaled_210 : decode cX11_isScaled 210 = .ok (.bipush 6, 2) := by decide +kernel
theorem dX11_isScaled_212 : decode cX11_isScaled 212 = .ok (.iload 6, 2) := by decide +kernel
theorem dX11_isScaled_214 : decode cX11_isScaled 214 = .ok (.iadd, 1) := by decide +kernel
theorem dX11_isScaled_215 : decode cX11_isScaled 215 = .ok (.iaload, 1) := by decide +kernel
theorem dX11_isScaled_216 : decode cX11_isScaled 216 = .ok (.imul, 1) := by decide +kernel
theorem dX11_isScaled_217 : decode cX11_isScaled 217 = .ok (.iastore, 1) := by decide +kernel
theorem dX11_isScaled_218 : decode cX11_isScaled 218 = .ok (.goto 26, 3) := by decide +kernel
theorem dX11_isScaled_221 : decode cX11_isScaled 221 = .ok (.aload_n 0, 1) := by decide +kernel
theorem dX11_isScaled_222 : decode cX11_isScaled 222 = .ok (.getfield 62, 3) := by decide +kernel
theorem dX11_isScaled_225 : decode cX11_isScaled 225 = .ok (.bipush 6, 2) := by decide +kernel
theorem dX11_isScaled_227 : decode cX11_isScaled 227 = .ok (.iload 6, 2) := by decide +kernel
theorem dX11_isScaled_229 : decode cX11_isScaled 229 = .ok (.iadd, 1) := by decide +kernel
theorem dX11_isScaled_230 : decode cX11_isScaled 230 = .ok (.iload 7, 2) := by decide +kernel
theorem dX11_isScaled_232 : decode cX11_isScaled 232 = .ok (.iload 8, 2) := by decide +kernel
theorem dX11_isScaled_234 : decode cX11_isScaled 234 = .ok (.imul, 1) := by decide +kernel
theorem dX11_isScaled_235 : decode cX11_isScaled 235 = .ok (.aload_n 0, 1) := by decide +kernel
theorem dX11_isScaled_236 : decode cX11_isScaled 236 = .ok (.getfield 62, 3) := by decide +kernel
theorem dX11_isScaled_239 : decode cX11_isScaled 239 = .ok (.iload 5, 2) := by decide +kernel
theorem dX11_isScaled_241 : decode cX11_isScaled 241 = .ok (.iaload, 1) := by decide +kernel
theorem dX11_isScaled_242 : decode cX11_isScaled 242 = .ok (.imul, 1) := by decide +kernel
theorem dX11_isScaled_243 : decode cX11_isScaled 243 = .ok (.iastore, 1) := by decide +kernel
theorem dX11_isScaled_244 : decode cX11_isScaled 244 = .ok (.iconst 1, 1) := by decide +kernel
theorem dX11_isScaled_245 : decode cX11_isScaled 245 = .ok (.istore 4, 2) := by decide +kernel
theorem dX11_isScaled_247 : decode cX11_isScaled 247 = .ok (.iinc 6 1, 3) := by decide +kernel
theorem dX11_isScaled_250 : decode cX11_isScaled 250 = .ok (.goto (-195), 3) := by decide +kernel
theorem dX11_isScaled_253 : decode cX11_isScaled 253 = .ok (.iinc 5 1, 3) := by decide +kernel
theorem dX11_isScaled_256 : decode cX11_isScaled 256 = .ok (.goto (-213), 3) := by decide +kernel
theorem dX11_isScaled_259 : decode cX11_isScaled 259 = .ok (.goto (-227), 3) := by decide +kernel
theorem dX11_isScaled_262 : decode cX11_isScaled 262 = .ok (.iconst 0, 1) := by decide +kernel
theorem dX11_isScaled_263 : decode cX11_isScaled 263 = .ok (.istore 5, 2) := by decide +kernel
theorem dX11_isScaled_265 : decode cX11_isScaled 265 = .ok (.iload 5, 2) := by decide +kernel
theorem dX11_isScaled_267 : decode cX11_isScaled 267 = .ok (.bipush 12, 2) := by decide +kernel
theorem dX11_isScaled_269 : decode cX11_isScaled 269 = .ok (.if_icmp .ge 19, 3) := by decide +kernel
theorem dX11_isScaled_272 : decode cX11_isScaled 272 = .ok (.aload_n 0, 1) := by decide +kernel
theorem dX11_isScaled_273 : decode cX11_isScaled 273 = .ok (.getfield 62, 3) := by decide +kernel
theorem dX11_isScaled_276 : decode cX11_isScaled 276 = .ok (.iload 5, 2) := by decide +kernel
theorem dX11_isScaled_278 : decode cX11_isScaled 278 = .ok (.iaload, 1) := by decide +kernel
theorem dX11_isScaled_279 : decode cX11_isScaled 279 = .ok (.ifCond .eq 9, 3) := by decide +kernel
theorem dX11_isScaled_282 : decode cX11_isScaled 282 = .ok (.iinc 5 1, 3) := by decide +kernel
theorem dX11_isScaled_285 : decode cX11_isScaled 285 = .ok (.goto (-20), 3) := by decide +kernel
theorem dX11_isScaled_288 : decode cX11_isScaled 288 = .ok (.iload 5, 2) := by decide +kernel
theorem dX11_isScaled_290 : decode cX11_isScaled 290 = .ok (.bipush 12, 2) := by decide +kernel
theorem dX11_isScaled_292 : decode cX11_isScaled 292 = .ok (.if_icmp .ge 11, 3) := by decide +kernel
theorem dX11_isScaled_295 : decode cX11_isScaled 295 = .ok (.aload_n 0, 1) := by decide +kernel
theorem dX11_isScaled_296 : decode cX11_isScaled 296 = .ok (.getfield 62, 3) := by decide +kernel
theorem dX11_isScaled_299 : decode cX11_isScaled 299 = .ok (.iload 5, 2) := by decide +kernel
theorem dX11_isScaled_301 : decode cX11_isScaled 301 = .ok (.iconst 1, 1) := by decide +kernel
theorem dX11_isScaled_302 : decode cX11_isScaled 302 = .ok (.iastore, 1) := by decide +kernel
theorem dX11_isScaled_303 : decode cX11_isScaled 303 = .ok (.iinc 3 1, 3) := by decide +kernel
theorem dX11_isScaled_306 : decode cX11_isScaled 306 = .ok (.goto (-283), 3) := by decide +kernel
theorem dX11_isScaled_309 : decode cX11_isScaled 309 = .ok (.iconst 1, 1) := by decide +kernel
theorem dX11_isScaled_310 : decode cX11_isScaled 310 = .ok (.ireturn, 1) := by decide +kernel
theorem dX11_scaled_0 : decode cX11_scaled 0 = .ok (.aload_n 0, 1) := by decide +kernel
theorem dX11_scaled_1 : decode cX11_scaled 1 = .ok (.iconst 0, 1) := by decide +kernel
theorem dX11_scaled_2 : decode cX11_scaled 2 = .ok (.putfield 83, 3) := by decide +kernel
theorem dX11_scaled_5 : decode cX11_scaled 5 = .ok (.aload_n 0, 1) := by decide +kernel
theorem dX11_scaled_6 : decode cX11_scaled 6 = .ok (.getfield 13, 3) := by decide +kernel
theorem dX11_scaled_9 : decode cX11_scaled 9 = .ok (.bipush 36, 2) := by decide +kernel
theorem dX11_scaled_11 : decode cX11_scaled 11 = .ok (.iaload, 1) := by decide +kernel
theorem dX11_scaled_12 : decode cX11_scaled 12 = .ok (.ifCond .eq 11, 3) := by decide +kernel
theorem dX11_scaled_15 : decode cX11_scaled 15 = .ok (.aload_n 0, 1) := by decide +kernel
theorem dX11_scaled_16 : decode cX11_scaled 16 = .ok (.iload_n 1, 1) := by decide +kernel
theorem dX11_scaled_17 : decode cX11_scaled 17 = .ok (.invokevirtual 192, 3) := by decide +kernel
theorem dX11_scaled_20 : decode cX11_scaled 20 = .ok (.ifCond .ne 5, 3) := by decide +kernel
theorem dX11_scaled_23 : decode cX11_scaled 23 = .ok (.iconst (-1), 1) := by decide +kernel
theorem dX11_scaled_24 : decode cX11_scaled 24 = .ok (.ireturn, 1) := by decide +kernel
theorem dX11_scaled_25 : decode cX11_scaled 25 = .ok (.iconst 0, 1) := by decide +kernel
theorem dX11_scaled_26 : decode cX11_scaled 26 = .ok (.istore_n 2, 1) := by decide +kernel
theorem dX11_scaled_27 : decode cX11_scaled 27 = .ok (.iload_n 2, 1) := by decide +kernel
theorem dX11_scaled_28 : decode cX11_scaled 28 = .ok (.bipush 38, 2) := by decide +kernel
theorem dX11_scaled_30 : decode cX11_scaled 30 = .ok (.if_icmp .ge 26, 3) := by decide +kernel
theorem dX11_scaled_33 : decode cX11_scaled 33 = .ok (.aload_n 0, 1) := by decide +kernel
theorem dX11_scaled_34 : decode cX11_scaled 34 = .ok (.getfield 65, 3) := by decide +kernel
theorem dX11_scaled_37 : decode cX11_scaled 37 = .ok (.iload_n 2, 1) := by decide +kernel
theorem dX11_scaled_38 : decode cX11_scaled 38 = .ok (.aload_n 0, 1) := by decide +kernel
theorem dX11_scaled_39 : decode cX11_scaled 39 = .ok (.getfield 23, 3) := by decide +kernel
theorem dX11_scaled_42 : decode cX11_scaled 42 = .ok (.bipush 38, 2) := by decide +kernel
theorem dX11_scaled_44 : decode cX11_scaled 44 = .ok (.iload_n 1, 1) := by decide +kernel
theorem dX11_scaled_45 : decode cX11_scaled 45 = .ok (.imul, 1) := by decide +kernel
theorem dX11_scaled_46 : decode cX11_scaled 46 = .ok (.iload_n 2, 1) := by decide +kernel
theorem dX11_scaled_47 : decode cX11_scaled 47 = .ok (.iadd, 1) := by decide +kernel
theorem dX11_scaled_48 : decode cX11_scaled 48 = .ok (.iaload, 1) := by decide +kernel
theorem dX11_scaled_49 : decode cX11_scaled 49 = .ok (.iastore, 1) := by decide +kernel
theorem dX11_scaled_50 : decode cX11_scaled 50 = .ok (.iinc 2 1, 3) := by decide +kernel
theorem dX11_scaled_53 : decode cX11_scaled 53 = .ok (.goto (-26), 3) := by decide +kernel
theorem dX11_scaled_56 : decode cX11_scaled 56 = .ok (.aload_n 0, 1) := by decide +kernel
theorem dX11_scaled_57 : decode cX11_scaled 57 = .ok (.getfield 65, 3) := by decide +kernel
theorem dX11_scaled_60 : decode cX11_scaled 60 = .ok (.bipush 36, 2) := by decide +kernel
theorem dX11_scaled_62 : decode cX11_scaled 62 = .ok (.iaload, 1) := by decide +kernel
theorem dX11_scaled_63 : decode cX11_scaled 63 = .ok (.aload_n 0, 1) := by decide +kernel
theorem dX11_scaled_64 : decode cX11_scaled 64 = .ok (.getfield 13, 3) := by decide +kernel
theorem dX11_scaled_67 : decode cX11_scaled 67 = .ok (.bipush 36, 2) := by decide +kernel
theorem dX11_scaled_69 : decode cX11_scaled 69 = .ok (.iaload, 1) := by decide +kernel
theorem dX11_scaled_70 : decode cX11_scaled 70 = .ok (.if_icmp .ne 39, 3) := by decide +kernel
theorem dX11_scaled_73 : decode cX11_scaled 73 = .ok (.aload_n 0, 1) := by decide +kernel
theorem dX11_scaled_74 : decode cX11_scaled 74 = .ok (.getfield 65, 3) := by decide +kernel
theorem dX11_scaled_77 : decode cX11_scaled 77 = .ok (.bipush 37, 2) := by decide +kernel
theorem dX11_scaled_79 : decode cX11_scaled 79 = .ok (.iaload, 1) := by decide +kernel
theorem dX11_scaled_80 : decode cX11_scaled 80 = .ok (.aload_n 0, 1) := by decide +kernel
theorem dX11_scaled_81 : decode cX11_scaled 81 = .ok (.getfield 13, 3) := by decide +kernel
theorem dX11_scaled_84 : decode cX11_scaled 84 = .ok (.bipush 37, 2) := by decide +kernel
theorem dX11_scaled_86 : decode cX11_scaled 86 = .ok (.iaload, 1) := by decide +kernel
theorem dX11_scaled_87 : decode cX11_scaled 87 = .ok (.if_icmp .ne 22, 3) := by decide +kernel
theorem dX11_scaled_90 : decode cX11_scaled 90 = .ok (.aload_n 0, 1) := by decide +kernel
theorem dX11_scaled_91 : decode cX11_scaled 91 = .ok (.aload_n 0, 1) := by decide +kernel
theorem dX11_scaled_92 : decode cX11_scaled 92 = .ok (.getfield 13, 3) := by decide +kernel
theorem dX11_scaled_95 : decode cX11_scaled 95 = .ok (.aload_n 0, 1) := by decide +kernel
theorem dX11_scaled_96 : decode cX11_scaled 96 = .ok (.getfield 65, 3) := by decide +kernel
theorem dX11_scaled_99 : decode cX11_scaled 99 = .ok (.invokevirtual 286, 3) := by decide +kernel
theorem dX11_scaled_102 : decode cX11_scaled 102 = .ok (.ifCond .eq 7, 3) := by decide +kernel
theorem dX11_scaled_105 : decode cX11_scaled 105 = .ok (.iconst 1, 1) := by decide +kernel
theorem dX11_scaled_106 : decode cX11_scaled 106 = .ok (.goto 4, 3) := by decide +kernel
theorem dX11_scaled_109 : decode cX11_scaled 109 = .ok (.iconst 0, 1) := by decide +kernel
theorem dX11_scaled_110 : decode cX11_scaled 110 = .ok (.ireturn, 1) := by decide +kernel
/-! ===== scaling ===== -/
def pm (v : Int32) : Prop := v = 1 ∨ v = -1
/-- factors of rows (below 6) and columns (from 6 on) that make U of T -/
def sol (T : tb) (U : Nat → Nat → Int32) (φ : Nat → Int32) : Prop := (∀ k, pm (φ k)) ∧ ∀ r c, r < T.1 → c < T.2.1 → U r c = φ r * φ (6 + c) * T.2.2 r c
def scl (T : tb) (U : Nat → Nat → Int32) : Prop := ∃ φ, sol T U φ
def ext (φ F : Nat → Int32) : Prop := ∀ k, k < 12 → ¬ F k = 0 → F k = φ k
noncomputable def nz (F : Nat → Int32) : Nat := cnO (fun k => ¬ F k = 0) 12
theorem nz_upd {F : Nat → Int32} {k : Nat} {v : Int32} (hk : k < 12) (h0 : F k = 0) (hv : ¬ v = 0) : nz (upd F k v) = nz F + 1 :=
  cnO_one (p := fun j => ¬ upd F k v j = 0) (q := fun j => ¬ F j = 0) (b := k) (by show ¬ upd F k v k = 0; rw [upd, if_pos rfl]; exact hv) (fun z => z h0) 12 hk (fun j hj => by show ¬ upd F k v j = 0 ↔ _; rw [upd, if_neg hj])
theorem pm_ne {v : Int32} (h : pm v) : ¬ v = 0 := by rcases h with rfl | rfl <;> decide
theorem al1 {a f x y : Int32} (ha : sml a) (h0 : ¬ a = 0) (hx : pm x) (hy : pm y) (hf : f = y) : a * (x * y * a) * f = x := by
  subst hf
  rcases ha with rfl | rfl | rfl
  · rcases hx with rfl | rfl <;> rcases hy with rfl | rfl <;> decide
  · exact absurd rfl h0
  · rcases hx with rfl | rfl <;> rcases hy with rfl | rfl <;> decide
theorem al2 {a f x y : Int32} (ha : sml a) (h0 : ¬ a = 0) (hx : pm x) (hy : pm y) (hf : f = x) : a * (x * y * a) * f = y := by
  subst hf
  rcases ha with rfl | rfl | rfl
  · rcases hx with rfl | rfl <;> rcases hy with rfl | rfl <;> decide
  · exact absurd rfl h0
  · rcases hx with rfl | rfl <;> rcases hy with rfl | rfl <;> decide
theorem al3 {a x y : Int32} (ha : sml a) (hx : pm x) (hy : pm y) : a * a = (x * y * a) * (x * y * a) := by
  rcases ha with rfl | rfl | rfl <;> rcases hx with rfl | rfl <;> rcases hy with rfl | rfl <;> decide
theorem al4 {a x y : Int32} (ha : sml a) (hx : pm x) (hy : pm y) : a * x * y = x * y * a := by
  rcases ha with rfl | rfl | rfl <;> rcases hx with rfl | rfl <;> rcases hy with rfl | rfl <;> decide
theorem al5 {x y : Int32} (hx : pm x) (hy : pm y) : -x * -y = x * y := by
  rcases hx with rfl | rfl <;> rcases hy with rfl | rfl <;> decide
theorem al6 {a b f : Int32} (ha : sml a) (hb : sml b) (h0 : ¬ a = 0) (hs : a * a = b * b) (hf : pm f) : pm (a * b * f) := by
  rcases ha with rfl | rfl | rfl <;> rcases hb with rfl | rfl | rfl <;> rcases hf with rfl | rfl <;> first | exact absurd rfl h0 | exact Or.inl (by decide) | exact Or.inr (by decide) | exact absurd hs (by decide)
def vF (F : Nat → Int32) : Prop := ∀ k, k < 12 → ¬ F k = 0 → pm (F k)
/-- an entry with which the factors agree -/
def okc (T : tb) (U : Nat → Nat → Int32) (F : Nat → Int32) (r c : Nat) : Prop := T.2.2 r c * T.2.2 r c = U r c * U r c ∧ (T.2.2 r c = 0 ∨ (F r = 0 ∧ F (6 + c) = 0) ∨ (¬ F r = 0 ∧ ¬ F (6 + c) = 0 ∧ T.2.2 r c * F r * F (6 + c) = U r c))
def stb (T : tb) (U : Nat → Nat → Int32) (F : Nat → Int32) : Prop := ∀ r c, r < T.1 → c < T.2.1 → okc T U F r c
def CI (T : tb) (U : Nat → Nat → Int32) (F : Nat → Int32) : Prop := scl T U → ∃ φ, sol T U φ ∧ ext φ F
theorem ext_upd {φ F : Nat → Int32} {k : Nat} {v : Int32} (h : ext φ F) (hv : v = φ k) : ext φ (upd F k v) := by
  intro j hj z
  by_cases e : j = k
  · rw [upd, if_pos e, hv, e]
  · rw [upd, if_neg e] at z ⊢; exact h j hj z
theorem vF_upd {F : Nat → Int32} {k : Nat} {v : Int32} (h : vF F) (hv : pm v) : vF (upd F k v) := by
  intro j hj z
  by_cases e : j = k
  · rw [upd, if_pos e]; exact hv
  · rw [upd, if_neg e] at z ⊢; exact h j hj z
/-- the first that has none gets 1 -/
theorem CI_first {T : tb} {U : Nat → Nat → Int32} {F : Nat → Int32} {k : Nat} (h6 : T.1 ≤ 6) (h7 : T.2.1 ≤ 6) (hk : k < 12) (h0 : F k = 0) (hs : stb T U F) (h : CI T U F) : CI T U (upd F k 1) := by
  intro hscl
  obtain ⟨φ, ⟨s1, s2⟩, he⟩ := h hscl
  rcases s1 k with e | e
  · exact ⟨φ, ⟨s1, s2⟩, ext_upd he e.symm⟩
  · refine ⟨fun j => if F j = 0 then -(φ j) else φ j, ⟨fun j => ?_, fun r c hr hc => ?_⟩, ext_upd (fun j hj z => ?_) ?_⟩
    · show pm (if F j = 0 then -(φ j) else φ j)
      split
      · rcases s1 j with q | q
        · rw [q]; exact Or.inr rfl
        · rw [q]; exact Or.inl (by decide)
      · exact s1 j
    · show U r c = (if F r = 0 then -(φ r) else φ r) * (if F (6 + c) = 0 then -(φ (6 + c)) else φ (6 + c)) * T.2.2 r c
      have q := s2 r c hr hc
      rcases (hs r c hr hc).2 with y | ⟨y1, y2⟩ | ⟨y1, y2, -⟩
      · rw [q, y, Int32.mul_zero, Int32.mul_zero]
      · rw [if_pos y1, if_pos y2, al5 (s1 r) (s1 (6 + c))]; exact q
      · rw [if_neg y1, if_neg y2]; exact q
    · show F j = if F j = 0 then -(φ j) else φ j
      rw [if_neg z]; exact he j hj z
    · show (1 : Int32) = if F k = 0 then -(φ k) else φ k
      rw [if_pos h0, e]; decide
theorem CI_r {T : tb} {U : Nat → Nat → Int32} {F : Nat → Int32} {r c : Nat} (hr : r < T.1) (hc : c < T.2.1) (h7 : T.2.1 ≤ 6) (hm : sml (T.2.2 r c)) (h0 : ¬ T.2.2 r c = 0) (hF : ¬ F (6 + c) = 0) (h : CI T U F) : CI T U (upd F r (T.2.2 r c * U r c * F (6 + c))) := by
  intro hscl
  obtain ⟨φ, hs, he⟩ := h hscl
  refine ⟨φ, hs, ext_upd he ?_⟩
  rw [hs.2 r c hr hc]
  exact al1 hm h0 (hs.1 r) (hs.1 (6 + c)) (he (6 + c) (by omega) hF)
theorem CI_c {T : tb} {U : Nat → Nat → Int32} {F : Nat → Int32} {r c : Nat} (hr : r < T.1) (hc : c < T.2.1) (h6 : T.1 ≤ 6) (hm : sml (T.2.2 r c)) (h0 : ¬ T.2.2 r c = 0) (hF : ¬ F r = 0) (h : CI T U F) : CI T U (upd F (6 + c) (T.2.2 r c * U r c * F r)) := by
  intro hscl
  obtain ⟨φ, hs, he⟩ := h hscl
  refine ⟨φ, hs, ext_upd he ?_⟩
  rw [hs.2 r c hr hc]
  exact al2 hm h0 (hs.1 r) (hs.1 (6 + c)) (he r (by omega) hF)
/-- with at most one left without a factor there is a solution -/
theorem sol_of {T : tb} {U : Nat → Nat → Int32} {F : Nat → Int32} (h6 : T.1 ≤ 6) (h7 : T.2.1 ≤ 6) (hm : ∀ r c, r < T.1 → c < T.2.1 → sml (T.2.2 r c)) (hU : ∀ r c, r < T.1 → c < T.2.1 → sml (U r c)) (hs : stb T U F) (hv : vF F) (hn : 11 ≤ nz F) : scl T U := by
  have p1 : ∀ k, pm (if (k < 12 ∧ ¬ F k = 0) then F k else 1) := fun k => by
    split
    · rename_i q; exact hv k q.1 q.2
    · exact Or.inl rfl
  refine ⟨fun k => if (k < 12 ∧ ¬ F k = 0) then F k else 1, p1, fun r c hr hc => ?_⟩
  show U r c = (if (r < 12 ∧ ¬ F r = 0) then F r else 1) * (if (6 + c < 12 ∧ ¬ F (6 + c) = 0) then F (6 + c) else 1) * T.2.2 r c
  obtain ⟨q1, q2⟩ := hs r c hr hc
  rcases q2 with y | ⟨y1, y2⟩ | ⟨y1, y2, y3⟩
  · rw [y, Int32.mul_zero]
    rw [y] at q1
    rcases hU r c hr hc with z | z | z
    · rw [z] at q1; exact absurd q1 (by decide)
    · exact z
    · rw [z] at q1; exact absurd q1 (by decide)
  · exfalso
    have c1 := cnO_one (p := fun k => k = r ∨ ¬ F k = 0) (q := fun k => ¬ F k = 0) (b := r) (Or.inl rfl) (fun z => z y1) 12 (by omega) (fun k hk => ⟨fun z => z.resolve_left hk, Or.inr⟩)
    have c2 := cnO_one (p := fun k => k = 6 + c ∨ (k = r ∨ ¬ F k = 0)) (q := fun k => k = r ∨ ¬ F k = 0) (b := 6 + c) (Or.inl rfl) (fun z => z.elim (fun y => by omega) (fun y => y y2)) 12 (by omega) (fun k hk => ⟨fun z => z.resolve_left hk, Or.inr⟩)
    have := cnO_le (p := fun k => k = 6 + c ∨ (k = r ∨ ¬ F k = 0)) 12
    unfold nz at hn
    omega
  · rw [if_pos ⟨by omega, y1⟩, if_pos ⟨by omega, y2⟩, ← y3, al4 (hm r c hr hc) (hv r (by omega) y1) (hv (6 + c) (by omega) y2)]
/-- while the cells ahead of (n, m) are gone through: F0 at the beginning of this round, whether there was more -/
def Pq (T : tb) (U : Nat → Nat → Int32) (F0 F : Nat → Int32) (n m : Nat) (mo : Int32) : Prop := (mo = 0 ∧ F = F0 ∧ ∀ r c, r < T.1 → c < T.2.1 → (r < n ∨ (r = n ∧ c < m)) → okc T U F r c) ∨ (mo = 1 ∧ nz F0 < nz F)
theorem Pq.same {T : tb} {U : Nat → Nat → Int32} {F0 F : Nat → Int32} {n m : Nat} {mo : Int32} (h : Pq T U F0 F n m mo) (ho : okc T U F n m) : Pq T U F0 F n (m + 1) mo := by
  rcases h with ⟨h1, h2, h3⟩ | h
  · exact Or.inl ⟨h1, h2, fun r c hr hc z => by
      by_cases q : r = n ∧ c = m
      · rw [q.1, q.2]; exact ho
      · exact h3 r c hr hc (by omega)⟩
  · exact Or.inr h
theorem Pq.more {T : tb} {U : Nat → Nat → Int32} {F0 F G : Nat → Int32} {n m : Nat} {mo : Int32} (h : Pq T U F0 F n m mo) (hg : nz G = nz F + 1) : Pq T U F0 G n (m + 1) 1 := by
  rcases h with ⟨h1, h2, h3⟩ | h
  · subst h2; exact Or.inr ⟨rfl, by omega⟩
  · exact Or.inr ⟨rfl, by omega⟩
theorem s_isScaled (σ : sg) (x : aW) (t u : Nat) (ht : LY t (0, 38, [])) (hu : LY u (0, 38, [])) (nt : t ≠ i_m_factor) (nu : u ≠ i_m_factor) (T : tb) (hT0 : TB (σ.2.2 t) T) (U : Nat → Nat → Int32) (hU : ∀ r c, r < T.1 → c < T.2.1 → σ.2.2 u (6 * r + c) = U r c ∧ sml (U r c)) :
    Mt mX11_isScaled 0 0 0 [.ref i_M, .ref t, .ref u] (wd σ x) (fun q w => q = some (.int (b2i (scl T U))) ∧ ∃ g, w = wd (sA σ i_m_factor g) x) := by
  refine Mt.of MI_X11_isScaled (Nat.le_of_ble_eq_true rfl) (fun X hC hR hT => ?_)
  obtain ⟨hR1, hC1, h6, h7, hE⟩ := id hT0
  have et : ∀ (g : Nat → Int32) (k : Nat), (sA σ i_m_factor g).2.2 t k = σ.2.2 t k := fun g k => by rw [sA_ne nt]
  have eu : ∀ (g : Nat → Int32) (k : Nat), (sA σ i_m_factor g).2.2 u k = σ.2.2 u k := fun g k => by rw [sA_ne nu]
  have hm : ∀ r c, r < T.1 → c < T.2.1 → sml (T.2.2 r c) := fun r c h1 h2 => (hE r c h1 h2).2
  have turn : ∀ tn, tn ≤ 12 → ∀ F, vF F → CI T U F → tn ≤ nz F → (tn = 0 ∨ ∃ F0, stb T U F0 ∧ vF F0 ∧ tn ≤ nz F0 + 1) → ∀ u4 u5 u6 u7 u8, Rw mX11_isScaled X 23 [some (.ref i_M), some (.ref t), some (.ref u), some (.int (nI tn)), u4, u5, u6, u7, u8] [] (wd (sA σ i_m_factor F) x) 0 0 := by
    refine up_loop 12 ?_ ?_
    · intro F hv hci hn h0 u4 u5 u6 u7 u8
      refine R_iload_n (i := 3) hC dX11_isScaled_23 rfl rfl (R_bipush (v := 12) hC dX11_isScaled_24 (by decide) ?_)
      refine R_icmp_ge hC 309 dX11_isScaled_26 (by decide) (fun _ => ?_) (fun h => absurd (by decide) h)
      refine R_iconst (v := 1) hC dX11_isScaled_309 (by decide) ?_
      exact R_zret hC hT dX11_isScaled_310 rfl (by decide) ⟨by
      rcases h0 with z | ⟨F0, z1, z2, z3⟩
      · omega
      · rw [b2i_t (sol_of h6 h7 hm (fun r c h1 h2 => (hU r c h1 h2).2) z1 z2 (by omega))], F, rfl⟩
    · intro tn htn ih F hv hci hn h0 u4 u5 u6 u7 u8
      -- the end of a turn
      have fst : ∀ F, vF F → CI T U F → stb T U F → tn ≤ nz F → ∀ k, k ≤ 12 → (∀ j, j < k → ¬ F j = 0) → ∀ (m4 : Int32) u6 u7 u8, Rw mX11_isScaled X 265 [some (.ref i_M), some (.ref t), some (.ref u), some (.int (nI tn)), some (.int m4), some (.int (nI k)), u6, u7, u8] [] (wd (sA σ i_m_factor F) x) 0 0 := by
        intro F hv hci hs hn
        refine up_loop 12 ?_ ?_
        · intro hk m4 u6 u7 u8
          have full : nz F = 12 := by
            have h1 := cnO_sub (p := fun _ => True) (q := fun k => ¬ F k = 0) 12 (fun k h _ => hk k h)
            have h2 : cnO (fun _ : Nat => True) 12 = 12 := by
              have : ∀ n, cnO (fun _ : Nat => True) n = n := fun n => by
                induction n with
                | zero => rfl
                | succ n ih => rw [cnO_y trivial, ih]
              exact this 12
            have := cnO_le (p := fun k => ¬ F k = 0) 12
            unfold nz
            omega
          refine R_iload hC dX11_isScaled_265 rfl (R_bipush (v := 12) hC dX11_isScaled_267 (by decide) ?_)
          refine R_icmp_ge hC 288 dX11_isScaled_269 (by decide) (fun _ => ?_) (fun h => absurd (by decide) h)
          refine R_iload hC dX11_isScaled_288 rfl (R_bipush (v := 12) hC dX11_isScaled_290 (by decide) ?_)
          refine R_icmp_ge hC 303 dX11_isScaled_292 (by decide) (fun _ => ?_) (fun h => absurd (by decide) h)
          refine R_iinc hC dX11_isScaled_303 rfl (inc1 _) (by decide) rfl (R_goto hC 23 dX11_isScaled_306 (by decide) ?_)
          exact ih F hv hci (by omega) (Or.inr ⟨F, hs, hv, by omega⟩) _ _ _ _ _
        · intro k hk ihk hb m4 u6 u7 u8
          by_cases e : F k = 0
          · refine R_iload hC dX11_isScaled_265 rfl (R_bipush (v := 12) hC dX11_isScaled_267 (by decide) ?_)
            refine R_icmp_ge hC 288 dX11_isScaled_269 (by decide) (fun h => absurd h (nI_ge (b := 12) hk (by decide))) (fun _ => ?_)
            refine R_aload_n (i := 0) hC dX11_isScaled_272 rfl rfl (R_gR hC dX11_isScaled_273 fl_X11_62 L_M rfl (R_iload hC dX11_isScaled_276 rfl (R_aI hC dX11_isScaled_278 L_m_factor _ rfl (by omega) (by decide) ?_)))
            refine R_top (y := F k) (by rw [sA_eq]) ?_
            refine R_if_eq hC 288 dX11_isScaled_279 (by decide) (fun _ => ?_) (fun h => absurd e h)
            refine R_iload hC dX11_isScaled_288 rfl (R_bipush (v := 12) hC dX11_isScaled_290 (by decide) ?_)
            refine R_icmp_ge hC 303 dX11_isScaled_292 (by decide) (fun h => absurd h (nI_ge (b := 12) hk (by decide))) (fun _ => ?_)
            refine R_aload_n (i := 0) hC dX11_isScaled_295 rfl rfl (R_gR hC dX11_isScaled_296 fl_X11_62 L_M rfl (R_iload hC dX11_isScaled_299 rfl (R_iconst (v := 1) hC dX11_isScaled_301 (by decide) (R_sI hC dX11_isScaled_302 L_m_factor _ rfl (by omega) (by decide) ?_))))
            refine R_wd (by rw [sA_eq, sA_sA]) ?_
            refine R_iinc hC dX11_isScaled_303 rfl (inc1 _) (by decide) rfl (R_goto hC 23 dX11_isScaled_306 (by decide) ?_)
            exact ih _ (vF_upd hv (Or.inl rfl)) (CI_first h6 h7 hk e hs hci) (by rw [nz_upd hk e (by decide)]; omega) (Or.inr ⟨F, hs, hv, by omega⟩) _ _ _ _ _
          · refine R_iload hC dX11_isScaled_265 rfl (R_bipush (v := 12) hC dX11_isScaled_267 (by decide) ?_)
            refine R_icmp_ge hC 288 dX11_isScaled_269 (by decide) (fun h => absurd h (nI_ge (b := 12) hk (by decide))) (fun _ => ?_)
            refine R_aload_n (i := 0) hC dX11_isScaled_272 rfl rfl (R_gR hC dX11_isScaled_273 fl_X11_62 L_M rfl (R_iload hC dX11_isScaled_276 rfl (R_aI hC dX11_isScaled_278 L_m_factor _ rfl (by omega) (by decide) ?_)))
            refine R_top (y := F k) (by rw [sA_eq]) ?_
            refine R_if_eq hC 288 dX11_isScaled_279 (by decide) (fun h => absurd h e) (fun _ => ?_)
            refine R_iinc hC dX11_isScaled_282 rfl (inc1 _) (by decide) rfl (R_goto hC 265 dX11_isScaled_285 (by decide) ?_)
            exact ihk (fun j hj => by rcases (by omega : j < k ∨ j = k) with z | rfl; exact hb j z; exact e) _ _ _ _
      -- the rounds
      have whl : ∀ d F, 12 - nz F ≤ d → vF F → CI T U F → tn ≤ nz F → ∀ u5 u6 u7 u8, Rw mX11_isScaled X 37 [some (.ref i_M), some (.ref t), some (.ref u), some (.int (nI tn)), some (.int 1), u5, u6, u7, u8] [] (wd (sA σ i_m_factor F) x) 0 0 := by
        intro d
        -- one round, with what comes behind it
        have rnd : ∀ F0, (∀ F, vF F → CI T U F → tn ≤ nz F → nz F0 < nz F → ∀ u5 u6 u7 u8, Rw mX11_isScaled X 37 [some (.ref i_M), some (.ref t), some (.ref u), some (.int (nI tn)), some (.int 1), u5, u6, u7, u8] [] (wd (sA σ i_m_factor F) x) 0 0) → tn ≤ nz F0 →
            ∀ n, n ≤ T.1 → ∀ F mo, vF F → CI T U F → Pq T U F0 F n 0 mo → ∀ u6 u7 u8, Rw mX11_isScaled X 43 [some (.ref i_M), some (.ref t), some (.ref u), some (.int (nI tn)), some (.int mo), some (.int (nI n)), u6, u7, u8] [] (wd (sA σ i_m_factor F) x) 0 0 := by
          intro F0 again hn0
          refine up_loop T.1 ?_ ?_
          · intro F mo hv hci hp u6 u7 u8
            rcases hp with ⟨rfl, rfl, h3⟩ | ⟨rfl, h2⟩
            · refine R_iload hC dX11_isScaled_43 rfl (R_aload_n (i := 1) hC dX11_isScaled_45 rfl rfl (R_bipush (v := 36) hC dX11_isScaled_46 (by decide) (R_aI hC dX11_isScaled_48 ht 36 rfl (by decide) (by decide) ?_)))
              refine R_top (y := nI T.1) (by rw [et]; exact hR1) ?_
              refine R_icmp_ge hC 259 dX11_isScaled_49 (by decide) (fun _ => ?_) (fun h => absurd (Int32.le_refl _) h)
              refine R_goto hC 32 dX11_isScaled_259 (by decide) (R_iload hC dX11_isScaled_32 rfl ?_)
              refine R_if_eq hC 262 dX11_isScaled_34 (by decide) (fun _ => ?_) (fun h => absurd (by decide) h)
              refine R_iconst (v := 0) hC dX11_isScaled_262 (by decide) (R_istore hC dX11_isScaled_263 (by decide) rfl ?_)
              exact fst F hv hci (fun r c hr hc => h3 r c hr hc (Or.inl hr)) hn0 0 (Nat.zero_le _) (fun j hj => absurd hj (Nat.not_lt_zero _)) _ _ _ _
            · refine R_iload hC dX11_isScaled_43 rfl (R_aload_n (i := 1) hC dX11_isScaled_45 rfl rfl (R_bipush (v := 36) hC dX11_isScaled_46 (by decide) (R_aI hC dX11_isScaled_48 ht 36 rfl (by decide) (by decide) ?_)))
              refine R_top (y := nI T.1) (by rw [et]; exact hR1) ?_
              refine R_icmp_ge hC 259 dX11_isScaled_49 (by decide) (fun _ => ?_) (fun h => absurd (Int32.le_refl _) h)
              refine R_goto hC 32 dX11_isScaled_259 (by decide) (R_iload hC dX11_isScaled_32 rfl ?_)
              refine R_if_eq hC 262 dX11_isScaled_34 (by decide) (fun h => absurd h (by decide)) (fun _ => ?_)
              exact again F hv hci (by omega) h2 _ _ _ _
          · intro n hn ih F mo hv hci hp u6 u7 u8
            have col : ∀ m, m ≤ T.2.1 → ∀ F mo, vF F → CI T U F → Pq T U F0 F n m mo → ∀ u7 u8, Rw mX11_isScaled X 55 [some (.ref i_M), some (.ref t), some (.ref u), some (.int (nI tn)), some (.int mo), some (.int (nI n)), some (.int (nI m)), u7, u8] [] (wd (sA σ i_m_factor F) x) 0 0 := by
              refine up_loop T.2.1 ?_ ?_
              · intro F mo hv hci hp u7 u8
                refine R_iload hC dX11_isScaled_55 rfl (R_aload_n (i := 1) hC dX11_isScaled_57 rfl rfl (R_bipush (v := 37) hC dX11_isScaled_58 (by decide) (R_aI hC dX11_isScaled_60 ht 37 rfl (by decide) (by decide) ?_)))
                refine R_top (y := nI T.2.1) (by rw [et]; exact hC1) ?_
                refine R_icmp_ge hC 253 dX11_isScaled_61 (by decide) (fun _ => ?_) (fun h => absurd (Int32.le_refl _) h)
                refine R_iinc hC dX11_isScaled_253 rfl (inc1 _) (by decide) rfl (R_goto hC 43 dX11_isScaled_256 (by decide) ?_)
                exact ih F mo hv hci (by
                rcases hp with ⟨h1, h2, h3⟩ | hp
                · exact Or.inl ⟨h1, h2, fun r c hr hc z => h3 r c hr hc (by omega)⟩
                · exact Or.inr hp) _ _ _
              · intro m hm2 ihm F mo hv hci hp u7 u8
                have hTv := hm n m hn hm2
                have hUv := (hU n m hn hm2).2
                by_cases hsq : T.2.2 n m * T.2.2 n m = U n m * U n m
                · by_cases eT : T.2.2 n m = 0
                  · refine R_iload hC dX11_isScaled_55 rfl (R_aload_n (i := 1) hC dX11_isScaled_57 rfl rfl (R_bipush (v := 37) hC dX11_isScaled_58 (by decide) (R_aI hC dX11_isScaled_60 ht 37 rfl (by decide) (by decide) ?_)))
                    refine R_top (y := nI T.2.1) (by rw [et]; exact hC1) ?_
                    refine R_icmp_ge hC 253 dX11_isScaled_61 (by decide) (fun h => absurd h (nI_ge hm2 (by omega))) (fun _ => ?_)
                    refine R_aload_n (i := 1) hC dX11_isScaled_64 rfl rfl (R_bipush (v := 6) hC dX11_isScaled_65 (by decide) (R_iload hC dX11_isScaled_67 rfl (R_imul hC dX11_isScaled_69 (R_iload hC dX11_isScaled_70 rfl (R_iadd hC dX11_isScaled_72 (R_aI hC dX11_isScaled_73 ht (6 * n + m) (n6 n m) (by omega) (by decide) ?_))))))
                    refine R_top (y := T.2.2 n m) (by rw [et]; exact (hE n m hn hm2).1) ?_
                    refine R_istore hC dX11_isScaled_74 (by decide) rfl (R_aload_n (i := 2) hC dX11_isScaled_76 rfl rfl (R_bipush (v := 6) hC dX11_isScaled_77 (by decide) (R_iload hC dX11_isScaled_79 rfl (R_imul hC dX11_isScaled_81 (R_iload hC dX11_isScaled_82 rfl (R_iadd hC dX11_isScaled_84 (R_aI hC dX11_isScaled_85 hu (6 * n + m) (n6 n m) (by omega) (by decide) ?_)))))))
                    refine R_top (y := U n m) (by rw [eu]; exact (hU n m hn hm2).1) ?_
                    refine R_istore hC dX11_isScaled_86 (by decide) rfl (R_iload hC dX11_isScaled_88 rfl (R_iload hC dX11_isScaled_90 rfl (R_imul hC dX11_isScaled_92 (R_iload hC dX11_isScaled_93 rfl (R_iload hC dX11_isScaled_95 rfl (R_imul hC dX11_isScaled_97 ?_))))))
                    refine R_icmp_eq hC 103 dX11_isScaled_98 (by decide) (fun _ => ?_) (fun h => absurd hsq h)
                    refine R_iload hC dX11_isScaled_103 rfl ?_
                    refine R_if_eq hC 247 dX11_isScaled_105 (by decide) (fun _ => ?_) (fun h => absurd eT h)
                    refine R_iinc hC dX11_isScaled_247 rfl (inc1 _) (by decide) rfl (R_goto hC 55 dX11_isScaled_250 (by decide) ?_)
                    exact ihm F mo hv hci (hp.same ⟨hsq, Or.inl eT⟩) _ _
                  · by_cases e1 : F n = 0
                    · by_cases e2 : F (6 + m) = 0
                      · refine R_iload hC dX11_isScaled_55 rfl (R_aload_n (i := 1) hC dX11_isScaled_57 rfl rfl (R_bipush (v := 37) hC dX11_isScaled_58 (by decide) (R_aI hC dX11_isScaled_60 ht 37 rfl (by decide) (by decide) ?_)))
                        refine R_top (y := nI T.2.1) (by rw [et]; exact hC1) ?_
                        refine R_icmp_ge hC 253 dX11_isScaled_61 (by decide) (fun h => absurd h (nI_ge hm2 (by omega))) (fun _ => ?_)
                        refine R_aload_n (i := 1) hC dX11_isScaled_64 rfl rfl (R_bipush (v := 6) hC dX11_isScaled_65 (by decide) (R_iload hC dX11_isScaled_67 rfl (R_imul hC dX11_isScaled_69 (R_iload hC dX11_isScaled_70 rfl (R_iadd hC dX11_isScaled_72 (R_aI hC dX11_isScaled_73 ht (6 * n + m) (n6 n m) (by omega) (by decide) ?_))))))
                        refine R_top (y := T.2.2 n m) (by rw [et]; exact (hE n m hn hm2).1) ?_
                        refine R_istore hC dX11_isScaled_74 (by decide) rfl (R_aload_n (i := 2) hC dX11_isScaled_76 rfl rfl (R_bipush (v := 6) hC dX11_isScaled_77 (by decide) (R_iload hC dX11_isScaled_79 rfl (R_imul hC dX11_isScaled_81 (R_iload hC dX11_isScaled_82 rfl (R_iadd hC dX11_isScaled_84 (R_aI hC dX11_isScaled_85 hu (6 * n + m) (n6 n m) (by omega) (by decide) ?_)))))))
                        refine R_top (y := U n m) (by rw [eu]; exact (hU n m hn hm2).1) ?_
                        refine R_istore hC dX11_isScaled_86 (by decide) rfl (R_iload hC dX11_isScaled_88 rfl (R_iload hC dX11_isScaled_90 rfl (R_imul hC dX11_isScaled_92 (R_iload hC dX11_isScaled_93 rfl (R_iload hC dX11_isScaled_95 rfl (R_imul hC dX11_isScaled_97 ?_))))))
                        refine R_icmp_eq hC 103 dX11_isScaled_98 (by decide) (fun _ => ?_) (fun h => absurd hsq h)
                        refine R_iload hC dX11_isScaled_103 rfl ?_
                        refine R_if_eq hC 247 dX11_isScaled_105 (by decide) (fun h => absurd h eT) (fun _ => ?_)
                        refine R_aload_n (i := 0) hC dX11_isScaled_108 rfl rfl (R_gR hC dX11_isScaled_109 fl_X11_62 L_M rfl (R_iload hC dX11_isScaled_112 rfl (R_aI hC dX11_isScaled_114 L_m_factor _ rfl (by omega) (by decide) ?_)))
                        refine R_top (y := F n) (by rw [sA_eq]) ?_
                        refine R_if_ne hC 134 dX11_isScaled_115 (by decide) (fun h => absurd e1 h) (fun _ => ?_)
                        refine R_aload_n (i := 0) hC dX11_isScaled_118 rfl rfl (R_gR hC dX11_isScaled_119 fl_X11_62 L_M rfl (R_bipush (v := 6) hC dX11_isScaled_122 (by decide) (R_iload hC dX11_isScaled_124 rfl (R_iadd hC dX11_isScaled_126 (R_aI hC dX11_isScaled_127 L_m_factor (6 + m) (nI_add 6 m) (by omega) (by decide) ?_)))))
                        refine R_top (y := F (6 + m)) (by rw [sA_eq]) ?_
                        refine R_if_ne hC 134 dX11_isScaled_128 (by decide) (fun h => absurd e2 h) (fun _ => ?_)
                        refine R_goto hC 247 dX11_isScaled_131 (by decide) (R_iinc hC dX11_isScaled_247 rfl (inc1 _) (by decide) rfl (R_goto hC 55 dX11_isScaled_250 (by decide) ?_))
                        exact ihm F mo hv hci (hp.same ⟨hsq, Or.inr (Or.inl ⟨e1, e2⟩)⟩) _ _
                      · have hf := hv (6 + m) (by omega) e2
                        refine R_iload hC dX11_isScaled_55 rfl (R_aload_n (i := 1) hC dX11_isScaled_57 rfl rfl (R_bipush (v := 37) hC dX11_isScaled_58 (by decide) (R_aI hC dX11_isScaled_60 ht 37 rfl (by decide) (by decide) ?_)))
                        refine R_top (y := nI T.2.1) (by rw [et]; exact hC1) ?_
                        refine R_icmp_ge hC 253 dX11_isScaled_61 (by decide) (fun h => absurd h (nI_ge hm2 (by omega))) (fun _ => ?_)
                        refine R_aload_n (i := 1) hC dX11_isScaled_64 rfl rfl (R_bipush (v := 6) hC dX11_isScaled_65 (by decide) (R_iload hC dX11_isScaled_67 rfl (R_imul hC dX11_isScaled_69 (R_iload hC dX11_isScaled_70 rfl (R_iadd hC dX11_isScaled_72 (R_aI hC dX11_isScaled_73 ht (6 * n + m) (n6 n m) (by omega) (by decide) ?_))))))
                        refine R_top (y := T.2.2 n m) (by rw [et]; exact (hE n m hn hm2).1) ?_
                        refine R_istore hC dX11_isScaled_74 (by decide) rfl (R_aload_n (i := 2) hC dX11_isScaled_76 rfl rfl (R_bipush (v := 6) hC dX11_isScaled_77 (by decide) (R_iload hC dX11_isScaled_79 rfl (R_imul hC dX11_isScaled_81 (R_iload hC dX11_isScaled_82 rfl (R_iadd hC dX11_isScaled_84 (R_aI hC dX11_isScaled_85 hu (6 * n + m) (n6 n m) (by omega) (by decide) ?_)))))))
                        refine R_top (y := U n m) (by rw [eu]; exact (hU n m hn hm2).1) ?_
                        refine R_istore hC dX11_isScaled_86 (by decide) rfl (R_iload hC dX11_isScaled_88 rfl (R_iload hC dX11_isScaled_90 rfl (R_imul hC dX11_isScaled_92 (R_iload hC dX11_isScaled_93 rfl (R_iload hC dX11_isScaled_95 rfl (R_imul hC dX11_isScaled_97 ?_))))))
                        refine R_icmp_eq hC 103 dX11_isScaled_98 (by decide) (fun _ => ?_) (fun h => absurd hsq h)
                        refine R_iload hC dX11_isScaled_103 rfl ?_
                        refine R_if_eq hC 247 dX11_isScaled_105 (by decide) (fun h => absurd h eT) (fun _ => ?_)
                        refine R_aload_n (i := 0) hC dX11_isScaled_108 rfl rfl (R_gR hC dX11_isScaled_109 fl_X11_62 L_M rfl (R_iload hC dX11_isScaled_112 rfl (R_aI hC dX11_isScaled_114 L_m_factor _ rfl (by omega) (by decide) ?_)))
                        refine R_top (y := F n) (by rw [sA_eq]) ?_
                        refine R_if_ne hC 134 dX11_isScaled_115 (by decide) (fun h => absurd e1 h) (fun _ => ?_)
                        refine R_aload_n (i := 0) hC dX11_isScaled_118 rfl rfl (R_gR hC dX11_isScaled_119 fl_X11_62 L_M rfl (R_bipush (v := 6) hC dX11_isScaled_122 (by decide) (R_iload hC dX11_isScaled_124 rfl (R_iadd hC dX11_isScaled_126 (R_aI hC dX11_isScaled_127 L_m_factor (6 + m) (nI_add 6 m) (by omega) (by decide) ?_)))))
                        refine R_top (y := F (6 + m)) (by rw [sA_eq]) ?_
                        refine R_if_ne hC 134 dX11_isScaled_128 (by decide) (fun _ => ?_) (fun h => absurd h e2)
                        refine R_aload_n (i := 0) hC dX11_isScaled_134 rfl rfl (R_gR hC dX11_isScaled_135 fl_X11_62 L_M rfl (R_iload hC dX11_isScaled_138 rfl (R_aI hC dX11_isScaled_140 L_m_factor _ rfl (by omega) (by decide) ?_)))
                        refine R_top (y := F n) (by rw [sA_eq]) ?_
                        refine R_if_eq hC 185 dX11_isScaled_141 (by decide) (fun _ => ?_) (fun h => absurd e1 h)
                        refine R_aload_n (i := 0) hC dX11_isScaled_185 rfl rfl (R_gR hC dX11_isScaled_186 fl_X11_62 L_M rfl (R_iload hC dX11_isScaled_189 rfl (R_aI hC dX11_isScaled_191 L_m_factor _ rfl (by omega) (by decide) ?_)))
                        refine R_top (y := F n) (by rw [sA_eq]) ?_
                        refine R_if_ne hC 221 dX11_isScaled_192 (by decide) (fun h => absurd e1 h) (fun _ => ?_)
                        refine R_aload_n (i := 0) hC dX11_isScaled_195 rfl rfl (R_gR hC dX11_isScaled_196 fl_X11_62 L_M rfl (R_iload hC dX11_isScaled_199 rfl (R_iload hC dX11_isScaled_201 rfl (R_iload hC dX11_isScaled_203 rfl (R_imul hC dX11_isScaled_205 (R_aload_n (i := 0) hC dX11_isScaled_206 rfl rfl (R_gR hC dX11_isScaled_207 fl_X11_62 L_M rfl ?_)))))))
                        refine R_bipush (v := 6) hC dX11_isScaled_210 (by decide) (R_iload hC dX11_isScaled_212 rfl (R_iadd hC dX11_isScaled_214 (R_aI hC dX11_isScaled_215 L_m_factor (6 + m) (nI_add 6 m) (by omega) (by decide) ?_)))
                        refine R_top (y := F (6 + m)) (by rw [sA_eq]) ?_
                        refine R_imul hC dX11_isScaled_216 (R_sI hC dX11_isScaled_217 L_m_factor _ rfl (by omega) (by decide) ?_)
                        refine R_wd (by rw [sA_eq, sA_sA]) ?_
                        refine R_goto hC 244 dX11_isScaled_218 (by decide) (R_iconst (v := 1) hC dX11_isScaled_244 (by decide) (R_istore hC dX11_isScaled_245 (by decide) rfl (R_iinc hC dX11_isScaled_247 rfl (inc1 _) (by decide) rfl (R_goto hC 55 dX11_isScaled_250 (by decide) ?_))))
                        exact ihm _ 1 (vF_upd hv (al6 hTv hUv eT hsq hf)) (CI_r hn hm2 h7 hTv eT e2 hci) (hp.more (nz_upd (by omega) e1 (pm_ne (al6 hTv hUv eT hsq hf)))) _ _
                    · have hf := hv n (by omega) e1
                      by_cases e2 : F (6 + m) = 0
                      · refine R_iload hC dX11_isScaled_55 rfl (R_aload_n (i := 1) hC dX11_isScaled_57 rfl rfl (R_bipush (v := 37) hC dX11_isScaled_58 (by decide) (R_aI hC dX11_isScaled_60 ht 37 rfl (by decide) (by decide) ?_)))
                        refine R_top (y := nI T.2.1) (by rw [et]; exact hC1) ?_
                        refine R_icmp_ge hC 253 dX11_isScaled_61 (by decide) (fun h => absurd h (nI_ge hm2 (by omega))) (fun _ => ?_)
                        refine R_aload_n (i := 1) hC dX11_isScaled_64 rfl rfl (R_bipush (v := 6) hC dX11_isScaled_65 (by decide) (R_iload hC dX11_isScaled_67 rfl (R_imul hC dX11_isScaled_69 (R_iload hC dX11_isScaled_70 rfl (R_iadd hC dX11_isScaled_72 (R_aI hC dX11_isScaled_73 ht (6 * n + m) (n6 n m) (by omega) (by decide) ?_))))))
                        refine R_top (y := T.2.2 n m) (by rw [et]; exact (hE n m hn hm2).1) ?_
                        refine R_istore hC dX11_isScaled_74 (by decide) rfl (R_aload_n (i := 2) hC dX11_isScaled_76 rfl rfl (R_bipush (v := 6) hC dX11_isScaled_77 (by decide) (R_iload hC dX11_isScaled_79 rfl (R_imul hC dX11_isScaled_81 (R_iload hC dX11_isScaled_82 rfl (R_iadd hC dX11_isScaled_84 (R_aI hC dX11_isScaled_85 hu (6 * n + m) (n6 n m) (by omega) (by decide) ?_)))))))
                        refine R_top (y := U n m) (by rw [eu]; exact (hU n m hn hm2).1) ?_
                        refine R_istore hC dX11_isScaled_86 (by decide) rfl (R_iload hC dX11_isScaled_88 rfl (R_iload hC dX11_isScaled_90 rfl (R_imul hC dX11_isScaled_92 (R_iload hC dX11_isScaled_93 rfl (R_iload hC dX11_isScaled_95 rfl (R_imul hC dX11_isScaled_97 ?_))))))
                        refine R_icmp_eq hC 103 dX11_isScaled_98 (by decide) (fun _ => ?_) (fun h => absurd hsq h)
                        refine R_iload hC dX11_isScaled_103 rfl ?_
                        refine R_if_eq hC 247 dX11_isScaled_105 (by decide) (fun h => absurd h eT) (fun _ => ?_)
                        refine R_aload_n (i := 0) hC dX11_isScaled_108 rfl rfl (R_gR hC dX11_isScaled_109 fl_X11_62 L_M rfl (R_iload hC dX11_isScaled_112 rfl (R_aI hC dX11_isScaled_114 L_m_factor _ rfl (by omega) (by decide) ?_)))
                        refine R_top (y := F n) (by rw [sA_eq]) ?_
                        refine R_if_ne hC 134 dX11_isScaled_115 (by decide) (fun _ => ?_) (fun h => absurd h e1)
                        refine R_aload_n (i := 0) hC dX11_isScaled_134 rfl rfl (R_gR hC dX11_isScaled_135 fl_X11_62 L_M rfl (R_iload hC dX11_isScaled_138 rfl (R_aI hC dX11_isScaled_140 L_m_factor _ rfl (by omega) (by decide) ?_)))
                        refine R_top (y := F n) (by rw [sA_eq]) ?_
                        refine R_if_eq hC 185 dX11_isScaled_141 (by decide) (fun h => absurd h e1) (fun _ => ?_)
                        refine R_aload_n (i := 0) hC dX11_isScaled_144 rfl rfl (R_gR hC dX11_isScaled_145 fl_X11_62 L_M rfl (R_bipush (v := 6) hC dX11_isScaled_148 (by decide) (R_iload hC dX11_isScaled_150 rfl (R_iadd hC dX11_isScaled_152 (R_aI hC dX11_isScaled_153 L_m_factor (6 + m) (nI_add 6 m) (by omega) (by decide) ?_)))))
                        refine R_top (y := F (6 + m)) (by rw [sA_eq]) ?_
                        refine R_if_eq hC 185 dX11_isScaled_154 (by decide) (fun _ => ?_) (fun h => absurd e2 h)
                        refine R_aload_n (i := 0) hC dX11_isScaled_185 rfl rfl (R_gR hC dX11_isScaled_186 fl_X11_62 L_M rfl (R_iload hC dX11_isScaled_189 rfl (R_aI hC dX11_isScaled_191 L_m_factor _ rfl (by omega) (by decide) ?_)))
                        refine R_top (y := F n) (by rw [sA_eq]) ?_
                        refine R_if_ne hC 221 dX11_isScaled_192 (by decide) (fun _ => ?_) (fun h => absurd h e1)
                        refine R_aload_n (i := 0) hC dX11_isScaled_221 rfl rfl (R_gR hC dX11_isScaled_222 fl_X11_62 L_M rfl (R_bipush (v := 6) hC dX11_isScaled_225 (by decide) (R_iload hC dX11_isScaled_227 rfl (R_iadd hC dX11_isScaled_229 (R_iload hC dX11_isScaled_230 rfl (R_iload hC dX11_isScaled_232 rfl (R_imul hC dX11_isScaled_234 ?_)))))))
                        refine R_aload_n (i := 0) hC dX11_isScaled_235 rfl rfl (R_gR hC dX11_isScaled_236 fl_X11_62 L_M rfl (R_iload hC dX11_isScaled_239 rfl (R_aI hC dX11_isScaled_241 L_m_factor _ rfl (by omega) (by decide) ?_)))
                        refine R_top (y := F n) (by rw [sA_eq]) ?_
                        refine R_imul hC dX11_isScaled_242 (R_sI hC dX11_isScaled_243 L_m_factor (6 + m) (nI_add 6 m) (by omega) (by decide) ?_)
                        refine R_wd (by rw [sA_eq, sA_sA]) ?_
                        refine R_iconst (v := 1) hC dX11_isScaled_244 (by decide) (R_istore hC dX11_isScaled_245 (by decide) rfl (R_iinc hC dX11_isScaled_247 rfl (inc1 _) (by decide) rfl (R_goto hC 55 dX11_isScaled_250 (by decide) ?_)))
                        exact ihm _ 1 (vF_upd hv (al6 hTv hUv eT hsq hf)) (CI_c hn hm2 h6 hTv eT e1 hci) (hp.more (nz_upd (by omega) e2 (pm_ne (al6 hTv hUv eT hsq hf)))) _ _
                      · refine R_iload hC dX11_isScaled_55 rfl (R_aload_n (i := 1) hC dX11_isScaled_57 rfl rfl (R_bipush (v := 37) hC dX11_isScaled_58 (by decide) (R_aI hC dX11_isScaled_60 ht 37 rfl (by decide) (by decide) ?_)))
                        refine R_top (y := nI T.2.1) (by rw [et]; exact hC1) ?_
                        refine R_icmp_ge hC 253 dX11_isScaled_61 (by decide) (fun h => absurd h (nI_ge hm2 (by omega))) (fun _ => ?_)
                        refine R_aload_n (i := 1) hC dX11_isScaled_64 rfl rfl (R_bipush (v := 6) hC dX11_isScaled_65 (by decide) (R_iload hC dX11_isScaled_67 rfl (R_imul hC dX11_isScaled_69 (R_iload hC dX11_isScaled_70 rfl (R_iadd hC dX11_isScaled_72 (R_aI hC dX11_isScaled_73 ht (6 * n + m) (n6 n m) (by omega) (by decide) ?_))))))
                        refine R_top (y := T.2.2 n m) (by rw [et]; exact (hE n m hn hm2).1) ?_
                        refine R_istore hC dX11_isScaled_74 (by decide) rfl (R_aload_n (i := 2) hC dX11_isScaled_76 rfl rfl (R_bipush (v := 6) hC dX11_isScaled_77 (by decide) (R_iload hC dX11_isScaled_79 rfl (R_imul hC dX11_isScaled_81 (R_iload hC dX11_isScaled_82 rfl (R_iadd hC dX11_isScaled_84 (R_aI hC dX11_isScaled_85 hu (6 * n + m) (n6 n m) (by omega) (by decide) ?_)))))))
                        refine R_top (y := U n m) (by rw [eu]; exact (hU n m hn hm2).1) ?_
                        refine R_istore hC dX11_isScaled_86 (by decide) rfl (R_iload hC dX11_isScaled_88 rfl (R_iload hC dX11_isScaled_90 rfl (R_imul hC dX11_isScaled_92 (R_iload hC dX11_isScaled_93 rfl (R_iload hC dX11_isScaled_95 rfl (R_imul hC dX11_isScaled_97 ?_))))))
                        refine R_icmp_eq hC 103 dX11_isScaled_98 (by decide) (fun _ => ?_) (fun h => absurd hsq h)
                        refine R_iload hC dX11_isScaled_103 rfl ?_
                        refine R_if_eq hC 247 dX11_isScaled_105 (by decide) (fun h => absurd h eT) (fun _ => ?_)
                        refine R_aload_n (i := 0) hC dX11_isScaled_108 rfl rfl (R_gR hC dX11_isScaled_109 fl_X11_62 L_M rfl (R_iload hC dX11_isScaled_112 rfl (R_aI hC dX11_isScaled_114 L_m_factor _ rfl (by omega) (by decide) ?_)))
                        refine R_top (y := F n) (by rw [sA_eq]) ?_
                        refine R_if_ne hC 134 dX11_isScaled_115 (by decide) (fun _ => ?_) (fun h => absurd h e1)
                        refine R_aload_n (i := 0) hC dX11_isScaled_134 rfl rfl (R_gR hC dX11_isScaled_135 fl_X11_62 L_M rfl (R_iload hC dX11_isScaled_138 rfl (R_aI hC dX11_isScaled_140 L_m_factor _ rfl (by omega) (by decide) ?_)))
                        refine R_top (y := F n) (by rw [sA_eq]) ?_
                        refine R_if_eq hC 185 dX11_isScaled_141 (by decide) (fun h => absurd h e1) (fun _ => ?_)
                        refine R_aload_n (i := 0) hC dX11_isScaled_144 rfl rfl (R_gR hC dX11_isScaled_145 fl_X11_62 L_M rfl (R_bipush (v := 6) hC dX11_isScaled_148 (by decide) (R_iload hC dX11_isScaled_150 rfl (R_iadd hC dX11_isScaled_152 (R_aI hC dX11_isScaled_153 L_m_factor (6 + m) (nI_add 6 m) (by omega) (by decide) ?_)))))
                        refine R_top (y := F (6 + m)) (by rw [sA_eq]) ?_
                        refine R_if_eq hC 185 dX11_isScaled_154 (by decide) (fun h => absurd h e2) (fun _ => ?_)
                        refine R_iload hC dX11_isScaled_157 rfl (R_aload_n (i := 0) hC dX11_isScaled_159 rfl rfl (R_gR hC dX11_isScaled_160 fl_X11_62 L_M rfl (R_iload hC dX11_isScaled_163 rfl (R_aI hC dX11_isScaled_165 L_m_factor _ rfl (by omega) (by decide) ?_))))
                        refine R_top (y := F n) (by rw [sA_eq]) ?_
                        refine R_imul hC dX11_isScaled_166 (R_aload_n (i := 0) hC dX11_isScaled_167 rfl rfl (R_gR hC dX11_isScaled_168 fl_X11_62 L_M rfl (R_bipush (v := 6) hC dX11_isScaled_171 (by decide) (R_iload hC dX11_isScaled_173 rfl (R_iadd hC dX11_isScaled_175 (R_aI hC dX11_isScaled_176 L_m_factor (6 + m) (nI_add 6 m) (by omega) (by decide) ?_))))))
                        refine R_top (y := F (6 + m)) (by rw [sA_eq]) ?_
                        refine R_imul hC dX11_isScaled_177 (R_iload hC dX11_isScaled_178 rfl ?_)
                        refine R_icmp_eq hC 247 dX11_isScaled_180 (by decide) (fun h180 => ?_) (fun h180 => ?_)
                        · refine R_iinc hC dX11_isScaled_247 rfl (inc1 _) (by decide) rfl (R_goto hC 55 dX11_isScaled_250 (by decide) ?_)
                          exact ihm F mo hv hci (hp.same ⟨hsq, Or.inr (Or.inr ⟨e1, e2, h180⟩)⟩) _ _
                        · refine R_iconst (v := 0) hC dX11_isScaled_183 (by decide) ?_
                          exact R_zret hC hT dX11_isScaled_184 rfl (by decide) ⟨by
                          rw [b2i_f]
                          intro z
                          obtain ⟨φ, hs, he⟩ := hci z
                          have q1 := he n (by omega) e1
                          have q2 := he (6 + m) (by omega) e2
                          exact h180 (by rw [q1, q2, hs.2 n m hn hm2, al4 hTv (hs.1 n) (hs.1 (6 + m))]), F, rfl⟩
                · refine R_iload hC dX11_isScaled_55 rfl (R_aload_n (i := 1) hC dX11_isScaled_57 rfl rfl (R_bipush (v := 37) hC dX11_isScaled_58 (by decide) (R_aI hC dX11_isScaled_60 ht 37 rfl (by decide) (by decide) ?_)))
                  refine R_top (y := nI T.2.1) (by rw [et]; exact hC1) ?_
                  refine R_icmp_ge hC 253 dX11_isScaled_61 (by decide) (fun h => absurd h (nI_ge hm2 (by omega))) (fun _ => ?_)
                  refine R_aload_n (i := 1) hC dX11_isScaled_64 rfl rfl (R_bipush (v := 6) hC dX11_isScaled_65 (by decide) (R_iload hC dX11_isScaled_67 rfl (R_imul hC dX11_isScaled_69 (R_iload hC dX11_isScaled_70 rfl (R_iadd hC dX11_isScaled_72 (R_aI hC dX11_isScaled_73 ht (6 * n + m) (n6 n m) (by omega) (by decide) ?_))))))
                  refine R_top (y := T.2.2 n m) (by rw [et]; exact (hE n m hn hm2).1) ?_
                  refine R_istore hC dX11_isScaled_74 (by decide) rfl (R_aload_n (i := 2) hC dX11_isScaled_76 rfl rfl (R_bipush (v := 6) hC dX11_isScaled_77 (by decide) (R_iload hC dX11_isScaled_79 rfl (R_imul hC dX11_isScaled_81 (R_iload hC dX11_isScaled_82 rfl (R_iadd hC dX11_isScaled_84 (R_aI hC dX11_isScaled_85 hu (6 * n + m) (n6 n m) (by omega) (by decide) ?_)))))))
                  refine R_top (y := U n m) (by rw [eu]; exact (hU n m hn hm2).1) ?_
                  refine R_istore hC dX11_isScaled_86 (by decide) rfl (R_iload hC dX11_isScaled_88 rfl (R_iload hC dX11_isScaled_90 rfl (R_imul hC dX11_isScaled_92 (R_iload hC dX11_isScaled_93 rfl (R_iload hC dX11_isScaled_95 rfl (R_imul hC dX11_isScaled_97 ?_))))))
                  refine R_icmp_eq hC 103 dX11_isScaled_98 (by decide) (fun h => absurd h hsq) (fun _ => ?_)
                  refine R_iconst (v := 0) hC dX11_isScaled_101 (by decide) ?_
                  exact R_zret hC hT dX11_isScaled_102 rfl (by decide) ⟨by
                  rw [b2i_f]
                  rintro ⟨φ, hs⟩
                  exact hsq (by rw [hs.2 n m hn hm2]; exact al3 hTv (hs.1 n) (hs.1 (6 + m))), F, rfl⟩
            refine R_iload hC dX11_isScaled_43 rfl (R_aload_n (i := 1) hC dX11_isScaled_45 rfl rfl (R_bipush (v := 36) hC dX11_isScaled_46 (by decide) (R_aI hC dX11_isScaled_48 ht 36 rfl (by decide) (by decide) ?_)))
            refine R_top (y := nI T.1) (by rw [et]; exact hR1) ?_
            refine R_icmp_ge hC 259 dX11_isScaled_49 (by decide) (fun h => absurd h (nI_ge hn (by omega))) (fun _ => ?_)
            refine R_iconst (v := 0) hC dX11_isScaled_52 (by decide) (R_istore hC dX11_isScaled_53 (by decide) rfl ?_)
            exact col 0 (Nat.zero_le _) F mo hv hci hp _ _
        induction d with
        | zero =>
          intro F hd hv hci hn u5 u6 u7 u8
          refine R_iconst (v := 0) hC dX11_isScaled_37 (by decide) (R_istore hC dX11_isScaled_38 (by decide) rfl (R_iconst (v := 0) hC dX11_isScaled_40 (by decide) (R_istore hC dX11_isScaled_41 (by decide) rfl ?_)))
          exact rnd F (fun G _ _ _ z => by have := cnO_le (p := fun k => ¬ G k = 0) 12; unfold nz at *; omega) hn 0 (Nat.zero_le _) F 0 hv hci (Or.inl ⟨rfl, rfl, fun r c _ _ z => by omega⟩) _ _ _
        | succ d ihd =>
          intro F hd hv hci hn u5 u6 u7 u8
          refine R_iconst (v := 0) hC dX11_isScaled_37 (by decide) (R_istore hC dX11_isScaled_38 (by decide) rfl (R_iconst (v := 0) hC dX11_isScaled_40 (by decide) (R_istore hC dX11_isScaled_41 (by decide) rfl ?_)))
          exact rnd F (fun G g1 g2 g3 z => ihd G (by omega) g1 g2 g3) hn 0 (Nat.zero_le _) F 0 hv hci (Or.inl ⟨rfl, rfl, fun r c _ _ z => by omega⟩) _ _ _
      refine R_iload_n (i := 3) hC dX11_isScaled_23 rfl rfl (R_bipush (v := 12) hC dX11_isScaled_24 (by decide) ?_)
      refine R_icmp_ge hC 309 dX11_isScaled_26 (by decide) (fun h => absurd h (nI_ge (b := 12) htn (by decide))) (fun _ => ?_)
      refine R_iconst (v := 1) hC dX11_isScaled_29 (by decide) (R_istore hC dX11_isScaled_30 (by decide) rfl (R_iload hC dX11_isScaled_32 rfl ?_))
      refine R_if_eq hC 262 dX11_isScaled_34 (by decide) (fun h => absurd h (by decide)) (fun _ => ?_)
      exact whl 12 F (by omega) hv hci hn _ _ _ _
  have init : ∀ n, n ≤ 12 → ∀ F : Nat → Int32, (∀ k, k < n → F k = 0) → ∀ u4 u5 u6 u7 u8, Rw mX11_isScaled X 2 [some (.ref i_M), some (.ref t), some (.ref u), some (.int (nI n)), u4, u5, u6, u7, u8] [] (wd (sA σ i_m_factor F) x) 0 0 := by
    refine up_loop 12 ?_ ?_
    · intro F h0 u4 u5 u6 u7 u8
      refine R_iload_n (i := 3) hC dX11_isScaled_2 rfl rfl (R_bipush (v := 12) hC dX11_isScaled_3 (by decide) ?_)
      refine R_icmp_ge hC 21 dX11_isScaled_5 (by decide) (fun _ => ?_) (fun h => absurd (by decide) h)
      refine R_iconst (v := 0) hC dX11_isScaled_21 (by decide) (R_istore_n (i := 3) hC dX11_isScaled_22 rfl (by decide) rfl ?_)
      exact turn 0 (Nat.zero_le _) F (fun k hk z => absurd (h0 k hk) z) (fun ⟨φ, hs⟩ => ⟨φ, hs, fun k hk z => absurd (h0 k hk) z⟩) (Nat.zero_le _) (Or.inl rfl) _ _ _ _ _
    · intro n hn ih F h0 u4 u5 u6 u7 u8
      refine R_iload_n (i := 3) hC dX11_isScaled_2 rfl rfl (R_bipush (v := 12) hC dX11_isScaled_3 (by decide) ?_)
      refine R_icmp_ge hC 21 dX11_isScaled_5 (by decide) (fun h => absurd h (nI_ge (b := 12) hn (by decide))) (fun _ => ?_)
      refine R_aload_n (i := 0) hC dX11_isScaled_8 rfl rfl (R_gR hC dX11_isScaled_9 fl_X11_62 L_M rfl (R_iload_n (i := 3) hC dX11_isScaled_12 rfl rfl (R_iconst (v := 0) hC dX11_isScaled_13 (by decide) (R_sI hC dX11_isScaled_14 L_m_factor _ rfl (by omega) (by decide) ?_))))
      refine R_wd (by rw [sA_eq, sA_sA]) ?_
      refine R_iinc hC dX11_isScaled_15 rfl (inc1 _) (by decide) rfl (R_goto hC 2 dX11_isScaled_18 (by decide) ?_)
      exact ih _ (fun k hk => by
      by_cases e : k = n
      · rw [upd, if_pos e]
      · rw [upd, if_neg e]; exact h0 k (by omega)) _ _ _ _ _
  refine R_iconst (v := 0) hC dX11_isScaled_0 (by decide) (R_istore_n (i := 3) hC dX11_isScaled_1 rfl (by decide) rfl ?_)
  (refine R_wd (sA_self σ i_m_factor).symm ?_; exact init 0 (Nat.zero_le _) _ (fun k hk => absurd hk (Nat.not_lt_zero _)) _ _ _ _ _)
noncomputable def opScaled (α : aS) (k : Int32) : Int32 := by classical exact
  (if (¬ (tT α).1 = 0 ∧ inR (tK α).1 k) then b2i (((tK α).2 k.toNatClampNeg).1 = (tT α).1 ∧ ((tK α).2 k.toNatClampNeg).2.1 = (tT α).2.1 ∧ scl (tT α) ((tK α).2 k.toNatClampNeg).2.2) else -1)
theorem mo_scaled {σ : sg} {x : aW} {α : aS} (h : MInv σ α) (ok : aOK α) (k : Int32) : Mt mX11_scaled 1 0 0 [.ref i_M, .int k] (wd σ x) (MPost σ x (opScaled α k) α) := by
  refine Mt.of MI_X11_scaled (Nat.le_of_ble_eq_true rfl) (fun X hC hR hT => ?_)
  have hω := MZ.of h
  have b1 := ok.2.2.2.1.1
  have h6 := ok.2.2.1.1
  have h7 := ok.2.2.1.2.1
  have eK : ((sG σ i_M 0 0).1 i_M 12).toInt = (tK α).1 := by rw [sG_nk (by decide), h.2.2.1.1, nI_toInt (by omega)]
  have no : ¬ (¬ (tT α).1 = 0 ∧ inR (tK α).1 k) → opScaled α k = -1 := fun q => by unfold opScaled; rw [if_neg q]
  have loop : ∀ q : Nat, k = nI q → q < (tK α).1 → opScaled α k = b2i (((tK α).2 q).1 = (tT α).1 ∧ ((tK α).2 q).2.1 = (tT α).2.1 ∧ scl (tT α) ((tK α).2 q).2.2) → ∀ n, n ≤ 38 → ∀ g : Nat → Int32, (∀ j, j < n → g j = σ.2.2 i_m_kept (38 * q + j)) → Rw mX11_scaled X 27 [some (.ref i_M), some (.int k), some (.int (nI n))] [] (wd (sA (sG σ i_M 0 0) i_m_goal g) x) 0 0 := by
    intro q ek hq eo
    have hK := h.2.2.1.2 q hq
    obtain ⟨⟨o1, o2, o3, o4⟩, o5⟩ := ok.2.2.2.1.2 q hq
    refine up_loop 38 ?_ ?_
    · intro g hg
      have hz : MZ σ (sA (sG σ i_M 0 0) i_m_goal g) α := hω.a (by decide) (by decide)
      have g36 : g 36 = nI ((tK α).2 q).1 := (hg 36 (by decide)).trans hK.1
      have g37 : g 37 = nI ((tK α).2 q).2.1 := (hg 37 (by decide)).trans hK.2.1
      have e1 : (nI ((tK α).2 q).1 = nI (tT α).1) ↔ ((tK α).2 q).1 = (tT α).1 := nI_eq (by omega) (by omega)
      have e2 : (nI ((tK α).2 q).2.1 = nI (tT α).2.1) ↔ ((tK α).2 q).2.1 = (tT α).2.1 := nI_eq (by omega) (by omega)
      refine R_iload_n (i := 2) hC dX11_scaled_27 rfl rfl (R_bipush (v := 38) hC dX11_scaled_28 (by decide) ?_)
      refine R_icmp_ge hC 56 dX11_scaled_30 (by decide) (fun _ => ?_) (fun h => absurd (by decide) h)
      refine R_aload_n (i := 0) hC dX11_scaled_56 rfl rfl (R_gR hC dX11_scaled_57 fl_X11_65 L_M rfl (R_bipush (v := 36) hC dX11_scaled_60 (by decide) (R_aI hC dX11_scaled_62 L_m_goal 36 rfl (by decide) (by decide) ?_)))
      refine R_top (y := nI ((tK α).2 q).1) (by rw [sA_eq]; exact g36) ?_
      refine R_aload_n (i := 0) hC dX11_scaled_63 rfl rfl (R_gR hC dX11_scaled_64 fl_X11_13 L_M rfl (R_bipush (v := 36) hC dX11_scaled_67 (by decide) (R_aI hC dX11_scaled_69 L_m_now 36 rfl (by decide) (by decide) ?_)))
      refine R_top (y := nI (tT α).1) (hz.R) ?_
      refine R_icmp_ne hC 109 dX11_scaled_70 (by decide) (fun h70 => ?_) (fun h70 => ?_)
      · refine R_iconst (v := 0) hC dX11_scaled_109 (by decide) ?_
        exact R_iret hC hT dX11_scaled_110 rfl (by
        rw [eo]
        first
        | (rw [b2i_t ⟨d1, d2, b2i_ne h102⟩]; exact hz2.p)
        | (have h103 := b2i_0 h102; rw [b2i_f (fun z => h103 z.2.2)]; exact hz2.p)
        | (have h88 := h87; rw [b2i_f (fun z => h88 (e2.mpr z.2.1))]; exact hz.p)
        | (rw [b2i_f (fun z => h70 (e1.mpr z.1))]; exact hz.p))
      · refine R_aload_n (i := 0) hC dX11_scaled_73 rfl rfl (R_gR hC dX11_scaled_74 fl_X11_65 L_M rfl (R_bipush (v := 37) hC dX11_scaled_77 (by decide) (R_aI hC dX11_scaled_79 L_m_goal 37 rfl (by decide) (by decide) ?_)))
        refine R_top (y := nI ((tK α).2 q).2.1) (by rw [sA_eq]; exact g37) ?_
        refine R_aload_n (i := 0) hC dX11_scaled_80 rfl rfl (R_gR hC dX11_scaled_81 fl_X11_13 L_M rfl (R_bipush (v := 37) hC dX11_scaled_84 (by decide) (R_aI hC dX11_scaled_86 L_m_now 37 rfl (by decide) (by decide) ?_)))
        refine R_top (y := nI (tT α).2.1) (hz.C) ?_
        refine R_icmp_ne hC 109 dX11_scaled_87 (by decide) (fun h87 => ?_) (fun h87 => ?_)
        · refine R_iconst (v := 0) hC dX11_scaled_109 (by decide) ?_
          exact R_iret hC hT dX11_scaled_110 rfl (by
          rw [eo]
          first
          | (rw [b2i_t ⟨d1, d2, b2i_ne h102⟩]; exact hz2.p)
          | (have h103 := b2i_0 h102; rw [b2i_f (fun z => h103 z.2.2)]; exact hz2.p)
          | (have h88 := h87; rw [b2i_f (fun z => h88 (e2.mpr z.2.1))]; exact hz.p)
          | (rw [b2i_f (fun z => h70 (e1.mpr z.1))]; exact hz.p))
        · have d1 := e1.mp h70
          have d2 := e2.mp h87
          refine R_aload_n (i := 0) hC dX11_scaled_90 rfl rfl (R_aload_n (i := 0) hC dX11_scaled_91 rfl rfl (R_gR hC dX11_scaled_92 fl_X11_13 L_M rfl (R_aload_n (i := 0) hC dX11_scaled_95 rfl rfl (R_gR hC dX11_scaled_96 fl_X11_65 L_M rfl ?_))))
          refine R_V2g hC hR dX11_scaled_99 MV_X11_isScaled ml_X11_286 L_M rfl (s_isScaled (sA (sG σ i_M 0 0) i_m_goal g) x i_m_now i_m_goal L_m_now L_m_goal (by decide) (by decide) (tT α) (hz.T ok) ((tK α).2 q).2.2 (fun r c hr hc => ⟨by rw [sA_eq, hg _ (by omega)]; exact hK.2.2 r c (by omega) (by omega), o4 r c (by omega) (by omega)⟩)) (by decide) ⟨by decide, by decide⟩ (Nat.le_of_ble_eq_true rfl) (fun r w1 hq => ?_)
          obtain ⟨rfl, g2, rfl⟩ := hq
          have hz2 : MZ σ (sA (sA (sG σ i_M 0 0) i_m_goal g) i_m_factor g2) α := hz.a (by decide) (by decide)
          refine R_if_eq hC 109 dX11_scaled_102 (by decide) (fun h102 => ?_) (fun h102 => ?_)
          · refine R_iconst (v := 0) hC dX11_scaled_109 (by decide) ?_
            exact R_iret hC hT dX11_scaled_110 rfl (by
            rw [eo]
            first
            | (rw [b2i_t ⟨d1, d2, b2i_ne h102⟩]; exact hz2.p)
            | (have h103 := b2i_0 h102; rw [b2i_f (fun z => h103 z.2.2)]; exact hz2.p)
            | (have h88 := h87; rw [b2i_f (fun z => h88 (e2.mpr z.2.1))]; exact hz.p)
            | (rw [b2i_f (fun z => h70 (e1.mpr z.1))]; exact hz.p))
          · refine R_iconst (v := 1) hC dX11_scaled_105 (by decide) (R_goto hC 110 dX11_scaled_106 (by decide) ?_)
            exact R_iret hC hT dX11_scaled_110 rfl (by
            rw [eo]
            first
            | (rw [b2i_t ⟨d1, d2, b2i_ne h102⟩]; exact hz2.p)
            | (have h103 := b2i_0 h102; rw [b2i_f (fun z => h103 z.2.2)]; exact hz2.p)
            | (have h88 := h87; rw [b2i_f (fun z => h88 (e2.mpr z.2.1))]; exact hz.p)
            | (rw [b2i_f (fun z => h70 (e1.mpr z.1))]; exact hz.p))
    · intro n hn ih g hg
      refine R_iload_n (i := 2) hC dX11_scaled_27 rfl rfl (R_bipush (v := 38) hC dX11_scaled_28 (by decide) ?_)
      refine R_icmp_ge hC 56 dX11_scaled_30 (by decide) (fun h => absurd h (nI_ge (b := 38) hn (by decide))) (fun _ => ?_)
      refine R_aload_n (i := 0) hC dX11_scaled_33 rfl rfl (R_gR hC dX11_scaled_34 fl_X11_65 L_M rfl (R_iload_n (i := 2) hC dX11_scaled_37 rfl rfl (R_aload_n (i := 0) hC dX11_scaled_38 rfl rfl (R_gR hC dX11_scaled_39 fl_X11_23 L_M rfl (R_bipush (v := 38) hC dX11_scaled_42 (by decide) (R_iload_n (i := 1) hC dX11_scaled_44 rfl rfl (R_imul hC dX11_scaled_45 ?_)))))))
      refine R_iload_n (i := 2) hC dX11_scaled_46 rfl rfl (R_iadd hC dX11_scaled_47 (R_aI hC dX11_scaled_48 L_m_kept (38 * q + n) (by rw [ek]; exact n38 q n) (by omega) (by decide) ?_))
      refine R_top (y := σ.2.2 i_m_kept (38 * q + n)) (by rw [sA_ne (by decide)]; rfl) ?_
      refine R_sI hC dX11_scaled_49 L_m_goal _ rfl (by omega) (by decide) ?_
      refine R_wd (by rw [sA_eq, sA_sA]) ?_
      refine R_iinc hC dX11_scaled_50 rfl (inc1 _) (by decide) rfl (R_goto hC 27 dX11_scaled_53 (by decide) ?_)
      exact ih _ (fun j hj => by
      by_cases e : j = n
      · rw [upd, if_pos e, e]
      · rw [upd, if_neg e]; exact hg j (by omega))
  refine R_aload_n (i := 0) hC dX11_scaled_0 rfl rfl (R_iconst (v := 0) hC dX11_scaled_1 (by decide) (R_pI hC dX11_scaled_2 fl_X11_83 L_M rfl (R_aload_n (i := 0) hC dX11_scaled_5 rfl rfl (R_gR hC dX11_scaled_6 fl_X11_13 L_M rfl (R_bipush (v := 36) hC dX11_scaled_9 (by decide) (R_aI hC dX11_scaled_11 L_m_now 36 rfl (by decide) (by decide) ?_))))))
  refine R_top (y := nI (tT α).1) (hω.R) ?_
  refine R_if_eq hC 23 dX11_scaled_12 (by decide) (fun h12 => ?_) (fun h12 => ?_)
  · refine R_iconst (v := (-1)) hC dX11_scaled_23 (by decide) ?_
    exact R_iret hC hT dX11_scaled_24 rfl (by
    first
    | (rw [no (fun z => z.1 ((T0_iff ok).mp h12))]; exact hω.p)
    | (rw [no (fun z => b2i_0 h20 z.2)]; exact hω.p))
  · refine R_aload_n (i := 0) hC dX11_scaled_15 rfl rfl (R_iload_n (i := 1) hC dX11_scaled_16 rfl rfl ?_)
    refine R_V1i hC hR dX11_scaled_17 MV_X11_isKept ml_X11_192 L_M rfl (s_isKept _ _ _) (by decide) ⟨by decide, by decide⟩ (Nat.le_of_ble_eq_true rfl) ?_
    rw [eK]
    refine R_if_ne hC 25 dX11_scaled_20 (by decide) (fun h20 => ?_) (fun h20 => ?_)
    · have hin : inR (tK α).1 k := b2i_ne h20
      obtain ⟨q, ek, hq, hq2⟩ := inR_i hin
      have n0 : ¬ (tT α).1 = 0 := fun z => h12 ((T0_iff ok).mpr z)
      have eo : opScaled α k = b2i (((tK α).2 q).1 = (tT α).1 ∧ ((tK α).2 q).2.1 = (tT α).2.1 ∧ scl (tT α) ((tK α).2 q).2.2) := by unfold opScaled; rw [if_pos ⟨n0, hin⟩, ek, nI_clamp hq2]
      refine R_iconst (v := 0) hC dX11_scaled_25 (by decide) (R_istore_n (i := 2) hC dX11_scaled_26 rfl (by decide) rfl ?_)
      (refine R_wd (sA_self (sG σ i_M 0 0) i_m_goal).symm ?_; exact loop q ek hq eo 0 (Nat.zero_le _) _ (fun j hj => absurd hj (Nat.not_lt_zero _)))
    · refine R_iconst (v := (-1)) hC dX11_scaled_23 (by decide) ?_
      exact R_iret hC hT dX11_scaled_24 rfl (by
      first
      | (rw [no (fun z => z.1 ((T0_iff ok).mp h12))]; exact hω.p)
      | (rw [no (fun z => b2i_0 h20 z.2)]; exact hω.p))

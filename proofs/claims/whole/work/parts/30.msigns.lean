theorem dX11_laysSigns_0 : decode cX11_laysSigns 0 = .ok (.aload_n 0, 1) := by decide +kernel
theorem dX11_laysSigns_1 : decode cX11_laysSigns 1 = .ok (.getfield 13, 3) := by decide +kernel
theorem dX11_laysSigns_4 : decode cX11_laysSigns 4 = .ok (.aload_n 0, 1) := by decide +kernel
theorem dX11_laysSigns_5 : decode cX11_laysSigns 5 = .ok (.getfield 59, 3) := by decide +kernel
theorem dX11_laysSigns_8 : decode cX11_laysSigns 8 = .ok (.invokestatic 170, 3) := by decide +kernel
theorem dX11_laysSigns_11 : decode cX11_laysSigns 11 = .ok (.iconst 0, 1) := by decide +kernel
theorem dX11_laysSigns_12 : decode cX11_laysSigns 12 = .ok (.istore_n 1, 1) := by decide +kernel
theorem dX11_laysSigns_13 : decode cX11_laysSigns 13 = .ok (.iload_n 1, 1) := by decide +kernel
theorem dX11_laysSigns_14 : decode cX11_laysSigns 14 = .ok (.bipush 12, 2) := by decide +kernel
theorem dX11_laysSigns_16 : decode cX11_laysSigns 16 = .ok (.if_icmp .ge 16, 3) := by decide +kernel
theorem dX11_laysSigns_19 : decode cX11_laysSigns 19 = .ok (.aload_n 0, 1) := by decide +kernel
theorem dX11_laysSigns_20 : decode cX11_laysSigns 20 = .ok (.getfield 53, 3) := by decide +kernel
theorem dX11_laysSigns_23 : decode cX11_laysSigns 23 = .ok (.iload_n 1, 1) := by decide +kernel
theorem dX11_laysSigns_24 : decode cX11_laysSigns 24 = .ok (.iload_n 1, 1) := by decide +kernel
theorem dX11_laysSigns_25 : decode cX11_laysSigns 25 = .ok (.iastore, 1) := by decide +kernel
theorem dX11_laysSigns_26 : decode cX11_laysSigns 26 = .ok (.iinc 1 1, 3) := by decide +kernel
theorem dX11_laysSigns_29 : decode cX11_laysSigns 29 = .ok (.goto (-16), 3) := by decide +kernel
theorem dX11_laysSigns_32 : decode cX11_laysSigns 32 = .ok (.iconst 0, 1) := by decide +kernel
theorem dX11_laysSigns_33 : decode cX11_laysSigns 33 = .ok (.istore_n 1, 1) := by decide +kernel
theorem dX11_laysSigns_34 : decode cX11_laysSigns 34 = .ok (.iconst 0, 1) := by decide +kernel
theorem dX11_laysSigns_35 : decode cX11_laysSigns 35 = .ok (.istore_n 2, 1) := by decide +kernel
theorem dX11_laysSigns_36 : decode cX11_laysSigns 36 = .ok (.iload_n 2, 1) := by decide +kernel
theorem dX11_laysSigns_37 : decode cX11_laysSigns 37 = .ok (.aload_n 0, 1) := by decide +kernel
theorem dX11_laysSigns_38 : decode cX11_laysSigns 38 = .ok (.getfield 13, 3) := by decide +kernel
theorem dX11_laysSigns_41 : decode cX11_laysSigns 41 = .ok (.bipush 36, 2) := by decide +kernel
theorem dX11_laysSigns_43 : decode cX11_laysSigns 43 = .ok (.iaload, 1) := by decide +kernel
theorem dX11_laysSigns_44 : decode cX11_laysSigns 44 = .ok (.if_icmp .ge 147, 3) := by decide +kernel
theorem dX11_laysSigns_47 : decode cX11_laysSigns 47 = .ok (.iconst 0, 1) := by decide +kernel
theorem dX11_laysSigns_48 : decode cX11_laysSigns 48 = .ok (.istore_n 3, 1) := by decide +kernel
theorem dX11_laysSigns_49 : decode cX11_laysSigns 49 = .ok (.iload_n 3, 1) := by decide +kernel
theorem dX11_laysSigns_50 : decode cX11_laysSigns 50 = .ok (.aload_n 0, 1) := by decide +kernel
theorem dX11_laysSigns_51 : decode cX11_laysSigns 51 = .ok (.getfield 13, 3) := by decide +kernel
theorem dX11_laysSigns_54 : decode cX11_laysSigns 54 = .ok (.bipush 37, 2) := by decide +kernel
theorem dX11_laysSigns_56 : decode cX11_laysSigns 56 = .ok (.iaload, 1) := by decide +kernel
theorem dX11_laysSigns_57 : decode cX11_laysSigns 57 = .ok (.if_icmp .ge 128, 3) := by decide +kernel
theorem dX11_laysSigns_60 : decode cX11_laysSigns 60 = .ok (.aload_n 0, 1) := by decide +kernel
theorem dX11_laysSigns_61 : decode cX11_laysSigns 61 = .ok (.getfield 13, 3) := by decide +kernel
theorem dX11_laysSigns_64 : decode cX11_laysSigns 64 = .ok (.bipush 6, 2) := by decide +kernel
theorem dX11_laysSigns_66 : decode cX11_laysSigns 66 = .ok (.iload_n 2, 1) := by decide +kernel
theorem dX11_laysSigns_67 : decode cX11_laysSigns 67 = .ok (.imul, 1) := by decide +kernel
theorem dX11_laysSigns_68 : decode cX11_laysSigns 68 = .ok (.iload_n 3, 1) := by decide +kernel
theorem dX11_laysSigns_69 : decode cX11_laysSigns 69 = .ok (.iadd, 1) := by decide +kernel
theorem dX11_laysSigns_70 : decode cX11_laysSigns 70 = .ok (.iaload, 1) := by decide +kernel
theorem dX11_laysSigns_71 : decode cX11_laysSigns 71 = .ok (.ifCond .ne 6, 3) := by decide +kernel
theorem dX11_laysSigns_74 : decode cX11_laysSigns 74 = .ok (.goto 105, 3) := by decide +kernel
theorem dX11_laysSigns_77 : decode cX11_laysSigns 77 = .ok (.aload_n 0, 1) := by decide +kernel
theorem dX11_laysSigns_78 : decode cX11_laysSigns 78 = .ok (.getfield 53, 3) := by decide +kernel
theorem dX11_laysSigns_81 : decode cX11_laysSigns 81 = .ok (.iload_n 2, 1) := by decide +kernel
theorem dX11_laysSigns_82 : decode cX11_laysSigns 82 = .ok (.iaload, 1) := by decide +kernel
theorem dX11_laysSigns_83 : decode cX11_laysSigns 83 = .ok (.istore 4, 2) := by decide +kernel
theorem dX11_laysSigns_85 : decode cX11_laysSigns 85 = .ok (.aload_n 0, 1) := by decide +kernel
theorem dX11_laysSigns_86 : decode cX11_laysSigns 86 = .ok (.getfield 53, 3) := by decide +kernel
theorem dX11_laysSigns_89 : decode cX11_laysSigns 89 = .ok (.bipush 6, 2) := by decide +kernel
theorem dX11_laysSigns_91 : decode cX11_laysSigns 91 = .ok (.iload_n 3, 1) := by decide +kernel
theorem dX11_laysSigns_92 : decode cX11_laysSigns 92 = .ok (.iadd, 1) := by decide +kernel
theorem dX11_laysSigns_93 : decode cX11_laysSigns 93 = .ok (.iaload, 1) := by decide +kernel
theorem dX11_laysSigns_94 : decode cX11_laysSigns 94 = .ok (.istore 5, 2) := by decide +kernel
theorem dX11_laysSigns_96 : decode cX11_laysSigns 96 = .ok (.aload_n 0, 1) := by decide +kernel
theorem dX11_laysSigns_97 : decode cX11_laysSigns 97 = .ok (.getfield 59, 3) := by decide +kernel
theorem dX11_laysSigns_100 : decode cX11_laysSigns 100 = .ok (.bipush 6, 2) := by decide +kernel
theorem dX11_laysSigns_102 : decode cX11_laysSigns 102 = .ok (.iload_n 2, 1) := by decide +kernel
theorem dX11_laysSigns_103 : decode cX11_laysSigns 103 = .ok (.imul, 1) := by decide +kernel
theorem dX11_laysSigns_104 : decode cX11_laysSigns 104 = .ok (.iload_n 3, 1) := by decide +kernel
theorem dX11_laysSigns_105 : decode cX11_laysSigns 105 = .ok (.iadd, 1) := by decide +kernel
theorem dX11_laysSigns_106 : decode cX11_laysSigns 106 = .ok (.iload 4, 2) := by decide +kernel
theorem dX11_laysSigns_108 : decode cX11_laysSigns 108 = .ok (.iload 5, 2) := by decide +kernel
theorem dX11_laysSigns_110 : decode cX11_laysSigns 110 = .ok (.if_icmp .ne 8, 3) := by decide +kernel
theorem dX11_laysSigns_113 : decode cX11_laysSigns 113 = .ok (.bipush 9, 2) := by decide +kernel
theorem dX11_laysSigns_115 : decode cX11_laysSigns 115 = .ok (.goto 4, 3) := by decide +kernel
theorem dX11_laysSigns_118 : decode cX11_laysSigns 118 = .ok (.iconst 1, 1) := by decide +kernel
theorem dX11_laysSigns_119 : decode cX11_laysSigns 119 = .ok (.iastore, 1) := by decide +kernel
theorem dX11_laysSigns_120 : decode cX11_laysSigns 120 = .ok (.iload_n 1, 1) := by decide +kernel
theorem dX11_laysSigns_121 : decode cX11_laysSigns 121 = .ok (.iload 4, 2) := by decide +kernel
theorem dX11_laysSigns_123 : decode cX11_laysSigns 123 = .ok (.iload 5, 2) := by decide +kernel
theorem dX11_laysSigns_125 : decode cX11_laysSigns 125 = .ok (.if_icmp .ne 7, 3) := by decide +kernel
theorem dX11_laysSigns_128 : decode cX11_laysSigns 128 = .ok (.iconst 1, 1) := by decide +kernel
theorem dX11_laysSigns_129 : decode cX11_laysSigns 129 = .ok (.goto 4, 3) := by decide +kernel
theorem dX11_laysSigns_132 : decode cX11_laysSigns 132 = .ok (.iconst 0, 1) := by decide +kernel
theorem dX11_laysSigns_133 : decode cX11_laysSigns 133 = .ok (.iadd, 1) := by decide +kernel
theorem dX11_laysSigns_134 : decode cX11_laysSigns 134 = .ok (.istore_n 1, 1) := by decide +kernel
theorem dX11_laysSigns_135 : decode cX11_laysSigns 135 = .ok (.iconst 0, 1) := by decide +kernel
theorem dX11_laysSigns_136 : decode cX11_laysSigns 136 = .ok (.istore 6, 2) := by decide +kernel
theorem dX11_laysSigns_138 : decode cX11_laysSigns 138 = .ok (.iload 6, 2) := by decide +kernel
theorem dX11_laysSigns_140 : decode cX11_laysSigns 140 = .ok (.bipush 12, 2) := by decide +kernel
theorem dX11_laysSigns_142 : decode cX11_laysSigns 142 = .ok (.if_icmp .ge 37, 3) := by decide +kernel
theorem dX11_laysSigns_145 : decode cX11_laysSigns 145 = .ok (.iload 4, 2) := by decide +kernel
theorem dX11_laysSigns_147 : decode cX11_laysSigns 147 = .ok (.iload 5, 2) := by decide +kernel
theorem dX11_laysSigns_149 : decode cX11_laysSigns 149 = .ok (.if_icmp .eq 30, 3) := by decide +kernel
theorem dX11_laysSigns_152 : decode cX11_laysSigns 152 = .ok (.aload_n 0, 1) := by decide +kernel
theorem dX11_laysSigns_153 : decode cX11_laysSigns 153 = .ok (.getfield 53, 3) := by decide +kernel
theorem dX11_laysSigns_156 : decode cX11_laysSigns 156 = .ok (.iload 6, 2) := by decide +kernel
theorem dX11_laysSigns_158 : decode cX11_laysSigns 158 = .ok (.iaload, 1) := by decide +kernel
theorem dX11_laysSigns_159 : decode cX11_laysSigns 159 = .ok (.iload 5, 2) := by decide +kernel
theorem dX11_laysSigns_161 : decode cX11_laysSigns 161 = .ok (.if_icmp .ne 12, 3) := by decide +kernel
theorem dX11_laysSigns_164 : decode cX11_laysSigns 164 = .ok (.aload_n 0, 1) := by decide +kernel
theorem dX11_laysSigns_165 : decode cX11_laysSigns 165 = .ok (.getfield 53, 3) := by decide +kernel
theorem dX11_laysSigns_168 : decode cX11_laysSigns 168 = .ok (.iload 6, 2) := by decide +kernel
theorem dX11_laysSigns_170 : decode cX11_laysSigns 170 = .ok (.iload 4, 2) := by decide +kernel
theorem dX11_laysSigns_172 : decode cX11_laysSigns 172 = .ok (.iastore, 1) := by decide +kernel
theorem dX11_laysSigns_173 : decode cX11_laysSigns 173 = .ok (.iinc 6 1, 3) := by decide +kernel
theorem dX11_laysSigns_176 : decode cX11_laysSigns 176 = .ok (.goto (-38), 3) := by decide +kernel
theorem dX11_laysSigns_179 : decode cX11_laysSigns 179 = .ok (.iinc 3 1, 3) := by decide +kernel
theorem dX11_laysSigns_182 : decode cX11_laysSigns 182 = .ok (.goto (-133), 3) := by decide +kernel
theorem dX11_laysSigns_185 : decode cX11_laysSigns 185 = .ok (.iinc 2 1, 3) := by decide +kernel
theorem dX11_laysSigns_188 : decode cX11_laysSigns 188 = .ok (.goto (-152), 3) := by decide +kernel
theorem dX11_laysSigns_191 : decode cX11_laysSigns 191 = .ok (.iload_n 1, 1) := by decide +kernel
theorem dX11_laysSigns_192 : decode cX11_laysSigns 192 = .ok (.ifCond .le 222, 3) := by decide +kernel
theorem dX11_laysSigns_195 : decode cX11_laysSigns 195 = .ok (.iconst (-1), 1) := by decide +kernel
theorem dX11_laysSigns_196 : decode cX11_laysSigns 196 = .ok (.istore_n 2, 1) := by decide +kernel
theorem dX11_laysSigns_197 : decode cX11_laysSigns 197 = .ok (.iconst 0, 1) := by decide +kernel
theorem dX11_laysSigns_198 : decode cX11_laysSigns 198 = .ok (.istore_n 3, 1) := by decide +kernel
theorem dX11_laysSigns_199 : decode cX11_laysSigns 199 = .ok (.iconst 0, 1) := by decide +kernel
theorem dX11_laysSigns_200 : decode cX11_laysSigns 200 = .ok (.istore 4, 2) := by decide +kernel
theorem dX11_laysSigns_202 : decode cX11_laysSigns 202 = .ok (.iload 4, 2) := by decide +kernel
theorem dX11_laysSigns_204 : decode cX11_laysSigns 204 = .ok (.bipush 36, 2) := by decide +kernel
theorem dX11_laysSigns_206 : decode cX11_laysSigns 206 = .ok (.if_icmp .ge 92, 3) := by decide +kernel
theorem dX11_laysSigns_209 : decode cX11_laysSigns 209 = .ok (.iload 4, 2) := by decide +kernel
theorem dX11_laysSigns_211 : decode cX11_laysSigns 211 = .ok (.bipush 6, 2) := by decide +kernel
theorem dX11_laysSigns_213 : decode cX11_laysSigns 213 = .ok (.idiv, 1) := by decide +kernel
theorem dX11_laysSigns_214 : decode cX11_laysSigns 214 = .ok (.istore 5, 2) := by decide +kernel
theorem dX11_laysSigns_216 : decode cX11_laysSigns 216 = .ok (.iload 4, 2) := by decide +kernel
theorem dX11_laysSigns_218 : decode cX11_laysSigns 218 = .ok (.bipush 6, 2) := by decide +kernel
theorem dX11_laysSigns_220 : decode cX11_laysSigns 220 = .ok (.irem, 1) := by decide +kernel
theorem dX11_laysSigns_221 : decode cX11_laysSigns 221 = .ok (.istore 6, 2) := by decide +kernel
theorem dX11_laysSigns_223 : decode cX11_laysSigns 223 = .ok (.aload_n 0, 1) := by decide +kernel
theorem dX11_laysSigns_224 : decode cX11_laysSigns 224 = .ok (.aload_n 0, 1) := by decide +kernel
theorem dX11_laysSigns_225 : decode cX11_laysSigns 225 = .ok (.getfield 13, 3) := by decide +kernel
theorem dX11_laysSigns_228 : decode cX11_laysSigns 228 = .ok (.iload 5, 2) := by decide +kernel
theorem dX11_laysSigns_230 : decode cX11_laysSigns 230 = .ok (.iload 6, 2) := by decide +kernel
theorem dX11_laysSigns_232 : decode cX11_laysSigns 232 = .ok (.invokevirtual 158, 3) := by decide +kernel
theorem dX11_laysSigns_235 : decode cX11_laysSigns 235 = .ok (.ifCond .eq 57, 3) := by decide +kernel
theorem dX11_laysSigns_238 : decode cX11_laysSigns 238 = .ok (.aload_n 0, 1) := by decide +kernel
theorem dX11_laysSigns_239 : decode cX11_laysSigns 239 = .ok (.getfield 59, 3) := by decide +kernel
theorem dX11_laysSigns_242 : decode cX11_laysSigns 242 = .ok (.iload 4, 2) := by decide +kernel
theorem dX11_laysSigns_244 : decode cX11_laysSigns 244 = .ok (.iaload, 1) := by decide +kernel
theorem dX11_laysSigns_245 : decode cX11_laysSigns 245 = .ok (.bipush 9, 2) := by decide +kernel
theorem dX11_laysSigns_247 : decode cX11_laysSigns 247 = .ok (.if_icmp .eq 6, 3) := by decide +kernel
theorem dX11_laysSigns_250 : decode cX11_laysSigns 250 = .ok (.goto 42, 3) := by decide +kernel
theorem dX11_laysSigns_253 : decode cX11_laysSigns 253 = .ok (.aload_n 0, 1) := by decide +kernel
theorem dX11_laysSigns_254 : decode cX11_laysSigns 254 = .ok (.bipush 6, 2) := by decide +kernel
theorem dX11_laysSigns_256 : decode cX11_laysSigns 256 = .ok (.iload 6, 2) := by decide +kernel
theorem dX11_laysSigns_258 : decode cX11_laysSigns 258 = .ok (.iadd, 1) := by decide +kernel
theorem dX11_laysSigns_259 : decode cX11_laysSigns 259 = .ok (.invokevirtual 277, 3) := by decide +kernel
theorem dX11_laysSigns_262 : decode cX11_laysSigns 262 = .ok (.iload_n 2, 1) := by decide +kernel
theorem dX11_laysSigns_263 : decode cX11_laysSigns 263 = .ok (.iconst (-1), 1) := by decide +kernel
theorem dX11_laysSigns_264 : decode cX11_laysSigns 264 = .ok (.if_icmp .eq 17, 3) := by decide +kernel
theorem dX11_laysSigns_267 : decode cX11_laysSigns 267 = .ok (.aload_n 0, 1) := by decide +kernel
theorem dX11_laysSigns_268 : decode cX11_laysSigns 268 = .ok (.getfield 56, 3) := by decide +kernel
theorem dX11_laysSigns_271 : decode cX11_laysSigns 271 = .ok (.iload 5, 2) := by decide +kernel
theorem dX11_laysSigns_273 : decode cX11_laysSigns 273 = .ok (.iaload, 1) := by decide +kernel
theorem dX11_laysSigns_274 : decode cX11_laysSigns 274 = .ok (.iload_n 3, 1) := by decide +kernel
theorem dX11_laysSigns_275 : decode cX11_laysSigns 275 = .ok (.if_icmp .lt 6, 3) := by decide +kernel
theorem dX11_laysSigns_278 : decode cX11_laysSigns 278 = .ok (.goto 14, 3) := by decide +kernel
theorem dX11_laysSigns_281 : decode cX11_laysSigns 281 = .ok (.iload 4, 2) := by decide +kernel
theorem dX11_laysSigns_283 : decode cX11_laysSigns 283 = .ok (.istore_n 2, 1) := by decide +kernel
theorem dX11_laysSigns_284 : decode cX11_laysSigns 284 = .ok (.aload_n 0, 1) := by decide +kernel
theorem dX11_laysSigns_285 : decode cX11_laysSigns 285 = .ok (.getfield 56, 3) := by decide +kernel
theorem dX11_laysSigns_288 : decode cX11_laysSigns 288 = .ok (.iload 5, 2) := by decide +kernel
theorem dX11_laysSigns_290 : decode cX11_laysSigns 290 = .ok (.iaload, 1) := by decide +kernel
theorem dX11_laysSigns_291 : decode cX11_laysSigns 291 = .ok (.istore_n 3, 1) := by decide +kernel
theorem dX11_laysSigns_292 : decode cX11_laysSigns 292 = .ok (.iinc 4 1, 3) := by decide +kernel
theorem dX11_laysSigns_295 : decode cX11_laysSigns 295 = .ok (.goto (-93), 3) := by decide +kernel
theorem dX11_laysSigns_298 : decode cX11_laysSigns 298 = .ok (.bipush 6, 2) := by decide +kernel
theorem dX11_laysSigns_300 : decode cX11_laysSigns 300 = .ok (.iload_n 2, 1) := by decide +kernel
theorem dX11_laysSigns_301 : decode cX11_laysSigns 301 = .ok (.bipush 6, 2) := by decide +kernel
theorem dX11_laysSigns_303 : decode cX11_laysSigns 303 = .ok (.irem, 1) := by decide +kernel
theorem dX11_laysSigns_304 : decode cX11_laysSigns 304 = .ok (.iadd, 1) := by decide +kernel
theorem dX11_laysSigns_305 : decode cX11_laysSigns 305 = .ok (.istore 4, 2) := by decide +kernel
theorem dX11_laysSigns_307 : decode cX11_laysSigns 307 = .ok (.aload_n 0, 1) := by decide +kernel
theorem dX11_laysSigns_308 : decode cX11_laysSigns 308 = .ok (.iload 4, 2) := by decide +kernel
theorem dX11_laysSigns_310 : decode cX11_laysSigns 310 = .ok (.invokevirtual 277, 3) := by decide +kernel
theorem dX11_laysSigns_313 : decode cX11_laysSigns 313 = .ok (.iconst 0, 1) := by decide +kernel
theorem dX11_laysSigns_314 : decode cX11_laysSigns 314 = .ok (.istore 5, 2) := by decide +kernel
theorem dX11_laysSigns_316 : decode cX11_laysSigns 316 = .ok (.iload_n 2, 1) := by decide +kernel
theorem dX11_laysSigns_317 : decode cX11_laysSigns 317 = .ok (.bipush 6, 2) := by decide +kernel
theorem dX11_laysSigns_319 : decode cX11_laysSigns 319 = .ok (.idiv, 1) := by decide +kernel
theorem dX11_laysSigns_320 : decode cX11_laysSigns 320 = .ok (.istore 6, 2) := by decide +kernel
theorem dX11_laysSigns_322 : decode cX11_laysSigns 322 = .ok (.iload 6, 2) := by decide +kernel
theorem dX11_laysSigns_324 : decode cX11_laysSigns 324 = .ok (.iload 4, 2) := by decide +kernel
theorem dX11_laysSigns_326 : decode cX11_laysSigns 326 = .ok (.if_icmp .eq 62, 3) := by decide +kernel
theorem dX11_laysSigns_329 : decode cX11_laysSigns 329 = .ok (.iconst 0, 1) := by decide +kernel
theorem dX11_laysSigns_330 : decode cX11_laysSigns 330 = .ok (.istore 7, 2) := by decide +kernel
theorem dX11_laysSigns_332 : decode cX11_laysSigns 332 = .ok (.aload_n 0, 1) := by decide +kernel
theorem dX11_laysSigns_333 : decode cX11_laysSigns 333 = .ok (.iload 6, 2) := by decide +kernel
theorem dX11_laysSigns_335 : decode cX11_laysSigns 335 = .ok (.iload 7, 2) := by decide +kernel
theorem dX11_laysSigns_337 : decode cX11_laysSigns 337 = .ok (.invokevirtual 274, 3) := by decide +kernel
theorem dX11_laysSigns_340 : decode cX11_laysSigns 340 = .ok (.ifCond .eq 22, 3) := by decide +kernel
theorem dX11_laysSigns_343 : decode cX11_laysSigns 343 = .ok (.aload_n 0, 1) := by decide +kernel
theorem dX11_laysSigns_344 : decode cX11_laysSigns 344 = .ok (.getfield 56, 3) := by decide +kernel
theorem dX11_laysSigns_347 : decode cX11_laysSigns 347 = .ok (.iload 7, 2) := by decide +kernel
theorem dX11_laysSigns_349 : decode cX11_laysSigns 349 = .ok (.iaload, 1) := by decide +kernel
theorem dX11_laysSigns_350 : decode cX11_laysSigns 350 = .ok (.aload_n 0, 1) := by decide +kernel
theorem dX11_laysSigns_351 : decode cX11_laysSigns 351 = .ok (.getfield 56, 3) := by decide +kernel
theorem dX11_laysSigns_354 : decode cX11_laysSigns 354 = .ok (.iload 6, 2) := by decide +kernel
theorem dX11_laysSigns_356 : decode cX11_laysSigns 356 = .ok (.iaload, 1) := by decide +kernel
theorem dX11_laysSigns_357 : decode cX11_laysSigns 357 = .ok (.iconst 1, 1) := by decide +kernel
theorem dX11_laysSigns_358 : decode cX11_laysSigns 358 = .ok (.isub, 1) := by decide +kernel
theorem dX11_laysSigns_359 : decode cX11_laysSigns 359 = .ok (.if_icmp .eq 9, 3) := by decide +kernel
theorem dX11_laysSigns_362 : decode cX11_laysSigns 362 = .ok (.iinc 7 1, 3) := by decide +kernel
theorem dX11_laysSigns_365 : decode cX11_laysSigns 365 = .ok (.goto (-33), 3) := by decide +kernel
theorem dX11_laysSigns_368 : decode cX11_laysSigns 368 = .ok (.iload 5, 2) := by decide +kernel
theorem dX11_laysSigns_370 : decode cX11_laysSigns 370 = .ok (.aload_n 0, 1) := by decide +kernel
theorem dX11_laysSigns_371 : decode cX11_laysSigns 371 = .ok (.iload 6, 2) := by decide +kernel
theorem dX11_laysSigns_373 : decode cX11_laysSigns 373 = .ok (.iload 7, 2) := by decide +kernel
theorem dX11_laysSigns_375 : decode cX11_laysSigns 375 = .ok (.invokevirtual 280, 3) := by decide +kernel
theorem dX11_laysSigns_378 : decode cX11_laysSigns 378 = .ok (.iadd, 1) := by decide +kernel
theorem dX11_laysSigns_379 : decode cX11_laysSigns 379 = .ok (.istore 5, 2) := by decide +kernel
theorem dX11_laysSigns_381 : decode cX11_laysSigns 381 = .ok (.iload 7, 2) := by decide +kernel
theorem dX11_laysSigns_383 : decode cX11_laysSigns 383 = .ok (.istore 6, 2) := by decide +kernel
theorem dX11_laysSigns_385 : decode cX11_laysSigns 385 = .ok (.goto (-63), 3) := by decide +kernel
theorem dX11_laysSigns_388 : decode cX11_laysSigns 388 = .ok (.aload_n 0, 1) := by decide +kernel
theorem dX11_laysSigns_389 : decode cX11_laysSigns 389 = .ok (.getfield 59, 3) := by decide +kernel
theorem dX11_laysSigns_392 : decode cX11_laysSigns 392 = .ok (.iload_n 2, 1) := by decide +kernel
theorem dX11_laysSigns_393 : decode cX11_laysSigns 393 = .ok (.iload 5, 2) := by decide +kernel
theorem dX11_laysSigns_395 : decode cX11_laysSigns 395 = .ok (.iconst 1, 1) := by decide +kernel
theorem dX11_laysSigns_396 : decode cX11_laysSigns 396 = .ok (.iadd, 1) := by decide +kernel
theorem dX11_laysSigns_397 : decode cX11_laysSigns 397 = .ok (.iconst 4, 1) := by decide +kernel
theorem dX11_laysSigns_398 : decode cX11_laysSigns 398 = .ok (.irem, 1) := by decide +kernel
theorem dX11_laysSigns_399 : decode cX11_laysSigns 399 = .ok (.ifCond .ne 7, 3) := by decide +kernel
theorem dX11_laysSigns_402 : decode cX11_laysSigns 402 = .ok (.iconst 1, 1) := by decide +kernel
theorem dX11_laysSigns_403 : decode cX11_laysSigns 403 = .ok (.goto 4, 3) := by decide +kernel
theorem dX11_laysSigns_406 : decode cX11_laysSigns 406 = .ok (.iconst (-1), 1) := by decide +kernel
theorem dX11_laysSigns_407 : decode cX11_laysSigns 407 = .ok (.iastore, 1) := by decide +kernel
theorem dX11_laysSigns_408 : decode cX11_laysSigns 408 = .ok (.iinc 1 (-1), 3) := by decide +kernel
theorem dX11_laysSigns_411 : decode cX11_laysSigns 411 = .ok (.goto (-220), 3) := by decide +kernel
theorem dX11_laysSigns_414 : decode cX11_laysSigns 414 = .ok (.return_, 1) := by decide +kernel
theorem dX11_signed_0 : decode cX11_signed 0 = .ok (.aload_n 0, 1) := by decide +kernel
theorem dX11_signed_1 : decode cX11_signed 1 = .ok (.iconst 0, 1) := by decide +kernel
theorem dX11_signed_2 : decode cX11_signed 2 = .ok (.putfield 83, 3) := by decide +kernel
theorem dX11_signed_5 : decode cX11_signed 5 = .ok (.aload_n 0, 1) := by decide +kernel
theorem dX11_signed_6 : decode cX11_signed 6 = .ok (.aload_n 0, 1) := by decide +kernel
theorem dX11_signed_7 : decode cX11_signed 7 = .ok (.getfield 13, 3) := by decide +kernel
theorem dX11_signed_10 : decode cX11_signed 10 = .ok (.iload_n 1, 1) := by decide +kernel
theorem dX11_signed_11 : decode cX11_signed 11 = .ok (.iload_n 2, 1) := by decide +kernel
theorem dX11_signed_12 : decode cX11_signed 12 = .ok (.invokevirtual 158, 3) := by decide +kernel
theorem dX11_signed_15 : decode cX11_signed 15 = .ok (.ifCond .ne 6, 3) := by decide +kernel
theorem dX11_signed_18 : decode cX11_signed 18 = .ok (.ldc 133, 2) := by decide +kernel
theorem dX11_signed_20 : decode cX11_signed 20 = .ok (.ireturn, 1) := by decide +kernel
theorem dX11_signed_21 : decode cX11_signed 21 = .ok (.aload_n 0, 1) := by decide +kernel
theorem dX11_signed_22 : decode cX11_signed 22 = .ok (.invokevirtual 283, 3) := by decide +kernel
theorem dX11_signed_25 : decode cX11_signed 25 = .ok (.aload_n 0, 1) := by decide +kernel
theorem dX11_signed_26 : decode cX11_signed 26 = .ok (.getfield 59, 3) := by decide +kernel
theorem dX11_signed_29 : decode cX11_signed 29 = .ok (.bipush 6, 2) := by decide +kernel
theorem dX11_signed_31 : decode cX11_signed 31 = .ok (.iload_n 1, 1) := by decide +kernel
theorem dX11_signed_32 : decode cX11_signed 32 = .ok (.imul, 1) := by decide +kernel
theorem dX11_signed_33 : decode cX11_signed 33 = .ok (.iload_n 2, 1) := by decide +kernel
theorem dX11_signed_34 : decode cX11_signed 34 = .ok (.iadd, 1) := by decide +kernel
theorem dX11_signed_35 : decode cX11_signed 35 = .ok (.iaload, 1) := by decide +kernel
theorem dX11_signed_36 : decode cX11_signed 36 = .ok (.ireturn, 1) := by decide +kernel
theorem dX11_regular_0 : decode cX11_regular 0 = .ok (.aload_n 0, 1) := by decide +kernel
theorem dX11_regular_1 : decode cX11_regular 1 = .ok (.iconst 0, 1) := by decide +kernel
theorem dX11_regular_2 : decode cX11_regular 2 = .ok (.putfield 83, 3) := by decide +kernel
theorem dX11_regular_5 : decode cX11_regular 5 = .ok (.aload_n 0, 1) := by decide +kernel
theorem dX11_regular_6 : decode cX11_regular 6 = .ok (.getfield 13, 3) := by decide +kernel
theorem dX11_regular_9 : decode cX11_regular 9 = .ok (.bipush 36, 2) := by decide +kernel
theorem dX11_regular_11 : decode cX11_regular 11 = .ok (.iaload, 1) := by decide +kernel
theorem dX11_regular_12 : decode cX11_regular 12 = .ok (.ifCond .ne 5, 3) := by decide +kernel
theorem dX11_regular_15 : decode cX11_regular 15 = .ok (.iconst (-1), 1) := by decide +kernel
theorem dX11_regular_16 : decode cX11_regular 16 = .ok (.ireturn, 1) := by decide +kernel
theorem dX11_regular_17 : decode cX11_regular 17 = .ok (.aload_n 0, 1) := by decide +kernel
theorem dX11_regular_18 : decode cX11_regular 18 = .ok (.invokevirtual 283, 3) := by decide +kernel
theorem dX11_regular_21 : decode cX11_regular 21 = .ok (.aload_n 0, 1) := by decide +kernel
theorem dX11_regular_22 : decode cX11_regular 22 = .ok (.aload_n 0, 1) := by decide +kernel
theorem dX11_regular_23 : decode cX11_regular 23 = .ok (.getfield 59, 3) := by decide +kernel
theorem dX11_regular_26 : decode cX11_regular 26 = .ok (.invokevirtual 227, 3) := by decide +kernel
theorem dX11_regular_29 : decode cX11_regular 29 = .ok (.ifCond .eq 7, 3) := by decide +kernel
theorem dX11_regular_32 : decode cX11_regular 32 = .ok (.iconst 1, 1) := by decide +kernel
theorem dX11_regular_33 : decode cX11_regular 33 = .ok (.goto 4, 3) := by decide +kernel
theorem dX11_regular_36 : decode cX11_regular 36 = .ok (.iconst 0, 1) := by decide +kernel
theorem dX11_regular_37 : decode cX11_regular 37 = .ok (.ireturn, 1) := by decide +kernel
theorem dX11_cycle_0 : decode cX11_cycle 0 = .ok (.aload_n 0, 1) := by decide +kernel
theorem dX11_cycle_1 : decode cX11_cycle 1 = .ok (.iconst 0, 1) := by decide +kernel
theorem dX11_cycle_2 : decode cX11_cycle 2 = .ok (.putfield 83, 3) := by decide +kernel
theorem dX11_cycle_5 : decode cX11_cycle 5 = .ok (.aload_n 0, 1) := by decide +kernel
theorem dX11_cycle_6 : decode cX11_cycle 6 = .ok (.getfield 13, 3) := by decide +kernel
theorem dX11_cycle_9 : decode cX11_cycle 9 = .ok (.bipush 36, 2) := by decide +kernel
theorem dX11_cycle_11 : decode cX11_cycle 11 = .ok (.iaload, 1) := by decide +kernel
theorem dX11_cycle_12 : decode cX11_cycle 12 = .ok (.ifCond .ne 5, 3) := by decide +kernel
theorem dX11_cycle_15 : decode cX11_cycle 15 = .ok (.iconst (-1), 1) := by decide +kernel
theorem dX11_cycle_16 : decode cX11_cycle 16 = .ok (.ireturn, 1) := by decide +kernel
theorem dX11_cycle_17 : decode cX11_cycle 17 = .ok (.iconst (-1), 1) := by decide +kernel
theorem dX11_cycle_18 : decode cX11_cycle 18 = .ok (.istore_n 1, 1) := by decide +kernel
theorem dX11_cycle_19 : decode cX11_cycle 19 = .ok (.iconst 0, 1) := by decide +kernel
theorem dX11_cycle_20 : decode cX11_cycle 20 = .ok (.istore_n 2, 1) := by decide +kernel
theorem dX11_cycle_21 : decode cX11_cycle 21 = .ok (.iload_n 2, 1) := by decide +kernel
theorem dX11_cycle_22 : decode cX11_cycle 22 = .ok (.aload_n 0, 1) := by decide +kernel
theorem dX11_cycle_23 : decode cX11_cycle 23 = .ok (.getfield 13, 3) := by decide +kernel
theorem dX11_cycle_26 : decode cX11_cycle 26 = .ok (.bipush 36, 2) := by decide +kernel
theorem dX11_cycle_28 : decode cX11_cycle 28 = .ok (.iaload, 1) := by decide +kernel
theorem dX11_cycle_29 : decode cX11_cycle 29 = .ok (.if_icmp .ge 122, 3) := by decide +kernel
theorem dX11_cycle_32 : decode cX11_cycle 32 = .ok (.iconst 0, 1) := by decide +kernel
theorem dX11_cycle_33 : decode cX11_cycle 33 = .ok (.istore_n 3, 1) := by decide +kernel
theorem dX11_cycle_34 : decode cX11_cycle 34 = .ok (.iload_n 3, 1) := by decide +kernel
theorem dX11_cycle_35 : decode cX11_cycle 35 = .ok (.aload_n 0, 1) := by decide +kernel
theorem dX11_cycle_36 : decode cX11_cycle 36 = .ok (.getfield 13, 3) := by decide +kernel
theorem dX11_cycle_39 : decode cX11_cycle 39 = .ok (.bipush 37, 2) := by decide +kernel
theorem dX11_cycle_41 : decode cX11_cycle 41 = .ok (.iaload, 1) := by decide +kernel
theorem dX11_cycle_42 : decode cX11_cycle 42 = .ok (.if_icmp .ge 103, 3) := by decide +kernel
theorem dX11_cycle_45 : decode cX11_cycle 45 = .ok (.aload_n 0, 1) := by decide +kernel
theorem dX11_cycle_46 : decode cX11_cycle 46 = .ok (.getfield 13, 3) := by decide +kernel
theorem dX11_cycle_49 : decode cX11_cycle 49 = .ok (.bipush 6, 2) := by decide +kernel
theorem dX11_cycle_51 : decode cX11_cycle 51 = .ok (.iload_n 2, 1) := by decide +kernel
theorem dX11_cycle_52 : decode cX11_cycle 52 = .ok (.imul, 1) := by decide +kernel
theorem dX11_cycle_53 : decode cX11_cycle 53 = .ok (.iload_n 3, 1) := by decide +kernel
theorem dX11_cycle_54 : decode cX11_cycle 54 = .ok (.iadd, 1) := by decide +kernel
theorem dX11_cycle_55 : decode cX11_cycle 55 = .ok (.iaload, 1) := by decide +kernel
theorem dX11_cycle_56 : decode cX11_cycle 56 = .ok (.istore 4, 2) := by decide +kernel
theorem dX11_cycle_58 : decode cX11_cycle 58 = .ok (.iload 4, 2) := by decide +kernel
theorem dX11_cycle_60 : decode cX11_cycle 60 = .ok (.ifCond .ne 6, 3) := by decide +kernel
theorem dX11_cycle_63 : decode cX11_cycle 63 = .ok (.goto 76, 3) := by decide +kernel
theorem dX11_cycle_66 : decode cX11_cycle 66 = .ok (.aload_n 0, 1) := by decide +kernel
theorem dX11_cycle_67 : decode cX11_cycle 67 = .ok (.getfield 13, 3) := by decide +kernel
theorem dX11_cycle_70 : decode cX11_cycle 70 = .ok (.aload_n 0, 1) := by decide +kernel
theorem dX11_cycle_71 : decode cX11_cycle 71 = .ok (.getfield 59, 3) := by decide +kernel
theorem dX11_cycle_74 : decode cX11_cycle 74 = .ok (.invokestatic 170, 3) := by decide +kernel
theorem dX11_cycle_77 : decode cX11_cycle 77 = .ok (.aload_n 0, 1) := by decide +kernel
theorem dX11_cycle_78 : decode cX11_cycle 78 = .ok (.getfield 59, 3) := by decide +kernel
theorem dX11_cycle_81 : decode cX11_cycle 81 = .ok (.bipush 6, 2) := by decide +kernel
theorem dX11_cycle_83 : decode cX11_cycle 83 = .ok (.iload_n 2, 1) := by decide +kernel
theorem dX11_cycle_84 : decode cX11_cycle 84 = .ok (.imul, 1) := by decide +kernel
theorem dX11_cycle_85 : decode cX11_cycle 85 = .ok (.iload_n 3, 1) := by decide +kernel
theorem dX11_cycle_86 : decode cX11_cycle 86 = .ok (.iadd, 1) := by decide +kernel
theorem dX11_cycle_87 : decode cX11_cycle 87 = .ok (.iconst 0, 1) := by decide +kernel
theorem dX11_cycle_88 : decode cX11_cycle 88 = .ok (.iastore, 1) := by decide +kernel
theorem dX11_cycle_89 : decode cX11_cycle 89 = .ok (.aload_n 0, 1) := by decide +kernel
theorem dX11_cycle_90 : decode cX11_cycle 90 = .ok (.iload_n 2, 1) := by decide +kernel
theorem dX11_cycle_91 : decode cX11_cycle 91 = .ok (.invokevirtual 277, 3) := by decide +kernel
theorem dX11_cycle_94 : decode cX11_cycle 94 = .ok (.aload_n 0, 1) := by decide +kernel
theorem dX11_cycle_95 : decode cX11_cycle 95 = .ok (.getfield 56, 3) := by decide +kernel
theorem dX11_cycle_98 : decode cX11_cycle 98 = .ok (.bipush 6, 2) := by decide +kernel
theorem dX11_cycle_100 : decode cX11_cycle 100 = .ok (.iload_n 3, 1) := by decide +kernel
theorem dX11_cycle_101 : decode cX11_cycle 101 = .ok (.iadd, 1) := by decide +kernel
theorem dX11_cycle_102 : decode cX11_cycle 102 = .ok (.iaload, 1) := by decide +kernel
theorem dX11_cycle_103 : decode cX11_cycle 103 = .ok (.iconst (-1), 1) := by decide +kernel
theorem dX11_cycle_104 : decode cX11_cycle 104 = .ok (.if_icmp .eq 35, 3) := by decide +kernel
theorem dX11_cycle_107 : decode cX11_cycle 107 = .ok (.iload_n 1, 1) := by decide +kernel
theorem dX11_cycle_108 : decode cX11_cycle 108 = .ok (.iconst (-1), 1) := by decide +kernel
theorem dX11_cycle_109 : decode cX11_cycle 109 = .ok (.if_icmp .eq 18, 3) := by decide +kernel
theorem dX11_cycle_112 : decode cX11_cycle 112 = .ok (.aload_n 0, 1) := by decide +kernel
theorem dX11_cycle_113 : decode cX11_cycle 113 = .ok (.getfield 56, 3) := by decide +kernel
theorem dX11_cycle_116 : decode cX11_cycle 116 = .ok (.bipush 6, 2) := by decide +kernel
theorem dX11_cycle_118 : decode cX11_cycle 118 = .ok (.iload_n 3, 1) := by decide +kernel
theorem dX11_cycle_119 : decode cX11_cycle 119 = .ok (.iadd, 1) := by decide +kernel
theorem dX11_cycle_120 : decode cX11_cycle 120 = .ok (.iaload, 1) := by decide +kernel
theorem dX11_cycle_121 : decode cX11_cycle 121 = .ok (.iconst 1, 1) := by decide +kernel
theorem dX11_cycle_122 : decode cX11_cycle 122 = .ok (.iadd, 1) := by decide +kernel
theorem dX11_cycle_123 : decode cX11_cycle 123 = .ok (.iload_n 1, 1) := by decide +kernel
theorem dX11_cycle_124 : decode cX11_cycle 124 = .ok (.if_icmp .ge 15, 3) := by decide +kernel
theorem dX11_cycle_127 : decode cX11_cycle 127 = .ok (.aload_n 0, 1) := by decide +kernel
theorem dX11_cycle_128 : decode cX11_cycle 128 = .ok (.getfield 56, 3) := by decide +kernel
theorem dX11_cycle_131 : decode cX11_cycle 131 = .ok (.bipush 6, 2) := by decide +kernel
theorem dX11_cycle_133 : decode cX11_cycle 133 = .ok (.iload_n 3, 1) := by decide +kernel
theorem dX11_cycle_134 : decode cX11_cycle 134 = .ok (.iadd, 1) := by decide +kernel
theorem dX11_cycle_135 : decode cX11_cycle 135 = .ok (.iaload, 1) := by decide +kernel
theorem dX11_cycle_136 : decode cX11_cycle 136 = .ok (.iconst 1, 1) := by decide +kernel
theorem dX11_cycle_137 : decode cX11_cycle 137 = .ok (.iadd, 1) := by decide +kernel
theorem dX11_cycle_138 : decode cX11_cycle 138 = .ok (.istore_n 1, 1) := by decide +kernel
theorem dX11_cycle_139 : decode cX11_cycle 139 = .ok (.iinc 3 1, 3) := by decide +kernel
theorem dX11_cycle_142 : decode cX11_cycle 142 = .ok (.goto (-108), 3) := by decide +kernel
theorem dX11_cycle_145 : decode cX11_cycle 145 = .ok (.iinc 2 1, 3) := by decide +kernel
theorem dX11_cycle_148 : decode cX11_cycle 148 = .ok (.goto (-127), 3) := by decide +kernel
theorem dX11_cycle_151 : decode cX11_cycle 151 = .ok (.iload_n 1, 1) := by decide +kernel
theorem dX11_cycle_152 : decode cX11_cycle 152 = .ok (.ireturn, 1) := by decide +kernel
theorem dec1 (N : Nat) : nI (N + 1) + Int32.ofInt (-1) = nI N := by rw [show Int32.ofInt (-1) = -1 from rfl, ← Int32.sub_eq_add_neg, nI_pred]
def sV (T : tb) (S : Nat → Nat → Int32) (r c : Nat) : Int32 := if T.2.2 r c = 0 then 0 else if S r c = 0 then 9 else S r c
def opk (T : tb) (S : Nat → Nat → Int32) (k : Nat) : Prop := opq T S (k / 6) (k % 6)
/-- told signs are 1 or -1, at entries -/
def okS (T : tb) (S : Nat → Nat → Int32) : Prop := (∀ r c, sml (S r c)) ∧ ∀ r c, ¬ S r c = 0 → ¬ T.2.2 r c = 0
/-- the row sign when the cells ahead of (n, m) have been met -/
def GS (g : Nat → Int32) (T : tb) (S : Nat → Nat → Int32) (n m : Nat) : Prop := g 36 = nI T.1 ∧ g 37 = nI T.2.1 ∧ ∀ r c, r < T.1 → c < T.2.1 → g (6 * r + c) = if (r < n ∨ (r = n ∧ c < m)) then sV T S r c else T.2.2 r c
theorem GS.SG {g : Nat → Int32} {T : tb} {S : Nat → Nat → Int32} (h : GS g T S T.1 0) (ok : okS T S) (h6 : T.1 ≤ 6) (h7 : T.2.1 ≤ 6) : SG g (tS2 T S) := by
  refine ⟨h.1, h.2.1, h6, h7, fun r c hr hc => ?_⟩
  have hr : r < T.1 := hr
  have hc : c < T.2.1 := hc
  rw [h.2.2 r c hr hc, if_pos (Or.inl hr)]
  unfold sV
  show (¬ (if T.2.2 r c = 0 then (0 : Int32) else if S r c = 0 then 9 else S r c) = 0 ∧ ¬ (if T.2.2 r c = 0 then (0 : Int32) else if S r c = 0 then 9 else S r c) = 9) ↔ ¬ S r c = 0
  by_cases e : T.2.2 r c = 0
  · rw [if_pos e]
    have : S r c = 0 := Classical.byContradiction fun z => ok.2 r c z e
    simp [this]
  · rw [if_neg e]
    by_cases e2 : S r c = 0
    · simp [e2]
    · rw [if_neg e2]
      refine ⟨fun z => e2, fun _ => ⟨e2, fun z => ?_⟩⟩
      rcases ok.1 r c with y | y | y <;> rw [y] at z <;> exact absurd z (by decide)
def RI (T : tb) (S : Nat → Nat → Int32) : Prop := ∀ r c, r < T.1 → c < T.2.1 → ¬ T.2.2 r c = 0 → ∃ k, k ≤ 12 ∧ ds (tS2 T S) (6 + c) r k
theorem RI_set {T : tb} {S : Nat → Nat → Int32} {r0 c0 : Nat} {v : Int32} (h6 : T.1 ≤ 6) (h7 : T.2.1 ≤ 6) (hv : ¬ v = 0) (h : RI T S) : RI T (setS S r0 c0 v) := by
  intro r c hr hc ht
  obtain ⟨k, h1, h2⟩ := h r c hr hc ht
  refine rel_ds (T := tS2 T (setS S r0 c0 v)) h6 h7 (show 6 + c < 12 by omega) (rel.sub (T := tS2 T S) ?_ ⟨k, h2.1⟩)
  have t : ∀ r c, tld (tS2 T S) r c → tld (tS2 T (setS S r0 c0 v)) r c := fun r c z => ⟨z.1, z.2.1, by
    show ¬ (if r = r0 ∧ c = c0 then v else S r c) = 0
    split
    · exact hv
    · exact z.2.2⟩
  rintro a b (⟨z1, z2, z3⟩ | ⟨z1, z2, z3⟩)
  · exact Or.inl ⟨z1, z2, t _ _ z3⟩
  · exact Or.inr ⟨z1, z2, t _ _ z3⟩
/-- the best of the cells ahead of k -/
def bsK (T : tb) (S : Nat → Nat → Int32) (k : Nat) (best few : Int32) : Prop := (best = -1 ∧ ∀ j, j < k → ¬ opk T S j) ∨ ∃ r c d, best = nI (6 * r + c) ∧ few = nI d ∧ opq T S r c ∧ d ≤ 12 ∧ ds (tS2 T S) (6 + c) r d ∧ 6 * r + c < k ∧ ∀ r2 c2 d2, opq T S r2 c2 → d2 ≤ 12 → ds (tS2 T S) (6 + c2) r2 d2 → 6 * r2 + c2 < k → d < d2 ∨ (d = d2 ∧ 6 * r + c ≤ 6 * r2 + c2)
theorem opk_of {T : tb} {S : Nat → Nat → Int32} {r c : Nat} (h7 : T.2.1 ≤ 6) (h : opq T S r c) : opk T S (6 * r + c) := by
  have := h.2.1
  unfold opk
  rw [show (6 * r + c) / 6 = r by omega, show (6 * r + c) % 6 = c by omega]
  exact h
theorem bsK_skip {T : tb} {S : Nat → Nat → Int32} {k : Nat} {best few : Int32} (h7 : T.2.1 ≤ 6) (h : bsK T S k best few) (hk : ¬ opk T S k) : bsK T S (k + 1) best few := by
  rcases h with ⟨e, h⟩ | ⟨r, c, d, h1, h2, h3, h4, h5, h6, h8⟩
  · exact Or.inl ⟨e, fun j hj => by rcases (by omega : j < k ∨ j = k) with z | rfl; exact h j z; exact hk⟩
  · refine Or.inr ⟨r, c, d, h1, h2, h3, h4, h5, by omega, fun r2 c2 d2 y1 y2 y3 y4 => ?_⟩
    rcases (by omega : 6 * r2 + c2 < k ∨ 6 * r2 + c2 = k) with z | z
    · exact h8 r2 c2 d2 y1 y2 y3 z
    · exact absurd (by rw [← z]; exact opk_of h7 y1) hk
theorem bsK_new {T : tb} {S : Nat → Nat → Int32} {k d : Nat} {best few : Int32} (h7 : T.2.1 ≤ 6) (h : bsK T S k best few) (ho : opq T S (k / 6) (k % 6)) (hd : d ≤ 12) (hs : ds (tS2 T S) (6 + k % 6) (k / 6) d) (hb : best = -1 ∨ nI d < few) (hk : k < 36) : bsK T S (k + 1) (nI k) (nI d) := by
  refine Or.inr ⟨k / 6, k % 6, d, by rw [show 6 * (k / 6) + k % 6 = k by omega], rfl, ho, hd, hs, by omega, fun r2 c2 d2 y1 y2 y3 y4 => ?_⟩
  have y5 := y1.2.1
  rcases (by omega : 6 * r2 + c2 < k ∨ 6 * r2 + c2 = k) with z | z
  · rcases h with ⟨-, h⟩ | ⟨r, c, e, h1, h2, h3, h4, h5, h6, h8⟩
    · exact absurd (opk_of h7 y1) (h _ z)
    · have q : nI d < few := hb.resolve_left (fun y => nI_n1 (by omega) (h1.symm.trans y))
      rw [h2] at q
      have q2 := (nI_ltI (by omega) (by omega)).mp q
      have := h8 r2 c2 d2 y1 y2 y3 z
      omega
  · have e1 : r2 = k / 6 := by omega
    have e2 : c2 = k % 6 := by omega
    rw [e1, e2] at y3
    have := ds_u y3 hs
    omega
theorem bsK_stay {T : tb} {S : Nat → Nat → Int32} {k d : Nat} {best few : Int32} (h7 : T.2.1 ≤ 6) (h : bsK T S k best few) (hd : d ≤ 12) (hs : ds (tS2 T S) (6 + k % 6) (k / 6) d) (hb : ¬ best = -1) (hf : ¬ nI d < few) : bsK T S (k + 1) best few := by
  rcases h with ⟨h, -⟩ | ⟨r, c, e, h1, h2, h3, h4, h5, h6, h8⟩
  · exact absurd h hb
  · refine Or.inr ⟨r, c, e, h1, h2, h3, h4, h5, by omega, fun r2 c2 d2 y1 y2 y3 y4 => ?_⟩
    have y5 := y1.2.1
    rcases (by omega : 6 * r2 + c2 < k ∨ 6 * r2 + c2 = k) with z | z
    · exact h8 r2 c2 d2 y1 y2 y3 z
    · have e1 : r2 = k / 6 := by omega
      have e2 : c2 = k % 6 := by omega
      rw [e1, e2] at y3
      have := ds_u y3 hs
      rw [h2] at hf
      have q2 := mt (nI_ltI (a := d) (b := e) (by omega) (by omega)).mpr hf
      omega
theorem s_laysSigns {σ : sg} {x : aW} {α : aS} {ω : sg} (hω : MZ σ ω α) (ok : aOK α) :
    Mt mX11_laysSigns 4 0 0 [.ref i_M] (wd ω x) (fun q w => q = none ∧ ∃ τ, w = wd τ x ∧ MZ σ τ α ∧ TB (τ.2.2 i_m_sign) (sgnA (tT α))) := by
  refine Mt.of MI_X11_laysSigns (Nat.le_of_ble_eq_true rfl) (fun X hC hR hT => ?_)
  have h6 := ok.2.2.1.1
  have h7 := ok.2.2.1.2.1
  have hsm := ok.2.2.1.2.2.2
  have hMZ : ∀ τ, MZ σ τ α → TB (τ.2.2 i_m_now) (tT α) := fun τ h => h.T ok
  have hMe : ∀ τ, MZ σ τ α → ∀ i j, i < (tT α).1 → j < (tT α).2.1 → τ.2.2 i_m_now (6 * i + j) = (tT α).2.2 i j := fun τ h i j hi hj => h.e hi hj
  have hMR : ∀ τ, MZ σ τ α → τ.2.2 i_m_now 36 = nI (tT α).1 := fun τ h => h.R
  have hMC : ∀ τ, MZ σ τ α → τ.2.2 i_m_now 37 = nI (tT α).2.1 := fun τ h => h.C
  generalize hTe : tT α = T at *
  -- the second part: telling the open ones
  have ph2 : ∀ N f S, N ≤ f → okS T S → RI T S → cnO (opk T S) 36 = N → (sgnA T).2.2 = sg2 T f S → ∀ τ, MZ σ τ α → GS (τ.2.2 i_m_sign) T S T.1 0 → ∀ u2 u3 u4 u5 u6 u7, Rw mX11_laysSigns X 191 [some (.ref i_M), some (.int (nI N)), u2, u3, u4, u5, u6, u7] [] (wd τ x) 0 0 := by
    intro N
    induction N with
    | zero =>
      intro f S hf hok hRI hcn hsg τ hz hgs u2 u3 u4 u5 u6 u7
      have noo := cnO_0 36 hcn
      have hfin : (sgnA T).2.2 = S := by rw [hsg, sg2_n (fun p hp => noo _ (by have := hp.1.1; have := hp.1.2.1; omega) (opk_of h7 hp.1))]
      refine R_iload_n (i := 1) hC dX11_laysSigns_191 rfl rfl ?_
      refine R_if_le hC 414 dX11_laysSigns_192 (by decide) (fun _ => ?_) (fun h => absurd (by decide) h)
      exact R_vret hC hT dX11_laysSigns_414 rfl ⟨rfl, τ, rfl, hz, (by
      refine ⟨hgs.1, hgs.2.1, h6, h7, fun r c hr hc => ?_⟩
      have hr : r < T.1 := hr
      have hc : c < T.2.1 := hc
      rw [hfin]
      refine ⟨?_, hok.1 r c⟩
      rw [hgs.2.2 r c hr hc, if_pos (Or.inl hr)]
      unfold sV
      by_cases e : T.2.2 r c = 0
      · rw [if_pos e]; exact (Classical.byContradiction fun z => hok.2 r c (fun y => z y.symm) e)
      · rw [if_neg e, if_neg (fun z => noo _ (by omega) (opk_of h7 ⟨hr, hc, e, z⟩))])⟩
    | succ N ih =>
      intro f S hf hok hRI hcn hsg τ hz hgs u2 u3 u4 u5 u6 u7
      -- the way
      have way : ∀ r c d, bstC T S (r, c, d) → ∀ st, SP st (tS2 T S) (6 + c) 12 → ∀ n a s, a < 12 → n ≤ 12 → ds (tS2 T S) (6 + c) a n → s + wk (tS2 T S) (6 + c) n a = wk (tS2 T S) (6 + c) d r → ∀ τ, MZ σ τ α → GS (τ.2.2 i_m_sign) T S T.1 0 → (∀ b, τ.2.2 i_m_steps b = st b) → ∀ u3 u7, Rw mX11_laysSigns X 322 [some (.ref i_M), some (.int (nI (N + 1))), some (.int (nI (6 * r + c))), u3, some (.int (nI (6 + c))), some (.int s), some (.int (nI a)), u7] [] (wd τ x) 0 0 := by
        intro r c d hb st hst n
        have b1 := hb.1.1
        have b2 := hb.1.2.1
        simp only at b1 b2
        induction n with
        | zero =>
          intro a s ha hn hds hw τ hz hgs hste u3 u7
          have ea : a = 6 + c := hds.1
          have ew : s = wk (tS2 T S) (6 + c) d r := by rw [← hw, wk, Int32.add_zero]
          have okN : okS T (setS S r c (vS s)) := by
            refine ⟨fun i j => ?_, fun i j z => ?_⟩
            · show sml (if i = r ∧ j = c then vS s else S i j)
              split
              · rcases vS_v s with z | z
                · exact Or.inr (Or.inr z)
                · exact Or.inl z
              · exact hok.1 i j
            · have z : ¬ (if i = r ∧ j = c then vS s else S i j) = 0 := z
              by_cases q : i = r ∧ j = c
              · rw [q.1, q.2]; exact hb.1.2.2.1
              · rw [if_neg q] at z; exact hok.2 i j z
          have ihS := ih (f - 1) (setS S r c (vS s)) (by omega) okN (RI_set h6 h7 (by rcases vS_v s with z | z <;> rw [z] <;> decide) hRI) (by
              have := cnO_one (p := opk T S) (q := opk T (setS S r c (vS s))) (b := 6 * r + c) (opk_of h7 hb.1) (by
                unfold opk
                rw [show (6 * r + c) / 6 = r by omega, show (6 * r + c) % 6 = c by omega]
                rintro ⟨-, -, -, z⟩
                have z : (if r = r ∧ c = c then vS s else S r c) = 0 := z
                rw [if_pos ⟨rfl, rfl⟩] at z
                rcases vS_v s with y | y <;> rw [y] at z <;> exact absurd z (by decide)) 36 (by omega) (fun k hk => by
                unfold opk opq
                show _ ∧ _ ∧ _ ∧ S (k / 6) (k % 6) = 0 ↔ _ ∧ _ ∧ _ ∧ (if k / 6 = r ∧ k % 6 = c then vS s else S (k / 6) (k % 6)) = 0
                rw [if_neg (by omega)])
              omega) (by rw [hsg, show f = f - 1 + 1 by omega, sg2_y h7 hb, ew]; rfl)
          refine R_iload hC dX11_laysSigns_322 rfl (R_iload hC dX11_laysSigns_324 rfl ?_)
          refine R_icmp_eq hC 388 dX11_laysSigns_326 (by decide) (fun _ => ?_) (fun h => absurd (by rw [ea]) h)
          refine R_aload_n (i := 0) hC dX11_laysSigns_388 rfl rfl (R_gR hC dX11_laysSigns_389 fl_X11_59 L_M rfl (R_iload_n (i := 2) hC dX11_laysSigns_392 rfl rfl (R_iload hC dX11_laysSigns_393 rfl (R_iconst (v := 1) hC dX11_laysSigns_395 (by decide) (R_iadd hC dX11_laysSigns_396 (R_iconst (v := 4) hC dX11_laysSigns_397 (by decide) (R_irem hC dX11_laysSigns_398 (by decide) ?_)))))))
          refine R_if_ne hC 406 dX11_laysSigns_399 (by decide) (fun h399 => ?_) (fun h399 => ?_)
          · refine R_iconst (v := (-1)) hC dX11_laysSigns_406 (by decide) ?_
            refine R_top (y := vS s) (by first | (show _ = vS s; unfold vS; rw [if_pos h399]; done) | (have h400 := h399; show _ = vS s; unfold vS; rw [if_neg h400]; done)) ?_
            refine R_sI hC dX11_laysSigns_407 L_m_sign (6 * r + c) rfl (by omega) (by decide) (R_iinc hC dX11_laysSigns_408 rfl (dec1 N) (by decide) rfl (R_goto hC 191 dX11_laysSigns_411 (by decide) ?_))
            exact ihS _ (hz.a (by decide) (by decide)) (by
            rw [sA_eq]
            refine ⟨by rw [upd, if_neg (by omega)]; exact hgs.1, by rw [upd, if_neg (by omega)]; exact hgs.2.1, fun i j hi hj => ?_⟩
            rw [upd6 (by omega) (by omega), if_pos (Or.inl hi)]
            unfold sV
            show _ = if T.2.2 i j = 0 then (0 : Int32) else if (if i = r ∧ j = c then vS s else S i j) = 0 then 9 else (if i = r ∧ j = c then vS s else S i j)
            by_cases q : i = r ∧ j = c
            · rw [if_pos q, if_pos q, if_neg (by rw [q.1, q.2]; exact hb.1.2.2.1), if_neg (by rcases vS_v s with z | z <;> rw [z] <;> decide)]
            · rw [if_neg q, if_neg q, hgs.2.2 i j hi hj, if_pos (Or.inl hi)]; rfl) _ _ _ _ _ _
          · refine R_iconst (v := 1) hC dX11_laysSigns_402 (by decide) (R_goto hC 407 dX11_laysSigns_403 (by decide) ?_)
            refine R_top (y := vS s) (by first | (show _ = vS s; unfold vS; rw [if_pos h399]; done) | (have h400 := h399; show _ = vS s; unfold vS; rw [if_neg h400]; done)) ?_
            refine R_sI hC dX11_laysSigns_407 L_m_sign (6 * r + c) rfl (by omega) (by decide) (R_iinc hC dX11_laysSigns_408 rfl (dec1 N) (by decide) rfl (R_goto hC 191 dX11_laysSigns_411 (by decide) ?_))
            exact ihS _ (hz.a (by decide) (by decide)) (by
            rw [sA_eq]
            refine ⟨by rw [upd, if_neg (by omega)]; exact hgs.1, by rw [upd, if_neg (by omega)]; exact hgs.2.1, fun i j hi hj => ?_⟩
            rw [upd6 (by omega) (by omega), if_pos (Or.inl hi)]
            unfold sV
            show _ = if T.2.2 i j = 0 then (0 : Int32) else if (if i = r ∧ j = c then vS s else S i j) = 0 then 9 else (if i = r ∧ j = c then vS s else S i j)
            by_cases q : i = r ∧ j = c
            · rw [if_pos q, if_pos q, if_neg (by rw [q.1, q.2]; exact hb.1.2.2.1), if_neg (by rcases vS_v s with z | z <;> rw [z] <;> decide)]
            · rw [if_neg q, if_neg q, hgs.2.2 i j hi hj, if_pos (Or.inl hi)]; rfl) _ _ _ _ _ _
        | succ n ihn =>
          intro a s ha hn hds hw τ hz hgs hste u3 u7
          have hsg2 := hgs.SG hok h6 h7
          have ha1 : st a = nI (n + 1) := by
            rcases hst a ha with ⟨k, k1, k2, k3⟩ | ⟨k1, k2⟩
            · rw [k2, ds_u k3 hds]
            · exact absurd (rch_mono hds.1 12 hn) k2
          obtain ⟨b0, b01, b02, b03⟩ := ds_pred hds
          have nxt : ∀ j, j ≤ 12 → fs (lstH (tS2 T S) (6 + c) a n) 0 12 = fs (lstH (tS2 T S) (6 + c) a n) j (12 - j) → j ≤ b0 → Rw mX11_laysSigns X 332 [some (.ref i_M), some (.int (nI (N + 1))), some (.int (nI (6 * r + c))), u3, some (.int (nI (6 + c))), some (.int s), some (.int (nI a)), some (.int (nI j))] [] (wd τ x) 0 0 := by
            refine up_loop 12 ?_ ?_
            · intro _ z; omega
            · intro j hj ihj hfs hjb
              have dj : st j = nI n → ds (tS2 T S) (6 + c) j n := fun z => by
                rcases hst j hj with ⟨k, k1, k2, k3⟩ | ⟨k1, k2⟩
                · rw [k2] at z; rw [← nI_inj (by omega) (by omega) z]; exact k3
                · exact absurd (z.symm.trans k1) (nI_n1 (by omega))
              have jd : ds (tS2 T S) (6 + c) j n → st j = nI n := fun z => by
                rcases hst j hj with ⟨k, k1, k2, k3⟩ | ⟨k1, k2⟩
                · rw [k2, ds_u k3 z]
                · exact absurd (rch_mono z.1 12 (by omega)) k2
              have skp : ¬ (adj (tS2 T S) a j ∧ ds (tS2 T S) (6 + c) j n) → Rw mX11_laysSigns X 362 [some (.ref i_M), some (.int (nI (N + 1))), some (.int (nI (6 * r + c))), u3, some (.int (nI (6 + c))), some (.int s), some (.int (nI a)), some (.int (nI j))] [] (wd τ x) 0 0 := by
                intro z
                refine R_iinc hC dX11_laysSigns_362 rfl (inc1 _) (by decide) rfl (R_goto hC 332 dX11_laysSigns_365 (by decide) ?_)
                exact ihj (by rw [hfs, fs_n hj (by unfold lstH; rw [if_neg z])]) (by rcases (by omega : j + 1 ≤ b0 ∨ j = b0) with y | rfl; exact y; exact absurd ⟨b02, b03⟩ z)
              refine R_aload_n (i := 0) hC dX11_laysSigns_332 rfl rfl (R_iload hC dX11_laysSigns_333 rfl (R_iload hC dX11_laysSigns_335 rfl ?_))
              refine R_V2i hC hR dX11_laysSigns_337 MV_X11_areTold ml_X11_274 L_M rfl (s_areTold τ x (tS2 T S) hsg2 a j ha hj) (by decide) ⟨by decide, by decide⟩ (Nat.le_of_ble_eq_true rfl) ?_
              refine R_if_eq hC 362 dX11_laysSigns_340 (by decide) (fun h340 => ?_) (fun h340 => ?_)
              · first
                | exact skp (fun z => h359 (jd z.2))
                | exact skp (fun z => b2i_0 h340 z.1)
              · refine R_aload_n (i := 0) hC dX11_laysSigns_343 rfl rfl (R_gR hC dX11_laysSigns_344 fl_X11_56 L_M rfl (R_iload hC dX11_laysSigns_347 rfl (R_aI hC dX11_laysSigns_349 L_m_steps _ rfl (by omega) (by decide) ?_)))
                refine R_top (y := st j) (hste j) ?_
                refine R_aload_n (i := 0) hC dX11_laysSigns_350 rfl rfl (R_gR hC dX11_laysSigns_351 fl_X11_56 L_M rfl (R_iload hC dX11_laysSigns_354 rfl (R_aI hC dX11_laysSigns_356 L_m_steps _ rfl (by omega) (by decide) ?_)))
                refine R_top (y := nI (n + 1)) (by rw [hste]; exact ha1) ?_
                refine R_iconst (v := 1) hC dX11_laysSigns_357 (by decide) (R_isub hC dX11_laysSigns_358 ?_)
                refine R_top (y := nI n) (nI_pred n) ?_
                refine R_icmp_eq hC 368 dX11_laysSigns_359 (by decide) (fun h359 => ?_) (fun h359 => ?_)
                · have hadj := b2i_ne h340
                  have hdj := dj h359
                  have hside : (a < 6 ∧ 6 ≤ j) ∨ (6 ≤ a ∧ j < 6) := hadj.elim (fun y => Or.inl ⟨y.1, y.2.1⟩) (fun y => Or.inr ⟨y.1, y.2.1⟩)
                  have hev : eSg (fun r c => τ.2.2 i_m_sign (6 * r + c)) a j = eSg S a j := by
                    have tv : ∀ r c, tld (tS2 T S) r c → τ.2.2 i_m_sign (6 * r + c) = S r c := fun r c y => by
                      rw [hgs.2.2 r c y.1 y.2.1, if_pos (Or.inl y.1)]
                      unfold sV
                      rw [if_neg (hok.2 r c y.2.2), if_neg y.2.2]
                    unfold eSg
                    rcases hadj with ⟨y1, y2, y3⟩ | ⟨y1, y2, y3⟩
                    · rw [if_pos y1, if_pos y1]; exact tv _ _ y3
                    · rw [if_neg (by omega), if_neg (by omega)]; exact tv _ _ y3
                  have hwk : wk (tS2 T S) (6 + c) (n + 1) a = eSg S a j + wk (tS2 T S) (6 + c) n j := by
                    rw [wk, hfs, fs_y hj (v := j) (by unfold lstH; rw [if_pos ⟨hadj, hdj⟩])]
                  refine R_iload hC dX11_laysSigns_368 rfl (R_aload_n (i := 0) hC dX11_laysSigns_370 rfl rfl (R_iload hC dX11_laysSigns_371 rfl (R_iload hC dX11_laysSigns_373 rfl ?_)))
                  refine R_V2i hC hR dX11_laysSigns_375 MV_X11_signBetween ml_X11_280 L_M rfl (s_signBetween τ x a j ha hj hside) (by decide) ⟨by decide, by decide⟩ (Nat.le_of_ble_eq_true rfl) ?_
                  refine R_top (y := eSg S a j) (hev) ?_
                  refine R_iadd hC dX11_laysSigns_378 (R_istore hC dX11_laysSigns_379 (by decide) rfl (R_iload hC dX11_laysSigns_381 rfl (R_istore hC dX11_laysSigns_383 (by decide) rfl (R_goto hC 322 dX11_laysSigns_385 (by decide) ?_))))
                  exact ihn j _ hj (by omega) hdj (by rw [← hw, hwk, Int32.add_assoc]) τ hz hgs hste _ _
                · first
                  | exact skp (fun z => h359 (jd z.2))
                  | exact skp (fun z => b2i_0 h340 z.1)
          refine R_iload hC dX11_laysSigns_322 rfl (R_iload hC dX11_laysSigns_324 rfl ?_)
          refine R_icmp_eq hC 388 dX11_laysSigns_326 (by decide) (fun h => absurd h (fun z => hds.2 0 (by omega) (nI_inj (by omega) (by omega) z))) (fun _ => ?_)
          refine R_iconst (v := 0) hC dX11_laysSigns_329 (by decide) (R_istore hC dX11_laysSigns_330 (by decide) rfl ?_)
          exact nxt 0 (Nat.zero_le _) rfl (Nat.zero_le _)
      -- the search
      have srch : ∀ k, k ≤ 36 → ∀ best few, bsK T S k best few → ∀ τ, MZ σ τ α → GS (τ.2.2 i_m_sign) T S T.1 0 → ∀ u5 u6 u7, Rw mX11_laysSigns X 202 [some (.ref i_M), some (.int (nI (N + 1))), some (.int best), some (.int few), some (.int (nI k)), u5, u6, u7] [] (wd τ x) 0 0 := by
        refine up_loop 36 ?_ ?_
        · intro best few hb τ hz hgs u5 u6 u7
          rcases hb with ⟨e, z⟩ | ⟨r, c, d, h1, h2, h3, h4, h5, h8, h9⟩
          · rw [cnO_z 36 z] at hcn; omega
          · subst h1
            have r1 := h3.1
            have c1 := h3.2.1
            have hbst : bstC T S (r, c, d) := ⟨h3, h4, h5, fun r2 c2 d2 y1 y2 y3 => h9 r2 c2 d2 y1 y2 y3 (by have := y1.1; have := y1.2.1; omega)⟩
            refine R_iload hC dX11_laysSigns_202 rfl (R_bipush (v := 36) hC dX11_laysSigns_204 (by decide) ?_)
            refine R_icmp_ge hC 298 dX11_laysSigns_206 (by decide) (fun _ => ?_) (fun h => absurd (by decide) h)
            refine R_bipush (v := 6) hC dX11_laysSigns_298 (by decide) (R_iload_n (i := 2) hC dX11_laysSigns_300 rfl rfl (R_bipush (v := 6) hC dX11_laysSigns_301 (by decide) (R_irem hC dX11_laysSigns_303 (by decide) ?_)))
            refine R_top (y := nI c) (by rw [show (6 : Int32) = nI 6 from rfl]; exact (pk_rem (by omega) (by decide) (by decide)).trans (by rw [show (6 * r + c) % 6 = c by omega])) ?_
            refine R_iadd hC dX11_laysSigns_304 ?_
            refine R_top (y := nI (6 + c)) (nI_add 6 c) ?_
            refine R_istore hC dX11_laysSigns_305 (by decide) rfl (R_aload_n (i := 0) hC dX11_laysSigns_307 rfl rfl (R_iload hC dX11_laysSigns_308 rfl ?_))
            refine R_V1g hC hR dX11_laysSigns_310 MV_X11_laysSteps ml_X11_277 L_M rfl (s_laysSteps τ x (tS2 T S) (hgs.SG hok h6 h7) (6 + c) (by omega)) (by decide) ⟨by decide, by decide⟩ (Nat.le_of_ble_eq_true rfl) (fun r w1 hq => ?_)
            obtain ⟨rfl, st, rfl, hst⟩ := hq
            refine R_iconst (v := 0) hC dX11_laysSigns_313 (by decide) (R_istore hC dX11_laysSigns_314 (by decide) rfl (R_iload_n (i := 2) hC dX11_laysSigns_316 rfl rfl (R_bipush (v := 6) hC dX11_laysSigns_317 (by decide) (R_idiv hC dX11_laysSigns_319 (by decide) ?_))))
            refine R_top (y := nI r) (by rw [show (6 : Int32) = nI 6 from rfl]; exact (pk_div (by omega) (by decide) (by decide)).trans (by rw [show (6 * r + c) / 6 = r by omega])) ?_
            refine R_istore hC dX11_laysSigns_320 (by decide) rfl ?_
            exact way r c d hbst st hst d r 0 (by omega) h4 h5 (Int32.zero_add _) _ (hz.a (by decide) (by decide)) (by rw [sA_ne (by decide)]; exact hgs) (fun b => by rw [sA_eq]) _ _
        · intro k hk ihk best few hb τ hz hgs u5 u6 u7
          have e6 : k = 6 * (k / 6) + k % 6 := by omega
          have nxt : ∀ b2 f2, bsK T S (k + 1) b2 f2 → ∀ τ, MZ σ τ α → GS (τ.2.2 i_m_sign) T S T.1 0 → ∀ u5 u6 u7, Rw mX11_laysSigns X 292 [some (.ref i_M), some (.int (nI (N + 1))), some (.int b2), some (.int f2), some (.int (nI k)), u5, u6, u7] [] (wd τ x) 0 0 := by
            intro b2 f2 z τ hz hgs u5 u6 u7
            refine R_iinc hC dX11_laysSigns_292 rfl (inc1 _) (by decide) rfl (R_goto hC 202 dX11_laysSigns_295 (by decide) ?_)
            exact ihk b2 f2 z τ hz hgs _ _ _
          have skp : ¬ opk T S k → ∀ τ, MZ σ τ α → GS (τ.2.2 i_m_sign) T S T.1 0 → ∀ u5 u6 u7, Rw mX11_laysSigns X 292 [some (.ref i_M), some (.int (nI (N + 1))), some (.int best), some (.int few), some (.int (nI k)), u5, u6, u7] [] (wd τ x) 0 0 := by
            intro z τ hz hgs u5 u6 u7
            refine R_iinc hC dX11_laysSigns_292 rfl (inc1 _) (by decide) rfl (R_goto hC 202 dX11_laysSigns_295 (by decide) ?_)
            exact ihk best few (bsK_skip h7 hb z) τ hz hgs _ _ _
          refine R_iload hC dX11_laysSigns_202 rfl (R_bipush (v := 36) hC dX11_laysSigns_204 (by decide) ?_)
          refine R_icmp_ge hC 298 dX11_laysSigns_206 (by decide) (fun h => absurd h (nI_ge (b := 36) hk (by decide))) (fun _ => ?_)
          refine R_iload hC dX11_laysSigns_209 rfl (R_bipush (v := 6) hC dX11_laysSigns_211 (by decide) (R_idiv hC dX11_laysSigns_213 (by decide) ?_))
          refine R_top (y := nI (k / 6)) (by rw [show (6 : Int32) = nI 6 from rfl]; exact pk_div (by omega) (by decide) (by decide)) ?_
          refine R_istore hC dX11_laysSigns_214 (by decide) rfl (R_iload hC dX11_laysSigns_216 rfl (R_bipush (v := 6) hC dX11_laysSigns_218 (by decide) (R_irem hC dX11_laysSigns_220 (by decide) ?_)))
          refine R_top (y := nI (k % 6)) (by rw [show (6 : Int32) = nI 6 from rfl]; exact pk_rem (by omega) (by decide) (by decide)) ?_
          refine R_istore hC dX11_laysSigns_221 (by decide) rfl (R_aload_n (i := 0) hC dX11_laysSigns_223 rfl rfl (R_aload_n (i := 0) hC dX11_laysSigns_224 rfl rfl (R_gR hC dX11_laysSigns_225 fl_X11_13 L_M rfl (R_iload hC dX11_laysSigns_228 rfl (R_iload hC dX11_laysSigns_230 rfl ?_)))))
          refine R_V3i hC hR dX11_laysSigns_232 MV_X11_isCell ml_X11_158 L_M rfl (s_isCell τ x i_m_now L_m_now _ _) (by decide) ⟨by decide, by decide⟩ (Nat.le_of_ble_eq_true rfl) ?_
          refine R_if_eq hC 292 dX11_laysSigns_235 (by decide) (fun h235 => ?_) (fun h235 => ?_)
          · first
            | (have h276 : nI d < few := h275; exact nxt _ _ (bsK_new h7 hb hop hd1 hd2 (Or.inr h276) hk) _ hz2 hgs2 _ _ _)
            | (have h276 : ¬ nI d < few := h275; exact nxt _ _ (bsK_stay h7 hb hd1 hd2 h264 h276) _ hz2 hgs2 _ _ _)
            | (have h265 : best = -1 := h264; exact nxt _ _ (bsK_new h7 hb hop hd1 hd2 (Or.inl h265) hk) _ hz2 hgs2 _ _ _)
            | (refine skp (fun z => h247 ?_) _ hz hgs _ _ _
               unfold sV
               rw [if_neg z.2.2.1, if_pos z.2.2.2])
            | exact skp (fun z => b2i_0 h235 ((hMZ τ hz).inT_iff.mpr ⟨inR_n z.1 h6, inR_n z.2.1 h7⟩)) _ hz hgs _ _ _
          · have hin := (hMZ τ hz).inT_iff.mp (b2i_ne h235)
            have q1 : k / 6 < T.1 := by have := hin.1.2; rw [nI_toInt (by omega)] at this; omega
            have q2 : k % 6 < T.2.1 := by have := hin.2.2; rw [nI_toInt (by omega)] at this; omega
            have ev : τ.2.2 i_m_sign k = sV T S (k / 6) (k % 6) := by have := hgs.2.2 (k / 6) (k % 6) q1 q2; rw [if_pos (Or.inl q1), ← e6] at this; exact this
            refine R_aload_n (i := 0) hC dX11_laysSigns_238 rfl rfl (R_gR hC dX11_laysSigns_239 fl_X11_59 L_M rfl (R_iload hC dX11_laysSigns_242 rfl (R_aI hC dX11_laysSigns_244 L_m_sign _ rfl (by omega) (by decide) ?_)))
            refine R_top (y := sV T S (k / 6) (k % 6)) (ev) ?_
            refine R_bipush (v := 9) hC dX11_laysSigns_245 (by decide) ?_
            refine R_icmp_eq hC 253 dX11_laysSigns_247 (by decide) (fun h247 => ?_) (fun h247 => ?_)
            · have hop : opq T S (k / 6) (k % 6) := by
                refine ⟨q1, q2, fun z => ?_, Classical.byContradiction fun z => ?_⟩
                · unfold sV at h247; rw [if_pos z] at h247; exact absurd h247 (by decide)
                · unfold sV at h247
                  rw [if_neg (hok.2 _ _ z), if_neg z] at h247
                  rcases hok.1 (k / 6) (k % 6) with y | y | y <;> rw [y] at h247 <;> exact absurd h247 (by decide)
              obtain ⟨d, hd1, hd2⟩ := hRI (k / 6) (k % 6) q1 q2 hop.2.2.1
              refine R_aload_n (i := 0) hC dX11_laysSigns_253 rfl rfl (R_bipush (v := 6) hC dX11_laysSigns_254 (by decide) (R_iload hC dX11_laysSigns_256 rfl (R_iadd hC dX11_laysSigns_258 ?_)))
              refine R_top (y := nI (6 + k % 6)) (nI_add 6 _) ?_
              refine R_V1g hC hR dX11_laysSigns_259 MV_X11_laysSteps ml_X11_277 L_M rfl (s_laysSteps τ x (tS2 T S) (hgs.SG hok h6 h7) (6 + k % 6) (by omega)) (by decide) ⟨by decide, by decide⟩ (Nat.le_of_ble_eq_true rfl) (fun r w1 hq => ?_)
              obtain ⟨rfl, st, rfl, hst⟩ := hq
              have hsd : st (k / 6) = nI d := by
                rcases hst (k / 6) (by omega) with ⟨j, k1, k2, k3⟩ | ⟨k1, k2⟩
                · rw [k2, ds_u k3 hd2]
                · exact absurd (rch_mono hd2.1 12 hd1) k2
              have hz2 : MZ σ (sA τ i_m_steps st) α := hz.a (by decide) (by decide)
              have hgs2 : GS ((sA τ i_m_steps st).2.2 i_m_sign) T S T.1 0 := by rw [sA_ne (by decide)]; exact hgs
              refine R_iload_n (i := 2) hC dX11_laysSigns_262 rfl rfl (R_iconst (v := (-1)) hC dX11_laysSigns_263 (by decide) ?_)
              refine R_icmp_eq hC 281 dX11_laysSigns_264 (by decide) (fun h264 => ?_) (fun h264 => ?_)
              · refine R_iload hC dX11_laysSigns_281 rfl (R_istore_n (i := 2) hC dX11_laysSigns_283 rfl (by decide) rfl (R_aload_n (i := 0) hC dX11_laysSigns_284 rfl rfl (R_gR hC dX11_laysSigns_285 fl_X11_56 L_M rfl (R_iload hC dX11_laysSigns_288 rfl (R_aI hC dX11_laysSigns_290 L_m_steps (k / 6) rfl (by omega) (by decide) ?_)))))
                refine R_top (y := nI d) (by rw [sA_eq]; exact hsd) ?_
                refine R_istore_n (i := 3) hC dX11_laysSigns_291 rfl (by decide) rfl ?_
                first
                | (have h276 : nI d < few := h275; exact nxt _ _ (bsK_new h7 hb hop hd1 hd2 (Or.inr h276) hk) _ hz2 hgs2 _ _ _)
                | (have h276 : ¬ nI d < few := h275; exact nxt _ _ (bsK_stay h7 hb hd1 hd2 h264 h276) _ hz2 hgs2 _ _ _)
                | (have h265 : best = -1 := h264; exact nxt _ _ (bsK_new h7 hb hop hd1 hd2 (Or.inl h265) hk) _ hz2 hgs2 _ _ _)
                | (refine skp (fun z => h247 ?_) _ hz hgs _ _ _
                   unfold sV
                   rw [if_neg z.2.2.1, if_pos z.2.2.2])
                | exact skp (fun z => b2i_0 h235 ((hMZ τ hz).inT_iff.mpr ⟨inR_n z.1 h6, inR_n z.2.1 h7⟩)) _ hz hgs _ _ _
              · refine R_aload_n (i := 0) hC dX11_laysSigns_267 rfl rfl (R_gR hC dX11_laysSigns_268 fl_X11_56 L_M rfl (R_iload hC dX11_laysSigns_271 rfl (R_aI hC dX11_laysSigns_273 L_m_steps (k / 6) rfl (by omega) (by decide) ?_)))
                refine R_top (y := nI d) (by rw [sA_eq]; exact hsd) ?_
                refine R_iload_n (i := 3) hC dX11_laysSigns_274 rfl rfl ?_
                refine R_icmp_lt hC 281 dX11_laysSigns_275 (by decide) (fun h275 => ?_) (fun h275 => ?_)
                · refine R_iload hC dX11_laysSigns_281 rfl (R_istore_n (i := 2) hC dX11_laysSigns_283 rfl (by decide) rfl (R_aload_n (i := 0) hC dX11_laysSigns_284 rfl rfl (R_gR hC dX11_laysSigns_285 fl_X11_56 L_M rfl (R_iload hC dX11_laysSigns_288 rfl (R_aI hC dX11_laysSigns_290 L_m_steps (k / 6) rfl (by omega) (by decide) ?_)))))
                  refine R_top (y := nI d) (by rw [sA_eq]; exact hsd) ?_
                  refine R_istore_n (i := 3) hC dX11_laysSigns_291 rfl (by decide) rfl ?_
                  first
                  | (have h276 : nI d < few := h275; exact nxt _ _ (bsK_new h7 hb hop hd1 hd2 (Or.inr h276) hk) _ hz2 hgs2 _ _ _)
                  | (have h276 : ¬ nI d < few := h275; exact nxt _ _ (bsK_stay h7 hb hd1 hd2 h264 h276) _ hz2 hgs2 _ _ _)
                  | (have h265 : best = -1 := h264; exact nxt _ _ (bsK_new h7 hb hop hd1 hd2 (Or.inl h265) hk) _ hz2 hgs2 _ _ _)
                  | (refine skp (fun z => h247 ?_) _ hz hgs _ _ _
                     unfold sV
                     rw [if_neg z.2.2.1, if_pos z.2.2.2])
                  | exact skp (fun z => b2i_0 h235 ((hMZ τ hz).inT_iff.mpr ⟨inR_n z.1 h6, inR_n z.2.1 h7⟩)) _ hz hgs _ _ _
                · refine R_goto hC 292 dX11_laysSigns_278 (by decide) ?_
                  first
                  | (have h276 : nI d < few := h275; exact nxt _ _ (bsK_new h7 hb hop hd1 hd2 (Or.inr h276) hk) _ hz2 hgs2 _ _ _)
                  | (have h276 : ¬ nI d < few := h275; exact nxt _ _ (bsK_stay h7 hb hd1 hd2 h264 h276) _ hz2 hgs2 _ _ _)
                  | (have h265 : best = -1 := h264; exact nxt _ _ (bsK_new h7 hb hop hd1 hd2 (Or.inl h265) hk) _ hz2 hgs2 _ _ _)
                  | (refine skp (fun z => h247 ?_) _ hz hgs _ _ _
                     unfold sV
                     rw [if_neg z.2.2.1, if_pos z.2.2.2])
                  | exact skp (fun z => b2i_0 h235 ((hMZ τ hz).inT_iff.mpr ⟨inR_n z.1 h6, inR_n z.2.1 h7⟩)) _ hz hgs _ _ _
            · refine R_goto hC 292 dX11_laysSigns_250 (by decide) ?_
              first
              | (have h276 : nI d < few := h275; exact nxt _ _ (bsK_new h7 hb hop hd1 hd2 (Or.inr h276) hk) _ hz2 hgs2 _ _ _)
              | (have h276 : ¬ nI d < few := h275; exact nxt _ _ (bsK_stay h7 hb hd1 hd2 h264 h276) _ hz2 hgs2 _ _ _)
              | (have h265 : best = -1 := h264; exact nxt _ _ (bsK_new h7 hb hop hd1 hd2 (Or.inl h265) hk) _ hz2 hgs2 _ _ _)
              | (refine skp (fun z => h247 ?_) _ hz hgs _ _ _
                 unfold sV
                 rw [if_neg z.2.2.1, if_pos z.2.2.2])
              | exact skp (fun z => b2i_0 h235 ((hMZ τ hz).inT_iff.mpr ⟨inR_n z.1 h6, inR_n z.2.1 h7⟩)) _ hz hgs _ _ _
      refine R_iload_n (i := 1) hC dX11_laysSigns_191 rfl rfl ?_
      refine R_if_le hC 414 dX11_laysSigns_192 (by decide) (fun h => absurd h (nI_nle (by omega) (by have := cnO_le (p := opk T S) 36; omega))) (fun _ => ?_)
      refine R_iconst (v := (-1)) hC dX11_laysSigns_195 (by decide) (R_istore_n (i := 2) hC dX11_laysSigns_196 rfl (by decide) rfl (R_iconst (v := 0) hC dX11_laysSigns_197 (by decide) (R_istore_n (i := 3) hC dX11_laysSigns_198 rfl (by decide) rfl (R_iconst (v := 0) hC dX11_laysSigns_199 (by decide) (R_istore hC dX11_laysSigns_200 (by decide) rfl ?_)))))
      exact srch 0 (Nat.zero_le _) _ _ (Or.inl ⟨rfl, fun j z => absurd z (Nat.not_lt_zero _)⟩) τ hz hgs _ _ _
  -- the first part: the forest
  have cnR : ∀ n, n < T.1 → cnO (opk T (f1C T n T.2.1).2) (6 * n + T.2.1) = cnO (opk T (f1R T (n + 1)).2) (6 * (n + 1)) := by
    intro n hn
    rw [f1R_s]
    have : ∀ j, 6 * n + T.2.1 + j ≤ 6 * (n + 1) → cnO (opk T (f1C T n T.2.1).2) (6 * n + T.2.1 + j) = cnO (opk T (f1C T n T.2.1).2) (6 * n + T.2.1) := by
      intro j
      induction j with
      | zero => intro _; rfl
      | succ j ih =>
        intro hj
        rw [← Nat.add_assoc, cnO_n (fun z => by have := z.2.1; omega)]
        exact ih (by omega)
    have := this (6 - T.2.1) (by omega)
    rw [show 6 * n + T.2.1 + (6 - T.2.1) = 6 * (n + 1) by omega] at this
    exact this.symm
  have rows : ∀ n, n ≤ T.1 → ∀ τ, MZ σ τ α → (∀ k, k < 12 → τ.2.2 i_m_part k = nI ((f1R T n).1 k)) → GS (τ.2.2 i_m_sign) T (f1R T n).2 n 0 → ∀ u3 u4 u5 u6 u7, Rw mX11_laysSigns X 36 [some (.ref i_M), some (.int (nI (cnO (opk T (f1R T n).2) (6 * n)))), some (.int (nI n)), u3, u4, u5, u6, u7] [] (wd τ x) 0 0 := by
    refine up_loop T.1 ?_ ?_
    · intro τ hz hp hgs u3 u4 u5 u6 u7
      obtain ⟨i0, i1, i2, i3, i4⟩ := J1_R h6 h7 T.1 (Nat.le_refl _)
      have hcn : cnO (opk T (f1R T T.1).2) 36 = cnO (opk T (f1R T T.1).2) (6 * T.1) := by
        have : ∀ j, 6 * T.1 + j ≤ 36 → cnO (opk T (f1R T T.1).2) (6 * T.1 + j) = cnO (opk T (f1R T T.1).2) (6 * T.1) := by
          intro j
          induction j with
          | zero => intro _; rfl
          | succ j ih =>
            intro hj
            rw [← Nat.add_assoc, cnO_n (fun z => by have := z.1; omega)]
            exact ih (by omega)
        have := this (36 - 6 * T.1) (by omega)
        rwa [show 6 * T.1 + (36 - 6 * T.1) = 36 by omega] at this
      refine R_iload_n (i := 2) hC dX11_laysSigns_36 rfl rfl (R_aload_n (i := 0) hC dX11_laysSigns_37 rfl rfl (R_gR hC dX11_laysSigns_38 fl_X11_13 L_M rfl (R_bipush (v := 36) hC dX11_laysSigns_41 (by decide) (R_aI hC dX11_laysSigns_43 L_m_now 36 rfl (by decide) (by decide) ?_))))
      refine R_top (y := nI T.1) (hMR τ hz) ?_
      refine R_icmp_ge hC 191 dX11_laysSigns_44 (by decide) (fun _ => ?_) (fun h => absurd (Int32.le_refl _) h)
      exact ph2 _ 36 (f1R T T.1).2 (by have := cnO_le (p := opk T (f1R T T.1).2) 36; omega) ⟨fun r c => (i3 r c).elim (fun z => Or.inr (Or.inl z)) (fun z => Or.inr (Or.inr z)), fun r c z => (i4 r c z).2.2.2⟩ (fun r c hr hc ht => rel_ds (T := tS2 T (f1R T T.1).2) h6 h7 (show 6 + c < 12 by omega) (i2 (6 + c) r (by omega) (by omega) (i1 r c hr hc (Or.inl hr) ht).symm)) hcn rfl τ hz hgs _ _ _ _ _ _
    · intro n hn ih τ hz hp hgs u3 u4 u5 u6 u7
      rw [← cnR n hn, f1R_s] at ih
      have J0 := J1_R h6 h7 n (by omega)
      have cols : ∀ m, m ≤ T.2.1 → ∀ τ, MZ σ τ α → (∀ k, k < 12 → τ.2.2 i_m_part k = nI ((f1C T n m).1 k)) → GS (τ.2.2 i_m_sign) T (f1C T n m).2 n m → ∀ u4 u5 u6 u7, Rw mX11_laysSigns X 49 [some (.ref i_M), some (.int (nI (cnO (opk T (f1C T n m).2) (6 * n + m)))), some (.int (nI n)), some (.int (nI m)), u4, u5, u6, u7] [] (wd τ x) 0 0 := by
        refine up_loop T.2.1 ?_ ?_
        · intro τ hz hp hgs u4 u5 u6 u7
          refine R_iload_n (i := 3) hC dX11_laysSigns_49 rfl rfl (R_aload_n (i := 0) hC dX11_laysSigns_50 rfl rfl (R_gR hC dX11_laysSigns_51 fl_X11_13 L_M rfl (R_bipush (v := 37) hC dX11_laysSigns_54 (by decide) (R_aI hC dX11_laysSigns_56 L_m_now 37 rfl (by decide) (by decide) ?_))))
          refine R_top (y := nI T.2.1) (hMC τ hz) ?_
          refine R_icmp_ge hC 185 dX11_laysSigns_57 (by decide) (fun _ => ?_) (fun h => absurd (Int32.le_refl _) h)
          refine R_iinc hC dX11_laysSigns_185 rfl (inc1 _) (by decide) rfl (R_goto hC 36 dX11_laysSigns_188 (by decide) ?_)
          exact ih τ hz hp ⟨hgs.1, hgs.2.1, fun r c hr hc => by
          rw [hgs.2.2 r c hr hc]
          by_cases q : r < n ∨ (r = n ∧ c < T.2.1)
          · rw [if_pos q, if_pos (by omega)]
          · rw [if_neg q, if_neg (by omega)]⟩ _ _ _ _ _
        · intro m hm ihm τ hz hp hgs u4 u5 u6 u7
          obtain ⟨i0, i1, i2, i3, i4⟩ := J1_C h6 h7 hn J0 m (by omega)
          rw [f1C_s] at ihm
          have hS0 : (f1C T n m).2 n m = 0 := Classical.byContradiction fun z => by have := (i4 n m z).2.2.1; omega
          have kk : 6 * n + (m + 1) = (6 * n + m) + 1 := by omega
          have k1 : (6 * n + m) / 6 = n := by omega
          have k2 : (6 * n + m) % 6 = m := by omega
          generalize hve : f1C T n m = v at *
          have gsN : ∀ (g : Nat → Int32) (S2 : Nat → Nat → Int32), (g 36 = nI T.1 ∧ g 37 = nI T.2.1) → (∀ r c, r < T.1 → c < T.2.1 → ¬ (r = n ∧ c = m) → g (6 * r + c) = τ.2.2 i_m_sign (6 * r + c) ∧ S2 r c = v.2 r c) → g (6 * n + m) = sV T S2 n m → GS g T S2 n (m + 1) := by
            intro g S2 hd ho hv
            refine ⟨hd.1, hd.2, fun r c hr hc => ?_⟩
            by_cases q : r = n ∧ c = m
            · obtain ⟨rfl, rfl⟩ := q
              rw [if_pos (by omega)]; exact hv
            · obtain ⟨e1, e2⟩ := ho r c hr hc q
              have e3 : sV T S2 r c = sV T v.2 r c := by unfold sV; rw [e2]
              rw [e1, hgs.2.2 r c hr hc, e3]
              by_cases q2 : r < n ∨ (r = n ∧ c < m)
              · rw [if_pos q2, if_pos (by omega)]
              · rw [if_neg q2, if_neg (by omega)]
          by_cases eT : T.2.2 n m = 0
          · have ef : f1 T n m v = v := if_pos (Or.inl eT)
            rw [ef, kk, cnO_n (fun z => by have := z.2.2.1; rw [k1, k2] at this; exact this eT)] at ihm
            refine R_iload_n (i := 3) hC dX11_laysSigns_49 rfl rfl (R_aload_n (i := 0) hC dX11_laysSigns_50 rfl rfl (R_gR hC dX11_laysSigns_51 fl_X11_13 L_M rfl (R_bipush (v := 37) hC dX11_laysSigns_54 (by decide) (R_aI hC dX11_laysSigns_56 L_m_now 37 rfl (by decide) (by decide) ?_))))
            refine R_top (y := nI T.2.1) (hMC τ hz) ?_
            refine R_icmp_ge hC 185 dX11_laysSigns_57 (by decide) (fun h => absurd h (nI_ge hm (by omega))) (fun _ => ?_)
            refine R_aload_n (i := 0) hC dX11_laysSigns_60 rfl rfl (R_gR hC dX11_laysSigns_61 fl_X11_13 L_M rfl (R_bipush (v := 6) hC dX11_laysSigns_64 (by decide) (R_iload_n (i := 2) hC dX11_laysSigns_66 rfl rfl (R_imul hC dX11_laysSigns_67 (R_iload_n (i := 3) hC dX11_laysSigns_68 rfl rfl (R_iadd hC dX11_laysSigns_69 (R_aI hC dX11_laysSigns_70 L_m_now (6 * n + m) (n6 n m) (by omega) (by decide) ?_)))))))
            refine R_top (y := T.2.2 n m) (hMe τ hz n m hn hm) ?_
            refine R_if_ne hC 77 dX11_laysSigns_71 (by decide) (fun h => absurd eT h) (fun _ => ?_)
            refine R_goto hC 179 dX11_laysSigns_74 (by decide) (R_iinc hC dX11_laysSigns_179 rfl (inc1 _) (by decide) rfl (R_goto hC 49 dX11_laysSigns_182 (by decide) ?_))
            exact ihm τ hz hp (gsN _ _ ⟨hgs.1, hgs.2.1⟩ (fun r c _ _ _ => ⟨rfl, rfl⟩) (by rw [hgs.2.2 n m hn hm, if_neg (by omega), eT]; unfold sV; rw [if_pos eT])) _ _ _ _
          · by_cases eP : v.1 n = v.1 (6 + m)
            · have ef : f1 T n m v = v := if_pos (Or.inr eP)
              rw [ef, kk, cnO_y (show opk T v.2 (6 * n + m) by unfold opk; rw [k1, k2]; exact ⟨hn, hm, eT, hS0⟩)] at ihm
              refine R_iload_n (i := 3) hC dX11_laysSigns_49 rfl rfl (R_aload_n (i := 0) hC dX11_laysSigns_50 rfl rfl (R_gR hC dX11_laysSigns_51 fl_X11_13 L_M rfl (R_bipush (v := 37) hC dX11_laysSigns_54 (by decide) (R_aI hC dX11_laysSigns_56 L_m_now 37 rfl (by decide) (by decide) ?_))))
              refine R_top (y := nI T.2.1) (hMC τ hz) ?_
              refine R_icmp_ge hC 185 dX11_laysSigns_57 (by decide) (fun h => absurd h (nI_ge hm (by omega))) (fun _ => ?_)
              refine R_aload_n (i := 0) hC dX11_laysSigns_60 rfl rfl (R_gR hC dX11_laysSigns_61 fl_X11_13 L_M rfl (R_bipush (v := 6) hC dX11_laysSigns_64 (by decide) (R_iload_n (i := 2) hC dX11_laysSigns_66 rfl rfl (R_imul hC dX11_laysSigns_67 (R_iload_n (i := 3) hC dX11_laysSigns_68 rfl rfl (R_iadd hC dX11_laysSigns_69 (R_aI hC dX11_laysSigns_70 L_m_now (6 * n + m) (n6 n m) (by omega) (by decide) ?_)))))))
              refine R_top (y := T.2.2 n m) (hMe τ hz n m hn hm) ?_
              refine R_if_ne hC 77 dX11_laysSigns_71 (by decide) (fun _ => ?_) (fun h => absurd h eT)
              refine R_aload_n (i := 0) hC dX11_laysSigns_77 rfl rfl (R_gR hC dX11_laysSigns_78 fl_X11_53 L_M rfl (R_iload_n (i := 2) hC dX11_laysSigns_81 rfl rfl (R_aI hC dX11_laysSigns_82 L_m_part _ rfl (by omega) (by decide) ?_)))
              refine R_top (y := nI (v.1 n)) (hp n (by omega)) ?_
              refine R_istore hC dX11_laysSigns_83 (by decide) rfl (R_aload_n (i := 0) hC dX11_laysSigns_85 rfl rfl (R_gR hC dX11_laysSigns_86 fl_X11_53 L_M rfl (R_bipush (v := 6) hC dX11_laysSigns_89 (by decide) (R_iload_n (i := 3) hC dX11_laysSigns_91 rfl rfl (R_iadd hC dX11_laysSigns_92 (R_aI hC dX11_laysSigns_93 L_m_part (6 + m) (nI_add 6 m) (by omega) (by decide) ?_))))))
              refine R_top (y := nI (v.1 (6 + m))) (hp (6 + m) (by omega)) ?_
              refine R_istore hC dX11_laysSigns_94 (by decide) rfl (R_aload_n (i := 0) hC dX11_laysSigns_96 rfl rfl (R_gR hC dX11_laysSigns_97 fl_X11_59 L_M rfl (R_bipush (v := 6) hC dX11_laysSigns_100 (by decide) (R_iload_n (i := 2) hC dX11_laysSigns_102 rfl rfl (R_imul hC dX11_laysSigns_103 (R_iload_n (i := 3) hC dX11_laysSigns_104 rfl rfl (R_iadd hC dX11_laysSigns_105 ?_)))))))
              refine R_iload hC dX11_laysSigns_106 rfl (R_iload hC dX11_laysSigns_108 rfl ?_)
              refine R_icmp_ne hC 118 dX11_laysSigns_110 (by decide) (fun h => absurd (by rw [eP]) h) (fun _ => ?_)
              refine R_bipush (v := 9) hC dX11_laysSigns_113 (by decide) (R_goto hC 119 dX11_laysSigns_115 (by decide) (R_sI hC dX11_laysSigns_119 L_m_sign (6 * n + m) (n6 n m) (by omega) (by decide) (R_iload_n (i := 1) hC dX11_laysSigns_120 rfl rfl (R_iload hC dX11_laysSigns_121 rfl (R_iload hC dX11_laysSigns_123 rfl ?_)))))
              refine R_icmp_ne hC 132 dX11_laysSigns_125 (by decide) (fun h => absurd (by rw [eP]) h) (fun _ => ?_)
              refine R_iconst (v := 1) hC dX11_laysSigns_128 (by decide) (R_goto hC 133 dX11_laysSigns_129 (by decide) (R_iadd hC dX11_laysSigns_133 ?_))
              refine R_top (y := nI (cnO (opk T v.2) (6 * n + m) + 1)) (nI_1 _) ?_
              refine R_istore_n (i := 1) hC dX11_laysSigns_134 rfl (by decide) rfl (R_iconst (v := 0) hC dX11_laysSigns_135 (by decide) (R_istore hC dX11_laysSigns_136 (by decide) rfl (R_iload hC dX11_laysSigns_138 rfl (R_bipush (v := 12) hC dX11_laysSigns_140 (by decide) ?_))))
              refine R_icmp_ge hC 179 dX11_laysSigns_142 (by decide) (fun h => absurd h (by decide)) (fun _ => ?_)
              refine R_iload hC dX11_laysSigns_145 rfl (R_iload hC dX11_laysSigns_147 rfl ?_)
              refine R_icmp_eq hC 179 dX11_laysSigns_149 (by decide) (fun _ => ?_) (fun h => absurd (by rw [eP]) h)
              refine R_iinc hC dX11_laysSigns_179 rfl (inc1 _) (by decide) rfl (R_goto hC 49 dX11_laysSigns_182 (by decide) ?_)
              exact ihm _ (hz.a (by decide) (by decide)) (fun k hk => by rw [sA_ne (by decide)]; exact hp k hk) (gsN _ _ ⟨by rw [sA_eq, upd, if_neg (by omega)]; exact hgs.1, by rw [sA_eq, upd, if_neg (by omega)]; exact hgs.2.1⟩ (fun r c hr hc q => ⟨by rw [sA_eq, upd, if_neg (by omega)], rfl⟩) (by rw [sA_eq, upd, if_pos rfl]; unfold sV; rw [if_neg eT, if_pos hS0])) _ _ _ _
            · have ef : f1 T n m v = (fun k => if v.1 k = v.1 (6 + m) then v.1 n else v.1 k, setS v.2 n m 1) := if_neg (fun z => z.elim eT eP)
              have hl1 := i0 n (by omega)
              have hl2 := i0 (6 + m) (by omega)
              have eN : ¬ nI (v.1 n) = nI (v.1 (6 + m)) := fun z => eP (nI_inj (by omega) (by omega) z)
              have hcn : cnO (opk T (setS v.2 n m 1)) (6 * n + m + 1) = cnO (opk T v.2) (6 * n + m) := by
                rw [cnO_n (fun z => by
                  have y := z.2.2.2
                  rw [k1, k2] at y
                  have y : (if n = n ∧ m = m then (1 : Int32) else v.2 n m) = 0 := y
                  rw [if_pos ⟨rfl, rfl⟩] at y
                  exact absurd y (by decide))]
                refine cnO_ext _ (fun k hk => ?_)
                unfold opk opq
                show _ ∧ _ ∧ _ ∧ (if k / 6 = n ∧ k % 6 = m then (1 : Int32) else v.2 (k / 6) (k % 6)) = 0 ↔ _
                rw [if_neg (by omega)]
              rw [ef, kk] at ihm
              simp only at ihm
              rw [hcn] at ihm
              obtain ⟨w, hw⟩ : ∃ w : Nat → Nat, ∀ j, w j = if v.1 j = v.1 (6 + m) then v.1 n else v.1 j := ⟨_, fun _ => rfl⟩
              have inn : ∀ k, k ≤ 12 → ∀ τ, MZ σ τ α → (∀ j, j < 12 → τ.2.2 i_m_part j = nI (if j < k then w j else v.1 j)) → GS (τ.2.2 i_m_sign) T (setS v.2 n m 1) n (m + 1) → ∀ u7, Rw mX11_laysSigns X 138 [some (.ref i_M), some (.int (nI (cnO (opk T v.2) (6 * n + m)))), some (.int (nI n)), some (.int (nI m)), some (.int (nI (v.1 n))), some (.int (nI (v.1 (6 + m)))), some (.int (nI k)), u7] [] (wd τ x) 0 0 := by
                refine up_loop 12 ?_ ?_
                · intro τ hz hp hgs u7
                  refine R_iload hC dX11_laysSigns_138 rfl (R_bipush (v := 12) hC dX11_laysSigns_140 (by decide) ?_)
                  refine R_icmp_ge hC 179 dX11_laysSigns_142 (by decide) (fun _ => ?_) (fun h => absurd (by decide) h)
                  refine R_iinc hC dX11_laysSigns_179 rfl (inc1 _) (by decide) rfl (R_goto hC 49 dX11_laysSigns_182 (by decide) ?_)
                  exact ihm τ hz (fun k hk => by rw [hp k hk, if_pos hk, hw]) hgs _ _ _ _
                · intro k hk ihk τ hz hp hgs u7
                  have hlk := i0 k hk
                  have em : (nI (v.1 k) = nI (v.1 (6 + m))) ↔ v.1 k = v.1 (6 + m) := nI_eq (by omega) (by omega)
                  refine R_iload hC dX11_laysSigns_138 rfl (R_bipush (v := 12) hC dX11_laysSigns_140 (by decide) ?_)
                  refine R_icmp_ge hC 179 dX11_laysSigns_142 (by decide) (fun h => absurd h (nI_ge (b := 12) hk (by decide))) (fun _ => ?_)
                  refine R_iload hC dX11_laysSigns_145 rfl (R_iload hC dX11_laysSigns_147 rfl ?_)
                  refine R_icmp_eq hC 179 dX11_laysSigns_149 (by decide) (fun h => absurd h eN) (fun _ => ?_)
                  refine R_aload_n (i := 0) hC dX11_laysSigns_152 rfl rfl (R_gR hC dX11_laysSigns_153 fl_X11_53 L_M rfl (R_iload hC dX11_laysSigns_156 rfl (R_aI hC dX11_laysSigns_158 L_m_part _ rfl (by omega) (by decide) ?_)))
                  refine R_top (y := nI (v.1 k)) (by rw [hp k hk, if_neg (by omega)]) ?_
                  refine R_iload hC dX11_laysSigns_159 rfl ?_
                  refine R_icmp_ne hC 173 dX11_laysSigns_161 (by decide) (fun h161 => ?_) (fun h161 => ?_)
                  · refine R_iinc hC dX11_laysSigns_173 rfl (inc1 _) (by decide) rfl (R_goto hC 138 dX11_laysSigns_176 (by decide) ?_)
                    first
                    | (have h162 : v.1 k = v.1 (6 + m) := em.mp h161
                       refine ihk _ (hz.a (by decide) (by decide)) (fun j hj => ?_) (by rw [sA_ne (by decide)]; exact hgs) _
                       by_cases e : j = k
                       · rw [sA_eq, upd, if_pos e, if_pos (by omega), hw, if_pos (by rw [e]; exact h162)]
                       · rw [sA_eq, upd, if_neg e, hp j hj]
                         by_cases e2 : j < k
                         · rw [if_pos e2, if_pos (by omega)]
                         · rw [if_neg e2, if_neg (by omega)])
                    | (refine ihk _ hz (fun j hj => ?_) hgs _
                       rw [hp j hj]
                       by_cases e2 : j < k
                       · rw [if_pos e2, if_pos (by omega)]
                       · rw [if_neg e2]
                         by_cases e : j = k
                         · rw [if_pos (by omega), hw, if_neg (by rw [e]; exact fun z => h161 (em.mpr z))]
                         · rw [if_neg (by omega)])
                  · refine R_aload_n (i := 0) hC dX11_laysSigns_164 rfl rfl (R_gR hC dX11_laysSigns_165 fl_X11_53 L_M rfl (R_iload hC dX11_laysSigns_168 rfl (R_iload hC dX11_laysSigns_170 rfl (R_sI hC dX11_laysSigns_172 L_m_part _ rfl (by omega) (by decide) (R_iinc hC dX11_laysSigns_173 rfl (inc1 _) (by decide) rfl (R_goto hC 138 dX11_laysSigns_176 (by decide) ?_))))))
                    first
                    | (have h162 : v.1 k = v.1 (6 + m) := em.mp h161
                       refine ihk _ (hz.a (by decide) (by decide)) (fun j hj => ?_) (by rw [sA_ne (by decide)]; exact hgs) _
                       by_cases e : j = k
                       · rw [sA_eq, upd, if_pos e, if_pos (by omega), hw, if_pos (by rw [e]; exact h162)]
                       · rw [sA_eq, upd, if_neg e, hp j hj]
                         by_cases e2 : j < k
                         · rw [if_pos e2, if_pos (by omega)]
                         · rw [if_neg e2, if_neg (by omega)])
                    | (refine ihk _ hz (fun j hj => ?_) hgs _
                       rw [hp j hj]
                       by_cases e2 : j < k
                       · rw [if_pos e2, if_pos (by omega)]
                       · rw [if_neg e2]
                         by_cases e : j = k
                         · rw [if_pos (by omega), hw, if_neg (by rw [e]; exact fun z => h161 (em.mpr z))]
                         · rw [if_neg (by omega)])
              refine R_iload_n (i := 3) hC dX11_laysSigns_49 rfl rfl (R_aload_n (i := 0) hC dX11_laysSigns_50 rfl rfl (R_gR hC dX11_laysSigns_51 fl_X11_13 L_M rfl (R_bipush (v := 37) hC dX11_laysSigns_54 (by decide) (R_aI hC dX11_laysSigns_56 L_m_now 37 rfl (by decide) (by decide) ?_))))
              refine R_top (y := nI T.2.1) (hMC τ hz) ?_
              refine R_icmp_ge hC 185 dX11_laysSigns_57 (by decide) (fun h => absurd h (nI_ge hm (by omega))) (fun _ => ?_)
              refine R_aload_n (i := 0) hC dX11_laysSigns_60 rfl rfl (R_gR hC dX11_laysSigns_61 fl_X11_13 L_M rfl (R_bipush (v := 6) hC dX11_laysSigns_64 (by decide) (R_iload_n (i := 2) hC dX11_laysSigns_66 rfl rfl (R_imul hC dX11_laysSigns_67 (R_iload_n (i := 3) hC dX11_laysSigns_68 rfl rfl (R_iadd hC dX11_laysSigns_69 (R_aI hC dX11_laysSigns_70 L_m_now (6 * n + m) (n6 n m) (by omega) (by decide) ?_)))))))
              refine R_top (y := T.2.2 n m) (hMe τ hz n m hn hm) ?_
              refine R_if_ne hC 77 dX11_laysSigns_71 (by decide) (fun _ => ?_) (fun h => absurd h eT)
              refine R_aload_n (i := 0) hC dX11_laysSigns_77 rfl rfl (R_gR hC dX11_laysSigns_78 fl_X11_53 L_M rfl (R_iload_n (i := 2) hC dX11_laysSigns_81 rfl rfl (R_aI hC dX11_laysSigns_82 L_m_part _ rfl (by omega) (by decide) ?_)))
              refine R_top (y := nI (v.1 n)) (hp n (by omega)) ?_
              refine R_istore hC dX11_laysSigns_83 (by decide) rfl (R_aload_n (i := 0) hC dX11_laysSigns_85 rfl rfl (R_gR hC dX11_laysSigns_86 fl_X11_53 L_M rfl (R_bipush (v := 6) hC dX11_laysSigns_89 (by decide) (R_iload_n (i := 3) hC dX11_laysSigns_91 rfl rfl (R_iadd hC dX11_laysSigns_92 (R_aI hC dX11_laysSigns_93 L_m_part (6 + m) (nI_add 6 m) (by omega) (by decide) ?_))))))
              refine R_top (y := nI (v.1 (6 + m))) (hp (6 + m) (by omega)) ?_
              refine R_istore hC dX11_laysSigns_94 (by decide) rfl (R_aload_n (i := 0) hC dX11_laysSigns_96 rfl rfl (R_gR hC dX11_laysSigns_97 fl_X11_59 L_M rfl (R_bipush (v := 6) hC dX11_laysSigns_100 (by decide) (R_iload_n (i := 2) hC dX11_laysSigns_102 rfl rfl (R_imul hC dX11_laysSigns_103 (R_iload_n (i := 3) hC dX11_laysSigns_104 rfl rfl (R_iadd hC dX11_laysSigns_105 ?_)))))))
              refine R_iload hC dX11_laysSigns_106 rfl (R_iload hC dX11_laysSigns_108 rfl ?_)
              refine R_icmp_ne hC 118 dX11_laysSigns_110 (by decide) (fun _ => ?_) (fun h => absurd h eN)
              refine R_iconst (v := 1) hC dX11_laysSigns_118 (by decide) (R_sI hC dX11_laysSigns_119 L_m_sign (6 * n + m) (n6 n m) (by omega) (by decide) (R_iload_n (i := 1) hC dX11_laysSigns_120 rfl rfl (R_iload hC dX11_laysSigns_121 rfl (R_iload hC dX11_laysSigns_123 rfl ?_))))
              refine R_icmp_ne hC 132 dX11_laysSigns_125 (by decide) (fun _ => ?_) (fun h => absurd h eN)
              refine R_iconst (v := 0) hC dX11_laysSigns_132 (by decide) (R_iadd hC dX11_laysSigns_133 ?_)
              refine R_top (y := nI (cnO (opk T v.2) (6 * n + m))) (Int32.add_zero _) ?_
              refine R_istore_n (i := 1) hC dX11_laysSigns_134 rfl (by decide) rfl (R_iconst (v := 0) hC dX11_laysSigns_135 (by decide) (R_istore hC dX11_laysSigns_136 (by decide) rfl ?_))
              exact inn 0 (Nat.zero_le _) _ (hz.a (by decide) (by decide)) (fun k hk => by rw [sA_ne (by decide), if_neg (Nat.not_lt_zero _)]; exact hp k hk) (gsN _ _ ⟨by rw [sA_eq, upd, if_neg (by omega)]; exact hgs.1, by rw [sA_eq, upd, if_neg (by omega)]; exact hgs.2.1⟩ (fun r c hr hc q => ⟨by rw [sA_eq, upd, if_neg (by omega)], if_neg q⟩) (by
              rw [sA_eq, upd, if_pos rfl]; unfold sV
              rw [if_neg eT, show setS v.2 n m 1 n m = 1 from if_pos ⟨rfl, rfl⟩]; rfl)) _
      refine R_iload_n (i := 2) hC dX11_laysSigns_36 rfl rfl (R_aload_n (i := 0) hC dX11_laysSigns_37 rfl rfl (R_gR hC dX11_laysSigns_38 fl_X11_13 L_M rfl (R_bipush (v := 36) hC dX11_laysSigns_41 (by decide) (R_aI hC dX11_laysSigns_43 L_m_now 36 rfl (by decide) (by decide) ?_))))
      refine R_top (y := nI T.1) (hMR τ hz) ?_
      refine R_icmp_ge hC 191 dX11_laysSigns_44 (by decide) (fun h => absurd h (nI_ge hn (by omega))) (fun _ => ?_)
      refine R_iconst (v := 0) hC dX11_laysSigns_47 (by decide) (R_istore_n (i := 3) hC dX11_laysSigns_48 rfl (by decide) rfl ?_)
      exact cols 0 (Nat.zero_le _) τ hz hp hgs _ _ _ _
  have init : ∀ n, n ≤ 12 → ∀ τ, MZ σ τ α → (∀ k, k < n → τ.2.2 i_m_part k = nI k) → GS (τ.2.2 i_m_sign) T (fun _ _ => 0) 0 0 → ∀ u2 u3 u4 u5 u6 u7, Rw mX11_laysSigns X 13 [some (.ref i_M), some (.int (nI n)), u2, u3, u4, u5, u6, u7] [] (wd τ x) 0 0 := by
    refine up_loop 12 ?_ ?_
    · intro τ hz hp hgs u2 u3 u4 u5 u6 u7
      refine R_iload_n (i := 1) hC dX11_laysSigns_13 rfl rfl (R_bipush (v := 12) hC dX11_laysSigns_14 (by decide) ?_)
      refine R_icmp_ge hC 32 dX11_laysSigns_16 (by decide) (fun _ => ?_) (fun h => absurd (by decide) h)
      refine R_iconst (v := 0) hC dX11_laysSigns_32 (by decide) (R_istore_n (i := 1) hC dX11_laysSigns_33 rfl (by decide) rfl (R_iconst (v := 0) hC dX11_laysSigns_34 (by decide) (R_istore_n (i := 2) hC dX11_laysSigns_35 rfl (by decide) rfl ?_)))
      exact rows 0 (Nat.zero_le _) τ hz (fun k hk => hp k hk) hgs _ _ _ _ _
    · intro n hn ih τ hz hp hgs u2 u3 u4 u5 u6 u7
      refine R_iload_n (i := 1) hC dX11_laysSigns_13 rfl rfl (R_bipush (v := 12) hC dX11_laysSigns_14 (by decide) ?_)
      refine R_icmp_ge hC 32 dX11_laysSigns_16 (by decide) (fun h => absurd h (nI_ge (b := 12) hn (by decide))) (fun _ => ?_)
      refine R_aload_n (i := 0) hC dX11_laysSigns_19 rfl rfl (R_gR hC dX11_laysSigns_20 fl_X11_53 L_M rfl (R_iload_n (i := 1) hC dX11_laysSigns_23 rfl rfl (R_iload_n (i := 1) hC dX11_laysSigns_24 rfl rfl (R_sI hC dX11_laysSigns_25 L_m_part _ rfl (by omega) (by decide) (R_iinc hC dX11_laysSigns_26 rfl (inc1 _) (by decide) rfl (R_goto hC 13 dX11_laysSigns_29 (by decide) ?_))))))
      exact ih _ (hz.a (by decide) (by decide)) (fun k hk => by
      by_cases e : k = n
      · rw [sA_eq, upd, if_pos e, e]
      · rw [sA_eq, upd, if_neg e]; exact hp k (by omega)) (by rw [sA_ne (by decide)]; exact hgs) _ _ _ _ _ _
  refine R_aload_n (i := 0) hC dX11_laysSigns_0 rfl rfl (R_gR hC dX11_laysSigns_1 fl_X11_13 L_M rfl (R_aload_n (i := 0) hC dX11_laysSigns_4 rfl rfl (R_gR hC dX11_laysSigns_5 fl_X11_59 L_M rfl ?_)))
  refine R_S2v hC hR dX11_laysSigns_8 MS_X11_copy ml_X11_170 (s_copy ω x i_m_now i_m_sign L_m_now L_m_sign (by decide)) (by decide) ⟨by decide, by decide⟩ (Nat.le_of_ble_eq_true rfl) ?_
  refine R_iconst (v := 0) hC dX11_laysSigns_11 (by decide) (R_istore_n (i := 1) hC dX11_laysSigns_12 rfl (by decide) rfl ?_)
  exact init 0 (Nat.zero_le _) _ (hω.a (by decide) (by decide)) (fun k hk => absurd hk (Nat.not_lt_zero _)) (by
  rw [sA_eq]
  refine ⟨by unfold cpy; rw [if_pos (by decide)]; exact hMR ω hω, by unfold cpy; rw [if_pos (by decide)]; exact hMC ω hω, fun r c hr hc => ?_⟩
  unfold cpy
  rw [if_pos (by omega), if_neg (by omega)]
  exact hMe ω hω r c hr hc) _ _ _ _ _ _
noncomputable def opSigned (α : aS) (r c : Int32) : Int32 := by classical exact (if (inR (tT α).1 r ∧ inR (tT α).2.1 c) then (sgnA (tT α)).2.2 r.toNatClampNeg c.toNatClampNeg else -1000000)
theorem mo_signed {σ : sg} {x : aW} {α : aS} (h : MInv σ α) (ok : aOK α) (r c : Int32) : Mt mX11_signed 5 0 0 [.ref i_M, .int r, .int c] (wd σ x) (MPost σ x (opSigned α r c) α) := by
  refine Mt.of MI_X11_signed (Nat.le_of_ble_eq_true rfl) (fun X hC hR hT => ?_)
  have hω := MZ.of h
  have hTB := hω.T ok
  have h6 := ok.2.2.1.1
  have h7 := ok.2.2.1.2.1
  refine R_aload_n (i := 0) hC dX11_signed_0 rfl rfl (R_iconst (v := 0) hC dX11_signed_1 (by decide) (R_pI hC dX11_signed_2 fl_X11_83 L_M rfl (R_aload_n (i := 0) hC dX11_signed_5 rfl rfl (R_aload_n (i := 0) hC dX11_signed_6 rfl rfl (R_gR hC dX11_signed_7 fl_X11_13 L_M rfl (R_iload_n (i := 1) hC dX11_signed_10 rfl rfl (R_iload_n (i := 2) hC dX11_signed_11 rfl rfl ?_)))))))
  refine R_V3i hC hR dX11_signed_12 MV_X11_isCell ml_X11_158 L_M rfl (s_isCell _ _ _ L_m_now _ _) (by decide) ⟨by decide, by decide⟩ (Nat.le_of_ble_eq_true rfl) ?_
  refine R_if_ne hC 21 dX11_signed_15 (by decide) (fun h15 => ?_) (fun h15 => ?_)
  · refine R_aload_n (i := 0) hC dX11_signed_21 rfl rfl ?_
    refine R_V0g hC hR dX11_signed_22 MV_X11_laysSigns ml_X11_283 L_M rfl (s_laysSigns hω ok) (by decide) ⟨by decide, by decide⟩ (Nat.le_of_ble_eq_true rfl) (fun r w1 hq => ?_)
    obtain ⟨rfl, τ, rfl, hz, hs⟩ := hq
    have hin := hTB.inT_iff.mp (b2i_ne h15)
    obtain ⟨i, rfl, hi, hi2⟩ := inR_i hin.1
    obtain ⟨j, rfl, hj, hj2⟩ := inR_i hin.2
    refine R_aload_n (i := 0) hC dX11_signed_25 rfl rfl (R_gR hC dX11_signed_26 fl_X11_59 L_M rfl (R_bipush (v := 6) hC dX11_signed_29 (by decide) (R_iload_n (i := 1) hC dX11_signed_31 rfl rfl (R_imul hC dX11_signed_32 (R_iload_n (i := 2) hC dX11_signed_33 rfl rfl (R_iadd hC dX11_signed_34 (R_aI hC dX11_signed_35 L_m_sign (6 * i + j) (n6 i j) (by omega) (by decide) ?_)))))))
    exact R_iret hC hT dX11_signed_36 rfl (by
    first
    | (have e : opSigned α (nI i) (nI j) = τ.2.2 i_m_sign (6 * i + j) := (by unfold opSigned; rw [if_pos hin, nI_clamp hi2, nI_clamp hj2]; exact (hs.2.2.2.2 i j hi hj).1.symm); rw [e]; exact hz.p)
    | (have e : opSigned α r c = -1000000 := (by unfold opSigned; rw [if_neg (fun z => b2i_0 h15 (hTB.inT_iff.mpr z))]); rw [e]; exact hω.p))
  · refine R_ldc hC dX11_signed_18 kc_X11_133 ?_
    exact R_iret hC hT dX11_signed_20 rfl (by
    first
    | (have e : opSigned α (nI i) (nI j) = τ.2.2 i_m_sign (6 * i + j) := (by unfold opSigned; rw [if_pos hin, nI_clamp hi2, nI_clamp hj2]; exact (hs.2.2.2.2 i j hi hj).1.symm); rw [e]; exact hz.p)
    | (have e : opSigned α r c = -1000000 := (by unfold opSigned; rw [if_neg (fun z => b2i_0 h15 (hTB.inT_iff.mpr z))]); rw [e]; exact hω.p))
noncomputable def opRegular (α : aS) : Int32 := if (tT α).1 = 0 then -1 else b2i (tot (sgnA (tT α)))
theorem mo_regular {σ : sg} {x : aW} {α : aS} (h : MInv σ α) (ok : aOK α) : Mt mX11_regular 5 0 0 [.ref i_M] (wd σ x) (MPost σ x (opRegular α) α) := by
  refine Mt.of MI_X11_regular (Nat.le_of_ble_eq_true rfl) (fun X hC hR hT => ?_)
  have hω := MZ.of h
  refine R_aload_n (i := 0) hC dX11_regular_0 rfl rfl (R_iconst (v := 0) hC dX11_regular_1 (by decide) (R_pI hC dX11_regular_2 fl_X11_83 L_M rfl (R_aload_n (i := 0) hC dX11_regular_5 rfl rfl (R_gR hC dX11_regular_6 fl_X11_13 L_M rfl (R_bipush (v := 36) hC dX11_regular_9 (by decide) (R_aI hC dX11_regular_11 L_m_now 36 rfl (by decide) (by decide) ?_))))))
  refine R_top (y := nI (tT α).1) (hω.R) ?_
  refine R_if_ne hC 17 dX11_regular_12 (by decide) (fun h12 => ?_) (fun h12 => ?_)
  · refine R_aload_n (i := 0) hC dX11_regular_17 rfl rfl ?_
    refine R_V0g hC hR dX11_regular_18 MV_X11_laysSigns ml_X11_283 L_M rfl (s_laysSigns hω ok) (by decide) ⟨by decide, by decide⟩ (Nat.le_of_ble_eq_true rfl) (fun r w1 hq => ?_)
    obtain ⟨rfl, τ, rfl, hz, hs⟩ := hq
    refine R_aload_n (i := 0) hC dX11_regular_21 rfl rfl (R_aload_n (i := 0) hC dX11_regular_22 rfl rfl (R_gR hC dX11_regular_23 fl_X11_59 L_M rfl ?_))
    refine R_V1g hC hR dX11_regular_26 MV_X11_isTotal ml_X11_227 L_M rfl (s_isTotal τ x i_m_sign L_m_sign (by decide) (sgnA (tT α)) hs) (by decide) ⟨by decide, by decide⟩ (Nat.le_of_ble_eq_true rfl) (fun r w1 hq => ?_)
    obtain ⟨rfl, g, rfl, -⟩ := hq
    have hz2 : MZ σ (sA τ i_m_dets g) α := hz.a (by decide) (by decide)
    have e0 : opRegular α = b2i (tot (sgnA (tT α))) := if_neg (fun z => h12 ((T0_iff ok).mpr z))
    refine R_if_eq hC 36 dX11_regular_29 (by decide) (fun h29 => ?_) (fun h29 => ?_)
    · refine R_iconst (v := 0) hC dX11_regular_36 (by decide) ?_
      exact R_iret hC hT dX11_regular_37 rfl (by
      first
      | (rw [e0, b2i_t (b2i_ne h29)]; exact hz2.p)
      | (have h30 := h29; rw [e0, b2i_f (b2i_0 h30)]; exact hz2.p)
      | (have e : opRegular α = -1 := if_pos ((T0_iff ok).mp h12); rw [e]; exact hω.p))
    · refine R_iconst (v := 1) hC dX11_regular_32 (by decide) (R_goto hC 37 dX11_regular_33 (by decide) ?_)
      exact R_iret hC hT dX11_regular_37 rfl (by
      first
      | (rw [e0, b2i_t (b2i_ne h29)]; exact hz2.p)
      | (have h30 := h29; rw [e0, b2i_f (b2i_0 h30)]; exact hz2.p)
      | (have e : opRegular α = -1 := if_pos ((T0_iff ok).mp h12); rw [e]; exact hω.p))
  · refine R_iconst (v := (-1)) hC dX11_regular_15 (by decide) ?_
    exact R_iret hC hT dX11_regular_16 rfl (by
    first
    | (rw [e0, b2i_t (b2i_ne h29)]; exact hz2.p)
    | (have h30 := h29; rw [e0, b2i_f (b2i_0 h30)]; exact hz2.p)
    | (have e : opRegular α = -1 := if_pos ((T0_iff ok).mp h12); rw [e]; exact hω.p))
/-! ===== cycle ===== -/
noncomputable def dzO (T : tb) (g b : Nat) : Option Nat := by classical exact (if h : ∃ k, k ≤ 12 ∧ ds T g b k then some (Classical.choose h) else none)
theorem dzO_y {T : tb} {g b k : Nat} (hk : k ≤ 12) (h : ds T g b k) : dzO T g b = some k := by
  unfold dzO
  rw [dif_pos ⟨k, hk, h⟩, ds_u (Classical.choose_spec (⟨k, hk, h⟩ : ∃ k, k ≤ 12 ∧ ds T g b k)).2 h]
theorem dzO_n {T : tb} {g b : Nat} (h : ¬ rch T g 12 b) : dzO T g b = none := by
  unfold dzO
  rw [dif_neg (fun ⟨k, h1, h2⟩ => h (rch_mono h2.1 12 h1))]
/-- how many entries the shortest round by this one has -/
noncomputable def cyH (T : tb) (r c : Nat) (v : Int32) : Int32 := if T.2.2 r c = 0 then v else match dzO (tset T r c 0) r (6 + c) with
  | some k => if v = -1 ∨ nI (k + 1) < v then nI (k + 1) else v
  | none => v
noncomputable def opCycle (α : aS) : Int32 := if (tT α).1 = 0 then -1 else fo (fun r v => fo (cyH (tT α) r) 0 (tT α).2.1 v) 0 (tT α).1 (-1)
theorem mo_cycle {σ : sg} {x : aW} {α : aS} (h : MInv σ α) (ok : aOK α) : Mt mX11_cycle 4 0 0 [.ref i_M] (wd σ x) (MPost σ x (opCycle α) α) := by
  refine Mt.of MI_X11_cycle (Nat.le_of_ble_eq_true rfl) (fun X hC hR hT => ?_)
  have hω0 := MZ.of h
  have h6 := ok.2.2.1.1
  have h7 := ok.2.2.1.2.1
  have hsm := ok.2.2.1.2.2.2
  have loop : opCycle α = fo (fun r v => fo (cyH (tT α) r) 0 (tT α).2.1 v) 0 (tT α).1 (-1) → ∀ n, n ≤ (tT α).1 → ∀ ω, MZ σ ω α → ∀ u3 u4, Rw mX11_cycle X 21 [some (.ref i_M), some (.int (fo (fun r v => fo (cyH (tT α) r) 0 (tT α).2.1 v) 0 n (-1))), some (.int (nI n)), u3, u4] [] (wd ω x) 0 0 := by
    intro eo
    refine up_loop (tT α).1 ?_ ?_
    · intro ω hω u3 u4
      refine R_iload_n (i := 2) hC dX11_cycle_21 rfl rfl (R_aload_n (i := 0) hC dX11_cycle_22 rfl rfl (R_gR hC dX11_cycle_23 fl_X11_13 L_M rfl (R_bipush (v := 36) hC dX11_cycle_26 (by decide) (R_aI hC dX11_cycle_28 L_m_now 36 rfl (by decide) (by decide) ?_))))
      refine R_top (y := nI (tT α).1) (hω.R) ?_
      refine R_icmp_ge hC 151 dX11_cycle_29 (by decide) (fun _ => ?_) (fun h => absurd (Int32.le_refl _) h)
      refine R_iload_n (i := 1) hC dX11_cycle_151 rfl rfl ?_
      exact R_iret hC hT dX11_cycle_152 rfl (by rw [eo]; exact hω.p)
    · intro n hn ih ω hω u3 u4
      rw [fo_s _ (Nat.zero_le n)] at ih
      generalize hv0 : fo (fun r v => fo (cyH (tT α) r) 0 (tT α).2.1 v) 0 n (-1) = v0 at ih ⊢
      have col : ∀ c, c ≤ (tT α).2.1 → ∀ ω, MZ σ ω α → ∀ u4, Rw mX11_cycle X 34 [some (.ref i_M), some (.int (fo (cyH (tT α) n) 0 c v0)), some (.int (nI n)), some (.int (nI c)), u4] [] (wd ω x) 0 0 := by
        refine up_loop (tT α).2.1 ?_ ?_
        · intro ω hω u4
          refine R_iload_n (i := 3) hC dX11_cycle_34 rfl rfl (R_aload_n (i := 0) hC dX11_cycle_35 rfl rfl (R_gR hC dX11_cycle_36 fl_X11_13 L_M rfl (R_bipush (v := 37) hC dX11_cycle_39 (by decide) (R_aI hC dX11_cycle_41 L_m_now 37 rfl (by decide) (by decide) ?_))))
          refine R_top (y := nI (tT α).2.1) (hω.C) ?_
          refine R_icmp_ge hC 145 dX11_cycle_42 (by decide) (fun _ => ?_) (fun h => absurd (Int32.le_refl _) h)
          refine R_iinc hC dX11_cycle_145 rfl (inc1 _) (by decide) rfl (R_goto hC 21 dX11_cycle_148 (by decide) ?_)
          exact ih ω hω _ _
        · intro c hc ihc ω hω u4
          rw [fo_s _ (Nat.zero_le c)] at ihc
          generalize hvc : fo (cyH (tT α) n) 0 c v0 = vc at ihc ⊢
          have hSG : SG (upd (cpy (ω.2.2 i_m_now) (ω.2.2 i_m_sign) 38) (6 * n + c) 0) (tset (tT α) n c 0) := by
            refine ⟨by rw [upd, if_neg (by omega)]; unfold cpy; rw [if_pos (by decide)]; exact hω.R, by rw [upd, if_neg (by omega)]; unfold cpy; rw [if_pos (by decide)]; exact hω.C, h6, h7, fun r2 c2 hr2 hc2 => ?_⟩
            have hr2 : r2 < (tT α).1 := hr2
            have hc2 : c2 < (tT α).2.1 := hc2
            rw [upd6 (by omega) (by omega)]
            show _ ↔ ¬ (if r2 = n ∧ c2 = c then (0 : Int32) else (tT α).2.2 r2 c2) = 0
            by_cases q : r2 = n ∧ c2 = c
            · rw [if_pos q, if_pos q]; simp
            · rw [if_neg q, if_neg q]
              unfold cpy
              rw [if_pos (by omega), hω.e hr2 hc2]
              refine ⟨fun z => z.1, fun z => ⟨z, fun y => ?_⟩⟩
              rcases hsm r2 c2 hr2 hc2 with w | w | w <;> rw [w] at y <;> exact absurd y (by decide)
          have nx : ∀ v, cyH (tT α) n c vc = v → ∀ ω, MZ σ ω α → ∀ u4, Rw mX11_cycle X 139 [some (.ref i_M), some (.int v), some (.int (nI n)), some (.int (nI c)), u4] [] (wd ω x) 0 0 := by
            intro v hv ω hω u4
            rw [hv] at ihc
            refine R_iinc hC dX11_cycle_139 rfl (inc1 _) (by decide) rfl (R_goto hC 34 dX11_cycle_142 (by decide) ?_)
            exact ihc ω hω _
          refine R_iload_n (i := 3) hC dX11_cycle_34 rfl rfl (R_aload_n (i := 0) hC dX11_cycle_35 rfl rfl (R_gR hC dX11_cycle_36 fl_X11_13 L_M rfl (R_bipush (v := 37) hC dX11_cycle_39 (by decide) (R_aI hC dX11_cycle_41 L_m_now 37 rfl (by decide) (by decide) ?_))))
          refine R_top (y := nI (tT α).2.1) (hω.C) ?_
          refine R_icmp_ge hC 145 dX11_cycle_42 (by decide) (fun h => absurd h (nI_ge hc (by omega))) (fun _ => ?_)
          refine R_aload_n (i := 0) hC dX11_cycle_45 rfl rfl (R_gR hC dX11_cycle_46 fl_X11_13 L_M rfl (R_bipush (v := 6) hC dX11_cycle_49 (by decide) (R_iload_n (i := 2) hC dX11_cycle_51 rfl rfl (R_imul hC dX11_cycle_52 (R_iload_n (i := 3) hC dX11_cycle_53 rfl rfl (R_iadd hC dX11_cycle_54 (R_aI hC dX11_cycle_55 L_m_now (6 * n + c) (n6 n c) (by omega) (by decide) ?_)))))))
          refine R_top (y := (tT α).2.2 n c) (hω.e hn hc) ?_
          refine R_istore hC dX11_cycle_56 (by decide) rfl (R_iload hC dX11_cycle_58 rfl ?_)
          refine R_if_ne hC 66 dX11_cycle_60 (by decide) (fun h60 => ?_) (fun h60 => ?_)
          · refine R_aload_n (i := 0) hC dX11_cycle_66 rfl rfl (R_gR hC dX11_cycle_67 fl_X11_13 L_M rfl (R_aload_n (i := 0) hC dX11_cycle_70 rfl rfl (R_gR hC dX11_cycle_71 fl_X11_59 L_M rfl ?_)))
            refine R_S2v hC hR dX11_cycle_74 MS_X11_copy ml_X11_170 (s_copy ω x i_m_now i_m_sign L_m_now L_m_sign (by decide)) (by decide) ⟨by decide, by decide⟩ (Nat.le_of_ble_eq_true rfl) ?_
            refine R_aload_n (i := 0) hC dX11_cycle_77 rfl rfl (R_gR hC dX11_cycle_78 fl_X11_59 L_M rfl (R_bipush (v := 6) hC dX11_cycle_81 (by decide) (R_iload_n (i := 2) hC dX11_cycle_83 rfl rfl (R_imul hC dX11_cycle_84 (R_iload_n (i := 3) hC dX11_cycle_85 rfl rfl (R_iadd hC dX11_cycle_86 (R_iconst (v := 0) hC dX11_cycle_87 (by decide) ?_)))))))
            refine R_sI hC dX11_cycle_88 L_m_sign (6 * n + c) (n6 n c) (by omega) (by decide) ?_
            refine R_wd (by rw [sA_eq, sA_sA]) ?_
            refine R_aload_n (i := 0) hC dX11_cycle_89 rfl rfl (R_iload_n (i := 2) hC dX11_cycle_90 rfl rfl ?_)
            refine R_V1g hC hR dX11_cycle_91 MV_X11_laysSteps ml_X11_277 L_M rfl (s_laysSteps _ x (tset (tT α) n c 0) (by rw [sA_eq]; exact hSG) n (by omega)) (by decide) ⟨by decide, by decide⟩ (Nat.le_of_ble_eq_true rfl) (fun r w1 hq => ?_)
            obtain ⟨rfl, st, rfl, hst⟩ := hq
            generalize hω2e : sA (sA ω i_m_sign (upd (cpy (ω.2.2 i_m_now) (ω.2.2 i_m_sign) 38) (6 * n + c) 0)) i_m_steps st = ω2
            have hω2 : MZ σ ω2 α := by rw [← hω2e]; exact (hω.a (by decide) (by decide)).a (by decide) (by decide)
            have hste : ∀ b, ω2.2.2 i_m_steps b = st b := fun b => by rw [← hω2e, sA_eq]
            have hd := hst (6 + c) (by omega)
            refine R_aload_n (i := 0) hC dX11_cycle_94 rfl rfl (R_gR hC dX11_cycle_95 fl_X11_56 L_M rfl (R_bipush (v := 6) hC dX11_cycle_98 (by decide) (R_iload_n (i := 3) hC dX11_cycle_100 rfl rfl (R_iadd hC dX11_cycle_101 (R_aI hC dX11_cycle_102 L_m_steps (6 + c) (nI_add 6 c) (by omega) (by decide) ?_)))))
            refine R_top (y := st (6 + c)) (hste _) ?_
            refine R_iconst (v := (-1)) hC dX11_cycle_103 (by decide) ?_
            refine R_icmp_eq hC 139 dX11_cycle_104 (by decide) (fun h104 => ?_) (fun h104 => ?_)
            · first
              | (have h125 : ¬ vc ≤ nI (k + 1) := h124; exact nx _ (by rw [hcy, if_pos (Or.inr (Int32.not_le.mp h125))]) ω2 hω2 _)
              | (have h125 : vc ≤ nI (k + 1) := h124; exact nx _ (by rw [hcy, if_neg (fun z => z.elim h109 (fun y => absurd h125 (Int32.not_le.mpr y)))]) ω2 hω2 _)
              | (have h110 : vc = -1 := h109; exact nx _ (by rw [hcy, if_pos (Or.inl h110)]) ω2 hω2 _)
              | (have h105 : st (6 + c) = -1 := h104; exact nx _ (by unfold cyH; rw [if_neg h60, dzO_n (hd.elim (fun ⟨k, y1, y2, y3⟩ => absurd (y2.symm.trans h105) (nI_n1 (by omega))) (fun z => z.2))]) ω2 hω2 _)
              | (have h61 : (tT α).2.2 n c = 0 := h60; exact nx _ (by unfold cyH; rw [if_pos h61]) ω hω _)
            · obtain ⟨k, k1, k2, k3⟩ : ∃ k, k ≤ 12 ∧ st (6 + c) = nI k ∧ ds (tset (tT α) n c 0) n (6 + c) k := hd.elim (fun z => z) (fun z => absurd z.1 h104)
              have hcy : cyH (tT α) n c vc = if vc = -1 ∨ nI (k + 1) < vc then nI (k + 1) else vc := by unfold cyH; rw [if_neg h60, dzO_y k1 k3]
              refine R_iload_n (i := 1) hC dX11_cycle_107 rfl rfl (R_iconst (v := (-1)) hC dX11_cycle_108 (by decide) ?_)
              refine R_icmp_eq hC 127 dX11_cycle_109 (by decide) (fun h109 => ?_) (fun h109 => ?_)
              · refine R_aload_n (i := 0) hC dX11_cycle_127 rfl rfl (R_gR hC dX11_cycle_128 fl_X11_56 L_M rfl (R_bipush (v := 6) hC dX11_cycle_131 (by decide) (R_iload_n (i := 3) hC dX11_cycle_133 rfl rfl (R_iadd hC dX11_cycle_134 (R_aI hC dX11_cycle_135 L_m_steps (6 + c) (nI_add 6 c) (by omega) (by decide) ?_)))))
                refine R_top (y := st (6 + c)) (hste _) ?_
                refine R_iconst (v := 1) hC dX11_cycle_136 (by decide) (R_iadd hC dX11_cycle_137 ?_)
                refine R_top (y := nI (k + 1)) (by rw [k2]; exact nI_1 k) ?_
                refine R_istore_n (i := 1) hC dX11_cycle_138 rfl (by decide) rfl ?_
                first
                | (have h125 : ¬ vc ≤ nI (k + 1) := h124; exact nx _ (by rw [hcy, if_pos (Or.inr (Int32.not_le.mp h125))]) ω2 hω2 _)
                | (have h125 : vc ≤ nI (k + 1) := h124; exact nx _ (by rw [hcy, if_neg (fun z => z.elim h109 (fun y => absurd h125 (Int32.not_le.mpr y)))]) ω2 hω2 _)
                | (have h110 : vc = -1 := h109; exact nx _ (by rw [hcy, if_pos (Or.inl h110)]) ω2 hω2 _)
                | (have h105 : st (6 + c) = -1 := h104; exact nx _ (by unfold cyH; rw [if_neg h60, dzO_n (hd.elim (fun ⟨k, y1, y2, y3⟩ => absurd (y2.symm.trans h105) (nI_n1 (by omega))) (fun z => z.2))]) ω2 hω2 _)
                | (have h61 : (tT α).2.2 n c = 0 := h60; exact nx _ (by unfold cyH; rw [if_pos h61]) ω hω _)
              · refine R_aload_n (i := 0) hC dX11_cycle_112 rfl rfl (R_gR hC dX11_cycle_113 fl_X11_56 L_M rfl (R_bipush (v := 6) hC dX11_cycle_116 (by decide) (R_iload_n (i := 3) hC dX11_cycle_118 rfl rfl (R_iadd hC dX11_cycle_119 (R_aI hC dX11_cycle_120 L_m_steps (6 + c) (nI_add 6 c) (by omega) (by decide) ?_)))))
                refine R_top (y := st (6 + c)) (hste _) ?_
                refine R_iconst (v := 1) hC dX11_cycle_121 (by decide) (R_iadd hC dX11_cycle_122 ?_)
                refine R_top (y := nI (k + 1)) (by rw [k2]; exact nI_1 k) ?_
                refine R_iload_n (i := 1) hC dX11_cycle_123 rfl rfl ?_
                refine R_icmp_ge hC 139 dX11_cycle_124 (by decide) (fun h124 => ?_) (fun h124 => ?_)
                · first
                  | (have h125 : ¬ vc ≤ nI (k + 1) := h124; exact nx _ (by rw [hcy, if_pos (Or.inr (Int32.not_le.mp h125))]) ω2 hω2 _)
                  | (have h125 : vc ≤ nI (k + 1) := h124; exact nx _ (by rw [hcy, if_neg (fun z => z.elim h109 (fun y => absurd h125 (Int32.not_le.mpr y)))]) ω2 hω2 _)
                  | (have h110 : vc = -1 := h109; exact nx _ (by rw [hcy, if_pos (Or.inl h110)]) ω2 hω2 _)
                  | (have h105 : st (6 + c) = -1 := h104; exact nx _ (by unfold cyH; rw [if_neg h60, dzO_n (hd.elim (fun ⟨k, y1, y2, y3⟩ => absurd (y2.symm.trans h105) (nI_n1 (by omega))) (fun z => z.2))]) ω2 hω2 _)
                  | (have h61 : (tT α).2.2 n c = 0 := h60; exact nx _ (by unfold cyH; rw [if_pos h61]) ω hω _)
                · refine R_aload_n (i := 0) hC dX11_cycle_127 rfl rfl (R_gR hC dX11_cycle_128 fl_X11_56 L_M rfl (R_bipush (v := 6) hC dX11_cycle_131 (by decide) (R_iload_n (i := 3) hC dX11_cycle_133 rfl rfl (R_iadd hC dX11_cycle_134 (R_aI hC dX11_cycle_135 L_m_steps (6 + c) (nI_add 6 c) (by omega) (by decide) ?_)))))
                  refine R_top (y := st (6 + c)) (hste _) ?_
                  refine R_iconst (v := 1) hC dX11_cycle_136 (by decide) (R_iadd hC dX11_cycle_137 ?_)
                  refine R_top (y := nI (k + 1)) (by rw [k2]; exact nI_1 k) ?_
                  refine R_istore_n (i := 1) hC dX11_cycle_138 rfl (by decide) rfl ?_
                  first
                  | (have h125 : ¬ vc ≤ nI (k + 1) := h124; exact nx _ (by rw [hcy, if_pos (Or.inr (Int32.not_le.mp h125))]) ω2 hω2 _)
                  | (have h125 : vc ≤ nI (k + 1) := h124; exact nx _ (by rw [hcy, if_neg (fun z => z.elim h109 (fun y => absurd h125 (Int32.not_le.mpr y)))]) ω2 hω2 _)
                  | (have h110 : vc = -1 := h109; exact nx _ (by rw [hcy, if_pos (Or.inl h110)]) ω2 hω2 _)
                  | (have h105 : st (6 + c) = -1 := h104; exact nx _ (by unfold cyH; rw [if_neg h60, dzO_n (hd.elim (fun ⟨k, y1, y2, y3⟩ => absurd (y2.symm.trans h105) (nI_n1 (by omega))) (fun z => z.2))]) ω2 hω2 _)
                  | (have h61 : (tT α).2.2 n c = 0 := h60; exact nx _ (by unfold cyH; rw [if_pos h61]) ω hω _)
          · refine R_goto hC 139 dX11_cycle_63 (by decide) ?_
            first
            | (have h125 : ¬ vc ≤ nI (k + 1) := h124; exact nx _ (by rw [hcy, if_pos (Or.inr (Int32.not_le.mp h125))]) ω2 hω2 _)
            | (have h125 : vc ≤ nI (k + 1) := h124; exact nx _ (by rw [hcy, if_neg (fun z => z.elim h109 (fun y => absurd h125 (Int32.not_le.mpr y)))]) ω2 hω2 _)
            | (have h110 : vc = -1 := h109; exact nx _ (by rw [hcy, if_pos (Or.inl h110)]) ω2 hω2 _)
            | (have h105 : st (6 + c) = -1 := h104; exact nx _ (by unfold cyH; rw [if_neg h60, dzO_n (hd.elim (fun ⟨k, y1, y2, y3⟩ => absurd (y2.symm.trans h105) (nI_n1 (by omega))) (fun z => z.2))]) ω2 hω2 _)
            | (have h61 : (tT α).2.2 n c = 0 := h60; exact nx _ (by unfold cyH; rw [if_pos h61]) ω hω _)
      refine R_iload_n (i := 2) hC dX11_cycle_21 rfl rfl (R_aload_n (i := 0) hC dX11_cycle_22 rfl rfl (R_gR hC dX11_cycle_23 fl_X11_13 L_M rfl (R_bipush (v := 36) hC dX11_cycle_26 (by decide) (R_aI hC dX11_cycle_28 L_m_now 36 rfl (by decide) (by decide) ?_))))
      refine R_top (y := nI (tT α).1) (hω.R) ?_
      refine R_icmp_ge hC 151 dX11_cycle_29 (by decide) (fun h => absurd h (nI_ge hn (by omega))) (fun _ => ?_)
      refine R_iconst (v := 0) hC dX11_cycle_32 (by decide) (R_istore_n (i := 3) hC dX11_cycle_33 rfl (by decide) rfl ?_)
      exact col 0 (Nat.zero_le _) ω hω _
  refine R_aload_n (i := 0) hC dX11_cycle_0 rfl rfl (R_iconst (v := 0) hC dX11_cycle_1 (by decide) (R_pI hC dX11_cycle_2 fl_X11_83 L_M rfl (R_aload_n (i := 0) hC dX11_cycle_5 rfl rfl (R_gR hC dX11_cycle_6 fl_X11_13 L_M rfl (R_bipush (v := 36) hC dX11_cycle_9 (by decide) (R_aI hC dX11_cycle_11 L_m_now 36 rfl (by decide) (by decide) ?_))))))
  refine R_top (y := nI (tT α).1) (hω0.R) ?_
  refine R_if_ne hC 17 dX11_cycle_12 (by decide) (fun h12 => ?_) (fun h12 => ?_)
  · refine R_iconst (v := (-1)) hC dX11_cycle_17 (by decide) (R_istore_n (i := 1) hC dX11_cycle_18 rfl (by decide) rfl (R_iconst (v := 0) hC dX11_cycle_19 (by decide) (R_istore_n (i := 2) hC dX11_cycle_20 rfl (by decide) rfl ?_)))
    exact loop (if_neg (fun z => h12 ((T0_iff ok).mpr z))) 0 (Nat.zero_le _) _ hω0 _ _
  · refine R_iconst (v := (-1)) hC dX11_cycle_15 (by decide) ?_
    exact R_iret hC hT dX11_cycle_16 rfl (by have e : opCycle α = -1 := if_pos ((T0_iff ok).mp h12); rw [e]; exact hω0.p)

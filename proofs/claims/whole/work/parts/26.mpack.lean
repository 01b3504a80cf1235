theorem dX11_join_0 : decode cX11_join 0 = .ok (.aload_n 0, 1) := by decide +kernel
theorem dX11_join_1 : decode cX11_join 1 = .ok (.iconst 0, 1) := by decide +kernel
theorem dX11_join_2 : decode cX11_join 2 = .ok (.putfield 83, 3) := by decide +kernel
theorem dX11_join_5 : decode cX11_join 5 = .ok (.aload_n 0, 1) := by decide +kernel
theorem dX11_join_6 : decode cX11_join 6 = .ok (.iload_n 1, 1) := by decide +kernel
theorem dX11_join_7 : decode cX11_join 7 = .ok (.invokevirtual 192, 3) := by decide +kernel
theorem dX11_join_10 : decode cX11_join 10 = .ok (.ifCond .eq 11, 3) := by decide +kernel
theorem dX11_join_13 : decode cX11_join 13 = .ok (.aload_n 0, 1) := by decide +kernel
theorem dX11_join_14 : decode cX11_join 14 = .ok (.iload_n 2, 1) := by decide +kernel
theorem dX11_join_15 : decode cX11_join 15 = .ok (.invokevirtual 192, 3) := by decide +kernel
theorem dX11_join_18 : decode cX11_join 18 = .ok (.ifCond .ne 9, 3) := by decide +kernel
theorem dX11_join_21 : decode cX11_join 21 = .ok (.aload_n 0, 1) := by decide +kernel
theorem dX11_join_22 : decode cX11_join 22 = .ok (.iconst 0, 1) := by decide +kernel
theorem dX11_join_23 : decode cX11_join 23 = .ok (.invokevirtual 164, 3) := by decide +kernel
theorem dX11_join_26 : decode cX11_join 26 = .ok (.ireturn, 1) := by decide +kernel
theorem dX11_join_27 : decode cX11_join 27 = .ok (.iload_n 3, 1) := by decide +kernel
theorem dX11_join_28 : decode cX11_join 28 = .ok (.i2l, 1) := by decide +kernel
theorem dX11_join_29 : decode cX11_join 29 = .ok (.lconst 0, 1) := by decide +kernel
theorem dX11_join_30 : decode cX11_join 30 = .ok (.lconst 1, 1) := by decide +kernel
theorem dX11_join_31 : decode cX11_join 31 = .ok (.invokestatic 140, 3) := by decide +kernel
theorem dX11_join_34 : decode cX11_join 34 = .ok (.ifCond .ne 9, 3) := by decide +kernel
theorem dX11_join_37 : decode cX11_join 37 = .ok (.aload_n 0, 1) := by decide +kernel
theorem dX11_join_38 : decode cX11_join 38 = .ok (.iconst 1, 1) := by decide +kernel
theorem dX11_join_39 : decode cX11_join 39 = .ok (.invokevirtual 164, 3) := by decide +kernel
theorem dX11_join_42 : decode cX11_join 42 = .ok (.ireturn, 1) := by decide +kernel
theorem dX11_join_43 : decode cX11_join 43 = .ok (.aload_n 0, 1) := by decide +kernel
theorem dX11_join_44 : decode cX11_join 44 = .ok (.getfield 23, 3) := by decide +kernel
theorem dX11_join_47 : decode cX11_join 47 = .ok (.bipush 38, 2) := by decide +kernel
theorem dX11_join_49 : decode cX11_join 49 = .ok (.iload_n 1, 1) := by decide +kernel
theorem dX11_join_50 : decode cX11_join 50 = .ok (.imul, 1) := by decide +kernel
theorem dX11_join_51 : decode cX11_join 51 = .ok (.bipush 36, 2) := by decide +kernel
theorem dX11_join_53 : decode cX11_join 53 = .ok (.iadd, 1) := by decide +kernel
theorem dX11_join_54 : decode cX11_join 54 = .ok (.iaload, 1) := by decide +kernel
theorem dX11_join_55 : decode cX11_join 55 = .ok (.istore 4, 2) := by decide +kernel
theorem dX11_join_57 : decode cX11_join 57 = .ok (.aload_n 0, 1) := by decide +kernel
theorem dX11_join_58 : decode cX11_join 58 = .ok (.getfield 23, 3) := by decide +kernel
theorem dX11_join_61 : decode cX11_join 61 = .ok (.bipush 38, 2) := by decide +kernel
theorem dX11_join_63 : decode cX11_join 63 = .ok (.iload_n 1, 1) := by decide +kernel
theorem dX11_join_64 : decode cX11_join 64 = .ok (.imul, 1) := by decide +kernel
theorem dX11_join_65 : decode cX11_join 65 = .ok (.bipush 37, 2) := by decide +kernel
theorem dX11_join_67 : decode cX11_join 67 = .ok (.iadd, 1) := by decide +kernel
theorem dX11_join_68 : decode cX11_join 68 = .ok (.iaload, 1) := by decide +kernel
theorem dX11_join_69 : decode cX11_join 69 = .ok (.istore 5, 2) := by decide +kernel
theorem dX11_join_71 : decode cX11_join 71 = .ok (.aload_n 0, 1) := by decide +kernel
theorem dX11_join_72 : decode cX11_join 72 = .ok (.getfield 23, 3) := by decide +kernel
theorem dX11_join_75 : decode cX11_join 75 = .ok (.bipush 38, 2) := by decide +kernel
theorem dX11_join_77 : decode cX11_join 77 = .ok (.iload_n 2, 1) := by decide +kernel
theorem dX11_join_78 : decode cX11_join 78 = .ok (.imul, 1) := by decide +kernel
theorem dX11_join_79 : decode cX11_join 79 = .ok (.bipush 36, 2) := by decide +kernel
theorem dX11_join_81 : decode cX11_join 81 = .ok (.iadd, 1) := by decide +kernel
theorem dX11_join_82 : decode cX11_join 82 = .ok (.iaload, 1) := by decide +kernel
theorem dX11_join_83 : decode cX11_join 83 = .ok (.istore 6, 2) := by decide +kernel
theorem dX11_join_85 : decode cX11_join 85 = .ok (.aload_n 0, 1) := by decide +kernel
theorem dX11_join_86 : decode cX11_join 86 = .ok (.getfield 23, 3) := by decide +kernel
theorem dX11_join_89 : decode cX11_join 89 = .ok (.bipush 38, 2) := by decide +kernel
theorem dX11_join_91 : decode cX11_join 91 = .ok (.iload_n 2, 1) := by decide +kernel
theorem dX11_join_92 : decode cX11_join 92 = .ok (.imul, 1) := by decide +kernel
theorem dX11_join_93 : decode cX11_join 93 = .ok (.bipush 37, 2) := by decide +kernel
theorem dX11_join_95 : decode cX11_join 95 = .ok (.iadd, 1) := by decide +kernel
theorem dX11_join_96 : decode cX11_join 96 = .ok (.iaload, 1) := by decide +kernel
theorem dX11_join_97 : decode cX11_join 97 = .ok (.istore 7, 2) := by decide +kernel
theorem dX11_join_99 : decode cX11_join 99 = .ok (.iload_n 3, 1) := by decide +kernel
theorem dX11_join_100 : decode cX11_join 100 = .ok (.iconst 1, 1) := by decide +kernel
theorem dX11_join_101 : decode cX11_join 101 = .ok (.if_icmp .ne 15, 3) := by decide +kernel
theorem dX11_join_104 : decode cX11_join 104 = .ok (.iload 5, 2) := by decide +kernel
theorem dX11_join_106 : decode cX11_join 106 = .ok (.iconst 2, 1) := by decide +kernel
theorem dX11_join_107 : decode cX11_join 107 = .ok (.if_icmp .lt 33, 3) := by decide +kernel
theorem dX11_join_110 : decode cX11_join 110 = .ok (.iload 6, 2) := by decide +kernel
theorem dX11_join_112 : decode cX11_join 112 = .ok (.iconst 2, 1) := by decide +kernel
theorem dX11_join_113 : decode cX11_join 113 = .ok (.if_icmp .lt 27, 3) := by decide +kernel
theorem dX11_join_116 : decode cX11_join 116 = .ok (.iload 4, 2) := by decide +kernel
theorem dX11_join_118 : decode cX11_join 118 = .ok (.iload 6, 2) := by decide +kernel
theorem dX11_join_120 : decode cX11_join 120 = .ok (.iadd, 1) := by decide +kernel
theorem dX11_join_121 : decode cX11_join 121 = .ok (.iload_n 3, 1) := by decide +kernel
theorem dX11_join_122 : decode cX11_join 122 = .ok (.isub, 1) := by decide +kernel
theorem dX11_join_123 : decode cX11_join 123 = .ok (.bipush 6, 2) := by decide +kernel
theorem dX11_join_125 : decode cX11_join 125 = .ok (.if_icmp .gt 15, 3) := by decide +kernel
theorem dX11_join_128 : decode cX11_join 128 = .ok (.iload 5, 2) := by decide +kernel
theorem dX11_join_130 : decode cX11_join 130 = .ok (.iload 7, 2) := by decide +kernel
theorem dX11_join_132 : decode cX11_join 132 = .ok (.iadd, 1) := by decide +kernel
theorem dX11_join_133 : decode cX11_join 133 = .ok (.iload_n 3, 1) := by decide +kernel
theorem dX11_join_134 : decode cX11_join 134 = .ok (.isub, 1) := by decide +kernel
theorem dX11_join_135 : decode cX11_join 135 = .ok (.bipush 6, 2) := by decide +kernel
theorem dX11_join_137 : decode cX11_join 137 = .ok (.if_icmp .le 9, 3) := by decide +kernel
theorem dX11_join_140 : decode cX11_join 140 = .ok (.aload_n 0, 1) := by decide +kernel
theorem dX11_join_141 : decode cX11_join 141 = .ok (.iconst 3, 1) := by decide +kernel
theorem dX11_join_142 : decode cX11_join 142 = .ok (.invokevirtual 164, 3) := by decide +kernel
theorem dX11_join_145 : decode cX11_join 145 = .ok (.ireturn, 1) := by decide +kernel
theorem dX11_join_146 : decode cX11_join 146 = .ok (.aload_n 0, 1) := by decide +kernel
theorem dX11_join_147 : decode cX11_join 147 = .ok (.invokevirtual 167, 3) := by decide +kernel
theorem dX11_join_150 : decode cX11_join 150 = .ok (.iconst 0, 1) := by decide +kernel
theorem dX11_join_151 : decode cX11_join 151 = .ok (.istore 8, 2) := by decide +kernel
theorem dX11_join_153 : decode cX11_join 153 = .ok (.iload 8, 2) := by decide +kernel
theorem dX11_join_155 : decode cX11_join 155 = .ok (.bipush 36, 2) := by decide +kernel
theorem dX11_join_157 : decode cX11_join 157 = .ok (.if_icmp .ge 17, 3) := by decide +kernel
theorem dX11_join_160 : decode cX11_join 160 = .ok (.aload_n 0, 1) := by decide +kernel
theorem dX11_join_161 : decode cX11_join 161 = .ok (.getfield 13, 3) := by decide +kernel
theorem dX11_join_164 : decode cX11_join 164 = .ok (.iload 8, 2) := by decide +kernel
theorem dX11_join_166 : decode cX11_join 166 = .ok (.iconst 0, 1) := by decide +kernel
theorem dX11_join_167 : decode cX11_join 167 = .ok (.iastore, 1) := by decide +kernel
theorem dX11_join_168 : decode cX11_join 168 = .ok (.iinc 8 1, 3) := by decide +kernel
theorem dX11_join_171 : decode cX11_join 171 = .ok (.goto (-18), 3) := by decide +kernel
theorem dX11_join_174 : decode cX11_join 174 = .ok (.iconst 0, 1) := by decide +kernel
theorem dX11_join_175 : decode cX11_join 175 = .ok (.istore 8, 2) := by decide +kernel
theorem dX11_join_177 : decode cX11_join 177 = .ok (.iload 8, 2) := by decide +kernel
theorem dX11_join_179 : decode cX11_join 179 = .ok (.iload 4, 2) := by decide +kernel
theorem dX11_join_181 : decode cX11_join 181 = .ok (.if_icmp .ge 108, 3) := by decide +kernel
theorem dX11_join_184 : decode cX11_join 184 = .ok (.iconst 0, 1) := by decide +kernel
theorem dX11_join_185 : decode cX11_join 185 = .ok (.istore 9, 2) := by decide +kernel
theorem dX11_join_187 : decode cX11_join 187 = .ok (.iload 9, 2) := by decide +kernel
theorem dX11_join_189 : decode cX11_join 189 = .ok (.iload 5, 2) := by decide +kernel
theorem dX11_join_191 : decode cX11_join 191 = .ok (.iload_n 3, 1) := by decide +kernel
theorem dX11_join_192 : decode cX11_join 192 = .ok (.isub, 1) := by decide +kernel
theorem dX11_join_193 : decode cX11_join 193 = .ok (.if_icmp .ge 31, 3) := by decide +kernel
theorem dX11_join_196 : decode cX11_join 196 = .ok (.aload_n 0, 1) := by decide +kernel
theorem dX11_join_197 : decode cX11_join 197 = .ok (.getfield 13, 3) := by decide +kernel
theorem dX11_join_200 : decode cX11_join 200 = .ok (.bipush 6, 2) := by decide +kernel
theorem dX11_join_202 : decode cX11_join 202 = .ok (.iload 8, 2) := by decide +kernel
theorem dX11_join_204 : decode cX11_join 204 = .ok (.imul, 1) := by decide +kernel
theorem dX11_join_205 : decode cX11_join 205 = .ok (.iload 9, 2) := by decide +kernel
theorem dX11_join_207 : decode cX11_join 207 = .ok (.iadd, 1) := by decide +kernel
theorem dX11_join_208 : decode cX11_join 208 = .ok (.aload_n 0, 1) := by decide +kernel
theorem dX11_join_209 : decode cX11_join 209 = .ok (.iload_n 1, 1) := by decide +kernel
theorem dX11_join_210 : decode cX11_join 210 = .ok (.iload 8, 2) := by decide +kernel
theorem dX11_join_212 : decode cX11_join 212 = .ok (.iload 9, 2) := by decide +kernel
theorem dX11_join_214 : decode cX11_join 214 = .ok (.invokevirtual 196, 3) := by decide +kernel
theorem dX11_join_217 : decode cX11_join 217 = .ok (.iastore, 1) := by decide +kernel
theorem dX11_join_218 : decode cX11_join 218 = .ok (.iinc 9 1, 3) := by decide +kernel
theorem dX11_join_221 : decode cX11_join 221 = .ok (.goto (-34), 3) := by decide +kernel
theorem dX11_join_224 : decode cX11_join 224 = .ok (.iconst 0, 1) := by decide +kernel
theorem dX11_join_225 : decode cX11_join 225 = .ok (.istore 9, 2) := by decide +kernel
theorem dX11_join_227 : decode cX11_join 227 = .ok (.iload 9, 2) := by decide +kernel
theorem dX11_join_229 : decode cX11_join 229 = .ok (.iload 7, 2) := by decide +kernel
theorem dX11_join_231 : decode cX11_join 231 = .ok (.if_icmp .ge 52, 3) := by decide +kernel
theorem dX11_join_234 : decode cX11_join 234 = .ok (.iload_n 3, 1) := by decide +kernel
theorem dX11_join_235 : decode cX11_join 235 = .ok (.iconst 1, 1) := by decide +kernel
theorem dX11_join_236 : decode cX11_join 236 = .ok (.if_icmp .ne 47, 3) := by decide +kernel
theorem dX11_join_239 : decode cX11_join 239 = .ok (.aload_n 0, 1) := by decide +kernel
theorem dX11_join_240 : decode cX11_join 240 = .ok (.getfield 13, 3) := by decide +kernel
theorem dX11_join_243 : decode cX11_join 243 = .ok (.bipush 6, 2) := by decide +kernel
theorem dX11_join_245 : decode cX11_join 245 = .ok (.iload 8, 2) := by decide +kernel
theorem dX11_join_247 : decode cX11_join 247 = .ok (.imul, 1) := by decide +kernel
theorem dX11_join_248 : decode cX11_join 248 = .ok (.iload 5, 2) := by decide +kernel
theorem dX11_join_250 : decode cX11_join 250 = .ok (.iadd, 1) := by decide +kernel
theorem dX11_join_251 : decode cX11_join 251 = .ok (.iconst 1, 1) := by decide +kernel
theorem dX11_join_252 : decode cX11_join 252 = .ok (.isub, 1) := by decide +kernel
theorem dX11_join_253 : decode cX11_join 253 = .ok (.iload 9, 2) := by decide +kernel
theorem dX11_join_255 : decode cX11_join 255 = .ok (.iadd, 1) := by decide +kernel
theorem dX11_join_256 : decode cX11_join 256 = .ok (.aload_n 0, 1) := by decide +kernel
theorem dX11_join_257 : decode cX11_join 257 = .ok (.iload_n 1, 1) := by decide +kernel
theorem dX11_join_258 : decode cX11_join 258 = .ok (.iload 8, 2) := by decide +kernel
theorem dX11_join_260 : decode cX11_join 260 = .ok (.iload 5, 2) := by decide +kernel
theorem dX11_join_262 : decode cX11_join 262 = .ok (.iconst 1, 1) := by decide +kernel
theorem dX11_join_263 : decode cX11_join 263 = .ok (.isub, 1) := by decide +kernel
theorem dX11_join_264 : decode cX11_join 264 = .ok (.invokevirtual 196, 3) := by decide +kernel
theorem dX11_join_267 : decode cX11_join 267 = .ok (.aload_n 0, 1) := by decide +kernel
theorem dX11_join_268 : decode cX11_join 268 = .ok (.iload_n 2, 1) := by decide +kernel
theorem dX11_join_269 : decode cX11_join 269 = .ok (.iconst 0, 1) := by decide +kernel
theorem dX11_join_270 : decode cX11_join 270 = .ok (.iload 9, 2) := by decide +kernel
theorem dX11_join_272 : decode cX11_join 272 = .ok (.invokevirtual 196, 3) := by decide +kernel
theorem dX11_join_275 : decode cX11_join 275 = .ok (.imul, 1) := by decide +kernel
theorem dX11_join_276 : decode cX11_join 276 = .ok (.iastore, 1) := by decide +kernel
theorem dX11_join_277 : decode cX11_join 277 = .ok (.iinc 9 1, 3) := by decide +kernel
theorem dX11_join_280 : decode cX11_join 280 = .ok (.goto (-53), 3) := by decide +kernel
theorem dX11_join_283 : decode cX11_join 283 = .ok (.iinc 8 1, 3) := by decide +kernel
theorem dX11_join_286 : decode cX11_join 286 = .ok (.goto (-109), 3) := by decide +kernel
theorem dX11_join_289 : decode cX11_join 289 = .ok (.iload_n 3, 1) := by decide +kernel
theorem dX11_join_290 : decode cX11_join 290 = .ok (.istore 8, 2) := by decide +kernel
theorem dX11_join_292 : decode cX11_join 292 = .ok (.iload 8, 2) := by decide +kernel
theorem dX11_join_294 : decode cX11_join 294 = .ok (.iload 6, 2) := by decide +kernel
theorem dX11_join_296 : decode cX11_join 296 = .ok (.if_icmp .ge 61, 3) := by decide +kernel
theorem dX11_join_299 : decode cX11_join 299 = .ok (.bipush 6, 2) := by decide +kernel
theorem dX11_join_301 : decode cX11_join 301 = .ok (.iload 4, 2) := by decide +kernel
theorem dX11_join_303 : decode cX11_join 303 = .ok (.iload 8, 2) := by decide +kernel
theorem dX11_join_305 : decode cX11_join 305 = .ok (.iadd, 1) := by decide +kernel
theorem dX11_join_306 : decode cX11_join 306 = .ok (.iload_n 3, 1) := by decide +kernel
theorem dX11_join_307 : decode cX11_join 307 = .ok (.isub, 1) := by decide +kernel
theorem dX11_join_308 : decode cX11_join 308 = .ok (.imul, 1) := by decide +kernel
theorem dX11_join_309 : decode cX11_join 309 = .ok (.istore 9, 2) := by decide +kernel
theorem dX11_join_311 : decode cX11_join 311 = .ok (.iconst 0, 1) := by decide +kernel
theorem dX11_join_312 : decode cX11_join 312 = .ok (.istore 10, 2) := by decide +kernel
theorem dX11_join_314 : decode cX11_join 314 = .ok (.iload 10, 2) := by decide +kernel
theorem dX11_join_316 : decode cX11_join 316 = .ok (.iload 7, 2) := by decide +kernel
theorem dX11_join_318 : decode cX11_join 318 = .ok (.if_icmp .ge 33, 3) := by decide +kernel
theorem dX11_join_321 : decode cX11_join 321 = .ok (.aload_n 0, 1) := by decide +kernel
theorem dX11_join_322 : decode cX11_join 322 = .ok (.getfield 13, 3) := by decide +kernel
theorem dX11_join_325 : decode cX11_join 325 = .ok (.iload 9, 2) := by decide +kernel
theorem dX11_join_327 : decode cX11_join 327 = .ok (.iload 5, 2) := by decide +kernel
theorem dX11_join_329 : decode cX11_join 329 = .ok (.iadd, 1) := by decide +kernel
theorem dX11_join_330 : decode cX11_join 330 = .ok (.iload_n 3, 1) := by decide +kernel
theorem dX11_join_331 : decode cX11_join 331 = .ok (.isub, 1) := by decide +kernel
theorem dX11_join_332 : decode cX11_join 332 = .ok (.iload 10, 2) := by decide +kernel
theorem dX11_join_334 : decode cX11_join 334 = .ok (.iadd, 1) := by decide +kernel
theorem dX11_join_335 : decode cX11_join 335 = .ok (.aload_n 0, 1) := by decide +kernel
theorem dX11_join_336 : decode cX11_join 336 = .ok (.iload_n 2, 1) := by decide +kernel
theorem dX11_join_337 : decode cX11_join 337 = .ok (.iload 8, 2) := by decide +kernel
theorem dX11_join_339 : decode cX11_join 339 = .ok (.iload 10, 2) := by decide +kernel
theorem dX11_join_341 : decode cX11_join 341 = .ok (.invokevirtual 196, 3) := by decide +kernel
theorem dX11_join_344 : decode cX11_join 344 = .ok (.iastore, 1) := by decide +kernel
theorem dX11_join_345 : decode cX11_join 345 = .ok (.iinc 10 1, 3) := by decide +kernel
theorem dX11_join_348 : decode cX11_join 348 = .ok (.goto (-34), 3) := by decide +kernel
theorem dX11_join_351 : decode cX11_join 351 = .ok (.iinc 8 1, 3) := by decide +kernel
theorem dX11_join_354 : decode cX11_join 354 = .ok (.goto (-62), 3) := by decide +kernel
theorem dX11_join_357 : decode cX11_join 357 = .ok (.aload_n 0, 1) := by decide +kernel
theorem dX11_join_358 : decode cX11_join 358 = .ok (.getfield 13, 3) := by decide +kernel
theorem dX11_join_361 : decode cX11_join 361 = .ok (.bipush 36, 2) := by decide +kernel
theorem dX11_join_363 : decode cX11_join 363 = .ok (.iload 4, 2) := by decide +kernel
theorem dX11_join_365 : decode cX11_join 365 = .ok (.iload 6, 2) := by decide +kernel
theorem dX11_join_367 : decode cX11_join 367 = .ok (.iadd, 1) := by decide +kernel
theorem dX11_join_368 : decode cX11_join 368 = .ok (.iload_n 3, 1) := by decide +kernel
theorem dX11_join_369 : decode cX11_join 369 = .ok (.isub, 1) := by decide +kernel
theorem dX11_join_370 : decode cX11_join 370 = .ok (.iastore, 1) := by decide +kernel
theorem dX11_join_371 : decode cX11_join 371 = .ok (.aload_n 0, 1) := by decide +kernel
theorem dX11_join_372 : decode cX11_join 372 = .ok (.getfield 13, 3) := by decide +kernel
theorem dX11_join_375 : decode cX11_join 375 = .ok (.bipush 37, 2) := by decide +kernel
theorem dX11_join_377 : decode cX11_join 377 = .ok (.iload 5, 2) := by decide +kernel
theorem dX11_join_379 : decode cX11_join 379 = .ok (.iload 7, 2) := by decide +kernel
theorem dX11_join_381 : decode cX11_join 381 = .ok (.iadd, 1) := by decide +kernel
theorem dX11_join_382 : decode cX11_join 382 = .ok (.iload_n 3, 1) := by decide +kernel
theorem dX11_join_383 : decode cX11_join 383 = .ok (.isub, 1) := by decide +kernel
theorem dX11_join_384 : decode cX11_join 384 = .ok (.iastore, 1) := by decide +kernel
theorem dX11_join_385 : decode cX11_join 385 = .ok (.aload_n 0, 1) := by decide +kernel
theorem dX11_join_386 : decode cX11_join 386 = .ok (.getfield 13, 3) := by decide +kernel
theorem dX11_join_389 : decode cX11_join 389 = .ok (.bipush 36, 2) := by decide +kernel
theorem dX11_join_391 : decode cX11_join 391 = .ok (.iaload, 1) := by decide +kernel
theorem dX11_join_392 : decode cX11_join 392 = .ok (.ireturn, 1) := by decide +kernel
/-- of the sets below N with p the first with the least key -/
def bst (p : Nat → Prop) (key : Nat → Nat) (N s : Nat) : Prop := s < N ∧ p s ∧ ∀ s', s' < N → p s' → key s < key s' ∨ (key s = key s' ∧ s ≤ s')
theorem bst_u {p : Nat → Prop} {key : Nat → Nat} {N s t : Nat} (h : bst p key N s) (k : bst p key N t) : s = t := by
  have h1 := h.2.2 _ k.1 k.2.1
  have h2 := k.2.2 _ h.1 h.2.1
  omega
noncomputable def bstV (p : Nat → Prop) (key : Nat → Nat) (N : Nat) : Int32 := by classical exact (if h : ∃ s, bst p key N s then nI (Classical.choose h) else -1)
theorem bstV_y {p : Nat → Prop} {key : Nat → Nat} {N s : Nat} (h : bst p key N s) : bstV p key N = nI s := by
  unfold bstV
  rw [dif_pos ⟨s, h⟩, bst_u (Classical.choose_spec ⟨s, h⟩) h]
theorem bstV_n {p : Nat → Prop} {key : Nat → Nat} {N : Nat} (h : ∀ s, s < N → ¬ p s) : bstV p key N = -1 := by
  unfold bstV
  rw [dif_neg (fun ⟨s, q⟩ => h s q.1 q.2.1)]
noncomputable def opPack (α : aS) (w : Int32) : Int32 := if (tT α).1 = 0 then -1 else if w = 0 then bstV (apart (tT α)) (fun s => 6 - pc6 s) (2 ^ (tT α).2.1) else if w = 1 then bstV (cover (tT α)) pc6 (2 ^ (tT α).1) else -1
/-- what the loop holds: the best so far -/
def bsf (p : Nat → Prop) (key : Nat → Nat) (n : Nat) (v : Int32) : Prop := (v = -1 ∧ ∀ s, s < n → ¬ p s) ∨ ∃ s, v = nI s ∧ bst p key n s
theorem bsf.v {p : Nat → Prop} {key : Nat → Nat} {n : Nat} {v : Int32} (h : bsf p key n v) : bstV p key n = v := by
  rcases h with ⟨rfl, h⟩ | ⟨s, rfl, h⟩
  · exact bstV_n h
  · exact bstV_y h
theorem bsf.skip {p : Nat → Prop} {key : Nat → Nat} {n : Nat} {v : Int32} (h : bsf p key n v) (hn : ¬ p n) : bsf p key (n + 1) v := by
  rcases h with ⟨e, h⟩ | ⟨s, e, h1, h2, h3⟩
  · exact Or.inl ⟨e, fun s hs => by rcases (by omega : s < n ∨ s = n) with q | rfl; exact h s q; exact hn⟩
  · exact Or.inr ⟨s, e, by omega, h2, fun s' q hp => by rcases (by omega : s' < n ∨ s' = n) with y | rfl; exact h3 s' y hp; exact absurd hp hn⟩
theorem bsf.stay {p : Nat → Prop} {key : Nat → Nat} {n s : Nat} (h : bst p key n s) (hk : key s ≤ key n) : bsf p key (n + 1) (nI s) :=
  Or.inr ⟨s, rfl, by have := h.1; omega, h.2.1, fun s' q hp => by
    rcases (by omega : s' < n ∨ s' = n) with y | rfl
    · exact h.2.2 s' y hp
    · have := h.1; omega⟩
theorem bsf.new {p : Nat → Prop} {key : Nat → Nat} {n s : Nat} (h : bst p key n s) (hn : p n) (hk : key n < key s) : bsf p key (n + 1) (nI n) :=
  Or.inr ⟨n, rfl, by omega, hn, fun s' q hp => by
    rcases (by omega : s' < n ∨ s' = n) with y | rfl
    · have := h.2.2 s' y hp; omega
    · omega⟩
theorem bsf.first {p : Nat → Prop} {key : Nat → Nat} {n : Nat} (h : ∀ s, s < n → ¬ p s) (hn : p n) : bsf p key (n + 1) (nI n) :=
  Or.inr ⟨n, rfl, by omega, hn, fun s' q hp => by
    rcases (by omega : s' < n ∨ s' = n) with y | rfl
    · exact absurd hp (h s' y)
    · omega⟩
theorem nI_n1 {n : Nat} (h : n < 2 ^ 31) : ¬ nI n = -1 := fun z => by
  have := nI_toInt h
  rw [z] at this
  have t : (-1 : Int32).toInt = -1 := by decide
  omega
theorem mo_pack {σ : sg} {x : aW} {α : aS} (h : MInv σ α) (ok : aOK α) (w : Int32) : Mt mX11_pack 2 0 0 [.ref i_M, .int w] (wd σ x) (MPost σ x (opPack α w) α) := by
  refine Mt.of MI_X11_pack (Nat.le_of_ble_eq_true rfl) (fun X hC hR hT => ?_)
  have hω := MZ.of h
  have hR6 := ok.2.2.1.1
  have hC6 := ok.2.2.1.2.1
  have p1 := pw6 hR6
  have p2 := pw6 hC6
  have l0 : w = 0 → ¬ (tT α).1 = 0 → ∀ n, n ≤ 2 ^ (tT α).2.1 → ∀ v, bsf (apart (tT α)) (fun s => 6 - pc6 s) n v → Rw mX11_pack X 31 [some (.ref i_M), some (.int w), some (.int v), some (.int (nI n))] [] (wd (sG σ i_M 0 0) x) 0 0 := by
    intro ew n0
    have eo : opPack α w = bstV (apart (tT α)) (fun s => 6 - pc6 s) (2 ^ (tT α).2.1) := by unfold opPack; rw [if_neg n0, if_pos ew]
    subst ew
    refine up_loop (2 ^ (tT α).2.1) ?_ ?_
    · intro v hv
      refine R_iload_n (i := 3) hC dX11_pack_31 rfl rfl (R_iconst (v := 1) hC dX11_pack_32 (by decide) (R_aload_n (i := 0) hC dX11_pack_33 rfl rfl (R_gR hC dX11_pack_34 fl_X11_13 L_M rfl (R_iload_n (i := 1) hC dX11_pack_37 rfl rfl ?_))))
      refine R_if_ne hC 46 dX11_pack_38 (by decide) (fun h => absurd (by decide) h) (fun _ => ?_)
      refine R_bipush (v := 37) hC dX11_pack_41 (by decide) (R_goto hC 48 dX11_pack_43 (by decide) (R_aI hC dX11_pack_48 L_m_now 37 rfl (by decide) (by decide) ?_))
      refine R_top (y := nI (tT α).2.1) (hω.C) ?_
      refine R_ishl hC dX11_pack_49 ?_
      refine R_top (y := nI (2 ^ (tT α).2.1)) (shl1 _ hC6) ?_
      refine R_icmp_ge hC 121 dX11_pack_50 (by decide) (fun _ => ?_) (fun h => absurd (Int32.le_refl _) h)
      refine R_iload_n (i := 2) hC dX11_pack_121 rfl rfl ?_
      exact R_iret hC hT dX11_pack_122 rfl (by rw [eo, hv.v]; exact hω.p)
    · intro n hn ih v hv
      have q1 := pc6_le n (by omega)
      refine R_iload_n (i := 3) hC dX11_pack_31 rfl rfl (R_iconst (v := 1) hC dX11_pack_32 (by decide) (R_aload_n (i := 0) hC dX11_pack_33 rfl rfl (R_gR hC dX11_pack_34 fl_X11_13 L_M rfl (R_iload_n (i := 1) hC dX11_pack_37 rfl rfl ?_))))
      refine R_if_ne hC 46 dX11_pack_38 (by decide) (fun h => absurd (by decide) h) (fun _ => ?_)
      refine R_bipush (v := 37) hC dX11_pack_41 (by decide) (R_goto hC 48 dX11_pack_43 (by decide) (R_aI hC dX11_pack_48 L_m_now 37 rfl (by decide) (by decide) ?_))
      refine R_top (y := nI (tT α).2.1) (hω.C) ?_
      refine R_ishl hC dX11_pack_49 ?_
      refine R_top (y := nI (2 ^ (tT α).2.1)) (shl1 _ hC6) ?_
      refine R_icmp_ge hC 121 dX11_pack_50 (by decide) (fun h => absurd h (nI_ge hn (by omega))) (fun _ => ?_)
      refine R_iload_n (i := 1) hC dX11_pack_53 rfl rfl ?_
      refine R_if_ne hC 68 dX11_pack_54 (by decide) (fun h => absurd (by decide) h) (fun _ => ?_)
      refine R_aload_n (i := 0) hC dX11_pack_57 rfl rfl (R_iload_n (i := 3) hC dX11_pack_58 rfl rfl ?_)
      refine R_V1i hC hR dX11_pack_59 MV_X11_doPack ml_X11_319 L_M rfl (s_doPack (sG σ i_M 0 0) x (tT α) (hω.T ok) n (by omega)) (by decide) ⟨by decide, by decide⟩ (Nat.le_of_ble_eq_true rfl) ?_
      refine R_if_eq hC 115 dX11_pack_62 (by decide) (fun h62 => ?_) (fun h62 => ?_)
      · refine R_iinc hC dX11_pack_115 rfl (inc1 _) (by decide) rfl (R_goto hC 31 dX11_pack_118 (by decide) ?_)
        first
        | (have h97 : ¬ pc6 n ≤ pc6 s := fun z => h96 ((nI_leI (a := pc6 n) (b := pc6 s) (by omega) (by omega)).mpr z); exact ih _ (bsf.new hs (b2i_ne h62) (by show 6 - pc6 n < 6 - pc6 s; omega)))
        | (have h97 := (nI_leI (a := pc6 n) (b := pc6 s) (by omega) (by omega)).mp h96; exact ih _ (bsf.stay hs (by show 6 - pc6 s ≤ 6 - pc6 n; omega)))
        | (have h82 : v = -1 := h81; exact ih _ (by rcases hv with ⟨-, q⟩ | ⟨s, e, hs⟩; exact bsf.first q (b2i_ne h62); exact absurd (e.symm.trans h82) (nI_n1 (by have := hs.1; omega))))
        | exact ih _ (hv.skip (b2i_0 h62))
      · refine R_goto hC 79 dX11_pack_65 (by decide) (R_iload_n (i := 2) hC dX11_pack_79 rfl rfl (R_iconst (v := (-1)) hC dX11_pack_80 (by decide) ?_))
        refine R_icmp_eq hC 113 dX11_pack_81 (by decide) (fun h81 => ?_) (fun h81 => ?_)
        · refine R_iload_n (i := 3) hC dX11_pack_113 rfl rfl (R_istore_n (i := 2) hC dX11_pack_114 rfl (by decide) rfl (R_iinc hC dX11_pack_115 rfl (inc1 _) (by decide) rfl (R_goto hC 31 dX11_pack_118 (by decide) ?_)))
          first
          | (have h97 : ¬ pc6 n ≤ pc6 s := fun z => h96 ((nI_leI (a := pc6 n) (b := pc6 s) (by omega) (by omega)).mpr z); exact ih _ (bsf.new hs (b2i_ne h62) (by show 6 - pc6 n < 6 - pc6 s; omega)))
          | (have h97 := (nI_leI (a := pc6 n) (b := pc6 s) (by omega) (by omega)).mp h96; exact ih _ (bsf.stay hs (by show 6 - pc6 s ≤ 6 - pc6 n; omega)))
          | (have h82 : v = -1 := h81; exact ih _ (by rcases hv with ⟨-, q⟩ | ⟨s, e, hs⟩; exact bsf.first q (b2i_ne h62); exact absurd (e.symm.trans h82) (nI_n1 (by have := hs.1; omega))))
          | exact ih _ (hv.skip (b2i_0 h62))
        · obtain ⟨s, rfl, hs⟩ : ∃ s, v = nI s ∧ bst (apart (tT α)) (fun s => 6 - pc6 s) n s := by rcases hv with ⟨e, -⟩ | q; exact absurd e h81; exact q
          have hs1 := hs.1
          have q2 := pc6_le s (by omega)
          refine R_iload_n (i := 1) hC dX11_pack_84 rfl rfl ?_
          refine R_if_ne hC 102 dX11_pack_85 (by decide) (fun h => absurd (by decide) h) (fun _ => ?_)
          refine R_iload_n (i := 3) hC dX11_pack_88 rfl rfl ?_
          refine R_S1i hC hR dX11_pack_89 MS_X11_sizeOf ml_X11_204 (s_sizeOf n (by omega) _) (by decide) ⟨by decide, by decide⟩ (Nat.le_of_ble_eq_true rfl) ?_
          refine R_iload_n (i := 2) hC dX11_pack_92 rfl rfl ?_
          refine R_S1i hC hR dX11_pack_93 MS_X11_sizeOf ml_X11_204 (s_sizeOf s (by omega) _) (by decide) ⟨by decide, by decide⟩ (Nat.le_of_ble_eq_true rfl) ?_
          refine R_icmp_le hC 115 dX11_pack_96 (by decide) (fun h96 => ?_) (fun h96 => ?_)
          · refine R_iinc hC dX11_pack_115 rfl (inc1 _) (by decide) rfl (R_goto hC 31 dX11_pack_118 (by decide) ?_)
            first
            | (have h97 : ¬ pc6 n ≤ pc6 s := fun z => h96 ((nI_leI (a := pc6 n) (b := pc6 s) (by omega) (by omega)).mpr z); exact ih _ (bsf.new hs (b2i_ne h62) (by show 6 - pc6 n < 6 - pc6 s; omega)))
            | (have h97 := (nI_leI (a := pc6 n) (b := pc6 s) (by omega) (by omega)).mp h96; exact ih _ (bsf.stay hs (by show 6 - pc6 s ≤ 6 - pc6 n; omega)))
            | (have h82 : v = -1 := h81; exact ih _ (by rcases hv with ⟨-, q⟩ | ⟨s, e, hs⟩; exact bsf.first q (b2i_ne h62); exact absurd (e.symm.trans h82) (nI_n1 (by have := hs.1; omega))))
            | exact ih _ (hv.skip (b2i_0 h62))
          · refine R_goto hC 113 dX11_pack_99 (by decide) (R_iload_n (i := 3) hC dX11_pack_113 rfl rfl (R_istore_n (i := 2) hC dX11_pack_114 rfl (by decide) rfl (R_iinc hC dX11_pack_115 rfl (inc1 _) (by decide) rfl (R_goto hC 31 dX11_pack_118 (by decide) ?_))))
            first
            | (have h97 : ¬ pc6 n ≤ pc6 s := fun z => h96 ((nI_leI (a := pc6 n) (b := pc6 s) (by omega) (by omega)).mpr z); exact ih _ (bsf.new hs (b2i_ne h62) (by show 6 - pc6 n < 6 - pc6 s; omega)))
            | (have h97 := (nI_leI (a := pc6 n) (b := pc6 s) (by omega) (by omega)).mp h96; exact ih _ (bsf.stay hs (by show 6 - pc6 s ≤ 6 - pc6 n; omega)))
            | (have h82 : v = -1 := h81; exact ih _ (by rcases hv with ⟨-, q⟩ | ⟨s, e, hs⟩; exact bsf.first q (b2i_ne h62); exact absurd (e.symm.trans h82) (nI_n1 (by have := hs.1; omega))))
            | exact ih _ (hv.skip (b2i_0 h62))
  have l1 : w = 1 → ¬ (tT α).1 = 0 → ∀ n, n ≤ 2 ^ (tT α).1 → ∀ v, bsf (cover (tT α)) pc6 n v → Rw mX11_pack X 31 [some (.ref i_M), some (.int w), some (.int v), some (.int (nI n))] [] (wd (sG σ i_M 0 0) x) 0 0 := by
    intro ew n0
    have eo : opPack α w = bstV (cover (tT α)) pc6 (2 ^ (tT α).1) := by unfold opPack; rw [if_neg n0, if_neg (by rw [ew]; decide), if_pos ew]
    subst ew
    refine up_loop (2 ^ (tT α).1) ?_ ?_
    · intro v hv
      refine R_iload_n (i := 3) hC dX11_pack_31 rfl rfl (R_iconst (v := 1) hC dX11_pack_32 (by decide) (R_aload_n (i := 0) hC dX11_pack_33 rfl rfl (R_gR hC dX11_pack_34 fl_X11_13 L_M rfl (R_iload_n (i := 1) hC dX11_pack_37 rfl rfl ?_))))
      refine R_if_ne hC 46 dX11_pack_38 (by decide) (fun _ => ?_) (fun h => absurd h (by decide))
      refine R_bipush (v := 36) hC dX11_pack_46 (by decide) (R_aI hC dX11_pack_48 L_m_now 36 rfl (by decide) (by decide) ?_)
      refine R_top (y := nI (tT α).1) (hω.R) ?_
      refine R_ishl hC dX11_pack_49 ?_
      refine R_top (y := nI (2 ^ (tT α).1)) (shl1 _ hR6) ?_
      refine R_icmp_ge hC 121 dX11_pack_50 (by decide) (fun _ => ?_) (fun h => absurd (Int32.le_refl _) h)
      refine R_iload_n (i := 2) hC dX11_pack_121 rfl rfl ?_
      exact R_iret hC hT dX11_pack_122 rfl (by rw [eo, hv.v]; exact hω.p)
    · intro n hn ih v hv
      have q1 := pc6_le n (by omega)
      refine R_iload_n (i := 3) hC dX11_pack_31 rfl rfl (R_iconst (v := 1) hC dX11_pack_32 (by decide) (R_aload_n (i := 0) hC dX11_pack_33 rfl rfl (R_gR hC dX11_pack_34 fl_X11_13 L_M rfl (R_iload_n (i := 1) hC dX11_pack_37 rfl rfl ?_))))
      refine R_if_ne hC 46 dX11_pack_38 (by decide) (fun _ => ?_) (fun h => absurd h (by decide))
      refine R_bipush (v := 36) hC dX11_pack_46 (by decide) (R_aI hC dX11_pack_48 L_m_now 36 rfl (by decide) (by decide) ?_)
      refine R_top (y := nI (tT α).1) (hω.R) ?_
      refine R_ishl hC dX11_pack_49 ?_
      refine R_top (y := nI (2 ^ (tT α).1)) (shl1 _ hR6) ?_
      refine R_icmp_ge hC 121 dX11_pack_50 (by decide) (fun h => absurd h (nI_ge hn (by omega))) (fun _ => ?_)
      refine R_iload_n (i := 1) hC dX11_pack_53 rfl rfl ?_
      refine R_if_ne hC 68 dX11_pack_54 (by decide) (fun _ => ?_) (fun h => absurd h (by decide))
      refine R_aload_n (i := 0) hC dX11_pack_68 rfl rfl (R_iload_n (i := 3) hC dX11_pack_69 rfl rfl ?_)
      refine R_V1i hC hR dX11_pack_70 MV_X11_doCover ml_X11_322 L_M rfl (s_doCover (sG σ i_M 0 0) x (tT α) (hω.T ok) n (by omega)) (by decide) ⟨by decide, by decide⟩ (Nat.le_of_ble_eq_true rfl) ?_
      refine R_if_ne hC 79 dX11_pack_73 (by decide) (fun h73 => ?_) (fun h73 => ?_)
      · refine R_iload_n (i := 2) hC dX11_pack_79 rfl rfl (R_iconst (v := (-1)) hC dX11_pack_80 (by decide) ?_)
        refine R_icmp_eq hC 113 dX11_pack_81 (by decide) (fun h81 => ?_) (fun h81 => ?_)
        · refine R_iload_n (i := 3) hC dX11_pack_113 rfl rfl (R_istore_n (i := 2) hC dX11_pack_114 rfl (by decide) rfl (R_iinc hC dX11_pack_115 rfl (inc1 _) (by decide) rfl (R_goto hC 31 dX11_pack_118 (by decide) ?_)))
          first
          | (have h111 : ¬ pc6 s ≤ pc6 n := fun z => h110 ((nI_leI (a := pc6 s) (b := pc6 n) (by omega) (by omega)).mpr z); exact ih _ (bsf.new hs (b2i_ne h73) (by omega)))
          | (have h111 := (nI_leI (a := pc6 s) (b := pc6 n) (by omega) (by omega)).mp h110; exact ih _ (bsf.stay hs h111))
          | (have h82 : v = -1 := h81; exact ih _ (by rcases hv with ⟨-, q⟩ | ⟨s, e, hs⟩; exact bsf.first q (b2i_ne h73); exact absurd (e.symm.trans h82) (nI_n1 (by have := hs.1; omega))))
          | exact ih _ (hv.skip (b2i_0 h73))
        · obtain ⟨s, rfl, hs⟩ : ∃ s, v = nI s ∧ bst (cover (tT α)) pc6 n s := by rcases hv with ⟨e, -⟩ | q; exact absurd e h81; exact q
          have hs1 := hs.1
          have q2 := pc6_le s (by omega)
          refine R_iload_n (i := 1) hC dX11_pack_84 rfl rfl ?_
          refine R_if_ne hC 102 dX11_pack_85 (by decide) (fun _ => ?_) (fun h => absurd h (by decide))
          refine R_iload_n (i := 3) hC dX11_pack_102 rfl rfl ?_
          refine R_S1i hC hR dX11_pack_103 MS_X11_sizeOf ml_X11_204 (s_sizeOf n (by omega) _) (by decide) ⟨by decide, by decide⟩ (Nat.le_of_ble_eq_true rfl) ?_
          refine R_iload_n (i := 2) hC dX11_pack_106 rfl rfl ?_
          refine R_S1i hC hR dX11_pack_107 MS_X11_sizeOf ml_X11_204 (s_sizeOf s (by omega) _) (by decide) ⟨by decide, by decide⟩ (Nat.le_of_ble_eq_true rfl) ?_
          refine R_icmp_ge hC 115 dX11_pack_110 (by decide) (fun h110 => ?_) (fun h110 => ?_)
          · refine R_iinc hC dX11_pack_115 rfl (inc1 _) (by decide) rfl (R_goto hC 31 dX11_pack_118 (by decide) ?_)
            first
            | (have h111 : ¬ pc6 s ≤ pc6 n := fun z => h110 ((nI_leI (a := pc6 s) (b := pc6 n) (by omega) (by omega)).mpr z); exact ih _ (bsf.new hs (b2i_ne h73) (by omega)))
            | (have h111 := (nI_leI (a := pc6 s) (b := pc6 n) (by omega) (by omega)).mp h110; exact ih _ (bsf.stay hs h111))
            | (have h82 : v = -1 := h81; exact ih _ (by rcases hv with ⟨-, q⟩ | ⟨s, e, hs⟩; exact bsf.first q (b2i_ne h73); exact absurd (e.symm.trans h82) (nI_n1 (by have := hs.1; omega))))
            | exact ih _ (hv.skip (b2i_0 h73))
          · refine R_iload_n (i := 3) hC dX11_pack_113 rfl rfl (R_istore_n (i := 2) hC dX11_pack_114 rfl (by decide) rfl (R_iinc hC dX11_pack_115 rfl (inc1 _) (by decide) rfl (R_goto hC 31 dX11_pack_118 (by decide) ?_)))
            first
            | (have h111 : ¬ pc6 s ≤ pc6 n := fun z => h110 ((nI_leI (a := pc6 s) (b := pc6 n) (by omega) (by omega)).mpr z); exact ih _ (bsf.new hs (b2i_ne h73) (by omega)))
            | (have h111 := (nI_leI (a := pc6 s) (b := pc6 n) (by omega) (by omega)).mp h110; exact ih _ (bsf.stay hs h111))
            | (have h82 : v = -1 := h81; exact ih _ (by rcases hv with ⟨-, q⟩ | ⟨s, e, hs⟩; exact bsf.first q (b2i_ne h73); exact absurd (e.symm.trans h82) (nI_n1 (by have := hs.1; omega))))
            | exact ih _ (hv.skip (b2i_0 h73))
      · refine R_goto hC 115 dX11_pack_76 (by decide) (R_iinc hC dX11_pack_115 rfl (inc1 _) (by decide) rfl (R_goto hC 31 dX11_pack_118 (by decide) ?_))
        first
        | (have h111 : ¬ pc6 s ≤ pc6 n := fun z => h110 ((nI_leI (a := pc6 s) (b := pc6 n) (by omega) (by omega)).mpr z); exact ih _ (bsf.new hs (b2i_ne h73) (by omega)))
        | (have h111 := (nI_leI (a := pc6 s) (b := pc6 n) (by omega) (by omega)).mp h110; exact ih _ (bsf.stay hs h111))
        | (have h82 : v = -1 := h81; exact ih _ (by rcases hv with ⟨-, q⟩ | ⟨s, e, hs⟩; exact bsf.first q (b2i_ne h73); exact absurd (e.symm.trans h82) (nI_n1 (by have := hs.1; omega))))
        | exact ih _ (hv.skip (b2i_0 h73))
  refine R_aload_n (i := 0) hC dX11_pack_0 rfl rfl (R_iconst (v := 0) hC dX11_pack_1 (by decide) (R_pI hC dX11_pack_2 fl_X11_83 L_M rfl (R_aload_n (i := 0) hC dX11_pack_5 rfl rfl (R_gR hC dX11_pack_6 fl_X11_13 L_M rfl (R_bipush (v := 36) hC dX11_pack_9 (by decide) (R_aI hC dX11_pack_11 L_m_now 36 rfl (by decide) (by decide) ?_))))))
  refine R_top (y := nI (tT α).1) (hω.R) ?_
  refine R_if_eq hC 25 dX11_pack_12 (by decide) (fun h12 => ?_) (fun h12 => ?_)
  · refine R_iconst (v := (-1)) hC dX11_pack_25 (by decide) ?_
    exact R_iret hC hT dX11_pack_26 rfl (by
    first
    | (have e : opPack α w = -1 := (by unfold opPack; rw [if_pos ((T0_iff ok).mp h12)]); rw [e]; exact hω.p)
    | (have e : opPack α w = -1 := (by have q := ite0 h22; unfold opPack; rw [if_neg (fun z => h12 ((T0_iff ok).mpr z)), if_neg (fun z => q (by rw [z]; decide)), if_neg (fun z => q (by rw [z]; decide))]); rw [e]; exact hω.p))
  · refine R_iload_n (i := 1) hC dX11_pack_15 rfl rfl (R_i2l hC dX11_pack_16 (R_lconst (v := 0) hC dX11_pack_17 (by decide) (R_lconst (v := 1) hC dX11_pack_18 (by decide) ?_)))
    refine R_S3i hC hR dX11_pack_19 MS_X11_isIn ml_X11_140 (s_isInZ w 0 1 0 1 (by decide) (by decide) _) (by decide) ⟨by decide, by decide⟩ (Nat.le_of_ble_eq_true rfl) ?_
    refine R_if_ne hC 27 dX11_pack_22 (by decide) (fun h22 => ?_) (fun h22 => ?_)
    · refine R_iconst (v := (-1)) hC dX11_pack_27 (by decide) (R_istore_n (i := 2) hC dX11_pack_28 rfl (by decide) rfl (R_iconst (v := 0) hC dX11_pack_29 (by decide) (R_istore_n (i := 3) hC dX11_pack_30 rfl (by decide) rfl ?_)))
      (have n0 : ¬ (tT α).1 = 0 := fun z => h12 ((T0_iff ok).mpr z); have q := ite1 h22; rcases (by omega : w.toInt = 0 ∨ w.toInt = 1) with e | e; exact l0 (Int32.toInt_inj.mp e) n0 0 (Nat.zero_le _) _ (Or.inl ⟨rfl, fun s z => absurd z (Nat.not_lt_zero _)⟩); exact l1 (Int32.toInt_inj.mp e) n0 0 (Nat.zero_le _) _ (Or.inl ⟨rfl, fun s z => absurd z (Nat.not_lt_zero _)⟩))
    · refine R_iconst (v := (-1)) hC dX11_pack_25 (by decide) ?_
      exact R_iret hC hT dX11_pack_26 rfl (by
      first
      | (have e : opPack α w = -1 := (by unfold opPack; rw [if_pos ((T0_iff ok).mp h12)]); rw [e]; exact hω.p)
      | (have e : opPack α w = -1 := (by have q := ite0 h22; unfold opPack; rw [if_neg (fun z => h12 ((T0_iff ok).mpr z)), if_neg (fun z => q (by rw [z]; decide)), if_neg (fun z => q (by rw [z]; decide))]); rw [e]; exact hω.p))
/-! ===== run ===== -/
noncomputable def runT (s : scr) : Nat → Nat → tb → Nat × tb
  | 0, i, T => (i, T)
  | f + 1, i, T => by classical exact (if i < s.1 ∧ stepCan T (s.2 i) then runT s f (i + 1) (stepA T (s.2 i)) else (i, T))
theorem runT_y {s : scr} {f i : Nat} {T : tb} (h : i < s.1 ∧ stepCan T (s.2 i)) : runT s (f + 1) i T = runT s f (i + 1) (stepA T (s.2 i)) := by rw [runT, if_pos h]
theorem runT_n {s : scr} {f i : Nat} {T : tb} (h : ¬ (i < s.1 ∧ stepCan T (s.2 i))) : runT s (f + 1) i T = (i, T) := by rw [runT, if_neg h]
noncomputable def opRun (α : aS) (k w : Int32) : Int32 := by classical exact
  (if (¬ (tT α).1 = 0 ∧ inR (tS α).1 k ∧ (0 ≤ w.toInt ∧ w.toInt ≤ 1)) then (if w = 1 then b2i (tot (runT ((tS α).2 k.toNatClampNeg) 13 0 (tT α)).2) else if (runT ((tS α).2 k.toNatClampNeg) 13 0 (tT α)).1 = ((tS α).2 k.toNatClampNeg).1 then -1 else nI (runT ((tS α).2 k.toNatClampNeg) 13 0 (tT α)).1) else -1000000)
theorem mo_run {σ : sg} {x : aW} {α : aS} (h : MInv σ α) (ok : aOK α) (k w : Int32) : Mt mX11_run 4 0 0 [.ref i_M, .int k, .int w] (wd σ x) (MPost σ x (opRun α k w) α) := by
  refine Mt.of MI_X11_run (Nat.le_of_ble_eq_true rfl) (fun X hC hR hT => ?_)
  have hω := MZ.of h
  have hS := ok.2.2.2.2.1
  have b1 := hS.1
  have e13 : ((sG σ i_M 0 0).1 i_M 13).toInt = (tS α).1 := by rw [sG_nk (by decide), h.2.2.2.1.1, nI_toInt (by omega)]
  have no : ¬ (¬ (tT α).1 = 0 ∧ inR (tS α).1 k ∧ (0 ≤ w.toInt ∧ w.toInt ≤ 1)) → opRun α k w = -1000000 := fun q => by unfold opRun; rw [if_neg q]
  have loop : ∀ (q : Nat), k = nI q → q < (tS α).1 → opRun α k w = (if w = 1 then b2i (tot (runT ((tS α).2 q) 13 0 (tT α)).2) else if (runT ((tS α).2 q) 13 0 (tT α)).1 = ((tS α).2 q).1 then -1 else nI (runT ((tS α).2 q) 13 0 (tT α)).1) → ∀ f i ω T, i + f = 13 → MZ σ ω α → TB (ω.2.2 i_m_apart) T → tbOK T → runT ((tS α).2 q) 13 0 (tT α) = runT ((tS α).2 q) f i T → i ≤ 12 → Rw mX11_run X 49 [some (.ref i_M), some (.int k), some (.int w), some (.int (nI i))] [] (wd ω x) 0 0 := by
    intro q ek hq eo f
    obtain ⟨b2, b3, b4⟩ := hS.2 q hq
    induction f with
    | zero => intro i ω T hf; intros; omega
    | succ f ih =>
      intro i ω T hf hz hTB okT hp hi
      have hpl : ω.2.2 i_m_planLong q = nI ((tS α).2 q).1 := (hz.1.2.2.2.1.2 q hq).1
      have hst : ∀ j, j < 4 → i < ((tS α).2 q).1 → ω.2.2 i_m_plan (4 * (12 * q + i) + j) = ((tS α).2 q).2 i j := fun j hj hi2 => (hz.1.2.2.2.1.2 q hq).2 i j hi2 hj
      have fin : ¬ (i < ((tS α).2 q).1 ∧ stepCan T (((tS α).2 q).2 i)) → ∀ ω, MZ σ ω α → TB (ω.2.2 i_m_apart) T → ω.2.2 i_m_planLong q = nI ((tS α).2 q).1 → Rw mX11_run X 100 [some (.ref i_M), some (.int k), some (.int w), some (.int (nI i))] [] (wd ω x) 0 0 := by
        intro hno ω hz hTB hpl
        rw [hp, runT_n hno] at eo
        have em : (nI i = nI ((tS α).2 q).1) ↔ i = ((tS α).2 q).1 := nI_eq (by omega) (by omega)
        refine R_iload_n (i := 2) hC dX11_run_100 rfl rfl (R_iconst (v := 1) hC dX11_run_101 (by decide) ?_)
        refine R_icmp_ne hC 122 dX11_run_102 (by decide) (fun h102 => ?_) (fun h102 => ?_)
        · refine R_iload_n (i := 3) hC dX11_run_122 rfl rfl (R_aload_n (i := 0) hC dX11_run_123 rfl rfl (R_gR hC dX11_run_124 fl_X11_29 L_M rfl (R_iload_n (i := 1) hC dX11_run_127 rfl rfl (R_aI hC dX11_run_128 L_m_planLong q ek (by omega) (by decide) ?_))))
          refine R_top (y := nI ((tS α).2 q).1) (hpl) ?_
          refine R_icmp_ne hC 136 dX11_run_129 (by decide) (fun h129 => ?_) (fun h129 => ?_)
          · refine R_iload_n (i := 3) hC dX11_run_136 rfl rfl ?_
            exact R_iret hC hT dX11_run_137 rfl (by
            rw [eo, if_neg h102]
            first
            | (rw [if_pos (em.mp h129)]; exact hz.p)
            | (have h130 := h129; rw [if_neg (fun z => h130 (em.mpr z))]; exact hz.p))
          · refine R_iconst (v := (-1)) hC dX11_run_132 (by decide) (R_goto hC 137 dX11_run_133 (by decide) ?_)
            exact R_iret hC hT dX11_run_137 rfl (by
            rw [eo, if_neg h102]
            first
            | (rw [if_pos (em.mp h129)]; exact hz.p)
            | (have h130 := h129; rw [if_neg (fun z => h130 (em.mpr z))]; exact hz.p))
        · refine R_aload_n (i := 0) hC dX11_run_105 rfl rfl (R_aload_n (i := 0) hC dX11_run_106 rfl rfl (R_gR hC dX11_run_107 fl_X11_77 L_M rfl ?_))
          refine R_V1g hC hR dX11_run_110 MV_X11_isTotal ml_X11_227 L_M rfl (s_isTotal ω x i_m_apart L_m_apart (by decide) T hTB) (by decide) ⟨by decide, by decide⟩ (Nat.le_of_ble_eq_true rfl) (fun r w1 hq => ?_)
          obtain ⟨rfl, g, rfl, -⟩ := hq
          have hz2 : MZ σ (sA ω i_m_dets g) α := hz.a (by decide) (by decide)
          refine R_if_eq hC 120 dX11_run_113 (by decide) (fun h113 => ?_) (fun h113 => ?_)
          · refine R_iconst (v := 0) hC dX11_run_120 (by decide) ?_
            exact R_iret hC hT dX11_run_121 rfl (by
            rw [eo, if_pos h102]
            first
            | (rw [b2i_t (b2i_ne h113)]; exact hz2.p)
            | (have h114 := h113; rw [b2i_f (b2i_0 h114)]; exact hz2.p))
          · refine R_iconst (v := 1) hC dX11_run_116 (by decide) (R_goto hC 121 dX11_run_117 (by decide) ?_)
            exact R_iret hC hT dX11_run_121 rfl (by
            rw [eo, if_pos h102]
            first
            | (rw [b2i_t (b2i_ne h113)]; exact hz2.p)
            | (have h114 := h113; rw [b2i_f (b2i_0 h114)]; exact hz2.p))
      by_cases hlt : i < ((tS α).2 q).1
      · refine R_iload_n (i := 3) hC dX11_run_49 rfl rfl (R_aload_n (i := 0) hC dX11_run_50 rfl rfl (R_gR hC dX11_run_51 fl_X11_29 L_M rfl (R_iload_n (i := 1) hC dX11_run_54 rfl rfl (R_aI hC dX11_run_55 L_m_planLong q ek (by omega) (by decide) ?_))))
        refine R_top (y := nI ((tS α).2 q).1) (hpl) ?_
        refine R_icmp_ge hC 100 dX11_run_56 (by decide) (fun h => absurd h (nI_ge hlt (by omega))) (fun _ => ?_)
        refine R_aload_n (i := 0) hC dX11_run_59 rfl rfl (R_aload_n (i := 0) hC dX11_run_60 rfl rfl (R_gR hC dX11_run_61 fl_X11_77 L_M rfl (R_iconst (v := 4) hC dX11_run_64 (by decide) (R_bipush (v := 12) hC dX11_run_65 (by decide) (R_iload_n (i := 1) hC dX11_run_67 rfl rfl (R_imul hC dX11_run_68 (R_iload_n (i := 3) hC dX11_run_69 rfl rfl ?_)))))))
        refine R_iadd hC dX11_run_70 (R_imul hC dX11_run_71 ?_)
        refine R_top (y := nI (4 * (12 * q + i))) (by rw [ek]; exact n412 q i) ?_
        refine R_V2g hC hR dX11_run_72 MV_X11_canStep ml_X11_328 L_M rfl (s_canStepB (σ := ω) L_m_apart (by decide) hTB (4 * (12 * q + i)) (by omega) (b4 i hlt) (fun j hj => hst j hj hlt)) (by decide) ⟨by decide, by decide⟩ (Nat.le_of_ble_eq_true rfl) (fun r w1 hq => ?_)
        obtain ⟨g, rfl, rfl⟩ := hq
        have hz2 : MZ σ (sA ω i_m_trial g) α := hz.a (by decide) (by decide)
        refine R_if_eq hC 100 dX11_run_75 (by decide) (fun h75 => ?_) (fun h75 => ?_)
        · exact fin (fun z => b2i_0 h75 z.2) _ hz2 hTB hpl
        · have hcan := b2i_ne h75
          refine R_aload_n (i := 0) hC dX11_run_78 rfl rfl (R_aload_n (i := 0) hC dX11_run_79 rfl rfl (R_gR hC dX11_run_80 fl_X11_77 L_M rfl (R_iconst (v := 4) hC dX11_run_83 (by decide) (R_bipush (v := 12) hC dX11_run_84 (by decide) (R_iload_n (i := 1) hC dX11_run_86 rfl rfl (R_imul hC dX11_run_87 (R_iload_n (i := 3) hC dX11_run_88 rfl rfl ?_)))))))
          refine R_iadd hC dX11_run_89 (R_imul hC dX11_run_90 ?_)
          refine R_top (y := nI (4 * (12 * q + i))) (by rw [ek]; exact n412 q i) ?_
          refine R_V2g hC hR dX11_run_91 MV_X11_doesStep ml_X11_332 L_M rfl (s_doesStep (σ := sA ω i_m_trial g) L_m_apart (by decide) (by decide) hTB okT (4 * (12 * q + i)) (by omega) (b4 i hlt) (fun j hj => hst j hj hlt) hcan) (by decide) ⟨by decide, by decide⟩ (Nat.le_of_ble_eq_true rfl) (fun r w1 hq => ?_)
          obtain ⟨rfl, g3, h3, rfl, hg3⟩ := hq
          have hz3 : MZ σ (sA (sA (sA ω i_m_trial g) i_m_trial h3) i_m_apart g3) α := (hz2.a (by decide) (by decide)).a (by decide) (by decide)
          refine R_iinc hC dX11_run_94 rfl (inc1 _) (by decide) rfl (R_goto hC 49 dX11_run_97 (by decide) ?_)
          exact ih (i + 1) _ (stepA T (((tS α).2 q).2 i)) (by omega) hz3 (by rw [sA_eq]; exact hg3) (tbOK_step okT (b4 i hlt) hcan) (by rw [hp, runT_y ⟨hlt, hcan⟩]) (by omega)
      · refine R_iload_n (i := 3) hC dX11_run_49 rfl rfl (R_aload_n (i := 0) hC dX11_run_50 rfl rfl (R_gR hC dX11_run_51 fl_X11_29 L_M rfl (R_iload_n (i := 1) hC dX11_run_54 rfl rfl (R_aI hC dX11_run_55 L_m_planLong q ek (by omega) (by decide) ?_))))
        refine R_top (y := nI ((tS α).2 q).1) (hpl) ?_
        refine R_icmp_ge hC 100 dX11_run_56 (by decide) (fun _ => ?_) (fun h => absurd (nI_le (by omega) (by omega)) h)
        exact fin (fun z => hlt z.1) _ hz hTB hpl
  refine R_aload_n (i := 0) hC dX11_run_0 rfl rfl (R_iconst (v := 0) hC dX11_run_1 (by decide) (R_pI hC dX11_run_2 fl_X11_83 L_M rfl (R_aload_n (i := 0) hC dX11_run_5 rfl rfl (R_gR hC dX11_run_6 fl_X11_13 L_M rfl (R_bipush (v := 36) hC dX11_run_9 (by decide) (R_aI hC dX11_run_11 L_m_now 36 rfl (by decide) (by decide) ?_))))))
  refine R_top (y := nI (tT α).1) (hω.R) ?_
  refine R_if_eq hC 33 dX11_run_12 (by decide) (fun h12 => ?_) (fun h12 => ?_)
  · refine R_ldc hC dX11_run_33 kc_X11_133 ?_
    exact R_iret hC hT dX11_run_35 rfl (by
    first
    | (rw [no (fun z => z.1 ((T0_iff ok).mp h12))]; exact hω.p)
    | (rw [no (fun z => b2i_0 h20 z.2.1)]; exact hω.p)
    | (rw [no (fun z => ite0 h30 z.2.2)]; exact hω.p))
  · refine R_aload_n (i := 0) hC dX11_run_15 rfl rfl (R_iload_n (i := 1) hC dX11_run_16 rfl rfl ?_)
    refine R_V1i hC hR dX11_run_17 MV_X11_isPlan ml_X11_325 L_M rfl (s_isPlan _ _ _) (by decide) ⟨by decide, by decide⟩ (Nat.le_of_ble_eq_true rfl) ?_
    rw [e13]
    refine R_if_eq hC 33 dX11_run_20 (by decide) (fun h20 => ?_) (fun h20 => ?_)
    · refine R_ldc hC dX11_run_33 kc_X11_133 ?_
      exact R_iret hC hT dX11_run_35 rfl (by
      first
      | (rw [no (fun z => z.1 ((T0_iff ok).mp h12))]; exact hω.p)
      | (rw [no (fun z => b2i_0 h20 z.2.1)]; exact hω.p)
      | (rw [no (fun z => ite0 h30 z.2.2)]; exact hω.p))
    · refine R_iload_n (i := 2) hC dX11_run_23 rfl rfl (R_i2l hC dX11_run_24 (R_lconst (v := 0) hC dX11_run_25 (by decide) (R_lconst (v := 1) hC dX11_run_26 (by decide) ?_)))
      refine R_S3i hC hR dX11_run_27 MS_X11_isIn ml_X11_140 (s_isInZ w 0 1 0 1 (by decide) (by decide) _) (by decide) ⟨by decide, by decide⟩ (Nat.le_of_ble_eq_true rfl) ?_
      refine R_if_ne hC 36 dX11_run_30 (by decide) (fun h30 => ?_) (fun h30 => ?_)
      · have hin := b2i_ne h20
        obtain ⟨q, ek, hq, hq2⟩ := inR_i (n := (tS α).1) hin
        have n0 : ¬ (tT α).1 = 0 := fun z => h12 ((T0_iff ok).mpr z)
        have eo : opRun α k w = (if w = 1 then b2i (tot (runT ((tS α).2 q) 13 0 (tT α)).2) else if (runT ((tS α).2 q) 13 0 (tT α)).1 = ((tS α).2 q).1 then -1 else nI (runT ((tS α).2 q) 13 0 (tT α)).1) := by unfold opRun; rw [if_pos ⟨n0, hin, ite1 h30⟩, ek, nI_clamp hq2]
        refine R_aload_n (i := 0) hC dX11_run_36 rfl rfl (R_gR hC dX11_run_37 fl_X11_13 L_M rfl (R_aload_n (i := 0) hC dX11_run_40 rfl rfl (R_gR hC dX11_run_41 fl_X11_77 L_M rfl ?_)))
        refine R_S2v hC hR dX11_run_44 MS_X11_copy ml_X11_170 (s_copy (sG σ i_M 0 0) x i_m_now i_m_apart L_m_now L_m_apart (by decide)) (by decide) ⟨by decide, by decide⟩ (Nat.le_of_ble_eq_true rfl) ?_
        refine R_iconst (v := 0) hC dX11_run_47 (by decide) (R_istore_n (i := 3) hC dX11_run_48 rfl (by decide) rfl ?_)
        exact loop q ek hq eo 13 0 _ (tT α) rfl (hω.a (by decide) (by decide)) (by rw [sA_eq]; exact (hω.1.2.1.congr ok.2.2.1 (fun z hz => by unfold cpy; rw [if_pos hz])).TB ok.2.2.1) ok.2.2.1 rfl (by decide)
      · refine R_ldc hC dX11_run_33 kc_X11_133 ?_
        exact R_iret hC hT dX11_run_35 rfl (by
        first
        | (rw [no (fun z => z.1 ((T0_iff ok).mp h12))]; exact hω.p)
        | (rw [no (fun z => b2i_0 h20 z.2.1)]; exact hω.p)
        | (rw [no (fun z => ite0 h30 z.2.2)]; exact hω.p))

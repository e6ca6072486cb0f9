theorem dL_areKept_115 : decode cL_areKept 115 = .ok (.iload 4, 2) := by decide +kernel
theorem dL_areKept_117 : decode cL_areKept 117 = .ok (.aload_n 0, 1) := by decide +kernel
theorem dL_areKept_118 : decode cL_areKept 118 = .ok (.iload 4, 2) := by decide +kernel
theorem dL_areKept_120 : decode cL_areKept 120 = .ok (.invokevirtual 46, 3) := by decide +kernel
theorem dL_areKept_123 : decode cL_areKept 123 = .ok (.iastore, 1) := by decide +kernel
theorem dL_areKept_124 : decode cL_areKept 124 = .ok (.iinc 4 1, 3) := by decide +kernel
theorem dL_areKept_127 : decode cL_areKept 127 = .ok (.goto (-52), 3) := by decide +kernel
theorem dL_areKept_130 : decode cL_areKept 130 = .ok (.iload_n 3, 1) := by decide +kernel
theorem dL_areKept_131 : decode cL_areKept 131 = .ok (.ireturn, 1) := by decide +kernel
theorem dL_holds_0 : decode cL_holds 0 = .ok (.iconst 0, 1) := by decide +kernel
theorem dL_holds_1 : decode cL_holds 1 = .ok (.istore_n 1, 1) := by decide +kernel
theorem dL_holds_2 : decode cL_holds 2 = .ok (.iconst 0, 1) := by decide +kernel
theorem dL_holds_3 : decode cL_holds 3 = .ok (.istore_n 2, 1) := by decide +kernel
theorem dL_holds_4 : decode cL_holds 4 = .ok (.iconst 0, 1) := by decide +kernel
theorem dL_holds_5 : decode cL_holds 5 = .ok (.istore_n 3, 1) := by decide +kernel
theorem dL_holds_6 : decode cL_holds 6 = .ok (.iconst 0, 1) := by decide +kernel
theorem dL_holds_7 : decode cL_holds 7 = .ok (.istore 4, 2) := by decide +kernel
theorem dL_holds_9 : decode cL_holds 9 = .ok (.iconst 1, 1) := by decide +kernel
theorem dL_holds_10 : decode cL_holds 10 = .ok (.istore 5, 2) := by decide +kernel
theorem dL_holds_12 : decode cL_holds 12 = .ok (.iconst 0, 1) := by decide +kernel
theorem dL_holds_13 : decode cL_holds 13 = .ok (.istore 6, 2) := by decide +kernel
theorem dL_holds_15 : decode cL_holds 15 = .ok (.iload 6, 2) := by decide +kernel
theorem dL_holds_17 : decode cL_holds 17 = .ok (.aload_n 0, 1) := by decide +kernel
theorem dL_holds_18 : decode cL_holds 18 = .ok (.invokevirtual 9, 3) := by decide +kernel
theorem dL_holds_21 : decode cL_holds 21 = .ok (.if_icmp .ge 386, 3) := by decide +kernel
theorem dL_holds_24 : decode cL_holds 24 = .ok (.iconst 0, 1) := by decide +kernel
theorem dL_holds_25 : decode cL_holds 25 = .ok (.istore 7, 2) := by decide +kernel
theorem dL_holds_27 : decode cL_holds 27 = .ok (.iconst 0, 1) := by decide +kernel
theorem dL_holds_28 : decode cL_holds 28 = .ok (.istore 8, 2) := by decide +kernel
theorem dL_holds_30 : decode cL_holds 30 = .ok (.iconst 0, 1) := by decide +kernel
theorem dL_holds_31 : decode cL_holds 31 = .ok (.istore 9, 2) := by decide +kernel
theorem dL_holds_33 : decode cL_holds 33 = .ok (.iconst 0, 1) := by decide +kernel
theorem dL_holds_34 : decode cL_holds 34 = .ok (.istore 10, 2) := by decide +kernel
theorem dL_holds_36 : decode cL_holds 36 = .ok (.iload 10, 2) := by decide +kernel
theorem dL_holds_38 : decode cL_holds 38 = .ok (.bipush 6, 2) := by decide +kernel
theorem dL_holds_40 : decode cL_holds 40 = .ok (.if_icmp .ge 252, 3) := by decide +kernel
theorem dL_holds_43 : decode cL_holds 43 = .ok (.aload_n 0, 1) := by decide +kernel
theorem dL_holds_44 : decode cL_holds 44 = .ok (.iload 6, 2) := by decide +kernel
theorem dL_holds_46 : decode cL_holds 46 = .ok (.iload 10, 2) := by decide +kernel
theorem dL_holds_48 : decode cL_holds 48 = .ok (.invokevirtual 33, 3) := by decide +kernel
theorem dL_holds_51 : decode cL_holds 51 = .ok (.istore 11, 2) := by decide +kernel
theorem dL_holds_53 : decode cL_holds 53 = .ok (.iload 7, 2) := by decide +kernel
theorem dL_holds_55 : decode cL_holds 55 = .ok (.iload 11, 2) := by decide +kernel
theorem dL_holds_57 : decode cL_holds 57 = .ok (.ifCond .ge 7, 3) := by decide +kernel
theorem dL_holds_60 : decode cL_holds 60 = .ok (.iconst 0, 1) := by decide +kernel
theorem dL_holds_61 : decode cL_holds 61 = .ok (.goto 7, 3) := by decide +kernel
theorem dL_holds_64 : decode cL_holds 64 = .ok (.iconst 1, 1) := by decide +kernel
theorem dL_holds_65 : decode cL_holds 65 = .ok (.iload 11, 2) := by decide +kernel
theorem dL_holds_67 : decode cL_holds 67 = .ok (.ishl, 1) := by decide +kernel
theorem dL_holds_68 : decode cL_holds 68 = .ok (.ior, 1) := by decide +kernel
theorem dL_holds_69 : decode cL_holds 69 = .ok (.istore 7, 2) := by decide +kernel
theorem dL_holds_71 : decode cL_holds 71 = .ok (.iload_n 2, 1) := by decide +kernel
theorem dL_holds_72 : decode cL_holds 72 = .ok (.iload 11, 2) := by decide +kernel
theorem dL_holds_74 : decode cL_holds 74 = .ok (.ifCond .ge 7, 3) := by decide +kernel
theorem dL_holds_77 : decode cL_holds 77 = .ok (.iconst 0, 1) := by decide +kernel
theorem dL_holds_78 : decode cL_holds 78 = .ok (.goto 4, 3) := by decide +kernel
theorem dL_holds_81 : decode cL_holds 81 = .ok (.iconst 1, 1) := by decide +kernel
theorem dL_holds_82 : decode cL_holds 82 = .ok (.iadd, 1) := by decide +kernel
theorem dL_holds_83 : decode cL_holds 83 = .ok (.istore_n 2, 1) := by decide +kernel
theorem dL_holds_84 : decode cL_holds 84 = .ok (.iload_n 3, 1) := by decide +kernel
theorem dL_holds_85 : decode cL_holds 85 = .ok (.iload 11, 2) := by decide +kernel
theorem dL_holds_87 : decode cL_holds 87 = .ok (.iconst 1, 1) := by decide +kernel
theorem dL_holds_88 : decode cL_holds 88 = .ok (.if_icmp .ne 7, 3) := by decide +kernel
theorem dL_holds_91 : decode cL_holds 91 = .ok (.iconst 1, 1) := by decide +kernel
theorem dL_holds_92 : decode cL_holds 92 = .ok (.goto 4, 3) := by decide +kernel
theorem dL_holds_95 : decode cL_holds 95 = .ok (.iconst 0, 1) := by decide +kernel
theorem dL_holds_96 : decode cL_holds 96 = .ok (.iadd, 1) := by decide +kernel
theorem dL_holds_97 : decode cL_holds 97 = .ok (.istore_n 3, 1) := by decide +kernel
theorem dL_holds_98 : decode cL_holds 98 = .ok (.iload 8, 2) := by decide +kernel
theorem dL_holds_100 : decode cL_holds 100 = .ok (.ifCond .ne 18, 3) := by decide +kernel
theorem dL_holds_103 : decode cL_holds 103 = .ok (.iload 11, 2) := by decide +kernel
theorem dL_holds_105 : decode cL_holds 105 = .ok (.iconst 1, 1) := by decide +kernel
theorem dL_holds_106 : decode cL_holds 106 = .ok (.if_icmp .ne 16, 3) := by decide +kernel
theorem dL_holds_109 : decode cL_holds 109 = .ok (.aload_n 0, 1) := by decide +kernel
theorem dL_holds_110 : decode cL_holds 110 = .ok (.iload 10, 2) := by decide +kernel
theorem dL_holds_112 : decode cL_holds 112 = .ok (.invokevirtual 21, 3) := by decide +kernel
theorem dL_holds_115 : decode cL_holds 115 = .ok (.ifCond .eq 7, 3) := by decide +kernel
theorem dL_holds_118 : decode cL_holds 118 = .ok (.iconst 1, 1) := by decide +kernel
theorem dL_holds_119 : decode cL_holds 119 = .ok (.goto 4, 3) := by decide +kernel
theorem dL_holds_122 : decode cL_holds 122 = .ok (.iconst 0, 1) := by decide +kernel
theorem dL_holds_123 : decode cL_holds 123 = .ok (.istore 8, 2) := by decide +kernel
theorem dL_holds_125 : decode cL_holds 125 = .ok (.iload 9, 2) := by decide +kernel
theorem dL_holds_127 : decode cL_holds 127 = .ok (.ifCond .ne 15, 3) := by decide +kernel
theorem dL_holds_130 : decode cL_holds 130 = .ok (.aload_n 0, 1) := by decide +kernel
theorem dL_holds_131 : decode cL_holds 131 = .ok (.iload 6, 2) := by decide +kernel
theorem dL_holds_133 : decode cL_holds 133 = .ok (.iload 10, 2) := by decide +kernel
theorem dL_holds_135 : decode cL_holds 135 = .ok (.invokevirtual 64, 3) := by decide +kernel
theorem dL_holds_138 : decode cL_holds 138 = .ok (.iconst (-1), 1) := by decide +kernel
theorem dL_holds_139 : decode cL_holds 139 = .ok (.if_icmp .eq 7, 3) := by decide +kernel
theorem dL_holds_142 : decode cL_holds 142 = .ok (.iconst 1, 1) := by decide +kernel
theorem dL_holds_143 : decode cL_holds 143 = .ok (.goto 4, 3) := by decide +kernel
theorem dL_holds_146 : decode cL_holds 146 = .ok (.iconst 0, 1) := by decide +kernel
theorem dL_holds_147 : decode cL_holds 147 = .ok (.istore 9, 2) := by decide +kernel
theorem dL_holds_149 : decode cL_holds 149 = .ok (.iload 5, 2) := by decide +kernel
theorem dL_holds_151 : decode cL_holds 151 = .ok (.ifCond .eq 69, 3) := by decide +kernel
theorem dL_holds_154 : decode cL_holds 154 = .ok (.iload 11, 2) := by decide +kernel
theorem dL_holds_156 : decode cL_holds 156 = .ok (.iconst 1, 1) := by decide +kernel
theorem dL_holds_157 : decode cL_holds 157 = .ok (.if_icmp .ne 7, 3) := by decide +kernel
theorem dL_holds_160 : decode cL_holds 160 = .ok (.iconst 1, 1) := by decide +kernel
theorem dL_holds_161 : decode cL_holds 161 = .ok (.goto 4, 3) := by decide +kernel
theorem dL_holds_164 : decode cL_holds 164 = .ok (.iconst 0, 1) := by decide +kernel
theorem dL_holds_165 : decode cL_holds 165 = .ok (.aload_n 0, 1) := by decide +kernel
theorem dL_holds_166 : decode cL_holds 166 = .ok (.iload 6, 2) := by decide +kernel
theorem dL_holds_168 : decode cL_holds 168 = .ok (.iload 10, 2) := by decide +kernel
theorem dL_holds_170 : decode cL_holds 170 = .ok (.invokevirtual 67, 3) := by decide +kernel
theorem dL_holds_173 : decode cL_holds 173 = .ok (.iconst (-1), 1) := by decide +kernel
theorem dL_holds_174 : decode cL_holds 174 = .ok (.if_icmp .eq 7, 3) := by decide +kernel
theorem dL_holds_177 : decode cL_holds 177 = .ok (.iconst 1, 1) := by decide +kernel
theorem dL_holds_178 : decode cL_holds 178 = .ok (.goto 4, 3) := by decide +kernel
theorem dL_holds_181 : decode cL_holds 181 = .ok (.iconst 0, 1) := by decide +kernel
theorem dL_holds_182 : decode cL_holds 182 = .ok (.if_icmp .ne 38, 3) := by decide +kernel
theorem dL_holds_185 : decode cL_holds 185 = .ok (.iload 11, 2) := by decide +kernel
theorem dL_holds_187 : decode cL_holds 187 = .ok (.iconst 1, 1) := by decide +kernel
theorem dL_holds_188 : decode cL_holds 188 = .ok (.if_icmp .ne 28, 3) := by decide +kernel
theorem dL_holds_191 : decode cL_holds 191 = .ok (.aload_n 0, 1) := by decide +kernel
theorem dL_holds_192 : decode cL_holds 192 = .ok (.iload 6, 2) := by decide +kernel
theorem dL_holds_194 : decode cL_holds 194 = .ok (.iload 10, 2) := by decide +kernel
theorem dL_holds_196 : decode cL_holds 196 = .ok (.invokevirtual 67, 3) := by decide +kernel
theorem dL_holds_199 : decode cL_holds 199 = .ok (.iconst 1, 1) := by decide +kernel
theorem dL_holds_200 : decode cL_holds 200 = .ok (.if_icmp .lt 20, 3) := by decide +kernel
theorem dL_holds_203 : decode cL_holds 203 = .ok (.aload_n 0, 1) := by decide +kernel
theorem dL_holds_204 : decode cL_holds 204 = .ok (.iload 6, 2) := by decide +kernel
theorem dL_holds_206 : decode cL_holds 206 = .ok (.iload 10, 2) := by decide +kernel
theorem dL_holds_208 : decode cL_holds 208 = .ok (.invokevirtual 67, 3) := by decide +kernel
theorem dL_holds_211 : decode cL_holds 211 = .ok (.bipush 20, 2) := by decide +kernel
theorem dL_holds_213 : decode cL_holds 213 = .ok (.if_icmp .gt 7, 3) := by decide +kernel
theorem dL_holds_216 : decode cL_holds 216 = .ok (.iconst 1, 1) := by decide +kernel
theorem dL_holds_217 : decode cL_holds 217 = .ok (.goto 4, 3) := by decide +kernel
theorem dL_holds_220 : decode cL_holds 220 = .ok (.iconst 0, 1) := by decide +kernel
theorem dL_holds_221 : decode cL_holds 221 = .ok (.istore 5, 2) := by decide +kernel
theorem dL_holds_223 : decode cL_holds 223 = .ok (.iload 5, 2) := by decide +kernel
theorem dL_holds_225 : decode cL_holds 225 = .ok (.ifCond .eq 58, 3) := by decide +kernel
theorem dL_holds_228 : decode cL_holds 228 = .ok (.iload 11, 2) := by decide +kernel
theorem dL_holds_230 : decode cL_holds 230 = .ok (.iconst 1, 1) := by decide +kernel
theorem dL_holds_231 : decode cL_holds 231 = .ok (.if_icmp .ne 48, 3) := by decide +kernel
theorem dL_holds_234 : decode cL_holds 234 = .ok (.aload_n 0, 1) := by decide +kernel
theorem dL_holds_235 : decode cL_holds 235 = .ok (.iload 10, 2) := by decide +kernel
theorem dL_holds_237 : decode cL_holds 237 = .ok (.invokevirtual 21, 3) := by decide +kernel
theorem dL_holds_240 : decode cL_holds 240 = .ok (.ifCond .eq 39, 3) := by decide +kernel
theorem dL_holds_243 : decode cL_holds 243 = .ok (.aload_n 0, 1) := by decide +kernel
theorem dL_holds_244 : decode cL_holds 244 = .ok (.aload_n 0, 1) := by decide +kernel
theorem dL_holds_245 : decode cL_holds 245 = .ok (.iload 6, 2) := by decide +kernel
theorem dL_holds_247 : decode cL_holds 247 = .ok (.invokevirtual 43, 3) := by decide +kernel
theorem dL_holds_250 : decode cL_holds 250 = .ok (.invokevirtual 21, 3) := by decide +kernel
theorem dL_holds_253 : decode cL_holds 253 = .ok (.ifCond .eq 26, 3) := by decide +kernel
theorem dL_holds_256 : decode cL_holds 256 = .ok (.iload 10, 2) := by decide +kernel
theorem dL_holds_258 : decode cL_holds 258 = .ok (.aload_n 0, 1) := by decide +kernel
theorem dL_holds_259 : decode cL_holds 259 = .ok (.iload 6, 2) := by decide +kernel
theorem dL_holds_261 : decode cL_holds 261 = .ok (.invokevirtual 43, 3) := by decide +kernel
theorem dL_holds_264 : decode cL_holds 264 = .ok (.if_icmp .eq 15, 3) := by decide +kernel
theorem dL_holds_267 : decode cL_holds 267 = .ok (.aload_n 0, 1) := by decide +kernel
theorem dL_holds_268 : decode cL_holds 268 = .ok (.iload 6, 2) := by decide +kernel
theorem dL_holds_270 : decode cL_holds 270 = .ok (.iload 10, 2) := by decide +kernel
theorem dL_holds_272 : decode cL_holds 272 = .ok (.invokevirtual 64, 3) := by decide +kernel
theorem dL_holds_275 : decode cL_holds 275 = .ok (.iconst (-1), 1) := by decide +kernel
theorem dL_holds_276 : decode cL_holds 276 = .ok (.if_icmp .eq 7, 3) := by decide +kernel
theorem dL_holds_279 : decode cL_holds 279 = .ok (.iconst 1, 1) := by decide +kernel
theorem dL_holds_280 : decode cL_holds 280 = .ok (.goto 4, 3) := by decide +kernel
theorem dL_holds_283 : decode cL_holds 283 = .ok (.iconst 0, 1) := by decide +kernel
theorem dL_holds_284 : decode cL_holds 284 = .ok (.istore 5, 2) := by decide +kernel
theorem dL_holds_286 : decode cL_holds 286 = .ok (.iinc 10 1, 3) := by decide +kernel
theorem dL_holds_289 : decode cL_holds 289 = .ok (.goto (-253), 3) := by decide +kernel
theorem dL_holds_292 : decode cL_holds 292 = .ok (.aload_n 0, 1) := by decide +kernel
theorem dL_holds_293 : decode cL_holds 293 = .ok (.iload 6, 2) := by decide +kernel
theorem dL_holds_295 : decode cL_holds 295 = .ok (.invokevirtual 46, 3) := by decide +kernel
theorem dL_holds_298 : decode cL_holds 298 = .ok (.istore 10, 2) := by decide +kernel
theorem dL_holds_300 : decode cL_holds 300 = .ok (.iload_n 1, 1) := by decide +kernel
theorem dL_holds_301 : decode cL_holds 301 = .ok (.iload 7, 2) := by decide +kernel
theorem dL_holds_303 : decode cL_holds 303 = .ok (.iconst 3, 1) := by decide +kernel
theorem dL_holds_304 : decode cL_holds 304 = .ok (.iand, 1) := by decide +kernel
theorem dL_holds_305 : decode cL_holds 305 = .ok (.ifCond .ne 7, 3) := by decide +kernel
theorem dL_holds_308 : decode cL_holds 308 = .ok (.iconst 0, 1) := by decide +kernel
theorem dL_holds_309 : decode cL_holds 309 = .ok (.goto 4, 3) := by decide +kernel
theorem dL_holds_312 : decode cL_holds 312 = .ok (.iconst 1, 1) := by decide +kernel
theorem dL_holds_313 : decode cL_holds 313 = .ok (.iadd, 1) := by decide +kernel
theorem dL_holds_314 : decode cL_holds 314 = .ok (.istore_n 1, 1) := by decide +kernel
theorem dL_holds_315 : decode cL_holds 315 = .ok (.iload 4, 2) := by decide +kernel
theorem dL_holds_317 : decode cL_holds 317 = .ok (.iload 8, 2) := by decide +kernel
theorem dL_holds_319 : decode cL_holds 319 = .ok (.ifCond .eq 12, 3) := by decide +kernel
theorem dL_holds_322 : decode cL_holds 322 = .ok (.iload 9, 2) := by decide +kernel
theorem dL_holds_324 : decode cL_holds 324 = .ok (.ifCond .ne 7, 3) := by decide +kernel
theorem dL_holds_327 : decode cL_holds 327 = .ok (.iconst 1, 1) := by decide +kernel
theorem dL_holds_328 : decode cL_holds 328 = .ok (.goto 4, 3) := by decide +kernel
theorem dL_holds_331 : decode cL_holds 331 = .ok (.iconst 0, 1) := by decide +kernel
theorem dL_holds_332 : decode cL_holds 332 = .ok (.iadd, 1) := by decide +kernel
theorem dL_holds_333 : decode cL_holds 333 = .ok (.istore 4, 2) := by decide +kernel
theorem dL_holds_335 : decode cL_holds 335 = .ok (.iload 5, 2) := by decide +kernel
theorem dL_holds_337 : decode cL_holds 337 = .ok (.ifCond .eq 61, 3) := by decide +kernel
theorem dL_holds_340 : decode cL_holds 340 = .ok (.iload 7, 2) := by decide +kernel
theorem dL_holds_342 : decode cL_holds 342 = .ok (.bipush 12, 2) := by decide +kernel
theorem dL_holds_344 : decode cL_holds 344 = .ok (.iand, 1) := by decide +kernel
theorem dL_holds_345 : decode cL_holds 345 = .ok (.bipush 12, 2) := by decide +kernel
theorem dL_holds_347 : decode cL_holds 347 = .ok (.if_icmp .eq 51, 3) := by decide +kernel
theorem dL_holds_350 : decode cL_holds 350 = .ok (.iload 10, 2) := by decide +kernel
theorem dL_holds_352 : decode cL_holds 352 = .ok (.iconst 2, 1) := by decide +kernel
theorem dL_holds_353 : decode cL_holds 353 = .ok (.if_icmp .ne 11, 3) := by decide +kernel
theorem dL_holds_356 : decode cL_holds 356 = .ok (.iload 7, 2) := by decide +kernel
theorem dL_holds_358 : decode cL_holds 358 = .ok (.bipush 9, 2) := by decide +kernel
theorem dL_holds_360 : decode cL_holds 360 = .ok (.iand, 1) := by decide +kernel
theorem dL_holds_361 : decode cL_holds 361 = .ok (.ifCond .ne 37, 3) := by decide +kernel
theorem dL_holds_364 : decode cL_holds 364 = .ok (.iload 7, 2) := by decide +kernel
theorem dL_holds_366 : decode cL_holds 366 = .ok (.iconst 4, 1) := by decide +kernel
theorem dL_holds_367 : decode cL_holds 367 = .ok (.iand, 1) := by decide +kernel
theorem dL_holds_368 : decode cL_holds 368 = .ok (.ifCond .eq 9, 3) := by decide +kernel
theorem dL_holds_371 : decode cL_holds 371 = .ok (.iload 10, 2) := by decide +kernel
theorem dL_holds_373 : decode cL_holds 373 = .ok (.iconst 2, 1) := by decide +kernel
theorem dL_holds_374 : decode cL_holds 374 = .ok (.if_icmp .ne 24, 3) := by decide +kernel
theorem dL_holds_377 : decode cL_holds 377 = .ok (.iload 10, 2) := by decide +kernel
theorem dL_holds_379 : decode cL_holds 379 = .ok (.ifCond .eq 15, 3) := by decide +kernel
theorem dL_holds_382 : decode cL_holds 382 = .ok (.iload 10, 2) := by decide +kernel
theorem dL_holds_384 : decode cL_holds 384 = .ok (.iconst 2, 1) := by decide +kernel
theorem dL_holds_385 : decode cL_holds 385 = .ok (.if_icmp .eq 9, 3) := by decide +kernel
theorem dL_holds_388 : decode cL_holds 388 = .ok (.iload 10, 2) := by decide +kernel
theorem dL_holds_390 : decode cL_holds 390 = .ok (.iconst 3, 1) := by decide +kernel
theorem dL_holds_391 : decode cL_holds 391 = .ok (.if_icmp .ne 7, 3) := by decide +kernel
theorem dL_holds_394 : decode cL_holds 394 = .ok (.iconst 1, 1) := by decide +kernel
theorem dL_holds_395 : decode cL_holds 395 = .ok (.goto 4, 3) := by decide +kernel
theorem dL_holds_398 : decode cL_holds 398 = .ok (.iconst 0, 1) := by decide +kernel
theorem dL_holds_399 : decode cL_holds 399 = .ok (.istore 5, 2) := by decide +kernel
theorem dL_holds_401 : decode cL_holds 401 = .ok (.iinc 6 1, 3) := by decide +kernel
theorem dL_holds_404 : decode cL_holds 404 = .ok (.goto (-389), 3) := by decide +kernel
theorem dL_holds_407 : decode cL_holds 407 = .ok (.iconst 0, 1) := by decide +kernel
theorem dL_holds_408 : decode cL_holds 408 = .ok (.istore 6, 2) := by decide +kernel
theorem dL_holds_410 : decode cL_holds 410 = .ok (.iload 6, 2) := by decide +kernel
theorem dL_holds_412 : decode cL_holds 412 = .ok (.bipush 6, 2) := by decide +kernel
theorem dL_holds_414 : decode cL_holds 414 = .ok (.if_icmp .ge 115, 3) := by decide +kernel
theorem dL_holds_417 : decode cL_holds 417 = .ok (.iconst 0, 1) := by decide +kernel
theorem dL_holds_418 : decode cL_holds 418 = .ok (.istore 7, 2) := by decide +kernel
theorem dL_holds_420 : decode cL_holds 420 = .ok (.iconst 0, 1) := by decide +kernel
theorem dL_holds_421 : decode cL_holds 421 = .ok (.istore 8, 2) := by decide +kernel
theorem dL_holds_423 : decode cL_holds 423 = .ok (.iload 8, 2) := by decide +kernel
theorem dL_holds_425 : decode cL_holds 425 = .ok (.aload_n 0, 1) := by decide +kernel
theorem dL_holds_426 : decode cL_holds 426 = .ok (.invokevirtual 9, 3) := by decide +kernel
theorem dL_holds_429 : decode cL_holds 429 = .ok (.if_icmp .ge 31, 3) := by decide +kernel
theorem dL_holds_432 : decode cL_holds 432 = .ok (.iload 7, 2) := by decide +kernel
theorem dL_holds_434 : decode cL_holds 434 = .ok (.aload_n 0, 1) := by decide +kernel
theorem dL_holds_435 : decode cL_holds 435 = .ok (.iload 8, 2) := by decide +kernel
theorem dL_holds_437 : decode cL_holds 437 = .ok (.iload 6, 2) := by decide +kernel
theorem dL_holds_439 : decode cL_holds 439 = .ok (.invokevirtual 33, 3) := by decide +kernel
theorem dL_holds_442 : decode cL_holds 442 = .ok (.iconst 1, 1) := by decide +kernel
theorem dL_holds_443 : decode cL_holds 443 = .ok (.if_icmp .ne 7, 3) := by decide +kernel
theorem dL_holds_446 : decode cL_holds 446 = .ok (.iconst 1, 1) := by decide +kernel
theorem dL_holds_447 : decode cL_holds 447 = .ok (.goto 4, 3) := by decide +kernel
theorem dL_holds_450 : decode cL_holds 450 = .ok (.iconst 0, 1) := by decide +kernel
theorem dL_holds_451 : decode cL_holds 451 = .ok (.iadd, 1) := by decide +kernel
theorem dL_holds_452 : decode cL_holds 452 = .ok (.istore 7, 2) := by decide +kernel
theorem dL_holds_454 : decode cL_holds 454 = .ok (.iinc 8 1, 3) := by decide +kernel
theorem dL_holds_457 : decode cL_holds 457 = .ok (.goto (-34), 3) := by decide +kernel
theorem dL_holds_460 : decode cL_holds 460 = .ok (.iconst 0, 1) := by decide +kernel
theorem dL_holds_461 : decode cL_holds 461 = .ok (.istore 8, 2) := by decide +kernel
theorem dL_holds_463 : decode cL_holds 463 = .ok (.iconst 0, 1) := by decide +kernel
theorem dL_holds_464 : decode cL_holds 464 = .ok (.istore 9, 2) := by decide +kernel
theorem dL_holds_466 : decode cL_holds 466 = .ok (.iload 9, 2) := by decide +kernel
theorem dL_holds_468 : decode cL_holds 468 = .ok (.bipush 10, 2) := by decide +kernel
theorem dL_holds_470 : decode cL_holds 470 = .ok (.if_icmp .ge 25, 3) := by decide +kernel
theorem dL_holds_473 : decode cL_holds 473 = .ok (.iload 8, 2) := by decide +kernel
theorem dL_holds_475 : decode cL_holds 475 = .ok (.aload_n 0, 1) := by decide +kernel
theorem dL_holds_476 : decode cL_holds 476 = .ok (.iload 6, 2) := by decide +kernel
theorem dL_holds_478 : decode cL_holds 478 = .ok (.invokevirtual 70, 3) := by decide +kernel
theorem dL_holds_481 : decode cL_holds 481 = .ok (.iload 9, 2) := by decide +kernel
theorem dL_holds_483 : decode cL_holds 483 = .ok (.ishr, 1) := by decide +kernel
theorem dL_holds_484 : decode cL_holds 484 = .ok (.iconst 1, 1) := by decide +kernel
theorem dL_holds_485 : decode cL_holds 485 = .ok (.iand, 1) := by decide +kernel
theorem dL_holds_486 : decode cL_holds 486 = .ok (.iadd, 1) := by decide +kernel
theorem dL_holds_487 : decode cL_holds 487 = .ok (.istore 8, 2) := by decide +kernel
theorem dL_holds_489 : decode cL_holds 489 = .ok (.iinc 9 1, 3) := by decide +kernel
theorem dL_holds_492 : decode cL_holds 492 = .ok (.goto (-26), 3) := by decide +kernel
theorem dL_holds_495 : decode cL_holds 495 = .ok (.iload 5, 2) := by decide +kernel
theorem dL_holds_497 : decode cL_holds 497 = .ok (.ifCond .eq 23, 3) := by decide +kernel
theorem dL_holds_500 : decode cL_holds 500 = .ok (.iload 8, 2) := by decide +kernel
theorem dL_holds_502 : decode cL_holds 502 = .ok (.iload 7, 2) := by decide +kernel
theorem dL_holds_504 : decode cL_holds 504 = .ok (.if_icmp .ne 16, 3) := by decide +kernel
theorem dL_holds_507 : decode cL_holds 507 = .ok (.aload_n 0, 1) := by decide +kernel
theorem dL_holds_508 : decode cL_holds 508 = .ok (.iload 6, 2) := by decide +kernel
theorem dL_holds_510 : decode cL_holds 510 = .ok (.invokestatic 73, 3) := by decide +kernel
theorem dL_holds_513 : decode cL_holds 513 = .ok (.ifCond .eq 7, 3) := by decide +kernel
theorem dL_holds_516 : decode cL_holds 516 = .ok (.iconst 1, 1) := by decide +kernel
theorem dL_holds_517 : decode cL_holds 517 = .ok (.goto 4, 3) := by decide +kernel
theorem dL_holds_520 : decode cL_holds 520 = .ok (.iconst 0, 1) := by decide +kernel
theorem dL_holds_521 : decode cL_holds 521 = .ok (.istore 5, 2) := by decide +kernel
theorem dL_holds_523 : decode cL_holds 523 = .ok (.iinc 6 1, 3) := by decide +kernel
theorem dL_holds_526 : decode cL_holds 526 = .ok (.goto (-116), 3) := by decide +kernel
theorem dL_holds_529 : decode cL_holds 529 = .ok (.iload 5, 2) := by decide +kernel
theorem dL_holds_531 : decode cL_holds 531 = .ok (.ifCond .eq 51, 3) := by decide +kernel
theorem dL_holds_534 : decode cL_holds 534 = .ok (.aload_n 0, 1) := by decide +kernel
theorem dL_holds_535 : decode cL_holds 535 = .ok (.invokevirtual 77, 3) := by decide +kernel
theorem dL_holds_538 : decode cL_holds 538 = .ok (.iload_n 1, 1) := by decide +kernel
theorem dL_holds_539 : decode cL_holds 539 = .ok (.if_icmp .ne 43, 3) := by decide +kernel
theorem dL_holds_542 : decode cL_holds 542 = .ok (.aload_n 0, 1) := by decide +kernel
theorem dL_holds_543 : decode cL_holds 543 = .ok (.invokevirtual 80, 3) := by decide +kernel
theorem dL_holds_546 : decode cL_holds 546 = .ok (.iload 4, 2) := by decide +kernel
theorem dL_holds_548 : decode cL_holds 548 = .ok (.if_icmp .ne 34, 3) := by decide +kernel
theorem dL_holds_551 : decode cL_holds 551 = .ok (.iload 4, 2) := by decide +kernel
theorem dL_holds_553 : decode cL_holds 553 = .ok (.iload_n 1, 1) := by decide +kernel
theorem dL_holds_554 : decode cL_holds 554 = .ok (.if_icmp .gt 28, 3) := by decide +kernel
theorem dL_holds_557 : decode cL_holds 557 = .ok (.aload_n 0, 1) := by decide +kernel
theorem dL_holds_558 : decode cL_holds 558 = .ok (.invokevirtual 83, 3) := by decide +kernel
theorem dL_holds_561 : decode cL_holds 561 = .ok (.iload_n 2, 1) := by decide +kernel
theorem dL_holds_562 : decode cL_holds 562 = .ok (.ifCond .ne 7, 3) := by decide +kernel
theorem dL_holds_565 : decode cL_holds 565 = .ok (.dconst 0, 1) := by decide +kernel
theorem dL_holds_566 : decode cL_holds 566 = .ok (.goto 8, 3) := by decide +kernel
theorem dL_holds_569 : decode cL_holds 569 = .ok (.iload_n 3, 1) := by decide +kernel
theorem dL_holds_570 : decode cL_holds 570 = .ok (.i2d, 1) := by decide +kernel
theorem dL_holds_571 : decode cL_holds 571 = .ok (.iload_n 2, 1) := by decide +kernel
theorem dL_holds_572 : decode cL_holds 572 = .ok (.i2d, 1) := by decide +kernel
theorem dL_holds_573 : decode cL_holds 573 = .ok (.ddiv, 1) := by decide +kernel
theorem dL_holds_574 : decode cL_holds 574 = .ok (.dcmp .l, 1) := by decide +kernel
theorem dL_holds_575 : decode cL_holds 575 = .ok (.ifCond .ne 7, 3) := by decide +kernel
theorem dL_holds_578 : decode cL_holds 578 = .ok (.iconst 1, 1) := by decide +kernel
theorem dL_holds_579 : decode cL_holds 579 = .ok (.goto 4, 3) := by decide +kernel
theorem dL_holds_582 : decode cL_holds 582 = .ok (.iconst 0, 1) := by decide +kernel
theorem dL_holds_583 : decode cL_holds 583 = .ok (.ireturn, 1) := by decide +kernel
theorem dL_areEntries_0 : decode cL_areEntries 0 = .ok (.bipush 8, 2) := by decide +kernel
theorem dL_areEntries_2 : decode cL_areEntries 2 = .ok (.newarray .int, 2) := by decide +kernel
theorem dL_areEntries_4 : decode cL_areEntries 4 = .ok (.astore_n 2, 1) := by decide +kernel
theorem dL_areEntries_5 : decode cL_areEntries 5 = .ok (.aload_n 0, 1) := by decide +kernel
theorem dL_areEntries_6 : decode cL_areEntries 6 = .ok (.iload_n 1, 1) := by decide +kernel
theorem dL_areEntries_7 : decode cL_areEntries 7 = .ok (.invokevirtual 87, 3) := by decide +kernel
theorem dL_areEntries_10 : decode cL_areEntries 10 = .ok (.istore_n 3, 1) := by decide +kernel
theorem dL_areEntries_11 : decode cL_areEntries 11 = .ok (.aload_n 0, 1) := by decide +kernel
theorem dL_areEntries_12 : decode cL_areEntries 12 = .ok (.iload_n 1, 1) := by decide +kernel
theorem dL_areEntries_13 : decode cL_areEntries 13 = .ok (.iload_n 3, 1) := by decide +kernel
theorem dL_areEntries_14 : decode cL_areEntries 14 = .ok (.invokevirtual 90, 3) := by decide +kernel
theorem dL_areEntries_17 : decode cL_areEntries 17 = .ok (.iconst (-1), 1) := by decide +kernel
theorem dL_areEntries_18 : decode cL_areEntries 18 = .ok (.if_icmp .ne 7, 3) := by decide +kernel
theorem dL_areEntries_21 : decode cL_areEntries 21 = .ok (.iconst 1, 1) := by decide +kernel
theorem dL_areEntries_22 : decode cL_areEntries 22 = .ok (.goto 4, 3) := by decide +kernel
theorem dL_areEntries_25 : decode cL_areEntries 25 = .ok (.iconst 0, 1) := by decide +kernel
theorem dL_areEntries_26 : decode cL_areEntries 26 = .ok (.istore 4, 2) := by decide +kernel
theorem dL_areEntries_28 : decode cL_areEntries 28 = .ok (.iconst 0, 1) := by decide +kernel
theorem dL_areEntries_29 : decode cL_areEntries 29 = .ok (.istore 5, 2) := by decide +kernel
theorem dL_areEntries_31 : decode cL_areEntries 31 = .ok (.iload 5, 2) := by decide +kernel
theorem dL_areEntries_33 : decode cL_areEntries 33 = .ok (.iload_n 3, 1) := by decide +kernel
theorem dL_areEntries_34 : decode cL_areEntries 34 = .ok (.if_icmp .ge 97, 3) := by decide +kernel
theorem dL_areEntries_37 : decode cL_areEntries 37 = .ok (.iload 4, 2) := by decide +kernel
theorem dL_areEntries_39 : decode cL_areEntries 39 = .ok (.ifCond .eq 92, 3) := by decide +kernel
theorem dL_areEntries_42 : decode cL_areEntries 42 = .ok (.aload_n 0, 1) := by decide +kernel
theorem dL_areEntries_43 : decode cL_areEntries 43 = .ok (.iload_n 1, 1) := by decide +kernel
theorem dL_areEntries_44 : decode cL_areEntries 44 = .ok (.iload 5, 2) := by decide +kernel
theorem dL_areEntries_46 : decode cL_areEntries 46 = .ok (.invokevirtual 90, 3) := by decide +kernel
theorem dL_areEntries_49 : decode cL_areEntries 49 = .ok (.istore 6, 2) := by decide +kernel

theorem dL_cell_0 : decode cL_cell 0 = .ok (.iload_n 1, 1) := by decide +kernel
theorem dL_cell_1 : decode cL_cell 1 = .ok (.aload_n 0, 1) := by decide +kernel
theorem dL_cell_2 : decode cL_cell 2 = .ok (.arraylength, 1) := by decide +kernel
theorem dL_cell_3 : decode cL_cell 3 = .ok (.if_icmp .ge 9, 3) := by decide +kernel
theorem dL_cell_6 : decode cL_cell 6 = .ok (.aload_n 0, 1) := by decide +kernel
theorem dL_cell_7 : decode cL_cell 7 = .ok (.iload_n 1, 1) := by decide +kernel
theorem dL_cell_8 : decode cL_cell 8 = .ok (.iaload, 1) := by decide +kernel
theorem dL_cell_9 : decode cL_cell 9 = .ok (.goto 11, 3) := by decide +kernel
theorem dL_cell_12 : decode cL_cell 12 = .ok (.ldc 7, 2) := by decide +kernel
theorem dL_cell_14 : decode cL_cell 14 = .ok (.iload_n 1, 1) := by decide +kernel
theorem dL_cell_15 : decode cL_cell 15 = .ok (.sipush 281, 3) := by decide +kernel
theorem dL_cell_18 : decode cL_cell 18 = .ok (.iadd, 1) := by decide +kernel
theorem dL_cell_19 : decode cL_cell 19 = .ok (.imul, 1) := by decide +kernel
theorem dL_cell_20 : decode cL_cell 20 = .ok (.ireturn, 1) := by decide +kernel
theorem dL_up_0 : decode cL_up 0 = .ok (.iload_n 0, 1) := by decide +kernel
theorem dL_up_1 : decode cL_up 1 = .ok (.ldc 8, 2) := by decide +kernel
theorem dL_up_3 : decode cL_up 3 = .ok (.iand, 1) := by decide +kernel
theorem dL_up_4 : decode cL_up 4 = .ok (.iload_n 1, 1) := by decide +kernel
theorem dL_up_5 : decode cL_up 5 = .ok (.irem, 1) := by decide +kernel
theorem dL_up_6 : decode cL_up 6 = .ok (.ireturn, 1) := by decide +kernel
theorem dL_act_0 : decode cL_act 0 = .ok (.aload_n 0, 1) := by decide +kernel
theorem dL_act_1 : decode cL_act 1 = .ok (.invokevirtual 9, 3) := by decide +kernel
theorem dL_act_4 : decode cL_act 4 = .ok (.istore_n 3, 1) := by decide +kernel
theorem dL_act_5 : decode cL_act 5 = .ok (.iconst 3, 1) := by decide +kernel
theorem dL_act_6 : decode cL_act 6 = .ok (.iload_n 2, 1) := by decide +kernel
theorem dL_act_7 : decode cL_act 7 = .ok (.iconst 5, 1) := by decide +kernel
theorem dL_act_8 : decode cL_act 8 = .ok (.invokestatic 15, 3) := by decide +kernel
theorem dL_act_11 : decode cL_act 11 = .ok (.ishl, 1) := by decide +kernel
theorem dL_act_12 : decode cL_act 12 = .ok (.iload_n 2, 1) := by decide +kernel
theorem dL_act_13 : decode cL_act 13 = .ok (.iconst 3, 1) := by decide +kernel
theorem dL_act_14 : decode cL_act 14 = .ok (.ishr, 1) := by decide +kernel
theorem dL_act_15 : decode cL_act 15 = .ok (.bipush 64, 2) := by decide +kernel
theorem dL_act_17 : decode cL_act 17 = .ok (.invokestatic 15, 3) := by decide +kernel
theorem dL_act_20 : decode cL_act 20 = .ok (.ior, 1) := by decide +kernel
theorem dL_act_21 : decode cL_act 21 = .ok (.istore 4, 2) := by decide +kernel
theorem dL_act_23 : decode cL_act 23 = .ok (.iload_n 2, 1) := by decide +kernel
theorem dL_act_24 : decode cL_act 24 = .ok (.bipush 9, 2) := by decide +kernel
theorem dL_act_26 : decode cL_act 26 = .ok (.ishr, 1) := by decide +kernel
theorem dL_act_27 : decode cL_act 27 = .ok (.bipush 6, 2) := by decide +kernel
theorem dL_act_29 : decode cL_act 29 = .ok (.invokestatic 15, 3) := by decide +kernel
theorem dL_act_32 : decode cL_act 32 = .ok (.istore 5, 2) := by decide +kernel
theorem dL_act_34 : decode cL_act 34 = .ok (.iload_n 3, 1) := by decide +kernel
theorem dL_act_35 : decode cL_act 35 = .ok (.bipush 8, 2) := by decide +kernel
theorem dL_act_37 : decode cL_act 37 = .ok (.if_icmp .ge 16, 3) := by decide +kernel
theorem dL_act_40 : decode cL_act 40 = .ok (.aload_n 0, 1) := by decide +kernel
theorem dL_act_41 : decode cL_act 41 = .ok (.iload 5, 2) := by decide +kernel
theorem dL_act_43 : decode cL_act 43 = .ok (.invokevirtual 21, 3) := by decide +kernel
theorem dL_act_46 : decode cL_act 46 = .ok (.ifCond .eq 7, 3) := by decide +kernel
theorem dL_act_49 : decode cL_act 49 = .ok (.iconst 1, 1) := by decide +kernel
theorem dL_act_50 : decode cL_act 50 = .ok (.goto 4, 3) := by decide +kernel
theorem dL_act_53 : decode cL_act 53 = .ok (.iconst 0, 1) := by decide +kernel
theorem dL_act_54 : decode cL_act 54 = .ok (.istore 6, 2) := by decide +kernel
theorem dL_act_56 : decode cL_act 56 = .ok (.iconst 0, 1) := by decide +kernel
theorem dL_act_57 : decode cL_act 57 = .ok (.istore 7, 2) := by decide +kernel
theorem dL_act_59 : decode cL_act 59 = .ok (.iload 7, 2) := by decide +kernel
theorem dL_act_61 : decode cL_act 61 = .ok (.bipush 6, 2) := by decide +kernel
theorem dL_act_63 : decode cL_act 63 = .ok (.if_icmp .ge 40, 3) := by decide +kernel
theorem dL_act_66 : decode cL_act 66 = .ok (.iload 6, 2) := by decide +kernel
theorem dL_act_68 : decode cL_act 68 = .ok (.ifCond .eq 26, 3) := by decide +kernel
theorem dL_act_71 : decode cL_act 71 = .ok (.iload 4, 2) := by decide +kernel
theorem dL_act_73 : decode cL_act 73 = .ok (.iload 7, 2) := by decide +kernel
theorem dL_act_75 : decode cL_act 75 = .ok (.ishr, 1) := by decide +kernel
theorem dL_act_76 : decode cL_act 76 = .ok (.iconst 1, 1) := by decide +kernel
theorem dL_act_77 : decode cL_act 77 = .ok (.iand, 1) := by decide +kernel
theorem dL_act_78 : decode cL_act 78 = .ok (.ifCond .eq 12, 3) := by decide +kernel
theorem dL_act_81 : decode cL_act 81 = .ok (.aload_n 0, 1) := by decide +kernel
theorem dL_act_82 : decode cL_act 82 = .ok (.iload 7, 2) := by decide +kernel
theorem dL_act_84 : decode cL_act 84 = .ok (.invokevirtual 21, 3) := by decide +kernel
theorem dL_act_87 : decode cL_act 87 = .ok (.ifCond .eq 7, 3) := by decide +kernel
theorem dL_act_90 : decode cL_act 90 = .ok (.iconst 1, 1) := by decide +kernel
theorem dL_act_91 : decode cL_act 91 = .ok (.goto 4, 3) := by decide +kernel
theorem dL_act_94 : decode cL_act 94 = .ok (.iconst 0, 1) := by decide +kernel
theorem dL_act_95 : decode cL_act 95 = .ok (.istore 6, 2) := by decide +kernel
theorem dL_act_97 : decode cL_act 97 = .ok (.iinc 7 1, 3) := by decide +kernel
theorem dL_act_100 : decode cL_act 100 = .ok (.goto (-41), 3) := by decide +kernel
theorem dL_act_103 : decode cL_act 103 = .ok (.iload_n 1, 1) := by decide +kernel
theorem dL_act_104 : decode cL_act 104 = .ok (.bipush 20, 2) := by decide +kernel
theorem dL_act_106 : decode cL_act 106 = .ok (.invokestatic 15, 3) := by decide +kernel
theorem dL_act_109 : decode cL_act 109 = .ok (.istore 7, 2) := by decide +kernel
theorem dL_act_111 : decode cL_act 111 = .ok (.iload_n 3, 1) := by decide +kernel
theorem dL_act_112 : decode cL_act 112 = .ok (.ifCond .eq 9, 3) := by decide +kernel
theorem dL_act_115 : decode cL_act 115 = .ok (.iload 7, 2) := by decide +kernel
theorem dL_act_117 : decode cL_act 117 = .ok (.iconst 2, 1) := by decide +kernel
theorem dL_act_118 : decode cL_act 118 = .ok (.if_icmp .ge 43, 3) := by decide +kernel
theorem dL_act_121 : decode cL_act 121 = .ok (.iload 6, 2) := by decide +kernel
theorem dL_act_123 : decode cL_act 123 = .ok (.ifCond .eq 25, 3) := by decide +kernel
theorem dL_act_126 : decode cL_act 126 = .ok (.aload_n 0, 1) := by decide +kernel
theorem dL_act_127 : decode cL_act 127 = .ok (.iload 5, 2) := by decide +kernel
theorem dL_act_129 : decode cL_act 129 = .ok (.iload 4, 2) := by decide +kernel
theorem dL_act_131 : decode cL_act 131 = .ok (.bipush 63, 2) := by decide +kernel
theorem dL_act_133 : decode cL_act 133 = .ok (.iand, 1) := by decide +kernel
theorem dL_act_134 : decode cL_act 134 = .ok (.iload_n 2, 1) := by decide +kernel
theorem dL_act_135 : decode cL_act 135 = .ok (.bipush 12, 2) := by decide +kernel
theorem dL_act_137 : decode cL_act 137 = .ok (.ishr, 1) := by decide +kernel
theorem dL_act_138 : decode cL_act 138 = .ok (.iconst 3, 1) := by decide +kernel
theorem dL_act_139 : decode cL_act 139 = .ok (.invokestatic 15, 3) := by decide +kernel
theorem dL_act_142 : decode cL_act 142 = .ok (.invokevirtual 25, 3) := by decide +kernel
theorem dL_act_145 : decode cL_act 145 = .ok (.goto 15, 3) := by decide +kernel
theorem dL_act_148 : decode cL_act 148 = .ok (.aload_n 0, 1) := by decide +kernel
theorem dL_act_149 : decode cL_act 149 = .ok (.iconst 1, 1) := by decide +kernel
theorem dL_act_150 : decode cL_act 150 = .ok (.iload_n 2, 1) := by decide +kernel
theorem dL_act_151 : decode cL_act 151 = .ok (.bipush 20, 2) := by decide +kernel
theorem dL_act_153 : decode cL_act 153 = .ok (.invokestatic 15, 3) := by decide +kernel
theorem dL_act_156 : decode cL_act 156 = .ok (.iadd, 1) := by decide +kernel
theorem dL_act_157 : decode cL_act 157 = .ok (.invokevirtual 29, 3) := by decide +kernel
theorem dL_act_160 : decode cL_act 160 = .ok (.ireturn, 1) := by decide +kernel
theorem dL_act_161 : decode cL_act 161 = .ok (.iload_n 2, 1) := by decide +kernel
theorem dL_act_162 : decode cL_act 162 = .ok (.iload_n 3, 1) := by decide +kernel
theorem dL_act_163 : decode cL_act 163 = .ok (.invokestatic 15, 3) := by decide +kernel
theorem dL_act_166 : decode cL_act 166 = .ok (.istore 8, 2) := by decide +kernel
theorem dL_act_168 : decode cL_act 168 = .ok (.iload_n 2, 1) := by decide +kernel
theorem dL_act_169 : decode cL_act 169 = .ok (.iconst 3, 1) := by decide +kernel
theorem dL_act_170 : decode cL_act 170 = .ok (.ishr, 1) := by decide +kernel
theorem dL_act_171 : decode cL_act 171 = .ok (.bipush 6, 2) := by decide +kernel
theorem dL_act_173 : decode cL_act 173 = .ok (.invokestatic 15, 3) := by decide +kernel
theorem dL_act_176 : decode cL_act 176 = .ok (.istore 9, 2) := by decide +kernel
theorem dL_act_178 : decode cL_act 178 = .ok (.iload 9, 2) := by decide +kernel
theorem dL_act_180 : decode cL_act 180 = .ok (.iconst 1, 1) := by decide +kernel
theorem dL_act_181 : decode cL_act 181 = .ok (.iadd, 1) := by decide +kernel
theorem dL_act_182 : decode cL_act 182 = .ok (.iload_n 2, 1) := by decide +kernel
theorem dL_act_183 : decode cL_act 183 = .ok (.bipush 6, 2) := by decide +kernel
theorem dL_act_185 : decode cL_act 185 = .ok (.ishr, 1) := by decide +kernel
theorem dL_act_186 : decode cL_act 186 = .ok (.iconst 5, 1) := by decide +kernel
theorem dL_act_187 : decode cL_act 187 = .ok (.invokestatic 15, 3) := by decide +kernel
theorem dL_act_190 : decode cL_act 190 = .ok (.iadd, 1) := by decide +kernel
theorem dL_act_191 : decode cL_act 191 = .ok (.bipush 6, 2) := by decide +kernel
theorem dL_act_193 : decode cL_act 193 = .ok (.irem, 1) := by decide +kernel
theorem dL_act_194 : decode cL_act 194 = .ok (.istore 10, 2) := by decide +kernel
theorem dL_act_196 : decode cL_act 196 = .ok (.iload 7, 2) := by decide +kernel
theorem dL_act_198 : decode cL_act 198 = .ok (.bipush 9, 2) := by decide +kernel
theorem dL_act_200 : decode cL_act 200 = .ok (.if_icmp .ge 67, 3) := by decide +kernel
theorem dL_act_203 : decode cL_act 203 = .ok (.aload_n 0, 1) := by decide +kernel
theorem dL_act_204 : decode cL_act 204 = .ok (.iload 9, 2) := by decide +kernel
theorem dL_act_206 : decode cL_act 206 = .ok (.invokevirtual 21, 3) := by decide +kernel
theorem dL_act_209 : decode cL_act 209 = .ok (.ifCond .eq 18, 3) := by decide +kernel
theorem dL_act_212 : decode cL_act 212 = .ok (.aload_n 0, 1) := by decide +kernel
theorem dL_act_213 : decode cL_act 213 = .ok (.iload 8, 2) := by decide +kernel
theorem dL_act_215 : decode cL_act 215 = .ok (.iload 9, 2) := by decide +kernel
theorem dL_act_217 : decode cL_act 217 = .ok (.invokevirtual 33, 3) := by decide +kernel
theorem dL_act_220 : decode cL_act 220 = .ok (.ifCond .ne 7, 3) := by decide +kernel
theorem dL_act_223 : decode cL_act 223 = .ok (.iconst 1, 1) := by decide +kernel
theorem dL_act_224 : decode cL_act 224 = .ok (.goto 4, 3) := by decide +kernel
theorem dL_act_227 : decode cL_act 227 = .ok (.iconst 0, 1) := by decide +kernel
theorem dL_act_228 : decode cL_act 228 = .ok (.istore 11, 2) := by decide +kernel
theorem dL_act_230 : decode cL_act 230 = .ok (.iload 11, 2) := by decide +kernel
theorem dL_act_232 : decode cL_act 232 = .ok (.ifCond .eq 29, 3) := by decide +kernel
theorem dL_act_235 : decode cL_act 235 = .ok (.aload_n 0, 1) := by decide +kernel
theorem dL_act_236 : decode cL_act 236 = .ok (.iload 8, 2) := by decide +kernel
theorem dL_act_238 : decode cL_act 238 = .ok (.iload 9, 2) := by decide +kernel
theorem dL_act_240 : decode cL_act 240 = .ok (.iload_n 2, 1) := by decide +kernel
theorem dL_act_241 : decode cL_act 241 = .ok (.bipush 9, 2) := by decide +kernel
theorem dL_act_243 : decode cL_act 243 = .ok (.ishr, 1) := by decide +kernel
theorem dL_act_244 : decode cL_act 244 = .ok (.bipush 7, 2) := by decide +kernel
theorem dL_act_246 : decode cL_act 246 = .ok (.iand, 1) := by decide +kernel
theorem dL_act_247 : decode cL_act 247 = .ok (.ifCond .le 7, 3) := by decide +kernel
theorem dL_act_250 : decode cL_act 250 = .ok (.iconst 1, 1) := by decide +kernel
theorem dL_act_251 : decode cL_act 251 = .ok (.goto 4, 3) := by decide +kernel
theorem dL_act_254 : decode cL_act 254 = .ok (.iconst 0, 1) := by decide +kernel
theorem dL_act_255 : decode cL_act 255 = .ok (.invokevirtual 36, 3) := by decide +kernel
theorem dL_act_258 : decode cL_act 258 = .ok (.goto 8, 3) := by decide +kernel
theorem dL_act_261 : decode cL_act 261 = .ok (.aload_n 0, 1) := by decide +kernel
theorem dL_act_262 : decode cL_act 262 = .ok (.iconst 1, 1) := by decide +kernel
theorem dL_act_263 : decode cL_act 263 = .ok (.invokevirtual 40, 3) := by decide +kernel
theorem dL_act_266 : decode cL_act 266 = .ok (.ireturn, 1) := by decide +kernel
theorem dL_act_267 : decode cL_act 267 = .ok (.iload 7, 2) := by decide +kernel
theorem dL_act_269 : decode cL_act 269 = .ok (.bipush 11, 2) := by decide +kernel
theorem dL_act_271 : decode cL_act 271 = .ok (.if_icmp .ge 47, 3) := by decide +kernel
theorem dL_act_274 : decode cL_act 274 = .ok (.aload_n 0, 1) := by decide +kernel
theorem dL_act_275 : decode cL_act 275 = .ok (.aload_n 0, 1) := by decide +kernel
theorem dL_act_276 : decode cL_act 276 = .ok (.iload 8, 2) := by decide +kernel
theorem dL_act_278 : decode cL_act 278 = .ok (.invokevirtual 43, 3) := by decide +kernel
theorem dL_act_281 : decode cL_act 281 = .ok (.invokevirtual 21, 3) := by decide +kernel
theorem dL_act_284 : decode cL_act 284 = .ok (.ifCond .eq 21, 3) := by decide +kernel
theorem dL_act_287 : decode cL_act 287 = .ok (.aload_n 0, 1) := by decide +kernel
theorem dL_act_288 : decode cL_act 288 = .ok (.iload 8, 2) := by decide +kernel
theorem dL_act_290 : decode cL_act 290 = .ok (.invokevirtual 46, 3) := by decide +kernel
theorem dL_act_293 : decode cL_act 293 = .ok (.ifCond .ne 12, 3) := by decide +kernel
theorem dL_act_296 : decode cL_act 296 = .ok (.aload_n 0, 1) := by decide +kernel
theorem dL_act_297 : decode cL_act 297 = .ok (.iload 8, 2) := by decide +kernel
theorem dL_act_299 : decode cL_act 299 = .ok (.invokevirtual 49, 3) := by decide +kernel
theorem dL_act_302 : decode cL_act 302 = .ok (.goto 15, 3) := by decide +kernel
theorem dL_act_305 : decode cL_act 305 = .ok (.aload_n 0, 1) := by decide +kernel
theorem dL_act_306 : decode cL_act 306 = .ok (.iconst 1, 1) := by decide +kernel
theorem dL_act_307 : decode cL_act 307 = .ok (.iload_n 2, 1) := by decide +kernel
theorem dL_act_308 : decode cL_act 308 = .ok (.bipush 20, 2) := by decide +kernel
theorem dL_act_310 : decode cL_act 310 = .ok (.invokestatic 15, 3) := by decide +kernel
theorem dL_act_313 : decode cL_act 313 = .ok (.iadd, 1) := by decide +kernel
theorem dL_act_314 : decode cL_act 314 = .ok (.invokevirtual 29, 3) := by decide +kernel
theorem dL_act_317 : decode cL_act 317 = .ok (.ireturn, 1) := by decide +kernel
theorem dL_act_318 : decode cL_act 318 = .ok (.iload 7, 2) := by decide +kernel
theorem dL_act_320 : decode cL_act 320 = .ok (.bipush 14, 2) := by decide +kernel
theorem dL_act_322 : decode cL_act 322 = .ok (.if_icmp .ge 74, 3) := by decide +kernel
theorem dL_act_325 : decode cL_act 325 = .ok (.aload_n 0, 1) := by decide +kernel
theorem dL_act_326 : decode cL_act 326 = .ok (.iload 8, 2) := by decide +kernel
theorem dL_act_328 : decode cL_act 328 = .ok (.iload 9, 2) := by decide +kernel
theorem dL_act_330 : decode cL_act 330 = .ok (.invokevirtual 33, 3) := by decide +kernel
theorem dL_act_333 : decode cL_act 333 = .ok (.ifCond .lt 38, 3) := by decide +kernel
theorem dL_act_336 : decode cL_act 336 = .ok (.aload_n 0, 1) := by decide +kernel
theorem dL_act_337 : decode cL_act 337 = .ok (.iload 9, 2) := by decide +kernel
theorem dL_act_339 : decode cL_act 339 = .ok (.invokevirtual 21, 3) := by decide +kernel
theorem dL_act_342 : decode cL_act 342 = .ok (.ifCond .eq 29, 3) := by decide +kernel
theorem dL_act_345 : decode cL_act 345 = .ok (.aload_n 0, 1) := by decide +kernel
theorem dL_act_346 : decode cL_act 346 = .ok (.aload_n 0, 1) := by decide +kernel
theorem dL_act_347 : decode cL_act 347 = .ok (.iload 8, 2) := by decide +kernel
theorem dL_act_349 : decode cL_act 349 = .ok (.invokevirtual 43, 3) := by decide +kernel
theorem dL_act_352 : decode cL_act 352 = .ok (.invokevirtual 21, 3) := by decide +kernel
theorem dL_act_355 : decode cL_act 355 = .ok (.ifCond .eq 16, 3) := by decide +kernel
theorem dL_act_358 : decode cL_act 358 = .ok (.aload_n 0, 1) := by decide +kernel
theorem dL_act_359 : decode cL_act 359 = .ok (.iload 8, 2) := by decide +kernel
theorem dL_act_361 : decode cL_act 361 = .ok (.invokevirtual 46, 3) := by decide +kernel
theorem dL_act_364 : decode cL_act 364 = .ok (.ifCond .le 7, 3) := by decide +kernel
theorem dL_act_367 : decode cL_act 367 = .ok (.iconst 1, 1) := by decide +kernel
theorem dL_act_368 : decode cL_act 368 = .ok (.goto 4, 3) := by decide +kernel
theorem dL_act_371 : decode cL_act 371 = .ok (.iconst 0, 1) := by decide +kernel
theorem dL_act_372 : decode cL_act 372 = .ok (.istore 11, 2) := by decide +kernel
theorem dL_act_374 : decode cL_act 374 = .ok (.iload 11, 2) := by decide +kernel
theorem dL_act_376 : decode cL_act 376 = .ok (.ifCond .eq 14, 3) := by decide +kernel
theorem dL_act_379 : decode cL_act 379 = .ok (.aload_n 0, 1) := by decide +kernel
theorem dL_act_380 : decode cL_act 380 = .ok (.iload 8, 2) := by decide +kernel
theorem dL_act_382 : decode cL_act 382 = .ok (.iload 9, 2) := by decide +kernel
theorem dL_act_384 : decode cL_act 384 = .ok (.invokevirtual 52, 3) := by decide +kernel
theorem dL_act_387 : decode cL_act 387 = .ok (.goto 8, 3) := by decide +kernel
theorem dL_act_390 : decode cL_act 390 = .ok (.aload_n 0, 1) := by decide +kernel
theorem dL_act_391 : decode cL_act 391 = .ok (.iconst 1, 1) := by decide +kernel
theorem dL_act_392 : decode cL_act 392 = .ok (.invokevirtual 40, 3) := by decide +kernel
theorem dL_act_395 : decode cL_act 395 = .ok (.ireturn, 1) := by decide +kernel
theorem dL_act_396 : decode cL_act 396 = .ok (.iload 7, 2) := by decide +kernel
theorem dL_act_398 : decode cL_act 398 = .ok (.bipush 16, 2) := by decide +kernel
theorem dL_act_400 : decode cL_act 400 = .ok (.if_icmp .ge 52, 3) := by decide +kernel
theorem dL_act_403 : decode cL_act 403 = .ok (.aload_n 0, 1) := by decide +kernel
theorem dL_act_404 : decode cL_act 404 = .ok (.iload 8, 2) := by decide +kernel
theorem dL_act_406 : decode cL_act 406 = .ok (.iload 9, 2) := by decide +kernel
theorem dL_act_408 : decode cL_act 408 = .ok (.invokevirtual 33, 3) := by decide +kernel
theorem dL_act_411 : decode cL_act 411 = .ok (.iconst 1, 1) := by decide +kernel
theorem dL_act_412 : decode cL_act 412 = .ok (.if_icmp .ne 34, 3) := by decide +kernel
theorem dL_act_415 : decode cL_act 415 = .ok (.aload_n 0, 1) := by decide +kernel
theorem dL_act_416 : decode cL_act 416 = .ok (.iload 9, 2) := by decide +kernel
theorem dL_act_418 : decode cL_act 418 = .ok (.invokevirtual 21, 3) := by decide +kernel
theorem dL_act_421 : decode cL_act 421 = .ok (.ifCond .eq 25, 3) := by decide +kernel
theorem dL_act_424 : decode cL_act 424 = .ok (.aload_n 0, 1) := by decide +kernel
theorem dL_act_425 : decode cL_act 425 = .ok (.iload 10, 2) := by decide +kernel
theorem dL_act_427 : decode cL_act 427 = .ok (.invokevirtual 21, 3) := by decide +kernel
theorem dL_act_430 : decode cL_act 430 = .ok (.ifCond .eq 16, 3) := by decide +kernel
theorem dL_act_433 : decode cL_act 433 = .ok (.aload_n 0, 1) := by decide +kernel
theorem dL_act_434 : decode cL_act 434 = .ok (.iload 8, 2) := by decide +kernel
theorem dL_act_436 : decode cL_act 436 = .ok (.iload 9, 2) := by decide +kernel
theorem dL_act_438 : decode cL_act 438 = .ok (.iload 10, 2) := by decide +kernel
theorem dL_act_440 : decode cL_act 440 = .ok (.invokevirtual 55, 3) := by decide +kernel
theorem dL_act_443 : decode cL_act 443 = .ok (.goto 8, 3) := by decide +kernel
theorem dL_act_446 : decode cL_act 446 = .ok (.aload_n 0, 1) := by decide +kernel
theorem dL_act_447 : decode cL_act 447 = .ok (.iconst 2, 1) := by decide +kernel
theorem dL_act_448 : decode cL_act 448 = .ok (.invokevirtual 40, 3) := by decide +kernel
theorem dL_act_451 : decode cL_act 451 = .ok (.ireturn, 1) := by decide +kernel
theorem dL_act_452 : decode cL_act 452 = .ok (.iload 7, 2) := by decide +kernel
theorem dL_act_454 : decode cL_act 454 = .ok (.bipush 18, 2) := by decide +kernel
theorem dL_act_456 : decode cL_act 456 = .ok (.if_icmp .ge 30, 3) := by decide +kernel
theorem dL_act_459 : decode cL_act 459 = .ok (.aload_n 0, 1) := by decide +kernel
theorem dL_act_460 : decode cL_act 460 = .ok (.iload 9, 2) := by decide +kernel
theorem dL_act_462 : decode cL_act 462 = .ok (.invokevirtual 21, 3) := by decide +kernel
theorem dL_act_465 : decode cL_act 465 = .ok (.ifCond .eq 12, 3) := by decide +kernel
theorem dL_act_468 : decode cL_act 468 = .ok (.aload_n 0, 1) := by decide +kernel
theorem dL_act_469 : decode cL_act 469 = .ok (.iload 9, 2) := by decide +kernel
theorem dL_act_471 : decode cL_act 471 = .ok (.invokevirtual 58, 3) := by decide +kernel
theorem dL_act_474 : decode cL_act 474 = .ok (.goto 24, 3) := by decide +kernel
theorem dL_act_477 : decode cL_act 477 = .ok (.aload_n 0, 1) := by decide +kernel
theorem dL_act_478 : decode cL_act 478 = .ok (.iload 9, 2) := by decide +kernel
theorem dL_act_480 : decode cL_act 480 = .ok (.invokevirtual 61, 3) := by decide +kernel
theorem dL_act_483 : decode cL_act 483 = .ok (.goto 15, 3) := by decide +kernel
theorem dL_act_486 : decode cL_act 486 = .ok (.aload_n 0, 1) := by decide +kernel
theorem dL_act_487 : decode cL_act 487 = .ok (.iconst 1, 1) := by decide +kernel
theorem dL_act_488 : decode cL_act 488 = .ok (.iload_n 2, 1) := by decide +kernel
theorem dL_act_489 : decode cL_act 489 = .ok (.bipush 20, 2) := by decide +kernel
theorem dL_act_491 : decode cL_act 491 = .ok (.invokestatic 15, 3) := by decide +kernel
theorem dL_act_494 : decode cL_act 494 = .ok (.iadd, 1) := by decide +kernel
theorem dL_act_495 : decode cL_act 495 = .ok (.invokevirtual 40, 3) := by decide +kernel
theorem dL_act_498 : decode cL_act 498 = .ok (.ireturn, 1) := by decide +kernel
theorem dL_areKept_0 : decode cL_areKept 0 = .ok (.iconst 1, 1) := by decide +kernel
theorem dL_areKept_1 : decode cL_areKept 1 = .ok (.istore_n 3, 1) := by decide +kernel
theorem dL_areKept_2 : decode cL_areKept 2 = .ok (.iconst 0, 1) := by decide +kernel
theorem dL_areKept_3 : decode cL_areKept 3 = .ok (.istore 4, 2) := by decide +kernel
theorem dL_areKept_5 : decode cL_areKept 5 = .ok (.iload 4, 2) := by decide +kernel
theorem dL_areKept_7 : decode cL_areKept 7 = .ok (.bipush 6, 2) := by decide +kernel
theorem dL_areKept_9 : decode cL_areKept 9 = .ok (.aload_n 0, 1) := by decide +kernel
theorem dL_areKept_10 : decode cL_areKept 10 = .ok (.invokevirtual 9, 3) := by decide +kernel
theorem dL_areKept_13 : decode cL_areKept 13 = .ok (.imul, 1) := by decide +kernel
theorem dL_areKept_14 : decode cL_areKept 14 = .ok (.if_icmp .ge 58, 3) := by decide +kernel
theorem dL_areKept_17 : decode cL_areKept 17 = .ok (.aload_n 0, 1) := by decide +kernel
theorem dL_areKept_18 : decode cL_areKept 18 = .ok (.iload 4, 2) := by decide +kernel
theorem dL_areKept_20 : decode cL_areKept 20 = .ok (.bipush 6, 2) := by decide +kernel
theorem dL_areKept_22 : decode cL_areKept 22 = .ok (.idiv, 1) := by decide +kernel
theorem dL_areKept_23 : decode cL_areKept 23 = .ok (.iload 4, 2) := by decide +kernel
theorem dL_areKept_25 : decode cL_areKept 25 = .ok (.bipush 6, 2) := by decide +kernel
theorem dL_areKept_27 : decode cL_areKept 27 = .ok (.irem, 1) := by decide +kernel
theorem dL_areKept_28 : decode cL_areKept 28 = .ok (.invokevirtual 33, 3) := by decide +kernel
theorem dL_areKept_31 : decode cL_areKept 31 = .ok (.istore 5, 2) := by decide +kernel
theorem dL_areKept_33 : decode cL_areKept 33 = .ok (.iload_n 3, 1) := by decide +kernel
theorem dL_areKept_34 : decode cL_areKept 34 = .ok (.ifCond .eq 24, 3) := by decide +kernel
theorem dL_areKept_37 : decode cL_areKept 37 = .ok (.aload_n 1, 1) := by decide +kernel
theorem dL_areKept_38 : decode cL_areKept 38 = .ok (.iload 4, 2) := by decide +kernel
theorem dL_areKept_40 : decode cL_areKept 40 = .ok (.iaload, 1) := by decide +kernel
theorem dL_areKept_41 : decode cL_areKept 41 = .ok (.iconst 2, 1) := by decide +kernel
theorem dL_areKept_42 : decode cL_areKept 42 = .ok (.if_icmp .lt 12, 3) := by decide +kernel
theorem dL_areKept_45 : decode cL_areKept 45 = .ok (.iload 5, 2) := by decide +kernel
theorem dL_areKept_47 : decode cL_areKept 47 = .ok (.aload_n 1, 1) := by decide +kernel
theorem dL_areKept_48 : decode cL_areKept 48 = .ok (.iload 4, 2) := by decide +kernel
theorem dL_areKept_50 : decode cL_areKept 50 = .ok (.iaload, 1) := by decide +kernel
theorem dL_areKept_51 : decode cL_areKept 51 = .ok (.if_icmp .ne 7, 3) := by decide +kernel
theorem dL_areKept_54 : decode cL_areKept 54 = .ok (.iconst 1, 1) := by decide +kernel
theorem dL_areKept_55 : decode cL_areKept 55 = .ok (.goto 4, 3) := by decide +kernel
theorem dL_areKept_58 : decode cL_areKept 58 = .ok (.iconst 0, 1) := by decide +kernel
theorem dL_areKept_59 : decode cL_areKept 59 = .ok (.istore_n 3, 1) := by decide +kernel
theorem dL_areKept_60 : decode cL_areKept 60 = .ok (.aload_n 1, 1) := by decide +kernel
theorem dL_areKept_61 : decode cL_areKept 61 = .ok (.iload 4, 2) := by decide +kernel
theorem dL_areKept_63 : decode cL_areKept 63 = .ok (.iload 5, 2) := by decide +kernel
theorem dL_areKept_65 : decode cL_areKept 65 = .ok (.iastore, 1) := by decide +kernel
theorem dL_areKept_66 : decode cL_areKept 66 = .ok (.iinc 4 1, 3) := by decide +kernel
theorem dL_areKept_69 : decode cL_areKept 69 = .ok (.goto (-64), 3) := by decide +kernel
theorem dL_areKept_72 : decode cL_areKept 72 = .ok (.iconst 0, 1) := by decide +kernel
theorem dL_areKept_73 : decode cL_areKept 73 = .ok (.istore 4, 2) := by decide +kernel
theorem dL_areKept_75 : decode cL_areKept 75 = .ok (.iload 4, 2) := by decide +kernel
theorem dL_areKept_77 : decode cL_areKept 77 = .ok (.aload_n 0, 1) := by decide +kernel
theorem dL_areKept_78 : decode cL_areKept 78 = .ok (.invokevirtual 9, 3) := by decide +kernel
theorem dL_areKept_81 : decode cL_areKept 81 = .ok (.if_icmp .ge 49, 3) := by decide +kernel
theorem dL_areKept_84 : decode cL_areKept 84 = .ok (.iload_n 3, 1) := by decide +kernel
theorem dL_areKept_85 : decode cL_areKept 85 = .ok (.ifCond .eq 27, 3) := by decide +kernel
theorem dL_areKept_88 : decode cL_areKept 88 = .ok (.aload_n 2, 1) := by decide +kernel
theorem dL_areKept_89 : decode cL_areKept 89 = .ok (.iload 4, 2) := by decide +kernel
theorem dL_areKept_91 : decode cL_areKept 91 = .ok (.iaload, 1) := by decide +kernel
theorem dL_areKept_92 : decode cL_areKept 92 = .ok (.ifCond .eq 16, 3) := by decide +kernel
theorem dL_areKept_95 : decode cL_areKept 95 = .ok (.aload_n 0, 1) := by decide +kernel
theorem dL_areKept_96 : decode cL_areKept 96 = .ok (.iload 4, 2) := by decide +kernel
theorem dL_areKept_98 : decode cL_areKept 98 = .ok (.invokevirtual 46, 3) := by decide +kernel
theorem dL_areKept_101 : decode cL_areKept 101 = .ok (.aload_n 2, 1) := by decide +kernel
theorem dL_areKept_102 : decode cL_areKept 102 = .ok (.iload 4, 2) := by decide +kernel
theorem dL_areKept_104 : decode cL_areKept 104 = .ok (.iaload, 1) := by decide +kernel
theorem dL_areKept_105 : decode cL_areKept 105 = .ok (.if_icmp .ne 7, 3) := by decide +kernel
theorem dL_areKept_108 : decode cL_areKept 108 = .ok (.iconst 1, 1) := by decide +kernel
theorem dL_areKept_109 : decode cL_areKept 109 = .ok (.goto 4, 3) := by decide +kernel
theorem dL_areKept_112 : decode cL_areKept 112 = .ok (.iconst 0, 1) := by decide +kernel
theorem dL_areKept_113 : decode cL_areKept 113 = .ok (.istore_n 3, 1) := by decide +kernel
theorem dL_areKept_114 : decode cL_areKept 114 = .ok (.aload_n 2, 1) := by decide +kernel

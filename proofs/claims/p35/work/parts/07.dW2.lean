theorem dL_areEntries_51 : decode cL_areEntries 51 = .ok (.iload 6, 2) := by decide +kernel
theorem dL_areEntries_53 : decode cL_areEntries 53 = .ok (.bipush 10, 2) := by decide +kernel
theorem dL_areEntries_55 : decode cL_areEntries 55 = .ok (.idiv, 1) := by decide +kernel
theorem dL_areEntries_56 : decode cL_areEntries 56 = .ok (.istore 7, 2) := by decide +kernel
theorem dL_areEntries_58 : decode cL_areEntries 58 = .ok (.iload 6, 2) := by decide +kernel
theorem dL_areEntries_60 : decode cL_areEntries 60 = .ok (.bipush 10, 2) := by decide +kernel
theorem dL_areEntries_62 : decode cL_areEntries 62 = .ok (.irem, 1) := by decide +kernel
theorem dL_areEntries_63 : decode cL_areEntries 63 = .ok (.istore 8, 2) := by decide +kernel
theorem dL_areEntries_65 : decode cL_areEntries 65 = .ok (.iload 7, 2) := by decide +kernel
theorem dL_areEntries_67 : decode cL_areEntries 67 = .ok (.aload_n 0, 1) := by decide +kernel
theorem dL_areEntries_68 : decode cL_areEntries 68 = .ok (.invokevirtual 9, 3) := by decide +kernel
theorem dL_areEntries_71 : decode cL_areEntries 71 = .ok (.if_icmp .ge 37, 3) := by decide +kernel
theorem dL_areEntries_74 : decode cL_areEntries 74 = .ok (.iload 8, 2) := by decide +kernel
theorem dL_areEntries_76 : decode cL_areEntries 76 = .ok (.ifCond .le 32, 3) := by decide +kernel
theorem dL_areEntries_79 : decode cL_areEntries 79 = .ok (.iload 8, 2) := by decide +kernel
theorem dL_areEntries_81 : decode cL_areEntries 81 = .ok (.bipush 7, 2) := by decide +kernel
theorem dL_areEntries_83 : decode cL_areEntries 83 = .ok (.if_icmp .ge 25, 3) := by decide +kernel
theorem dL_areEntries_86 : decode cL_areEntries 86 = .ok (.iload 8, 2) := by decide +kernel
theorem dL_areEntries_88 : decode cL_areEntries 88 = .ok (.iconst 4, 1) := by decide +kernel
theorem dL_areEntries_89 : decode cL_areEntries 89 = .ok (.if_icmp .eq 19, 3) := by decide +kernel
theorem dL_areEntries_92 : decode cL_areEntries 92 = .ok (.aload_n 2, 1) := by decide +kernel
theorem dL_areEntries_93 : decode cL_areEntries 93 = .ok (.iload 7, 2) := by decide +kernel
theorem dL_areEntries_95 : decode cL_areEntries 95 = .ok (.iaload, 1) := by decide +kernel
theorem dL_areEntries_96 : decode cL_areEntries 96 = .ok (.iload 8, 2) := by decide +kernel
theorem dL_areEntries_98 : decode cL_areEntries 98 = .ok (.ishr, 1) := by decide +kernel
theorem dL_areEntries_99 : decode cL_areEntries 99 = .ok (.iconst 1, 1) := by decide +kernel
theorem dL_areEntries_100 : decode cL_areEntries 100 = .ok (.iand, 1) := by decide +kernel
theorem dL_areEntries_101 : decode cL_areEntries 101 = .ok (.ifCond .ne 7, 3) := by decide +kernel
theorem dL_areEntries_104 : decode cL_areEntries 104 = .ok (.iconst 1, 1) := by decide +kernel
theorem dL_areEntries_105 : decode cL_areEntries 105 = .ok (.goto 4, 3) := by decide +kernel
theorem dL_areEntries_108 : decode cL_areEntries 108 = .ok (.iconst 0, 1) := by decide +kernel
theorem dL_areEntries_109 : decode cL_areEntries 109 = .ok (.istore 4, 2) := by decide +kernel
theorem dL_areEntries_111 : decode cL_areEntries 111 = .ok (.aload_n 2, 1) := by decide +kernel
theorem dL_areEntries_112 : decode cL_areEntries 112 = .ok (.iload 7, 2) := by decide +kernel
theorem dL_areEntries_114 : decode cL_areEntries 114 = .ok (.bipush 8, 2) := by decide +kernel
theorem dL_areEntries_116 : decode cL_areEntries 116 = .ok (.irem, 1) := by decide +kernel
theorem dL_areEntries_117 : decode cL_areEntries 117 = .ok (.dup2, 1) := by decide +kernel
theorem dL_areEntries_118 : decode cL_areEntries 118 = .ok (.iaload, 1) := by decide +kernel
theorem dL_areEntries_119 : decode cL_areEntries 119 = .ok (.iconst 1, 1) := by decide +kernel
theorem dL_areEntries_120 : decode cL_areEntries 120 = .ok (.iload 8, 2) := by decide +kernel
theorem dL_areEntries_122 : decode cL_areEntries 122 = .ok (.ishl, 1) := by decide +kernel
theorem dL_areEntries_123 : decode cL_areEntries 123 = .ok (.ior, 1) := by decide +kernel
theorem dL_areEntries_124 : decode cL_areEntries 124 = .ok (.iastore, 1) := by decide +kernel
theorem dL_areEntries_125 : decode cL_areEntries 125 = .ok (.iinc 5 1, 3) := by decide +kernel
theorem dL_areEntries_128 : decode cL_areEntries 128 = .ok (.goto (-97), 3) := by decide +kernel
theorem dL_areEntries_131 : decode cL_areEntries 131 = .ok (.iconst 0, 1) := by decide +kernel
theorem dL_areEntries_132 : decode cL_areEntries 132 = .ok (.istore 5, 2) := by decide +kernel
theorem dL_areEntries_134 : decode cL_areEntries 134 = .ok (.iload 5, 2) := by decide +kernel
theorem dL_areEntries_136 : decode cL_areEntries 136 = .ok (.aload_n 0, 1) := by decide +kernel
theorem dL_areEntries_137 : decode cL_areEntries 137 = .ok (.invokevirtual 9, 3) := by decide +kernel
theorem dL_areEntries_140 : decode cL_areEntries 140 = .ok (.if_icmp .ge 159, 3) := by decide +kernel
theorem dL_areEntries_143 : decode cL_areEntries 143 = .ok (.iload 4, 2) := by decide +kernel
theorem dL_areEntries_145 : decode cL_areEntries 145 = .ok (.ifCond .eq 154, 3) := by decide +kernel
theorem dL_areEntries_148 : decode cL_areEntries 148 = .ok (.aload_n 0, 1) := by decide +kernel
theorem dL_areEntries_149 : decode cL_areEntries 149 = .ok (.iload 5, 2) := by decide +kernel
theorem dL_areEntries_151 : decode cL_areEntries 151 = .ok (.iload_n 1, 1) := by decide +kernel
theorem dL_areEntries_152 : decode cL_areEntries 152 = .ok (.invokevirtual 33, 3) := by decide +kernel
theorem dL_areEntries_155 : decode cL_areEntries 155 = .ok (.istore 6, 2) := by decide +kernel
theorem dL_areEntries_157 : decode cL_areEntries 157 = .ok (.aload_n 0, 1) := by decide +kernel
theorem dL_areEntries_158 : decode cL_areEntries 158 = .ok (.iload 5, 2) := by decide +kernel
theorem dL_areEntries_160 : decode cL_areEntries 160 = .ok (.invokevirtual 43, 3) := by decide +kernel
theorem dL_areEntries_163 : decode cL_areEntries 163 = .ok (.iload_n 1, 1) := by decide +kernel
theorem dL_areEntries_164 : decode cL_areEntries 164 = .ok (.if_icmp .ne 12, 3) := by decide +kernel
theorem dL_areEntries_167 : decode cL_areEntries 167 = .ok (.aload_n 0, 1) := by decide +kernel
theorem dL_areEntries_168 : decode cL_areEntries 168 = .ok (.iload 5, 2) := by decide +kernel
theorem dL_areEntries_170 : decode cL_areEntries 170 = .ok (.invokevirtual 46, 3) := by decide +kernel
theorem dL_areEntries_173 : decode cL_areEntries 173 = .ok (.goto 4, 3) := by decide +kernel
theorem dL_areEntries_176 : decode cL_areEntries 176 = .ok (.iconst 0, 1) := by decide +kernel
theorem dL_areEntries_177 : decode cL_areEntries 177 = .ok (.istore 7, 2) := by decide +kernel
theorem dL_areEntries_179 : decode cL_areEntries 179 = .ok (.aload_n 2, 1) := by decide +kernel
theorem dL_areEntries_180 : decode cL_areEntries 180 = .ok (.iload 5, 2) := by decide +kernel
theorem dL_areEntries_182 : decode cL_areEntries 182 = .ok (.iaload, 1) := by decide +kernel
theorem dL_areEntries_183 : decode cL_areEntries 183 = .ok (.iconst 2, 1) := by decide +kernel
theorem dL_areEntries_184 : decode cL_areEntries 184 = .ok (.ishr, 1) := by decide +kernel
theorem dL_areEntries_185 : decode cL_areEntries 185 = .ok (.iconst 1, 1) := by decide +kernel
theorem dL_areEntries_186 : decode cL_areEntries 186 = .ok (.iand, 1) := by decide +kernel
theorem dL_areEntries_187 : decode cL_areEntries 187 = .ok (.iload 6, 2) := by decide +kernel
theorem dL_areEntries_189 : decode cL_areEntries 189 = .ok (.iconst 2, 1) := by decide +kernel
theorem dL_areEntries_190 : decode cL_areEntries 190 = .ok (.if_icmp .ne 7, 3) := by decide +kernel
theorem dL_areEntries_193 : decode cL_areEntries 193 = .ok (.iconst 1, 1) := by decide +kernel
theorem dL_areEntries_194 : decode cL_areEntries 194 = .ok (.goto 4, 3) := by decide +kernel
theorem dL_areEntries_197 : decode cL_areEntries 197 = .ok (.iconst 0, 1) := by decide +kernel
theorem dL_areEntries_198 : decode cL_areEntries 198 = .ok (.if_icmp .ne 92, 3) := by decide +kernel
theorem dL_areEntries_201 : decode cL_areEntries 201 = .ok (.aload_n 2, 1) := by decide +kernel
theorem dL_areEntries_202 : decode cL_areEntries 202 = .ok (.iload 5, 2) := by decide +kernel
theorem dL_areEntries_204 : decode cL_areEntries 204 = .ok (.iaload, 1) := by decide +kernel
theorem dL_areEntries_205 : decode cL_areEntries 205 = .ok (.iconst 3, 1) := by decide +kernel
theorem dL_areEntries_206 : decode cL_areEntries 206 = .ok (.ishr, 1) := by decide +kernel
theorem dL_areEntries_207 : decode cL_areEntries 207 = .ok (.iconst 1, 1) := by decide +kernel
theorem dL_areEntries_208 : decode cL_areEntries 208 = .ok (.iand, 1) := by decide +kernel
theorem dL_areEntries_209 : decode cL_areEntries 209 = .ok (.iload 6, 2) := by decide +kernel
theorem dL_areEntries_211 : decode cL_areEntries 211 = .ok (.iconst 3, 1) := by decide +kernel
theorem dL_areEntries_212 : decode cL_areEntries 212 = .ok (.if_icmp .ne 7, 3) := by decide +kernel
theorem dL_areEntries_215 : decode cL_areEntries 215 = .ok (.iconst 1, 1) := by decide +kernel
theorem dL_areEntries_216 : decode cL_areEntries 216 = .ok (.goto 4, 3) := by decide +kernel
theorem dL_areEntries_219 : decode cL_areEntries 219 = .ok (.iconst 0, 1) := by decide +kernel
theorem dL_areEntries_220 : decode cL_areEntries 220 = .ok (.if_icmp .ne 70, 3) := by decide +kernel
theorem dL_areEntries_223 : decode cL_areEntries 223 = .ok (.iload 6, 2) := by decide +kernel
theorem dL_areEntries_225 : decode cL_areEntries 225 = .ok (.iconst 1, 1) := by decide +kernel
theorem dL_areEntries_226 : decode cL_areEntries 226 = .ok (.if_icmp .ne 15, 3) := by decide +kernel
theorem dL_areEntries_229 : decode cL_areEntries 229 = .ok (.aload_n 2, 1) := by decide +kernel
theorem dL_areEntries_230 : decode cL_areEntries 230 = .ok (.iload 5, 2) := by decide +kernel
theorem dL_areEntries_232 : decode cL_areEntries 232 = .ok (.iaload, 1) := by decide +kernel
theorem dL_areEntries_233 : decode cL_areEntries 233 = .ok (.iconst 1, 1) := by decide +kernel
theorem dL_areEntries_234 : decode cL_areEntries 234 = .ok (.ishr, 1) := by decide +kernel
theorem dL_areEntries_235 : decode cL_areEntries 235 = .ok (.iconst 1, 1) := by decide +kernel
theorem dL_areEntries_236 : decode cL_areEntries 236 = .ok (.iand, 1) := by decide +kernel
theorem dL_areEntries_237 : decode cL_areEntries 237 = .ok (.iconst 1, 1) := by decide +kernel
theorem dL_areEntries_238 : decode cL_areEntries 238 = .ok (.if_icmp .ne 52, 3) := by decide +kernel
theorem dL_areEntries_241 : decode cL_areEntries 241 = .ok (.aload_n 2, 1) := by decide +kernel
theorem dL_areEntries_242 : decode cL_areEntries 242 = .ok (.iload 5, 2) := by decide +kernel
theorem dL_areEntries_244 : decode cL_areEntries 244 = .ok (.iaload, 1) := by decide +kernel
theorem dL_areEntries_245 : decode cL_areEntries 245 = .ok (.iconst 5, 1) := by decide +kernel
theorem dL_areEntries_246 : decode cL_areEntries 246 = .ok (.ishr, 1) := by decide +kernel
theorem dL_areEntries_247 : decode cL_areEntries 247 = .ok (.iconst 1, 1) := by decide +kernel
theorem dL_areEntries_248 : decode cL_areEntries 248 = .ok (.iand, 1) := by decide +kernel
theorem dL_areEntries_249 : decode cL_areEntries 249 = .ok (.iload 7, 2) := by decide +kernel
theorem dL_areEntries_251 : decode cL_areEntries 251 = .ok (.iconst 2, 1) := by decide +kernel
theorem dL_areEntries_252 : decode cL_areEntries 252 = .ok (.if_icmp .ne 7, 3) := by decide +kernel
theorem dL_areEntries_255 : decode cL_areEntries 255 = .ok (.iconst 1, 1) := by decide +kernel
theorem dL_areEntries_256 : decode cL_areEntries 256 = .ok (.goto 4, 3) := by decide +kernel
theorem dL_areEntries_259 : decode cL_areEntries 259 = .ok (.iconst 0, 1) := by decide +kernel
theorem dL_areEntries_260 : decode cL_areEntries 260 = .ok (.if_icmp .ne 30, 3) := by decide +kernel
theorem dL_areEntries_263 : decode cL_areEntries 263 = .ok (.aload_n 2, 1) := by decide +kernel
theorem dL_areEntries_264 : decode cL_areEntries 264 = .ok (.iload 5, 2) := by decide +kernel
theorem dL_areEntries_266 : decode cL_areEntries 266 = .ok (.iaload, 1) := by decide +kernel
theorem dL_areEntries_267 : decode cL_areEntries 267 = .ok (.bipush 6, 2) := by decide +kernel
theorem dL_areEntries_269 : decode cL_areEntries 269 = .ok (.ishr, 1) := by decide +kernel
theorem dL_areEntries_270 : decode cL_areEntries 270 = .ok (.iconst 1, 1) := by decide +kernel
theorem dL_areEntries_271 : decode cL_areEntries 271 = .ok (.iand, 1) := by decide +kernel
theorem dL_areEntries_272 : decode cL_areEntries 272 = .ok (.iload 7, 2) := by decide +kernel
theorem dL_areEntries_274 : decode cL_areEntries 274 = .ok (.iconst 3, 1) := by decide +kernel
theorem dL_areEntries_275 : decode cL_areEntries 275 = .ok (.if_icmp .ne 7, 3) := by decide +kernel
theorem dL_areEntries_278 : decode cL_areEntries 278 = .ok (.iconst 1, 1) := by decide +kernel
theorem dL_areEntries_279 : decode cL_areEntries 279 = .ok (.goto 4, 3) := by decide +kernel
theorem dL_areEntries_282 : decode cL_areEntries 282 = .ok (.iconst 0, 1) := by decide +kernel
theorem dL_areEntries_283 : decode cL_areEntries 283 = .ok (.if_icmp .ne 7, 3) := by decide +kernel
theorem dL_areEntries_286 : decode cL_areEntries 286 = .ok (.iconst 1, 1) := by decide +kernel
theorem dL_areEntries_287 : decode cL_areEntries 287 = .ok (.goto 4, 3) := by decide +kernel
theorem dL_areEntries_290 : decode cL_areEntries 290 = .ok (.iconst 0, 1) := by decide +kernel
theorem dL_areEntries_291 : decode cL_areEntries 291 = .ok (.istore 4, 2) := by decide +kernel
theorem dL_areEntries_293 : decode cL_areEntries 293 = .ok (.iinc 5 1, 3) := by decide +kernel
theorem dL_areEntries_296 : decode cL_areEntries 296 = .ok (.goto (-162), 3) := by decide +kernel
theorem dL_areEntries_299 : decode cL_areEntries 299 = .ok (.iload 4, 2) := by decide +kernel
theorem dL_areEntries_301 : decode cL_areEntries 301 = .ok (.ireturn, 1) := by decide +kernel
theorem dL_isAhead_0 : decode cL_isAhead 0 = .ok (.aload_n 0, 1) := by decide +kernel
theorem dL_isAhead_1 : decode cL_isAhead 1 = .ok (.invokevirtual 93, 3) := by decide +kernel
theorem dL_isAhead_4 : decode cL_isAhead 4 = .ok (.lstore 4, 2) := by decide +kernel
theorem dL_isAhead_6 : decode cL_isAhead 6 = .ok (.aload_n 0, 1) := by decide +kernel
theorem dL_isAhead_7 : decode cL_isAhead 7 = .ok (.iload_n 1, 1) := by decide +kernel
theorem dL_isAhead_8 : decode cL_isAhead 8 = .ok (.iload_n 2, 1) := by decide +kernel
theorem dL_isAhead_9 : decode cL_isAhead 9 = .ok (.invokevirtual 97, 3) := by decide +kernel
theorem dL_isAhead_12 : decode cL_isAhead 12 = .ok (.istore 6, 2) := by decide +kernel
theorem dL_isAhead_14 : decode cL_isAhead 14 = .ok (.aload_n 0, 1) := by decide +kernel
theorem dL_isAhead_15 : decode cL_isAhead 15 = .ok (.iload_n 1, 1) := by decide +kernel
theorem dL_isAhead_16 : decode cL_isAhead 16 = .ok (.iload_n 2, 1) := by decide +kernel
theorem dL_isAhead_17 : decode cL_isAhead 17 = .ok (.invokevirtual 64, 3) := by decide +kernel
theorem dL_isAhead_20 : decode cL_isAhead 20 = .ok (.istore 7, 2) := by decide +kernel
theorem dL_isAhead_22 : decode cL_isAhead 22 = .ok (.aload_n 0, 1) := by decide +kernel
theorem dL_isAhead_23 : decode cL_isAhead 23 = .ok (.iload_n 1, 1) := by decide +kernel
theorem dL_isAhead_24 : decode cL_isAhead 24 = .ok (.iload_n 2, 1) := by decide +kernel
theorem dL_isAhead_25 : decode cL_isAhead 25 = .ok (.invokevirtual 100, 3) := by decide +kernel
theorem dL_isAhead_28 : decode cL_isAhead 28 = .ok (.istore 8, 2) := by decide +kernel
theorem dL_isAhead_30 : decode cL_isAhead 30 = .ok (.iload 6, 2) := by decide +kernel
theorem dL_isAhead_32 : decode cL_isAhead 32 = .ok (.iconst 1, 1) := by decide +kernel
theorem dL_isAhead_33 : decode cL_isAhead 33 = .ok (.if_icmp .ne 7, 3) := by decide +kernel
theorem dL_isAhead_36 : decode cL_isAhead 36 = .ok (.iconst 1, 1) := by decide +kernel
theorem dL_isAhead_37 : decode cL_isAhead 37 = .ok (.goto 4, 3) := by decide +kernel
theorem dL_isAhead_40 : decode cL_isAhead 40 = .ok (.iconst 0, 1) := by decide +kernel
theorem dL_isAhead_41 : decode cL_isAhead 41 = .ok (.aload_n 0, 1) := by decide +kernel
theorem dL_isAhead_42 : decode cL_isAhead 42 = .ok (.iload_n 1, 1) := by decide +kernel
theorem dL_isAhead_43 : decode cL_isAhead 43 = .ok (.iload_n 2, 1) := by decide +kernel
theorem dL_isAhead_44 : decode cL_isAhead 44 = .ok (.invokevirtual 33, 3) := by decide +kernel
theorem dL_isAhead_47 : decode cL_isAhead 47 = .ok (.ifCond .ge 7, 3) := by decide +kernel
theorem dL_isAhead_50 : decode cL_isAhead 50 = .ok (.iconst 1, 1) := by decide +kernel
theorem dL_isAhead_51 : decode cL_isAhead 51 = .ok (.goto 4, 3) := by decide +kernel
theorem dL_isAhead_54 : decode cL_isAhead 54 = .ok (.iconst 0, 1) := by decide +kernel
theorem dL_isAhead_55 : decode cL_isAhead 55 = .ok (.if_icmp .ne 35, 3) := by decide +kernel
theorem dL_isAhead_58 : decode cL_isAhead 58 = .ok (.iload 8, 2) := by decide +kernel
theorem dL_isAhead_60 : decode cL_isAhead 60 = .ok (.ifCond .ne 7, 3) := by decide +kernel
theorem dL_isAhead_63 : decode cL_isAhead 63 = .ok (.iconst 1, 1) := by decide +kernel
theorem dL_isAhead_64 : decode cL_isAhead 64 = .ok (.goto 4, 3) := by decide +kernel
theorem dL_isAhead_67 : decode cL_isAhead 67 = .ok (.iconst 0, 1) := by decide +kernel
theorem dL_isAhead_68 : decode cL_isAhead 68 = .ok (.aload_n 0, 1) := by decide +kernel
theorem dL_isAhead_69 : decode cL_isAhead 69 = .ok (.iload_n 1, 1) := by decide +kernel
theorem dL_isAhead_70 : decode cL_isAhead 70 = .ok (.iload_n 2, 1) := by decide +kernel
theorem dL_isAhead_71 : decode cL_isAhead 71 = .ok (.invokevirtual 33, 3) := by decide +kernel
theorem dL_isAhead_74 : decode cL_isAhead 74 = .ok (.iconst 1, 1) := by decide +kernel
theorem dL_isAhead_75 : decode cL_isAhead 75 = .ok (.if_icmp .le 7, 3) := by decide +kernel
theorem dL_isAhead_78 : decode cL_isAhead 78 = .ok (.iconst 1, 1) := by decide +kernel
theorem dL_isAhead_79 : decode cL_isAhead 79 = .ok (.goto 4, 3) := by decide +kernel
theorem dL_isAhead_82 : decode cL_isAhead 82 = .ok (.iconst 0, 1) := by decide +kernel
theorem dL_isAhead_83 : decode cL_isAhead 83 = .ok (.if_icmp .ne 7, 3) := by decide +kernel
theorem dL_isAhead_86 : decode cL_isAhead 86 = .ok (.iconst 1, 1) := by decide +kernel
theorem dL_isAhead_87 : decode cL_isAhead 87 = .ok (.goto 4, 3) := by decide +kernel
theorem dL_isAhead_90 : decode cL_isAhead 90 = .ok (.iconst 0, 1) := by decide +kernel
theorem dL_isAhead_91 : decode cL_isAhead 91 = .ok (.istore 9, 2) := by decide +kernel
theorem dL_isAhead_93 : decode cL_isAhead 93 = .ok (.iload 9, 2) := by decide +kernel
theorem dL_isAhead_95 : decode cL_isAhead 95 = .ok (.ifCond .eq 63, 3) := by decide +kernel
theorem dL_isAhead_98 : decode cL_isAhead 98 = .ok (.aload_n 0, 1) := by decide +kernel
theorem dL_isAhead_99 : decode cL_isAhead 99 = .ok (.iload_n 1, 1) := by decide +kernel
theorem dL_isAhead_100 : decode cL_isAhead 100 = .ok (.iload_n 2, 1) := by decide +kernel
theorem dL_isAhead_101 : decode cL_isAhead 101 = .ok (.invokevirtual 33, 3) := by decide +kernel
theorem dL_isAhead_104 : decode cL_isAhead 104 = .ok (.ifCond .ne 54, 3) := by decide +kernel
theorem dL_isAhead_107 : decode cL_isAhead 107 = .ok (.aload_n 0, 1) := by decide +kernel
theorem dL_isAhead_108 : decode cL_isAhead 108 = .ok (.iload_n 2, 1) := by decide +kernel
theorem dL_isAhead_109 : decode cL_isAhead 109 = .ok (.invokevirtual 21, 3) := by decide +kernel
theorem dL_isAhead_112 : decode cL_isAhead 112 = .ok (.ifCond .eq 46, 3) := by decide +kernel
theorem dL_isAhead_115 : decode cL_isAhead 115 = .ok (.aload_n 0, 1) := by decide +kernel
theorem dL_isAhead_116 : decode cL_isAhead 116 = .ok (.iload_n 1, 1) := by decide +kernel
theorem dL_isAhead_117 : decode cL_isAhead 117 = .ok (.iload_n 2, 1) := by decide +kernel
theorem dL_isAhead_118 : decode cL_isAhead 118 = .ok (.iconst 1, 1) := by decide +kernel
theorem dL_isAhead_119 : decode cL_isAhead 119 = .ok (.invokevirtual 36, 3) := by decide +kernel
theorem dL_isAhead_122 : decode cL_isAhead 122 = .ok (.iconst 1, 1) := by decide +kernel
theorem dL_isAhead_123 : decode cL_isAhead 123 = .ok (.if_icmp .ne 7, 3) := by decide +kernel
theorem dL_isAhead_126 : decode cL_isAhead 126 = .ok (.iconst 1, 1) := by decide +kernel
theorem dL_isAhead_127 : decode cL_isAhead 127 = .ok (.goto 4, 3) := by decide +kernel
theorem dL_isAhead_130 : decode cL_isAhead 130 = .ok (.iconst 0, 1) := by decide +kernel
theorem dL_isAhead_131 : decode cL_isAhead 131 = .ok (.iload 6, 2) := by decide +kernel
theorem dL_isAhead_133 : decode cL_isAhead 133 = .ok (.ifCond .ne 7, 3) := by decide +kernel
theorem dL_isAhead_136 : decode cL_isAhead 136 = .ok (.iconst 1, 1) := by decide +kernel
theorem dL_isAhead_137 : decode cL_isAhead 137 = .ok (.goto 4, 3) := by decide +kernel
theorem dL_isAhead_140 : decode cL_isAhead 140 = .ok (.iconst 0, 1) := by decide +kernel
theorem dL_isAhead_141 : decode cL_isAhead 141 = .ok (.if_icmp .ne 14, 3) := by decide +kernel
theorem dL_isAhead_144 : decode cL_isAhead 144 = .ok (.aload_n 0, 1) := by decide +kernel
theorem dL_isAhead_145 : decode cL_isAhead 145 = .ok (.invokevirtual 103, 3) := by decide +kernel
theorem dL_isAhead_148 : decode cL_isAhead 148 = .ok (.ifCond .lt 7, 3) := by decide +kernel
theorem dL_isAhead_151 : decode cL_isAhead 151 = .ok (.iconst 1, 1) := by decide +kernel
theorem dL_isAhead_152 : decode cL_isAhead 152 = .ok (.goto 4, 3) := by decide +kernel
theorem dL_isAhead_155 : decode cL_isAhead 155 = .ok (.iconst 0, 1) := by decide +kernel
theorem dL_isAhead_156 : decode cL_isAhead 156 = .ok (.istore 9, 2) := by decide +kernel
theorem dL_isAhead_158 : decode cL_isAhead 158 = .ok (.iload 9, 2) := by decide +kernel
theorem dL_isAhead_160 : decode cL_isAhead 160 = .ok (.ifCond .eq 34, 3) := by decide +kernel
theorem dL_isAhead_163 : decode cL_isAhead 163 = .ok (.iload 7, 2) := by decide +kernel
theorem dL_isAhead_165 : decode cL_isAhead 165 = .ok (.ifCond .lt 29, 3) := by decide +kernel
theorem dL_isAhead_168 : decode cL_isAhead 168 = .ok (.aload_n 0, 1) := by decide +kernel
theorem dL_isAhead_169 : decode cL_isAhead 169 = .ok (.iload_n 1, 1) := by decide +kernel
theorem dL_isAhead_170 : decode cL_isAhead 170 = .ok (.iload_n 2, 1) := by decide +kernel
theorem dL_isAhead_171 : decode cL_isAhead 171 = .ok (.iload 7, 2) := by decide +kernel
theorem dL_isAhead_173 : decode cL_isAhead 173 = .ok (.invokevirtual 55, 3) := by decide +kernel
theorem dL_isAhead_176 : decode cL_isAhead 176 = .ok (.iconst 1, 1) := by decide +kernel
theorem dL_isAhead_177 : decode cL_isAhead 177 = .ok (.if_icmp .le 14, 3) := by decide +kernel
theorem dL_isAhead_180 : decode cL_isAhead 180 = .ok (.aload_n 0, 1) := by decide +kernel
theorem dL_isAhead_181 : decode cL_isAhead 181 = .ok (.invokevirtual 103, 3) := by decide +kernel
theorem dL_isAhead_184 : decode cL_isAhead 184 = .ok (.ifCond .lt 7, 3) := by decide +kernel
theorem dL_isAhead_187 : decode cL_isAhead 187 = .ok (.iconst 1, 1) := by decide +kernel
theorem dL_isAhead_188 : decode cL_isAhead 188 = .ok (.goto 4, 3) := by decide +kernel
theorem dL_isAhead_191 : decode cL_isAhead 191 = .ok (.iconst 0, 1) := by decide +kernel
theorem dL_isAhead_192 : decode cL_isAhead 192 = .ok (.istore 9, 2) := by decide +kernel
theorem dL_isAhead_194 : decode cL_isAhead 194 = .ok (.iload 9, 2) := by decide +kernel
theorem dL_isAhead_196 : decode cL_isAhead 196 = .ok (.ifCond .eq 70, 3) := by decide +kernel
theorem dL_isAhead_199 : decode cL_isAhead 199 = .ok (.aload_n 0, 1) := by decide +kernel
theorem dL_isAhead_200 : decode cL_isAhead 200 = .ok (.iload_n 1, 1) := by decide +kernel
theorem dL_isAhead_201 : decode cL_isAhead 201 = .ok (.iload_n 2, 1) := by decide +kernel
theorem dL_isAhead_202 : decode cL_isAhead 202 = .ok (.invokevirtual 33, 3) := by decide +kernel
theorem dL_isAhead_205 : decode cL_isAhead 205 = .ok (.iconst 1, 1) := by decide +kernel
theorem dL_isAhead_206 : decode cL_isAhead 206 = .ok (.if_icmp .ne 60, 3) := by decide +kernel
theorem dL_isAhead_209 : decode cL_isAhead 209 = .ok (.aload_n 0, 1) := by decide +kernel
theorem dL_isAhead_210 : decode cL_isAhead 210 = .ok (.iload_n 2, 1) := by decide +kernel
theorem dL_isAhead_211 : decode cL_isAhead 211 = .ok (.invokevirtual 21, 3) := by decide +kernel
theorem dL_isAhead_214 : decode cL_isAhead 214 = .ok (.ifCond .eq 52, 3) := by decide +kernel
theorem dL_isAhead_217 : decode cL_isAhead 217 = .ok (.aload_n 0, 1) := by decide +kernel
theorem dL_isAhead_218 : decode cL_isAhead 218 = .ok (.iload_n 3, 1) := by decide +kernel
theorem dL_isAhead_219 : decode cL_isAhead 219 = .ok (.invokevirtual 21, 3) := by decide +kernel
theorem dL_isAhead_222 : decode cL_isAhead 222 = .ok (.ifCond .eq 44, 3) := by decide +kernel
theorem dL_isAhead_225 : decode cL_isAhead 225 = .ok (.iload_n 3, 1) := by decide +kernel
theorem dL_isAhead_226 : decode cL_isAhead 226 = .ok (.iload_n 2, 1) := by decide +kernel
theorem dL_isAhead_227 : decode cL_isAhead 227 = .ok (.if_icmp .eq 39, 3) := by decide +kernel
theorem dL_isAhead_230 : decode cL_isAhead 230 = .ok (.iload 7, 2) := by decide +kernel
theorem dL_isAhead_232 : decode cL_isAhead 232 = .ok (.ifCond .lt 9, 3) := by decide +kernel
theorem dL_isAhead_235 : decode cL_isAhead 235 = .ok (.iload_n 3, 1) := by decide +kernel
theorem dL_isAhead_236 : decode cL_isAhead 236 = .ok (.iload 7, 2) := by decide +kernel
theorem dL_isAhead_238 : decode cL_isAhead 238 = .ok (.if_icmp .ge 28, 3) := by decide +kernel
theorem dL_isAhead_241 : decode cL_isAhead 241 = .ok (.aload_n 0, 1) := by decide +kernel
theorem dL_isAhead_242 : decode cL_isAhead 242 = .ok (.iload_n 1, 1) := by decide +kernel
theorem dL_isAhead_243 : decode cL_isAhead 243 = .ok (.iload_n 2, 1) := by decide +kernel
theorem dL_isAhead_244 : decode cL_isAhead 244 = .ok (.iload_n 3, 1) := by decide +kernel
theorem dL_isAhead_245 : decode cL_isAhead 245 = .ok (.invokevirtual 55, 3) := by decide +kernel
theorem dL_isAhead_248 : decode cL_isAhead 248 = .ok (.iconst 1, 1) := by decide +kernel
theorem dL_isAhead_249 : decode cL_isAhead 249 = .ok (.if_icmp .ne 14, 3) := by decide +kernel
theorem dL_isAhead_252 : decode cL_isAhead 252 = .ok (.aload_n 0, 1) := by decide +kernel
theorem dL_isAhead_253 : decode cL_isAhead 253 = .ok (.invokevirtual 103, 3) := by decide +kernel
theorem dL_isAhead_256 : decode cL_isAhead 256 = .ok (.ifCond .lt 7, 3) := by decide +kernel
theorem dL_isAhead_259 : decode cL_isAhead 259 = .ok (.iconst 1, 1) := by decide +kernel
theorem dL_isAhead_260 : decode cL_isAhead 260 = .ok (.goto 4, 3) := by decide +kernel
theorem dL_isAhead_263 : decode cL_isAhead 263 = .ok (.iconst 0, 1) := by decide +kernel
theorem dL_isAhead_264 : decode cL_isAhead 264 = .ok (.istore 9, 2) := by decide +kernel
theorem dL_isAhead_266 : decode cL_isAhead 266 = .ok (.iload 9, 2) := by decide +kernel
theorem dL_isAhead_268 : decode cL_isAhead 268 = .ok (.ifCond .eq 83, 3) := by decide +kernel
theorem dL_isAhead_271 : decode cL_isAhead 271 = .ok (.iload 8, 2) := by decide +kernel
theorem dL_isAhead_273 : decode cL_isAhead 273 = .ok (.ifCond .le 78, 3) := by decide +kernel
theorem dL_isAhead_276 : decode cL_isAhead 276 = .ok (.iload 8, 2) := by decide +kernel
theorem dL_isAhead_278 : decode cL_isAhead 278 = .ok (.bipush 20, 2) := by decide +kernel
theorem dL_isAhead_280 : decode cL_isAhead 280 = .ok (.if_icmp .gt 71, 3) := by decide +kernel
theorem dL_isAhead_283 : decode cL_isAhead 283 = .ok (.iload 8, 2) := by decide +kernel
theorem dL_isAhead_285 : decode cL_isAhead 285 = .ok (.iconst 1, 1) := by decide +kernel
theorem dL_isAhead_286 : decode cL_isAhead 286 = .ok (.if_icmp .eq 31, 3) := by decide +kernel
theorem dL_isAhead_289 : decode cL_isAhead 289 = .ok (.aload_n 0, 1) := by decide +kernel
theorem dL_isAhead_290 : decode cL_isAhead 290 = .ok (.iload 8, 2) := by decide +kernel
theorem dL_isAhead_292 : decode cL_isAhead 292 = .ok (.iconst 1, 1) := by decide +kernel
theorem dL_isAhead_293 : decode cL_isAhead 293 = .ok (.isub, 1) := by decide +kernel
theorem dL_isAhead_294 : decode cL_isAhead 294 = .ok (.invokevirtual 40, 3) := by decide +kernel
theorem dL_isAhead_297 : decode cL_isAhead 297 = .ok (.ifCond .lt 51, 3) := by decide +kernel
theorem dL_isAhead_300 : decode cL_isAhead 300 = .ok (.aload_n 0, 1) := by decide +kernel
theorem dL_isAhead_301 : decode cL_isAhead 301 = .ok (.iload_n 1, 1) := by decide +kernel
theorem dL_isAhead_302 : decode cL_isAhead 302 = .ok (.iload_n 2, 1) := by decide +kernel
theorem dL_isAhead_303 : decode cL_isAhead 303 = .ok (.invokevirtual 33, 3) := by decide +kernel
theorem dL_isAhead_306 : decode cL_isAhead 306 = .ok (.iconst 2, 1) := by decide +kernel
theorem dL_isAhead_307 : decode cL_isAhead 307 = .ok (.if_icmp .ge 41, 3) := by decide +kernel
theorem dL_isAhead_310 : decode cL_isAhead 310 = .ok (.aload_n 0, 1) := by decide +kernel
theorem dL_isAhead_311 : decode cL_isAhead 311 = .ok (.invokevirtual 103, 3) := by decide +kernel
theorem dL_isAhead_314 : decode cL_isAhead 314 = .ok (.ifCond .lt 34, 3) := by decide +kernel
theorem dL_isAhead_317 : decode cL_isAhead 317 = .ok (.aload_n 0, 1) := by decide +kernel
theorem dL_isAhead_318 : decode cL_isAhead 318 = .ok (.iload 8, 2) := by decide +kernel
theorem dL_isAhead_320 : decode cL_isAhead 320 = .ok (.invokevirtual 40, 3) := by decide +kernel
theorem dL_isAhead_323 : decode cL_isAhead 323 = .ok (.iconst 1, 1) := by decide +kernel
theorem dL_isAhead_324 : decode cL_isAhead 324 = .ok (.if_icmp .lt 24, 3) := by decide +kernel
theorem dL_isAhead_327 : decode cL_isAhead 327 = .ok (.aload_n 0, 1) := by decide +kernel
theorem dL_isAhead_328 : decode cL_isAhead 328 = .ok (.iload_n 1, 1) := by decide +kernel
theorem dL_isAhead_329 : decode cL_isAhead 329 = .ok (.iload_n 2, 1) := by decide +kernel
theorem dL_isAhead_330 : decode cL_isAhead 330 = .ok (.invokevirtual 33, 3) := by decide +kernel
theorem dL_isAhead_333 : decode cL_isAhead 333 = .ok (.iconst 1, 1) := by decide +kernel
theorem dL_isAhead_334 : decode cL_isAhead 334 = .ok (.if_icmp .le 14, 3) := by decide +kernel
theorem dL_isAhead_337 : decode cL_isAhead 337 = .ok (.aload_n 0, 1) := by decide +kernel
theorem dL_isAhead_338 : decode cL_isAhead 338 = .ok (.invokevirtual 103, 3) := by decide +kernel
theorem dL_isAhead_341 : decode cL_isAhead 341 = .ok (.ifCond .lt 7, 3) := by decide +kernel
theorem dL_isAhead_344 : decode cL_isAhead 344 = .ok (.iconst 1, 1) := by decide +kernel
theorem dL_isAhead_345 : decode cL_isAhead 345 = .ok (.goto 4, 3) := by decide +kernel
theorem dL_isAhead_348 : decode cL_isAhead 348 = .ok (.iconst 0, 1) := by decide +kernel
theorem dL_isAhead_349 : decode cL_isAhead 349 = .ok (.istore 9, 2) := by decide +kernel
theorem dL_isAhead_351 : decode cL_isAhead 351 = .ok (.iload 9, 2) := by decide +kernel
theorem dL_isAhead_353 : decode cL_isAhead 353 = .ok (.ifCond .eq 17, 3) := by decide +kernel
theorem dL_isAhead_356 : decode cL_isAhead 356 = .ok (.aload_n 0, 1) := by decide +kernel
theorem dL_isAhead_357 : decode cL_isAhead 357 = .ok (.invokevirtual 93, 3) := by decide +kernel
theorem dL_isAhead_360 : decode cL_isAhead 360 = .ok (.lload 4, 2) := by decide +kernel
theorem dL_isAhead_362 : decode cL_isAhead 362 = .ok (.lcmp, 1) := by decide +kernel
theorem dL_isAhead_363 : decode cL_isAhead 363 = .ok (.ifCond .ne 7, 3) := by decide +kernel
theorem dL_isAhead_366 : decode cL_isAhead 366 = .ok (.iconst 1, 1) := by decide +kernel
theorem dL_isAhead_367 : decode cL_isAhead 367 = .ok (.goto 4, 3) := by decide +kernel
theorem dL_isAhead_370 : decode cL_isAhead 370 = .ok (.iconst 0, 1) := by decide +kernel
theorem dL_isAhead_371 : decode cL_isAhead 371 = .ok (.ireturn, 1) := by decide +kernel

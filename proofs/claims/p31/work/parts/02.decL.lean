theorem dL_cell_0 : decode cL_cell 0 = .ok (.iload_n 1, 1) := by decide +kernel
theorem dL_cell_1 : decode cL_cell 1 = .ok (.aload_n 0, 1) := by decide +kernel
theorem dL_cell_2 : decode cL_cell 2 = .ok (.arraylength, 1) := by decide +kernel
theorem dL_cell_3 : decode cL_cell 3 = .ok (.if_icmp .ge 9, 3) := by decide +kernel
theorem dL_cell_6 : decode cL_cell 6 = .ok (.aload_n 0, 1) := by decide +kernel
theorem dL_cell_7 : decode cL_cell 7 = .ok (.iload_n 1, 1) := by decide +kernel
theorem dL_cell_8 : decode cL_cell 8 = .ok (.iaload, 1) := by decide +kernel
theorem dL_cell_9 : decode cL_cell 9 = .ok (.goto 12, 3) := by decide +kernel
theorem dL_cell_12 : decode cL_cell 12 = .ok (.ldc 7, 2) := by decide +kernel
theorem dL_cell_14 : decode cL_cell 14 = .ok (.iload_n 1, 1) := by decide +kernel
theorem dL_cell_15 : decode cL_cell 15 = .ok (.iconst 1, 1) := by decide +kernel
theorem dL_cell_16 : decode cL_cell 16 = .ok (.iadd, 1) := by decide +kernel
theorem dL_cell_17 : decode cL_cell 17 = .ok (.imul, 1) := by decide +kernel
theorem dL_cell_18 : decode cL_cell 18 = .ok (.ldc 8, 2) := by decide +kernel
theorem dL_cell_20 : decode cL_cell 20 = .ok (.iadd, 1) := by decide +kernel
theorem dL_cell_21 : decode cL_cell 21 = .ok (.ireturn, 1) := by decide +kernel
theorem dL_low_0 : decode cL_low 0 = .ok (.iload_n 0, 1) := by decide +kernel
theorem dL_low_1 : decode cL_low 1 = .ok (.ldc 9, 2) := by decide +kernel
theorem dL_low_3 : decode cL_low 3 = .ok (.iand, 1) := by decide +kernel
theorem dL_low_4 : decode cL_low 4 = .ok (.iload_n 1, 1) := by decide +kernel
theorem dL_low_5 : decode cL_low 5 = .ok (.irem, 1) := by decide +kernel
theorem dL_low_6 : decode cL_low 6 = .ok (.ireturn, 1) := by decide +kernel
theorem dL_lay_0 : decode cL_lay 0 = .ok (.aload 5, 2) := by decide +kernel
theorem dL_lay_2 : decode cL_lay 2 = .ok (.iconst 3, 1) := by decide +kernel
theorem dL_lay_3 : decode cL_lay 3 = .ok (.iload_n 2, 1) := by decide +kernel
theorem dL_lay_4 : decode cL_lay 4 = .ok (.imul, 1) := by decide +kernel
theorem dL_lay_5 : decode cL_lay 5 = .ok (.iaload, 1) := by decide +kernel
theorem dL_lay_6 : decode cL_lay 6 = .ok (.istore 7, 2) := by decide +kernel
theorem dL_lay_8 : decode cL_lay 8 = .ok (.aload 5, 2) := by decide +kernel
theorem dL_lay_10 : decode cL_lay 10 = .ok (.iconst 3, 1) := by decide +kernel
theorem dL_lay_11 : decode cL_lay 11 = .ok (.iload_n 2, 1) := by decide +kernel
theorem dL_lay_12 : decode cL_lay 12 = .ok (.imul, 1) := by decide +kernel
theorem dL_lay_13 : decode cL_lay 13 = .ok (.iconst 1, 1) := by decide +kernel
theorem dL_lay_14 : decode cL_lay 14 = .ok (.iadd, 1) := by decide +kernel
theorem dL_lay_15 : decode cL_lay 15 = .ok (.iaload, 1) := by decide +kernel
theorem dL_lay_16 : decode cL_lay 16 = .ok (.istore 8, 2) := by decide +kernel
theorem dL_lay_18 : decode cL_lay 18 = .ok (.iload 8, 2) := by decide +kernel
theorem dL_lay_20 : decode cL_lay 20 = .ok (.aload 5, 2) := by decide +kernel
theorem dL_lay_22 : decode cL_lay 22 = .ok (.iconst 3, 1) := by decide +kernel
theorem dL_lay_23 : decode cL_lay 23 = .ok (.iload_n 2, 1) := by decide +kernel
theorem dL_lay_24 : decode cL_lay 24 = .ok (.imul, 1) := by decide +kernel
theorem dL_lay_25 : decode cL_lay 25 = .ok (.iconst 2, 1) := by decide +kernel
theorem dL_lay_26 : decode cL_lay 26 = .ok (.iadd, 1) := by decide +kernel
theorem dL_lay_27 : decode cL_lay 27 = .ok (.iaload, 1) := by decide +kernel
theorem dL_lay_28 : decode cL_lay 28 = .ok (.ior, 1) := by decide +kernel
theorem dL_lay_29 : decode cL_lay 29 = .ok (.istore 9, 2) := by decide +kernel
theorem dL_lay_31 : decode cL_lay 31 = .ok (.iconst 0, 1) := by decide +kernel
theorem dL_lay_32 : decode cL_lay 32 = .ok (.istore 10, 2) := by decide +kernel
theorem dL_lay_34 : decode cL_lay 34 = .ok (.iconst 0, 1) := by decide +kernel
theorem dL_lay_35 : decode cL_lay 35 = .ok (.istore 11, 2) := by decide +kernel
theorem dL_lay_37 : decode cL_lay 37 = .ok (.iload 11, 2) := by decide +kernel
theorem dL_lay_39 : decode cL_lay 39 = .ok (.iload 7, 2) := by decide +kernel
theorem dL_lay_41 : decode cL_lay 41 = .ok (.if_icmp .ge 21, 3) := by decide +kernel
theorem dL_lay_44 : decode cL_lay 44 = .ok (.iload 10, 2) := by decide +kernel
theorem dL_lay_46 : decode cL_lay 46 = .ok (.iload 9, 2) := by decide +kernel
theorem dL_lay_48 : decode cL_lay 48 = .ok (.iload 11, 2) := by decide +kernel
theorem dL_lay_50 : decode cL_lay 50 = .ok (.ishr, 1) := by decide +kernel
theorem dL_lay_51 : decode cL_lay 51 = .ok (.iconst 1, 1) := by decide +kernel
theorem dL_lay_52 : decode cL_lay 52 = .ok (.iand, 1) := by decide +kernel
theorem dL_lay_53 : decode cL_lay 53 = .ok (.iadd, 1) := by decide +kernel
theorem dL_lay_54 : decode cL_lay 54 = .ok (.istore 10, 2) := by decide +kernel
theorem dL_lay_56 : decode cL_lay 56 = .ok (.iinc 11 1, 3) := by decide +kernel
theorem dL_lay_59 : decode cL_lay 59 = .ok (.goto (-22), 3) := by decide +kernel
theorem dL_lay_62 : decode cL_lay 62 = .ok (.iconst 0, 1) := by decide +kernel
theorem dL_lay_63 : decode cL_lay 63 = .ok (.istore 11, 2) := by decide +kernel
theorem dL_lay_65 : decode cL_lay 65 = .ok (.iload 11, 2) := by decide +kernel
theorem dL_lay_67 : decode cL_lay 67 = .ok (.iconst 5, 1) := by decide +kernel
theorem dL_lay_68 : decode cL_lay 68 = .ok (.if_icmp .ge 32, 3) := by decide +kernel
theorem dL_lay_71 : decode cL_lay 71 = .ok (.aload 6, 2) := by decide +kernel
theorem dL_lay_73 : decode cL_lay 73 = .ok (.iload 11, 2) := by decide +kernel
theorem dL_lay_75 : decode cL_lay 75 = .ok (.iload 11, 2) := by decide +kernel
theorem dL_lay_77 : decode cL_lay 77 = .ok (.iconst 1, 1) := by decide +kernel
theorem dL_lay_78 : decode cL_lay 78 = .ok (.if_icmp .eq 9, 3) := by decide +kernel
theorem dL_lay_81 : decode cL_lay 81 = .ok (.iload 11, 2) := by decide +kernel
theorem dL_lay_83 : decode cL_lay 83 = .ok (.iconst 2, 1) := by decide +kernel
theorem dL_lay_84 : decode cL_lay 84 = .ok (.if_icmp .ne 7, 3) := by decide +kernel
theorem dL_lay_87 : decode cL_lay 87 = .ok (.iconst 0, 1) := by decide +kernel
theorem dL_lay_88 : decode cL_lay 88 = .ok (.goto 5, 3) := by decide +kernel
theorem dL_lay_91 : decode cL_lay 91 = .ok (.bipush (-6), 2) := by decide +kernel
theorem dL_lay_93 : decode cL_lay 93 = .ok (.iastore, 1) := by decide +kernel
theorem dL_lay_94 : decode cL_lay 94 = .ok (.iinc 11 1, 3) := by decide +kernel
theorem dL_lay_97 : decode cL_lay 97 = .ok (.goto (-32), 3) := by decide +kernel
theorem dL_lay_100 : decode cL_lay 100 = .ok (.iconst 0, 1) := by decide +kernel
theorem dL_lay_101 : decode cL_lay 101 = .ok (.istore 11, 2) := by decide +kernel
theorem dL_lay_103 : decode cL_lay 103 = .ok (.aload 6, 2) := by decide +kernel
theorem dL_lay_105 : decode cL_lay 105 = .ok (.bipush 16, 2) := by decide +kernel
theorem dL_lay_107 : decode cL_lay 107 = .ok (.iconst (-1), 1) := by decide +kernel
theorem dL_lay_108 : decode cL_lay 108 = .ok (.iastore, 1) := by decide +kernel
theorem dL_lay_109 : decode cL_lay 109 = .ok (.iload 11, 2) := by decide +kernel
theorem dL_lay_111 : decode cL_lay 111 = .ok (.ifCond .lt 386, 3) := by decide +kernel
theorem dL_lay_114 : decode cL_lay 114 = .ok (.aload 6, 2) := by decide +kernel
theorem dL_lay_116 : decode cL_lay 116 = .ok (.bipush 16, 2) := by decide +kernel
theorem dL_lay_118 : decode cL_lay 118 = .ok (.iload 11, 2) := by decide +kernel
theorem dL_lay_120 : decode cL_lay 120 = .ok (.iadd, 1) := by decide +kernel
theorem dL_lay_121 : decode cL_lay 121 = .ok (.dup2, 1) := by decide +kernel
theorem dL_lay_122 : decode cL_lay 122 = .ok (.iaload, 1) := by decide +kernel
theorem dL_lay_123 : decode cL_lay 123 = .ok (.iconst 1, 1) := by decide +kernel
theorem dL_lay_124 : decode cL_lay 124 = .ok (.iadd, 1) := by decide +kernel
theorem dL_lay_125 : decode cL_lay 125 = .ok (.dup_x2, 1) := by decide +kernel
theorem dL_lay_126 : decode cL_lay 126 = .ok (.iastore, 1) := by decide +kernel
theorem dL_lay_127 : decode cL_lay 127 = .ok (.istore 12, 2) := by decide +kernel
theorem dL_lay_129 : decode cL_lay 129 = .ok (.iload 12, 2) := by decide +kernel
theorem dL_lay_131 : decode cL_lay 131 = .ok (.bipush 8, 2) := by decide +kernel
theorem dL_lay_133 : decode cL_lay 133 = .ok (.iload 7, 2) := by decide +kernel
theorem dL_lay_135 : decode cL_lay 135 = .ok (.imul, 1) := by decide +kernel
theorem dL_lay_136 : decode cL_lay 136 = .ok (.if_icmp .lt 9, 3) := by decide +kernel
theorem dL_lay_139 : decode cL_lay 139 = .ok (.iinc 11 (-1), 3) := by decide +kernel
theorem dL_lay_142 : decode cL_lay 142 = .ok (.goto (-33), 3) := by decide +kernel
theorem dL_lay_145 : decode cL_lay 145 = .ok (.iload 12, 2) := by decide +kernel
theorem dL_lay_147 : decode cL_lay 147 = .ok (.bipush 8, 2) := by decide +kernel
theorem dL_lay_149 : decode cL_lay 149 = .ok (.idiv, 1) := by decide +kernel
theorem dL_lay_150 : decode cL_lay 150 = .ok (.istore 13, 2) := by decide +kernel
theorem dL_lay_152 : decode cL_lay 152 = .ok (.iload 12, 2) := by decide +kernel
theorem dL_lay_154 : decode cL_lay 154 = .ok (.bipush 8, 2) := by decide +kernel
theorem dL_lay_156 : decode cL_lay 156 = .ok (.irem, 1) := by decide +kernel
theorem dL_lay_157 : decode cL_lay 157 = .ok (.iconst 1, 1) := by decide +kernel
theorem dL_lay_158 : decode cL_lay 158 = .ok (.iadd, 1) := by decide +kernel
theorem dL_lay_159 : decode cL_lay 159 = .ok (.istore 14, 2) := by decide +kernel
theorem dL_lay_161 : decode cL_lay 161 = .ok (.iload 14, 2) := by decide +kernel
theorem dL_lay_163 : decode cL_lay 163 = .ok (.iload_n 3, 1) := by decide +kernel
theorem dL_lay_164 : decode cL_lay 164 = .ok (.if_icmp .gt 17, 3) := by decide +kernel
theorem dL_lay_167 : decode cL_lay 167 = .ok (.iload 13, 2) := by decide +kernel
theorem dL_lay_169 : decode cL_lay 169 = .ok (.iload 14, 2) := by decide +kernel
theorem dL_lay_171 : decode cL_lay 171 = .ok (.iadd, 1) := by decide +kernel
theorem dL_lay_172 : decode cL_lay 172 = .ok (.iload 7, 2) := by decide +kernel
theorem dL_lay_174 : decode cL_lay 174 = .ok (.if_icmp .gt 7, 3) := by decide +kernel
theorem dL_lay_177 : decode cL_lay 177 = .ok (.iconst 1, 1) := by decide +kernel
theorem dL_lay_178 : decode cL_lay 178 = .ok (.goto 4, 3) := by decide +kernel
theorem dL_lay_181 : decode cL_lay 181 = .ok (.iconst 0, 1) := by decide +kernel
theorem dL_lay_182 : decode cL_lay 182 = .ok (.istore 15, 2) := by decide +kernel
theorem dL_lay_184 : decode cL_lay 184 = .ok (.iload 13, 2) := by decide +kernel
theorem dL_lay_186 : decode cL_lay 186 = .ok (.istore 16, 2) := by decide +kernel
theorem dL_lay_188 : decode cL_lay 188 = .ok (.iload 15, 2) := by decide +kernel
theorem dL_lay_190 : decode cL_lay 190 = .ok (.ifCond .eq 37, 3) := by decide +kernel
theorem dL_lay_193 : decode cL_lay 193 = .ok (.iload 16, 2) := by decide +kernel
theorem dL_lay_195 : decode cL_lay 195 = .ok (.iload 13, 2) := by decide +kernel
theorem dL_lay_197 : decode cL_lay 197 = .ok (.iload 14, 2) := by decide +kernel
theorem dL_lay_199 : decode cL_lay 199 = .ok (.iadd, 1) := by decide +kernel
theorem dL_lay_200 : decode cL_lay 200 = .ok (.if_icmp .ge 27, 3) := by decide +kernel
theorem dL_lay_203 : decode cL_lay 203 = .ok (.iload 9, 2) := by decide +kernel
theorem dL_lay_205 : decode cL_lay 205 = .ok (.iload 16, 2) := by decide +kernel
theorem dL_lay_207 : decode cL_lay 207 = .ok (.ishr, 1) := by decide +kernel
theorem dL_lay_208 : decode cL_lay 208 = .ok (.iconst 1, 1) := by decide +kernel
theorem dL_lay_209 : decode cL_lay 209 = .ok (.iand, 1) := by decide +kernel
theorem dL_lay_210 : decode cL_lay 210 = .ok (.iconst 1, 1) := by decide +kernel
theorem dL_lay_211 : decode cL_lay 211 = .ok (.if_icmp .ne 7, 3) := by decide +kernel
theorem dL_lay_214 : decode cL_lay 214 = .ok (.iconst 1, 1) := by decide +kernel
theorem dL_lay_215 : decode cL_lay 215 = .ok (.goto 4, 3) := by decide +kernel
theorem dL_lay_218 : decode cL_lay 218 = .ok (.iconst 0, 1) := by decide +kernel
theorem dL_lay_219 : decode cL_lay 219 = .ok (.istore 15, 2) := by decide +kernel
theorem dL_lay_221 : decode cL_lay 221 = .ok (.iinc 16 1, 3) := by decide +kernel
theorem dL_lay_224 : decode cL_lay 224 = .ok (.goto (-36), 3) := by decide +kernel
theorem dL_lay_227 : decode cL_lay 227 = .ok (.iload 15, 2) := by decide +kernel
theorem dL_lay_229 : decode cL_lay 229 = .ok (.ifCond .ne 6, 3) := by decide +kernel
theorem dL_lay_232 : decode cL_lay 232 = .ok (.goto (-123), 3) := by decide +kernel
theorem dL_lay_235 : decode cL_lay 235 = .ok (.iload 11, 2) := by decide +kernel
theorem dL_lay_237 : decode cL_lay 237 = .ok (.iconst 1, 1) := by decide +kernel
theorem dL_lay_238 : decode cL_lay 238 = .ok (.iadd, 1) := by decide +kernel
theorem dL_lay_239 : decode cL_lay 239 = .ok (.iload_n 0, 1) := by decide +kernel
theorem dL_lay_240 : decode cL_lay 240 = .ok (.if_icmp .ge 27, 3) := by decide +kernel
theorem dL_lay_243 : decode cL_lay 243 = .ok (.iinc 11 1, 3) := by decide +kernel
theorem dL_lay_246 : decode cL_lay 246 = .ok (.aload 6, 2) := by decide +kernel
theorem dL_lay_248 : decode cL_lay 248 = .ok (.bipush 16, 2) := by decide +kernel
theorem dL_lay_250 : decode cL_lay 250 = .ok (.iload 11, 2) := by decide +kernel
theorem dL_lay_252 : decode cL_lay 252 = .ok (.iadd, 1) := by decide +kernel
theorem dL_lay_253 : decode cL_lay 253 = .ok (.bipush 8, 2) := by decide +kernel
theorem dL_lay_255 : decode cL_lay 255 = .ok (.iload 13, 2) := by decide +kernel
theorem dL_lay_257 : decode cL_lay 257 = .ok (.iload 14, 2) := by decide +kernel
theorem dL_lay_259 : decode cL_lay 259 = .ok (.iadd, 1) := by decide +kernel
theorem dL_lay_260 : decode cL_lay 260 = .ok (.imul, 1) := by decide +kernel
theorem dL_lay_261 : decode cL_lay 261 = .ok (.iconst 1, 1) := by decide +kernel
theorem dL_lay_262 : decode cL_lay 262 = .ok (.isub, 1) := by decide +kernel
theorem dL_lay_263 : decode cL_lay 263 = .ok (.iastore, 1) := by decide +kernel
theorem dL_lay_264 : decode cL_lay 264 = .ok (.goto (-155), 3) := by decide +kernel
theorem dL_lay_267 : decode cL_lay 267 = .ok (.iconst 0, 1) := by decide +kernel
theorem dL_lay_268 : decode cL_lay 268 = .ok (.istore 16, 2) := by decide +kernel
theorem dL_lay_270 : decode cL_lay 270 = .ok (.iload 10, 2) := by decide +kernel
theorem dL_lay_272 : decode cL_lay 272 = .ok (.istore 17, 2) := by decide +kernel
theorem dL_lay_274 : decode cL_lay 274 = .ok (.iconst 0, 1) := by decide +kernel
theorem dL_lay_275 : decode cL_lay 275 = .ok (.istore 18, 2) := by decide +kernel
theorem dL_lay_277 : decode cL_lay 277 = .ok (.iconst 0, 1) := by decide +kernel
theorem dL_lay_278 : decode cL_lay 278 = .ok (.istore 19, 2) := by decide +kernel
theorem dL_lay_280 : decode cL_lay 280 = .ok (.iload 19, 2) := by decide +kernel
theorem dL_lay_282 : decode cL_lay 282 = .ok (.iload_n 0, 1) := by decide +kernel
theorem dL_lay_283 : decode cL_lay 283 = .ok (.if_icmp .ge 83, 3) := by decide +kernel
theorem dL_lay_286 : decode cL_lay 286 = .ok (.iload 17, 2) := by decide +kernel
theorem dL_lay_288 : decode cL_lay 288 = .ok (.aload 6, 2) := by decide +kernel
theorem dL_lay_290 : decode cL_lay 290 = .ok (.bipush 16, 2) := by decide +kernel
theorem dL_lay_292 : decode cL_lay 292 = .ok (.iload 19, 2) := by decide +kernel
theorem dL_lay_294 : decode cL_lay 294 = .ok (.iadd, 1) := by decide +kernel
theorem dL_lay_295 : decode cL_lay 295 = .ok (.iaload, 1) := by decide +kernel
theorem dL_lay_296 : decode cL_lay 296 = .ok (.bipush 8, 2) := by decide +kernel
theorem dL_lay_298 : decode cL_lay 298 = .ok (.irem, 1) := by decide +kernel
theorem dL_lay_299 : decode cL_lay 299 = .ok (.iconst 1, 1) := by decide +kernel
theorem dL_lay_300 : decode cL_lay 300 = .ok (.iadd, 1) := by decide +kernel
theorem dL_lay_301 : decode cL_lay 301 = .ok (.isub, 1) := by decide +kernel
theorem dL_lay_302 : decode cL_lay 302 = .ok (.istore 17, 2) := by decide +kernel
theorem dL_lay_304 : decode cL_lay 304 = .ok (.iload 16, 2) := by decide +kernel
theorem dL_lay_306 : decode cL_lay 306 = .ok (.aload 4, 2) := by decide +kernel
theorem dL_lay_308 : decode cL_lay 308 = .ok (.iconst 1, 1) := by decide +kernel
theorem dL_lay_309 : decode cL_lay 309 = .ok (.iaload, 1) := by decide +kernel
theorem dL_lay_310 : decode cL_lay 310 = .ok (.aload 6, 2) := by decide +kernel
theorem dL_lay_312 : decode cL_lay 312 = .ok (.bipush 16, 2) := by decide +kernel
theorem dL_lay_314 : decode cL_lay 314 = .ok (.iload 19, 2) := by decide +kernel
theorem dL_lay_316 : decode cL_lay 316 = .ok (.iadd, 1) := by decide +kernel
theorem dL_lay_317 : decode cL_lay 317 = .ok (.iaload, 1) := by decide +kernel
theorem dL_lay_318 : decode cL_lay 318 = .ok (.bipush 8, 2) := by decide +kernel
theorem dL_lay_320 : decode cL_lay 320 = .ok (.irem, 1) := by decide +kernel
theorem dL_lay_321 : decode cL_lay 321 = .ok (.imul, 1) := by decide +kernel
theorem dL_lay_322 : decode cL_lay 322 = .ok (.iadd, 1) := by decide +kernel
theorem dL_lay_323 : decode cL_lay 323 = .ok (.istore 16, 2) := by decide +kernel
theorem dL_lay_325 : decode cL_lay 325 = .ok (.iload 18, 2) := by decide +kernel
theorem dL_lay_327 : decode cL_lay 327 = .ok (.iload_n 1, 1) := by decide +kernel
theorem dL_lay_328 : decode cL_lay 328 = .ok (.iload 19, 2) := by decide +kernel
theorem dL_lay_330 : decode cL_lay 330 = .ok (.ishr, 1) := by decide +kernel
theorem dL_lay_331 : decode cL_lay 331 = .ok (.iconst 1, 1) := by decide +kernel
theorem dL_lay_332 : decode cL_lay 332 = .ok (.iand, 1) := by decide +kernel
theorem dL_lay_333 : decode cL_lay 333 = .ok (.iload 8, 2) := by decide +kernel
theorem dL_lay_335 : decode cL_lay 335 = .ok (.aload 6, 2) := by decide +kernel
theorem dL_lay_337 : decode cL_lay 337 = .ok (.bipush 16, 2) := by decide +kernel
theorem dL_lay_339 : decode cL_lay 339 = .ok (.iload 19, 2) := by decide +kernel
theorem dL_lay_341 : decode cL_lay 341 = .ok (.iadd, 1) := by decide +kernel
theorem dL_lay_342 : decode cL_lay 342 = .ok (.iaload, 1) := by decide +kernel
theorem dL_lay_343 : decode cL_lay 343 = .ok (.bipush 8, 2) := by decide +kernel
theorem dL_lay_345 : decode cL_lay 345 = .ok (.idiv, 1) := by decide +kernel
theorem dL_lay_346 : decode cL_lay 346 = .ok (.ishr, 1) := by decide +kernel
theorem dL_lay_347 : decode cL_lay 347 = .ok (.iconst 1, 1) := by decide +kernel
theorem dL_lay_348 : decode cL_lay 348 = .ok (.iand, 1) := by decide +kernel
theorem dL_lay_349 : decode cL_lay 349 = .ok (.if_icmp .eq 7, 3) := by decide +kernel
theorem dL_lay_352 : decode cL_lay 352 = .ok (.iconst 1, 1) := by decide +kernel
theorem dL_lay_353 : decode cL_lay 353 = .ok (.goto 4, 3) := by decide +kernel
theorem dL_lay_356 : decode cL_lay 356 = .ok (.iconst 0, 1) := by decide +kernel
theorem dL_lay_357 : decode cL_lay 357 = .ok (.iadd, 1) := by decide +kernel
theorem dL_lay_358 : decode cL_lay 358 = .ok (.istore 18, 2) := by decide +kernel
theorem dL_lay_360 : decode cL_lay 360 = .ok (.iinc 19 1, 3) := by decide +kernel
theorem dL_lay_363 : decode cL_lay 363 = .ok (.goto (-83), 3) := by decide +kernel
theorem dL_lay_366 : decode cL_lay 366 = .ok (.iload 16, 2) := by decide +kernel
theorem dL_lay_368 : decode cL_lay 368 = .ok (.aload 4, 2) := by decide +kernel
theorem dL_lay_370 : decode cL_lay 370 = .ok (.iconst 2, 1) := by decide +kernel
theorem dL_lay_371 : decode cL_lay 371 = .ok (.iaload, 1) := by decide +kernel
theorem dL_lay_372 : decode cL_lay 372 = .ok (.iload 17, 2) := by decide +kernel
theorem dL_lay_374 : decode cL_lay 374 = .ok (.imul, 1) := by decide +kernel
theorem dL_lay_375 : decode cL_lay 375 = .ok (.aload 4, 2) := by decide +kernel
theorem dL_lay_377 : decode cL_lay 377 = .ok (.iconst 3, 1) := by decide +kernel
theorem dL_lay_378 : decode cL_lay 378 = .ok (.iaload, 1) := by decide +kernel
theorem dL_lay_379 : decode cL_lay 379 = .ok (.iload 18, 2) := by decide +kernel
theorem dL_lay_381 : decode cL_lay 381 = .ok (.imul, 1) := by decide +kernel
theorem dL_lay_382 : decode cL_lay 382 = .ok (.iadd, 1) := by decide +kernel
theorem dL_lay_383 : decode cL_lay 383 = .ok (.iadd, 1) := by decide +kernel
theorem dL_lay_384 : decode cL_lay 384 = .ok (.istore 16, 2) := by decide +kernel
theorem dL_lay_386 : decode cL_lay 386 = .ok (.aload 6, 2) := by decide +kernel
theorem dL_lay_388 : decode cL_lay 388 = .ok (.iconst 1, 1) := by decide +kernel
theorem dL_lay_389 : decode cL_lay 389 = .ok (.dup2, 1) := by decide +kernel
theorem dL_lay_390 : decode cL_lay 390 = .ok (.iaload, 1) := by decide +kernel
theorem dL_lay_391 : decode cL_lay 391 = .ok (.iconst 1, 1) := by decide +kernel
theorem dL_lay_392 : decode cL_lay 392 = .ok (.iadd, 1) := by decide +kernel
theorem dL_lay_393 : decode cL_lay 393 = .ok (.iastore, 1) := by decide +kernel
theorem dL_lay_394 : decode cL_lay 394 = .ok (.aload 6, 2) := by decide +kernel
theorem dL_lay_396 : decode cL_lay 396 = .ok (.iconst 0, 1) := by decide +kernel
theorem dL_lay_397 : decode cL_lay 397 = .ok (.iaload, 1) := by decide +kernel
theorem dL_lay_398 : decode cL_lay 398 = .ok (.ifCond .lt 15, 3) := by decide +kernel
theorem dL_lay_401 : decode cL_lay 401 = .ok (.iload 16, 2) := by decide +kernel
theorem dL_lay_403 : decode cL_lay 403 = .ok (.aload 6, 2) := by decide +kernel
theorem dL_lay_405 : decode cL_lay 405 = .ok (.iconst 0, 1) := by decide +kernel
theorem dL_lay_406 : decode cL_lay 406 = .ok (.iaload, 1) := by decide +kernel
theorem dL_lay_407 : decode cL_lay 407 = .ok (.if_icmp .le 6, 3) := by decide +kernel
theorem dL_lay_410 : decode cL_lay 410 = .ok (.goto (-301), 3) := by decide +kernel
theorem dL_lay_413 : decode cL_lay 413 = .ok (.aload 6, 2) := by decide +kernel
theorem dL_lay_415 : decode cL_lay 415 = .ok (.iconst 0, 1) := by decide +kernel
theorem dL_lay_416 : decode cL_lay 416 = .ok (.iaload, 1) := by decide +kernel
theorem dL_lay_417 : decode cL_lay 417 = .ok (.ifCond .lt 23, 3) := by decide +kernel
theorem dL_lay_420 : decode cL_lay 420 = .ok (.iload 16, 2) := by decide +kernel
theorem dL_lay_422 : decode cL_lay 422 = .ok (.aload 6, 2) := by decide +kernel
theorem dL_lay_424 : decode cL_lay 424 = .ok (.iconst 0, 1) := by decide +kernel
theorem dL_lay_425 : decode cL_lay 425 = .ok (.iaload, 1) := by decide +kernel
theorem dL_lay_426 : decode cL_lay 426 = .ok (.if_icmp .ne 14, 3) := by decide +kernel
theorem dL_lay_429 : decode cL_lay 429 = .ok (.aload 6, 2) := by decide +kernel
theorem dL_lay_431 : decode cL_lay 431 = .ok (.iconst 2, 1) := by decide +kernel
theorem dL_lay_432 : decode cL_lay 432 = .ok (.dup2, 1) := by decide +kernel
theorem dL_lay_433 : decode cL_lay 433 = .ok (.iaload, 1) := by decide +kernel
theorem dL_lay_434 : decode cL_lay 434 = .ok (.iconst 1, 1) := by decide +kernel
theorem dL_lay_435 : decode cL_lay 435 = .ok (.iadd, 1) := by decide +kernel
theorem dL_lay_436 : decode cL_lay 436 = .ok (.iastore, 1) := by decide +kernel
theorem dL_lay_437 : decode cL_lay 437 = .ok (.goto (-328), 3) := by decide +kernel
theorem dL_lay_440 : decode cL_lay 440 = .ok (.aload 6, 2) := by decide +kernel
theorem dL_lay_442 : decode cL_lay 442 = .ok (.iconst 0, 1) := by decide +kernel
theorem dL_lay_443 : decode cL_lay 443 = .ok (.iload 16, 2) := by decide +kernel
theorem dL_lay_445 : decode cL_lay 445 = .ok (.iastore, 1) := by decide +kernel
theorem dL_lay_446 : decode cL_lay 446 = .ok (.aload 6, 2) := by decide +kernel
theorem dL_lay_448 : decode cL_lay 448 = .ok (.iconst 2, 1) := by decide +kernel
theorem dL_lay_449 : decode cL_lay 449 = .ok (.iconst 1, 1) := by decide +kernel
theorem dL_lay_450 : decode cL_lay 450 = .ok (.iastore, 1) := by decide +kernel
theorem dL_lay_451 : decode cL_lay 451 = .ok (.aload 6, 2) := by decide +kernel
theorem dL_lay_453 : decode cL_lay 453 = .ok (.iconst 3, 1) := by decide +kernel
theorem dL_lay_454 : decode cL_lay 454 = .ok (.iload 17, 2) := by decide +kernel
theorem dL_lay_456 : decode cL_lay 456 = .ok (.iastore, 1) := by decide +kernel
theorem dL_lay_457 : decode cL_lay 457 = .ok (.aload 6, 2) := by decide +kernel
theorem dL_lay_459 : decode cL_lay 459 = .ok (.iconst 4, 1) := by decide +kernel
theorem dL_lay_460 : decode cL_lay 460 = .ok (.iload 18, 2) := by decide +kernel
theorem dL_lay_462 : decode cL_lay 462 = .ok (.iastore, 1) := by decide +kernel
theorem dL_lay_463 : decode cL_lay 463 = .ok (.iconst 0, 1) := by decide +kernel
theorem dL_lay_464 : decode cL_lay 464 = .ok (.istore 19, 2) := by decide +kernel
theorem dL_lay_466 : decode cL_lay 466 = .ok (.iload 19, 2) := by decide +kernel
theorem dL_lay_468 : decode cL_lay 468 = .ok (.iload_n 0, 1) := by decide +kernel
theorem dL_lay_469 : decode cL_lay 469 = .ok (.if_icmp .ge 25, 3) := by decide +kernel
theorem dL_lay_472 : decode cL_lay 472 = .ok (.aload 6, 2) := by decide +kernel
theorem dL_lay_474 : decode cL_lay 474 = .ok (.bipush 8, 2) := by decide +kernel
theorem dL_lay_476 : decode cL_lay 476 = .ok (.iload 19, 2) := by decide +kernel
theorem dL_lay_478 : decode cL_lay 478 = .ok (.iadd, 1) := by decide +kernel
theorem dL_lay_479 : decode cL_lay 479 = .ok (.aload 6, 2) := by decide +kernel
theorem dL_lay_481 : decode cL_lay 481 = .ok (.bipush 16, 2) := by decide +kernel
theorem dL_lay_483 : decode cL_lay 483 = .ok (.iload 19, 2) := by decide +kernel
theorem dL_lay_485 : decode cL_lay 485 = .ok (.iadd, 1) := by decide +kernel
theorem dL_lay_486 : decode cL_lay 486 = .ok (.iaload, 1) := by decide +kernel
theorem dL_lay_487 : decode cL_lay 487 = .ok (.iastore, 1) := by decide +kernel
theorem dL_lay_488 : decode cL_lay 488 = .ok (.iinc 19 1, 3) := by decide +kernel
theorem dL_lay_491 : decode cL_lay 491 = .ok (.goto (-25), 3) := by decide +kernel
theorem dL_lay_494 : decode cL_lay 494 = .ok (.goto (-385), 3) := by decide +kernel
theorem dL_lay_497 : decode cL_lay 497 = .ok (.return_, 1) := by decide +kernel
theorem dL_sung_0 : decode cL_sung 0 = .ok (.iconst 0, 1) := by decide +kernel
theorem dL_sung_1 : decode cL_sung 1 = .ok (.istore_n 3, 1) := by decide +kernel
theorem dL_sung_2 : decode cL_sung 2 = .ok (.iconst 0, 1) := by decide +kernel
theorem dL_sung_3 : decode cL_sung 3 = .ok (.istore 4, 2) := by decide +kernel
theorem dL_sung_5 : decode cL_sung 5 = .ok (.iload 4, 2) := by decide +kernel
theorem dL_sung_7 : decode cL_sung 7 = .ok (.aload_n 1, 1) := by decide +kernel
theorem dL_sung_8 : decode cL_sung 8 = .ok (.bipush 6, 2) := by decide +kernel
theorem dL_sung_10 : decode cL_sung 10 = .ok (.iaload, 1) := by decide +kernel
theorem dL_sung_11 : decode cL_sung 11 = .ok (.if_icmp .ge 25, 3) := by decide +kernel
theorem dL_sung_14 : decode cL_sung 14 = .ok (.iload_n 3, 1) := by decide +kernel
theorem dL_sung_15 : decode cL_sung 15 = .ok (.aload_n 2, 1) := by decide +kernel
theorem dL_sung_16 : decode cL_sung 16 = .ok (.iload 4, 2) := by decide +kernel
theorem dL_sung_18 : decode cL_sung 18 = .ok (.iaload, 1) := by decide +kernel
theorem dL_sung_19 : decode cL_sung 19 = .ok (.iload_n 0, 1) := by decide +kernel
theorem dL_sung_20 : decode cL_sung 20 = .ok (.if_icmp .ne 7, 3) := by decide +kernel
theorem dL_sung_23 : decode cL_sung 23 = .ok (.iconst 1, 1) := by decide +kernel
theorem dL_sung_24 : decode cL_sung 24 = .ok (.goto 4, 3) := by decide +kernel
theorem dL_sung_27 : decode cL_sung 27 = .ok (.iconst 0, 1) := by decide +kernel
theorem dL_sung_28 : decode cL_sung 28 = .ok (.iadd, 1) := by decide +kernel
theorem dL_sung_29 : decode cL_sung 29 = .ok (.istore_n 3, 1) := by decide +kernel
theorem dL_sung_30 : decode cL_sung 30 = .ok (.iinc 4 1, 3) := by decide +kernel
theorem dL_sung_33 : decode cL_sung 33 = .ok (.goto (-28), 3) := by decide +kernel
theorem dL_sung_36 : decode cL_sung 36 = .ok (.iload_n 3, 1) := by decide +kernel
theorem dL_sung_37 : decode cL_sung 37 = .ok (.ireturn, 1) := by decide +kernel
theorem dL_bits_0 : decode cL_bits 0 = .ok (.iconst 0, 1) := by decide +kernel
theorem dL_bits_1 : decode cL_bits 1 = .ok (.istore_n 1, 1) := by decide +kernel
theorem dL_bits_2 : decode cL_bits 2 = .ok (.iload_n 0, 1) := by decide +kernel
theorem dL_bits_3 : decode cL_bits 3 = .ok (.istore_n 2, 1) := by decide +kernel
theorem dL_bits_4 : decode cL_bits 4 = .ok (.iload_n 2, 1) := by decide +kernel
theorem dL_bits_5 : decode cL_bits 5 = .ok (.ifCond .eq 15, 3) := by decide +kernel
theorem dL_bits_8 : decode cL_bits 8 = .ok (.iinc 1 1, 3) := by decide +kernel
theorem dL_bits_11 : decode cL_bits 11 = .ok (.iload_n 2, 1) := by decide +kernel
theorem dL_bits_12 : decode cL_bits 12 = .ok (.iload_n 2, 1) := by decide +kernel
theorem dL_bits_13 : decode cL_bits 13 = .ok (.iconst 1, 1) := by decide +kernel
theorem dL_bits_14 : decode cL_bits 14 = .ok (.isub, 1) := by decide +kernel
theorem dL_bits_15 : decode cL_bits 15 = .ok (.iand, 1) := by decide +kernel
theorem dL_bits_16 : decode cL_bits 16 = .ok (.istore_n 2, 1) := by decide +kernel
theorem dL_bits_17 : decode cL_bits 17 = .ok (.goto (-13), 3) := by decide +kernel
theorem dL_bits_20 : decode cL_bits 20 = .ok (.iload_n 1, 1) := by decide +kernel
theorem dL_bits_21 : decode cL_bits 21 = .ok (.ireturn, 1) := by decide +kernel
theorem dL_same_0 : decode cL_same 0 = .ok (.iconst 0, 1) := by decide +kernel
theorem dL_same_1 : decode cL_same 1 = .ok (.istore 7, 2) := by decide +kernel
theorem dL_same_3 : decode cL_same 3 = .ok (.iconst 0, 1) := by decide +kernel
theorem dL_same_4 : decode cL_same 4 = .ok (.istore 8, 2) := by decide +kernel
theorem dL_same_6 : decode cL_same 6 = .ok (.iload 8, 2) := by decide +kernel
theorem dL_same_8 : decode cL_same 8 = .ok (.aload_n 1, 1) := by decide +kernel
theorem dL_same_9 : decode cL_same 9 = .ok (.iconst 4, 1) := by decide +kernel
theorem dL_same_10 : decode cL_same 10 = .ok (.iaload, 1) := by decide +kernel
theorem dL_same_11 : decode cL_same 11 = .ok (.if_icmp .ge 398, 3) := by decide +kernel
theorem dL_same_14 : decode cL_same 14 = .ok (.bipush (-6), 2) := by decide +kernel
theorem dL_same_16 : decode cL_same 16 = .ok (.istore 9, 2) := by decide +kernel
theorem dL_same_18 : decode cL_same 18 = .ok (.iconst 0, 1) := by decide +kernel
theorem dL_same_19 : decode cL_same 19 = .ok (.istore 10, 2) := by decide +kernel
theorem dL_same_21 : decode cL_same 21 = .ok (.iload 8, 2) := by decide +kernel
theorem dL_same_23 : decode cL_same 23 = .ok (.aload_n 1, 1) := by decide +kernel
theorem dL_same_24 : decode cL_same 24 = .ok (.aload 4, 2) := by decide +kernel
theorem dL_same_26 : decode cL_same 26 = .ok (.invokestatic 10, 3) := by decide +kernel
theorem dL_same_29 : decode cL_same 29 = .ok (.istore 11, 2) := by decide +kernel
theorem dL_same_31 : decode cL_same 31 = .ok (.iload 7, 2) := by decide +kernel
theorem dL_same_33 : decode cL_same 33 = .ok (.iload 11, 2) := by decide +kernel
theorem dL_same_35 : decode cL_same 35 = .ok (.iconst 1, 1) := by decide +kernel
theorem dL_same_36 : decode cL_same 36 = .ok (.if_icmp .le 7, 3) := by decide +kernel
theorem dL_same_39 : decode cL_same 39 = .ok (.iconst 1, 1) := by decide +kernel
theorem dL_same_40 : decode cL_same 40 = .ok (.goto 4, 3) := by decide +kernel
theorem dL_same_43 : decode cL_same 43 = .ok (.iconst 0, 1) := by decide +kernel
theorem dL_same_44 : decode cL_same 44 = .ok (.iadd, 1) := by decide +kernel
theorem dL_same_45 : decode cL_same 45 = .ok (.istore 7, 2) := by decide +kernel
theorem dL_same_47 : decode cL_same 47 = .ok (.iconst 0, 1) := by decide +kernel
theorem dL_same_48 : decode cL_same 48 = .ok (.istore 12, 2) := by decide +kernel
theorem dL_same_50 : decode cL_same 50 = .ok (.iload 12, 2) := by decide +kernel
theorem dL_same_52 : decode cL_same 52 = .ok (.aload_n 1, 1) := by decide +kernel
theorem dL_same_53 : decode cL_same 53 = .ok (.iconst 5, 1) := by decide +kernel
theorem dL_same_54 : decode cL_same 54 = .ok (.iaload, 1) := by decide +kernel
theorem dL_same_55 : decode cL_same 55 = .ok (.if_icmp .ge 202, 3) := by decide +kernel
theorem dL_same_58 : decode cL_same 58 = .ok (.aload_n 2, 1) := by decide +kernel
theorem dL_same_59 : decode cL_same 59 = .ok (.iconst 2, 1) := by decide +kernel
theorem dL_same_60 : decode cL_same 60 = .ok (.iload 8, 2) := by decide +kernel
theorem dL_same_62 : decode cL_same 62 = .ok (.imul, 1) := by decide +kernel
theorem dL_same_63 : decode cL_same 63 = .ok (.iaload, 1) := by decide +kernel
theorem dL_same_64 : decode cL_same 64 = .ok (.aload_n 2, 1) := by decide +kernel
theorem dL_same_65 : decode cL_same 65 = .ok (.iconst 2, 1) := by decide +kernel
theorem dL_same_66 : decode cL_same 66 = .ok (.iload 8, 2) := by decide +kernel
theorem dL_same_68 : decode cL_same 68 = .ok (.imul, 1) := by decide +kernel
theorem dL_same_69 : decode cL_same 69 = .ok (.iconst 1, 1) := by decide +kernel
theorem dL_same_70 : decode cL_same 70 = .ok (.iadd, 1) := by decide +kernel
theorem dL_same_71 : decode cL_same 71 = .ok (.iaload, 1) := by decide +kernel
theorem dL_same_72 : decode cL_same 72 = .ok (.iload 12, 2) := by decide +kernel
theorem dL_same_74 : decode cL_same 74 = .ok (.aload_n 1, 1) := by decide +kernel
theorem dL_same_75 : decode cL_same 75 = .ok (.iconst 0, 1) := by decide +kernel
theorem dL_same_76 : decode cL_same 76 = .ok (.iaload, 1) := by decide +kernel
theorem dL_same_77 : decode cL_same 77 = .ok (.aload_n 1, 1) := by decide +kernel
theorem dL_same_78 : decode cL_same 78 = .ok (.aload_n 3, 1) := by decide +kernel
theorem dL_same_79 : decode cL_same 79 = .ok (.aload 6, 2) := by decide +kernel
theorem dL_same_81 : decode cL_same 81 = .ok (.invokestatic 16, 3) := by decide +kernel
theorem dL_same_84 : decode cL_same 84 = .ok (.iconst 0, 1) := by decide +kernel
theorem dL_same_85 : decode cL_same 85 = .ok (.istore 13, 2) := by decide +kernel
theorem dL_same_87 : decode cL_same 87 = .ok (.iload 13, 2) := by decide +kernel
theorem dL_same_89 : decode cL_same 89 = .ok (.iconst 5, 1) := by decide +kernel
theorem dL_same_90 : decode cL_same 90 = .ok (.if_icmp .ge 29, 3) := by decide +kernel
theorem dL_same_93 : decode cL_same 93 = .ok (.aload_n 0, 1) := by decide +kernel
theorem dL_same_94 : decode cL_same 94 = .ok (.iload 8, 2) := by decide +kernel
theorem dL_same_96 : decode cL_same 96 = .ok (.iload 12, 2) := by decide +kernel
theorem dL_same_98 : decode cL_same 98 = .ok (.iload 13, 2) := by decide +kernel
theorem dL_same_100 : decode cL_same 100 = .ok (.invokevirtual 20, 3) := by decide +kernel
theorem dL_same_103 : decode cL_same 103 = .ok (.aload 6, 2) := by decide +kernel
theorem dL_same_105 : decode cL_same 105 = .ok (.iload 13, 2) := by decide +kernel
theorem dL_same_107 : decode cL_same 107 = .ok (.iaload, 1) := by decide +kernel
theorem dL_same_108 : decode cL_same 108 = .ok (.if_icmp .eq 5, 3) := by decide +kernel
theorem dL_same_111 : decode cL_same 111 = .ok (.iconst 0, 1) := by decide +kernel
theorem dL_same_112 : decode cL_same 112 = .ok (.ireturn, 1) := by decide +kernel
theorem dL_same_113 : decode cL_same 113 = .ok (.iinc 13 1, 3) := by decide +kernel
theorem dL_same_116 : decode cL_same 116 = .ok (.goto (-29), 3) := by decide +kernel
theorem dL_same_119 : decode cL_same 119 = .ok (.iconst 0, 1) := by decide +kernel
theorem dL_same_120 : decode cL_same 120 = .ok (.istore 13, 2) := by decide +kernel
theorem dL_same_122 : decode cL_same 122 = .ok (.iload 13, 2) := by decide +kernel
theorem dL_same_124 : decode cL_same 124 = .ok (.aload_n 2, 1) := by decide +kernel
theorem dL_same_125 : decode cL_same 125 = .ok (.iconst 2, 1) := by decide +kernel
theorem dL_same_126 : decode cL_same 126 = .ok (.iload 8, 2) := by decide +kernel
theorem dL_same_128 : decode cL_same 128 = .ok (.imul, 1) := by decide +kernel
theorem dL_same_129 : decode cL_same 129 = .ok (.iaload, 1) := by decide +kernel
theorem dL_same_130 : decode cL_same 130 = .ok (.if_icmp .ge 87, 3) := by decide +kernel
theorem dL_same_133 : decode cL_same 133 = .ok (.aload_n 0, 1) := by decide +kernel
theorem dL_same_134 : decode cL_same 134 = .ok (.iload 8, 2) := by decide +kernel
theorem dL_same_136 : decode cL_same 136 = .ok (.iload 12, 2) := by decide +kernel
theorem dL_same_138 : decode cL_same 138 = .ok (.iload 13, 2) := by decide +kernel
theorem dL_same_140 : decode cL_same 140 = .ok (.iconst 0, 1) := by decide +kernel
theorem dL_same_141 : decode cL_same 141 = .ok (.invokevirtual 26, 3) := by decide +kernel
theorem dL_same_144 : decode cL_same 144 = .ok (.aload 6, 2) := by decide +kernel
theorem dL_same_146 : decode cL_same 146 = .ok (.iconst 0, 1) := by decide +kernel
theorem dL_same_147 : decode cL_same 147 = .ok (.iaload, 1) := by decide +kernel
theorem dL_same_148 : decode cL_same 148 = .ok (.ifCond .ge 8, 3) := by decide +kernel
theorem dL_same_151 : decode cL_same 151 = .ok (.bipush (-6), 2) := by decide +kernel
theorem dL_same_153 : decode cL_same 153 = .ok (.goto 14, 3) := by decide +kernel
theorem dL_same_156 : decode cL_same 156 = .ok (.aload 6, 2) := by decide +kernel
theorem dL_same_158 : decode cL_same 158 = .ok (.bipush 8, 2) := by decide +kernel
theorem dL_same_160 : decode cL_same 160 = .ok (.iload 13, 2) := by decide +kernel
theorem dL_same_162 : decode cL_same 162 = .ok (.iadd, 1) := by decide +kernel
theorem dL_same_163 : decode cL_same 163 = .ok (.iaload, 1) := by decide +kernel
theorem dL_same_164 : decode cL_same 164 = .ok (.bipush 8, 2) := by decide +kernel
theorem dL_same_166 : decode cL_same 166 = .ok (.idiv, 1) := by decide +kernel
theorem dL_same_167 : decode cL_same 167 = .ok (.if_icmp .ne 42, 3) := by decide +kernel
theorem dL_same_170 : decode cL_same 170 = .ok (.aload_n 0, 1) := by decide +kernel
theorem dL_same_171 : decode cL_same 171 = .ok (.iload 8, 2) := by decide +kernel
theorem dL_same_173 : decode cL_same 173 = .ok (.iload 12, 2) := by decide +kernel
theorem dL_same_175 : decode cL_same 175 = .ok (.iload 13, 2) := by decide +kernel
theorem dL_same_177 : decode cL_same 177 = .ok (.iconst 1, 1) := by decide +kernel
theorem dL_same_178 : decode cL_same 178 = .ok (.invokevirtual 26, 3) := by decide +kernel
theorem dL_same_181 : decode cL_same 181 = .ok (.aload 6, 2) := by decide +kernel
theorem dL_same_183 : decode cL_same 183 = .ok (.iconst 0, 1) := by decide +kernel
theorem dL_same_184 : decode cL_same 184 = .ok (.iaload, 1) := by decide +kernel
theorem dL_same_185 : decode cL_same 185 = .ok (.ifCond .ge 8, 3) := by decide +kernel
theorem dL_same_188 : decode cL_same 188 = .ok (.bipush (-6), 2) := by decide +kernel
theorem dL_same_190 : decode cL_same 190 = .ok (.goto 16, 3) := by decide +kernel
theorem dL_same_193 : decode cL_same 193 = .ok (.aload 6, 2) := by decide +kernel
theorem dL_same_195 : decode cL_same 195 = .ok (.bipush 8, 2) := by decide +kernel
theorem dL_same_197 : decode cL_same 197 = .ok (.iload 13, 2) := by decide +kernel
theorem dL_same_199 : decode cL_same 199 = .ok (.iadd, 1) := by decide +kernel
theorem dL_same_200 : decode cL_same 200 = .ok (.iaload, 1) := by decide +kernel
theorem dL_same_201 : decode cL_same 201 = .ok (.bipush 8, 2) := by decide +kernel
theorem dL_same_203 : decode cL_same 203 = .ok (.irem, 1) := by decide +kernel
theorem dL_same_204 : decode cL_same 204 = .ok (.iconst 1, 1) := by decide +kernel
theorem dL_same_205 : decode cL_same 205 = .ok (.iadd, 1) := by decide +kernel
theorem dL_same_206 : decode cL_same 206 = .ok (.if_icmp .eq 5, 3) := by decide +kernel
theorem dL_same_209 : decode cL_same 209 = .ok (.iconst 0, 1) := by decide +kernel
theorem dL_same_210 : decode cL_same 210 = .ok (.ireturn, 1) := by decide +kernel
theorem dL_same_211 : decode cL_same 211 = .ok (.iinc 13 1, 3) := by decide +kernel
theorem dL_same_214 : decode cL_same 214 = .ok (.goto (-92), 3) := by decide +kernel
theorem dL_same_217 : decode cL_same 217 = .ok (.aload 6, 2) := by decide +kernel
theorem dL_same_219 : decode cL_same 219 = .ok (.iconst 0, 1) := by decide +kernel
theorem dL_same_220 : decode cL_same 220 = .ok (.iaload, 1) := by decide +kernel
theorem dL_same_221 : decode cL_same 221 = .ok (.ifCond .lt 30, 3) := by decide +kernel
theorem dL_same_224 : decode cL_same 224 = .ok (.iload 9, 2) := by decide +kernel
theorem dL_same_226 : decode cL_same 226 = .ok (.ifCond .lt 15, 3) := by decide +kernel
theorem dL_same_229 : decode cL_same 229 = .ok (.aload 6, 2) := by decide +kernel
theorem dL_same_231 : decode cL_same 231 = .ok (.iconst 0, 1) := by decide +kernel
theorem dL_same_232 : decode cL_same 232 = .ok (.iaload, 1) := by decide +kernel
theorem dL_same_233 : decode cL_same 233 = .ok (.iload 10, 2) := by decide +kernel
theorem dL_same_235 : decode cL_same 235 = .ok (.if_icmp .lt 6, 3) := by decide +kernel
theorem dL_same_238 : decode cL_same 238 = .ok (.goto 13, 3) := by decide +kernel
theorem dL_same_241 : decode cL_same 241 = .ok (.iload 12, 2) := by decide +kernel
theorem dL_same_243 : decode cL_same 243 = .ok (.istore 9, 2) := by decide +kernel
theorem dL_same_245 : decode cL_same 245 = .ok (.aload 6, 2) := by decide +kernel
theorem dL_same_247 : decode cL_same 247 = .ok (.iconst 0, 1) := by decide +kernel
theorem dL_same_248 : decode cL_same 248 = .ok (.iaload, 1) := by decide +kernel
theorem dL_same_249 : decode cL_same 249 = .ok (.istore 10, 2) := by decide +kernel
theorem dL_same_251 : decode cL_same 251 = .ok (.iinc 12 1, 3) := by decide +kernel
theorem dL_same_254 : decode cL_same 254 = .ok (.goto (-204), 3) := by decide +kernel
theorem dL_same_257 : decode cL_same 257 = .ok (.iconst 0, 1) := by decide +kernel
theorem dL_same_258 : decode cL_same 258 = .ok (.istore 12, 2) := by decide +kernel
theorem dL_same_260 : decode cL_same 260 = .ok (.iload 12, 2) := by decide +kernel
theorem dL_same_262 : decode cL_same 262 = .ok (.aload_n 2, 1) := by decide +kernel
theorem dL_same_263 : decode cL_same 263 = .ok (.iconst 2, 1) := by decide +kernel
theorem dL_same_264 : decode cL_same 264 = .ok (.iload 8, 2) := by decide +kernel
theorem dL_same_266 : decode cL_same 266 = .ok (.imul, 1) := by decide +kernel
theorem dL_same_267 : decode cL_same 267 = .ok (.iaload, 1) := by decide +kernel
theorem dL_same_268 : decode cL_same 268 = .ok (.if_icmp .ge 35, 3) := by decide +kernel
theorem dL_same_271 : decode cL_same 271 = .ok (.aload_n 0, 1) := by decide +kernel
theorem dL_same_272 : decode cL_same 272 = .ok (.iload 8, 2) := by decide +kernel
theorem dL_same_274 : decode cL_same 274 = .ok (.iload 12, 2) := by decide +kernel
theorem dL_same_276 : decode cL_same 276 = .ok (.invokevirtual 30, 3) := by decide +kernel
theorem dL_same_279 : decode cL_same 279 = .ok (.aload_n 2, 1) := by decide +kernel
theorem dL_same_280 : decode cL_same 280 = .ok (.iconst 2, 1) := by decide +kernel
theorem dL_same_281 : decode cL_same 281 = .ok (.iload 8, 2) := by decide +kernel
theorem dL_same_283 : decode cL_same 283 = .ok (.imul, 1) := by decide +kernel
theorem dL_same_284 : decode cL_same 284 = .ok (.iconst 1, 1) := by decide +kernel
theorem dL_same_285 : decode cL_same 285 = .ok (.iadd, 1) := by decide +kernel
theorem dL_same_286 : decode cL_same 286 = .ok (.iaload, 1) := by decide +kernel
theorem dL_same_287 : decode cL_same 287 = .ok (.iload 12, 2) := by decide +kernel
theorem dL_same_289 : decode cL_same 289 = .ok (.ishr, 1) := by decide +kernel
theorem dL_same_290 : decode cL_same 290 = .ok (.iconst 1, 1) := by decide +kernel
theorem dL_same_291 : decode cL_same 291 = .ok (.iand, 1) := by decide +kernel
theorem dL_same_292 : decode cL_same 292 = .ok (.if_icmp .eq 5, 3) := by decide +kernel
theorem dL_same_295 : decode cL_same 295 = .ok (.iconst 0, 1) := by decide +kernel
theorem dL_same_296 : decode cL_same 296 = .ok (.ireturn, 1) := by decide +kernel
theorem dL_same_297 : decode cL_same 297 = .ok (.iinc 12 1, 3) := by decide +kernel
theorem dL_same_300 : decode cL_same 300 = .ok (.goto (-40), 3) := by decide +kernel
theorem dL_same_303 : decode cL_same 303 = .ok (.aload_n 0, 1) := by decide +kernel
theorem dL_same_304 : decode cL_same 304 = .ok (.iload 8, 2) := by decide +kernel
theorem dL_same_306 : decode cL_same 306 = .ok (.iconst 0, 1) := by decide +kernel
theorem dL_same_307 : decode cL_same 307 = .ok (.invokevirtual 34, 3) := by decide +kernel
theorem dL_same_310 : decode cL_same 310 = .ok (.aload_n 2, 1) := by decide +kernel
theorem dL_same_311 : decode cL_same 311 = .ok (.iconst 2, 1) := by decide +kernel
theorem dL_same_312 : decode cL_same 312 = .ok (.iload 8, 2) := by decide +kernel
theorem dL_same_314 : decode cL_same 314 = .ok (.imul, 1) := by decide +kernel
theorem dL_same_315 : decode cL_same 315 = .ok (.iaload, 1) := by decide +kernel
theorem dL_same_316 : decode cL_same 316 = .ok (.if_icmp .ne 85, 3) := by decide +kernel
theorem dL_same_319 : decode cL_same 319 = .ok (.aload_n 0, 1) := by decide +kernel
theorem dL_same_320 : decode cL_same 320 = .ok (.iload 8, 2) := by decide +kernel
theorem dL_same_322 : decode cL_same 322 = .ok (.iconst 1, 1) := by decide +kernel
theorem dL_same_323 : decode cL_same 323 = .ok (.invokevirtual 34, 3) := by decide +kernel
theorem dL_same_326 : decode cL_same 326 = .ok (.aload_n 2, 1) := by decide +kernel
theorem dL_same_327 : decode cL_same 327 = .ok (.iconst 2, 1) := by decide +kernel
theorem dL_same_328 : decode cL_same 328 = .ok (.iload 8, 2) := by decide +kernel
theorem dL_same_330 : decode cL_same 330 = .ok (.imul, 1) := by decide +kernel
theorem dL_same_331 : decode cL_same 331 = .ok (.iconst 1, 1) := by decide +kernel
theorem dL_same_332 : decode cL_same 332 = .ok (.iadd, 1) := by decide +kernel
theorem dL_same_333 : decode cL_same 333 = .ok (.iaload, 1) := by decide +kernel
theorem dL_same_334 : decode cL_same 334 = .ok (.invokestatic 37, 3) := by decide +kernel
theorem dL_same_337 : decode cL_same 337 = .ok (.if_icmp .ne 64, 3) := by decide +kernel
theorem dL_same_340 : decode cL_same 340 = .ok (.aload_n 0, 1) := by decide +kernel
theorem dL_same_341 : decode cL_same 341 = .ok (.iload 8, 2) := by decide +kernel
theorem dL_same_343 : decode cL_same 343 = .ok (.iconst 2, 1) := by decide +kernel
theorem dL_same_344 : decode cL_same 344 = .ok (.invokevirtual 34, 3) := by decide +kernel
theorem dL_same_347 : decode cL_same 347 = .ok (.iload 11, 2) := by decide +kernel
theorem dL_same_349 : decode cL_same 349 = .ok (.if_icmp .ne 52, 3) := by decide +kernel
theorem dL_same_352 : decode cL_same 352 = .ok (.aload_n 0, 1) := by decide +kernel
theorem dL_same_353 : decode cL_same 353 = .ok (.iload 8, 2) := by decide +kernel
theorem dL_same_355 : decode cL_same 355 = .ok (.iconst 3, 1) := by decide +kernel
theorem dL_same_356 : decode cL_same 356 = .ok (.invokevirtual 34, 3) := by decide +kernel
theorem dL_same_359 : decode cL_same 359 = .ok (.iload 11, 2) := by decide +kernel
theorem dL_same_361 : decode cL_same 361 = .ok (.iconst 1, 1) := by decide +kernel
theorem dL_same_362 : decode cL_same 362 = .ok (.if_icmp .le 7, 3) := by decide +kernel
theorem dL_same_365 : decode cL_same 365 = .ok (.iconst 1, 1) := by decide +kernel
theorem dL_same_366 : decode cL_same 366 = .ok (.goto 4, 3) := by decide +kernel
theorem dL_same_369 : decode cL_same 369 = .ok (.iconst 0, 1) := by decide +kernel
theorem dL_same_370 : decode cL_same 370 = .ok (.if_icmp .ne 31, 3) := by decide +kernel
theorem dL_same_373 : decode cL_same 373 = .ok (.aload_n 0, 1) := by decide +kernel
theorem dL_same_374 : decode cL_same 374 = .ok (.iload 8, 2) := by decide +kernel
theorem dL_same_376 : decode cL_same 376 = .ok (.iconst 4, 1) := by decide +kernel
theorem dL_same_377 : decode cL_same 377 = .ok (.invokevirtual 34, 3) := by decide +kernel
theorem dL_same_380 : decode cL_same 380 = .ok (.iload 9, 2) := by decide +kernel
theorem dL_same_382 : decode cL_same 382 = .ok (.if_icmp .ne 19, 3) := by decide +kernel
theorem dL_same_385 : decode cL_same 385 = .ok (.aload_n 0, 1) := by decide +kernel
theorem dL_same_386 : decode cL_same 386 = .ok (.iload 8, 2) := by decide +kernel
theorem dL_same_388 : decode cL_same 388 = .ok (.aload_n 2, 1) := by decide +kernel
theorem dL_same_389 : decode cL_same 389 = .ok (.iconst 2, 1) := by decide +kernel
theorem dL_same_390 : decode cL_same 390 = .ok (.iload 8, 2) := by decide +kernel
theorem dL_same_392 : decode cL_same 392 = .ok (.imul, 1) := by decide +kernel
theorem dL_same_393 : decode cL_same 393 = .ok (.iaload, 1) := by decide +kernel
theorem dL_same_394 : decode cL_same 394 = .ok (.invokevirtual 30, 3) := by decide +kernel
theorem dL_same_397 : decode cL_same 397 = .ok (.iconst (-1), 1) := by decide +kernel
theorem dL_same_398 : decode cL_same 398 = .ok (.if_icmp .eq 5, 3) := by decide +kernel
theorem dL_same_401 : decode cL_same 401 = .ok (.iconst 0, 1) := by decide +kernel
theorem dL_same_402 : decode cL_same 402 = .ok (.ireturn, 1) := by decide +kernel
theorem dL_same_403 : decode cL_same 403 = .ok (.iinc 8 1, 3) := by decide +kernel
theorem dL_same_406 : decode cL_same 406 = .ok (.goto (-400), 3) := by decide +kernel
theorem dL_same_409 : decode cL_same 409 = .ok (.iconst 0, 1) := by decide +kernel
theorem dL_same_410 : decode cL_same 410 = .ok (.istore 8, 2) := by decide +kernel
theorem dL_same_412 : decode cL_same 412 = .ok (.iload 8, 2) := by decide +kernel
theorem dL_same_414 : decode cL_same 414 = .ok (.aload_n 1, 1) := by decide +kernel
theorem dL_same_415 : decode cL_same 415 = .ok (.iconst 5, 1) := by decide +kernel
theorem dL_same_416 : decode cL_same 416 = .ok (.iaload, 1) := by decide +kernel
theorem dL_same_417 : decode cL_same 417 = .ok (.if_icmp .ge 275, 3) := by decide +kernel
theorem dL_same_420 : decode cL_same 420 = .ok (.aload_n 3, 1) := by decide +kernel
theorem dL_same_421 : decode cL_same 421 = .ok (.iconst 3, 1) := by decide +kernel
theorem dL_same_422 : decode cL_same 422 = .ok (.iload 8, 2) := by decide +kernel
theorem dL_same_424 : decode cL_same 424 = .ok (.imul, 1) := by decide +kernel
theorem dL_same_425 : decode cL_same 425 = .ok (.iaload, 1) := by decide +kernel
theorem dL_same_426 : decode cL_same 426 = .ok (.istore 9, 2) := by decide +kernel
theorem dL_same_428 : decode cL_same 428 = .ok (.iconst 0, 1) := by decide +kernel
theorem dL_same_429 : decode cL_same 429 = .ok (.istore 10, 2) := by decide +kernel
theorem dL_same_431 : decode cL_same 431 = .ok (.iconst 0, 1) := by decide +kernel
theorem dL_same_432 : decode cL_same 432 = .ok (.istore 11, 2) := by decide +kernel
theorem dL_same_434 : decode cL_same 434 = .ok (.iconst 0, 1) := by decide +kernel
theorem dL_same_435 : decode cL_same 435 = .ok (.istore 12, 2) := by decide +kernel
theorem dL_same_437 : decode cL_same 437 = .ok (.iconst 0, 1) := by decide +kernel
theorem dL_same_438 : decode cL_same 438 = .ok (.istore 13, 2) := by decide +kernel
theorem dL_same_440 : decode cL_same 440 = .ok (.iload 13, 2) := by decide +kernel
theorem dL_same_442 : decode cL_same 442 = .ok (.iload 9, 2) := by decide +kernel
theorem dL_same_444 : decode cL_same 444 = .ok (.if_icmp .ge 86, 3) := by decide +kernel
theorem dL_same_447 : decode cL_same 447 = .ok (.aload_n 3, 1) := by decide +kernel
theorem dL_same_448 : decode cL_same 448 = .ok (.iconst 3, 1) := by decide +kernel
theorem dL_same_449 : decode cL_same 449 = .ok (.iload 8, 2) := by decide +kernel
theorem dL_same_451 : decode cL_same 451 = .ok (.imul, 1) := by decide +kernel
theorem dL_same_452 : decode cL_same 452 = .ok (.iconst 1, 1) := by decide +kernel
theorem dL_same_453 : decode cL_same 453 = .ok (.iadd, 1) := by decide +kernel
theorem dL_same_454 : decode cL_same 454 = .ok (.iaload, 1) := by decide +kernel
theorem dL_same_455 : decode cL_same 455 = .ok (.iload 13, 2) := by decide +kernel
theorem dL_same_457 : decode cL_same 457 = .ok (.ishr, 1) := by decide +kernel
theorem dL_same_458 : decode cL_same 458 = .ok (.iconst 1, 1) := by decide +kernel
theorem dL_same_459 : decode cL_same 459 = .ok (.iand, 1) := by decide +kernel
theorem dL_same_460 : decode cL_same 460 = .ok (.iconst 2, 1) := by decide +kernel
theorem dL_same_461 : decode cL_same 461 = .ok (.imul, 1) := by decide +kernel
theorem dL_same_462 : decode cL_same 462 = .ok (.aload_n 3, 1) := by decide +kernel
theorem dL_same_463 : decode cL_same 463 = .ok (.iconst 3, 1) := by decide +kernel
theorem dL_same_464 : decode cL_same 464 = .ok (.iload 8, 2) := by decide +kernel
theorem dL_same_466 : decode cL_same 466 = .ok (.imul, 1) := by decide +kernel
theorem dL_same_467 : decode cL_same 467 = .ok (.iconst 2, 1) := by decide +kernel
theorem dL_same_468 : decode cL_same 468 = .ok (.iadd, 1) := by decide +kernel
theorem dL_same_469 : decode cL_same 469 = .ok (.iaload, 1) := by decide +kernel
theorem dL_same_470 : decode cL_same 470 = .ok (.iload 13, 2) := by decide +kernel
theorem dL_same_472 : decode cL_same 472 = .ok (.ishr, 1) := by decide +kernel
theorem dL_same_473 : decode cL_same 473 = .ok (.iconst 1, 1) := by decide +kernel
theorem dL_same_474 : decode cL_same 474 = .ok (.iand, 1) := by decide +kernel
theorem dL_same_475 : decode cL_same 475 = .ok (.iadd, 1) := by decide +kernel
theorem dL_same_476 : decode cL_same 476 = .ok (.istore 14, 2) := by decide +kernel
theorem dL_same_478 : decode cL_same 478 = .ok (.iload 14, 2) := by decide +kernel
theorem dL_same_480 : decode cL_same 480 = .ok (.ifCond .ne 7, 3) := by decide +kernel
theorem dL_same_483 : decode cL_same 483 = .ok (.iconst 0, 1) := by decide +kernel
theorem dL_same_484 : decode cL_same 484 = .ok (.goto 7, 3) := by decide +kernel
theorem dL_same_487 : decode cL_same 487 = .ok (.iload 10, 2) := by decide +kernel
theorem dL_same_489 : decode cL_same 489 = .ok (.iconst 1, 1) := by decide +kernel
theorem dL_same_490 : decode cL_same 490 = .ok (.iadd, 1) := by decide +kernel
theorem dL_same_491 : decode cL_same 491 = .ok (.istore 10, 2) := by decide +kernel
theorem dL_same_493 : decode cL_same 493 = .ok (.iload 10, 2) := by decide +kernel
theorem dL_same_495 : decode cL_same 495 = .ok (.iload 11, 2) := by decide +kernel
theorem dL_same_497 : decode cL_same 497 = .ok (.if_icmp .le 8, 3) := by decide +kernel
theorem dL_same_500 : decode cL_same 500 = .ok (.iload 10, 2) := by decide +kernel
theorem dL_same_502 : decode cL_same 502 = .ok (.goto 5, 3) := by decide +kernel
theorem dL_same_505 : decode cL_same 505 = .ok (.iload 11, 2) := by decide +kernel
theorem dL_same_507 : decode cL_same 507 = .ok (.istore 11, 2) := by decide +kernel
theorem dL_same_509 : decode cL_same 509 = .ok (.aload_n 0, 1) := by decide +kernel
theorem dL_same_510 : decode cL_same 510 = .ok (.iload 8, 2) := by decide +kernel
theorem dL_same_512 : decode cL_same 512 = .ok (.iload 13, 2) := by decide +kernel
theorem dL_same_514 : decode cL_same 514 = .ok (.invokevirtual 41, 3) := by decide +kernel
theorem dL_same_517 : decode cL_same 517 = .ok (.iload 14, 2) := by decide +kernel
theorem dL_same_519 : decode cL_same 519 = .ok (.if_icmp .eq 5, 3) := by decide +kernel
theorem dL_same_522 : decode cL_same 522 = .ok (.iconst 0, 1) := by decide +kernel
theorem dL_same_523 : decode cL_same 523 = .ok (.ireturn, 1) := by decide +kernel
theorem dL_same_524 : decode cL_same 524 = .ok (.iinc 13 1, 3) := by decide +kernel
theorem dL_same_527 : decode cL_same 527 = .ok (.goto (-87), 3) := by decide +kernel
theorem dL_same_530 : decode cL_same 530 = .ok (.iconst 0, 1) := by decide +kernel
theorem dL_same_531 : decode cL_same 531 = .ok (.istore 13, 2) := by decide +kernel
theorem dL_same_533 : decode cL_same 533 = .ok (.iload 13, 2) := by decide +kernel
theorem dL_same_535 : decode cL_same 535 = .ok (.aload_n 1, 1) := by decide +kernel
theorem dL_same_536 : decode cL_same 536 = .ok (.bipush 7, 2) := by decide +kernel
theorem dL_same_538 : decode cL_same 538 = .ok (.iaload, 1) := by decide +kernel
theorem dL_same_539 : decode cL_same 539 = .ok (.if_icmp .ge 29, 3) := by decide +kernel
theorem dL_same_542 : decode cL_same 542 = .ok (.iload 12, 2) := by decide +kernel
theorem dL_same_544 : decode cL_same 544 = .ok (.aload 5, 2) := by decide +kernel
theorem dL_same_546 : decode cL_same 546 = .ok (.iload 13, 2) := by decide +kernel
theorem dL_same_548 : decode cL_same 548 = .ok (.iaload, 1) := by decide +kernel
theorem dL_same_549 : decode cL_same 549 = .ok (.iload 8, 2) := by decide +kernel
theorem dL_same_551 : decode cL_same 551 = .ok (.if_icmp .ne 7, 3) := by decide +kernel
theorem dL_same_554 : decode cL_same 554 = .ok (.iconst 1, 1) := by decide +kernel
theorem dL_same_555 : decode cL_same 555 = .ok (.goto 4, 3) := by decide +kernel
theorem dL_same_558 : decode cL_same 558 = .ok (.iconst 0, 1) := by decide +kernel
theorem dL_same_559 : decode cL_same 559 = .ok (.iadd, 1) := by decide +kernel
theorem dL_same_560 : decode cL_same 560 = .ok (.istore 12, 2) := by decide +kernel
theorem dL_same_562 : decode cL_same 562 = .ok (.iinc 13 1, 3) := by decide +kernel
theorem dL_same_565 : decode cL_same 565 = .ok (.goto (-32), 3) := by decide +kernel
theorem dL_same_568 : decode cL_same 568 = .ok (.aload_n 3, 1) := by decide +kernel
theorem dL_same_569 : decode cL_same 569 = .ok (.iconst 3, 1) := by decide +kernel
theorem dL_same_570 : decode cL_same 570 = .ok (.iload 8, 2) := by decide +kernel
theorem dL_same_572 : decode cL_same 572 = .ok (.imul, 1) := by decide +kernel
theorem dL_same_573 : decode cL_same 573 = .ok (.iconst 1, 1) := by decide +kernel
theorem dL_same_574 : decode cL_same 574 = .ok (.iadd, 1) := by decide +kernel
theorem dL_same_575 : decode cL_same 575 = .ok (.iaload, 1) := by decide +kernel
theorem dL_same_576 : decode cL_same 576 = .ok (.invokestatic 37, 3) := by decide +kernel
theorem dL_same_579 : decode cL_same 579 = .ok (.istore 13, 2) := by decide +kernel
theorem dL_same_581 : decode cL_same 581 = .ok (.aload_n 3, 1) := by decide +kernel
theorem dL_same_582 : decode cL_same 582 = .ok (.iconst 3, 1) := by decide +kernel
theorem dL_same_583 : decode cL_same 583 = .ok (.iload 8, 2) := by decide +kernel
theorem dL_same_585 : decode cL_same 585 = .ok (.imul, 1) := by decide +kernel
theorem dL_same_586 : decode cL_same 586 = .ok (.iconst 2, 1) := by decide +kernel
theorem dL_same_587 : decode cL_same 587 = .ok (.iadd, 1) := by decide +kernel
theorem dL_same_588 : decode cL_same 588 = .ok (.iaload, 1) := by decide +kernel
theorem dL_same_589 : decode cL_same 589 = .ok (.invokestatic 37, 3) := by decide +kernel
theorem dL_same_592 : decode cL_same 592 = .ok (.istore 14, 2) := by decide +kernel
theorem dL_same_594 : decode cL_same 594 = .ok (.aload_n 0, 1) := by decide +kernel
theorem dL_same_595 : decode cL_same 595 = .ok (.iload 8, 2) := by decide +kernel
theorem dL_same_597 : decode cL_same 597 = .ok (.iconst 0, 1) := by decide +kernel
theorem dL_same_598 : decode cL_same 598 = .ok (.invokevirtual 44, 3) := by decide +kernel
theorem dL_same_601 : decode cL_same 601 = .ok (.iload 9, 2) := by decide +kernel
theorem dL_same_603 : decode cL_same 603 = .ok (.if_icmp .ne 81, 3) := by decide +kernel
theorem dL_same_606 : decode cL_same 606 = .ok (.aload_n 0, 1) := by decide +kernel
theorem dL_same_607 : decode cL_same 607 = .ok (.iload 8, 2) := by decide +kernel
theorem dL_same_609 : decode cL_same 609 = .ok (.iconst 1, 1) := by decide +kernel
theorem dL_same_610 : decode cL_same 610 = .ok (.invokevirtual 44, 3) := by decide +kernel
theorem dL_same_613 : decode cL_same 613 = .ok (.iload 13, 2) := by decide +kernel
theorem dL_same_615 : decode cL_same 615 = .ok (.if_icmp .ne 69, 3) := by decide +kernel
theorem dL_same_618 : decode cL_same 618 = .ok (.aload_n 0, 1) := by decide +kernel
theorem dL_same_619 : decode cL_same 619 = .ok (.iload 8, 2) := by decide +kernel
theorem dL_same_621 : decode cL_same 621 = .ok (.iconst 2, 1) := by decide +kernel
theorem dL_same_622 : decode cL_same 622 = .ok (.invokevirtual 44, 3) := by decide +kernel
theorem dL_same_625 : decode cL_same 625 = .ok (.iload 14, 2) := by decide +kernel
theorem dL_same_627 : decode cL_same 627 = .ok (.if_icmp .ne 57, 3) := by decide +kernel
theorem dL_same_630 : decode cL_same 630 = .ok (.aload_n 0, 1) := by decide +kernel
theorem dL_same_631 : decode cL_same 631 = .ok (.iload 8, 2) := by decide +kernel
theorem dL_same_633 : decode cL_same 633 = .ok (.iconst 3, 1) := by decide +kernel
theorem dL_same_634 : decode cL_same 634 = .ok (.invokevirtual 44, 3) := by decide +kernel
theorem dL_same_637 : decode cL_same 637 = .ok (.iload 9, 2) := by decide +kernel
theorem dL_same_639 : decode cL_same 639 = .ok (.iload 13, 2) := by decide +kernel
theorem dL_same_641 : decode cL_same 641 = .ok (.isub, 1) := by decide +kernel
theorem dL_same_642 : decode cL_same 642 = .ok (.iload 14, 2) := by decide +kernel
theorem dL_same_644 : decode cL_same 644 = .ok (.isub, 1) := by decide +kernel
theorem dL_same_645 : decode cL_same 645 = .ok (.if_icmp .ne 39, 3) := by decide +kernel
theorem dL_same_648 : decode cL_same 648 = .ok (.aload_n 0, 1) := by decide +kernel
theorem dL_same_649 : decode cL_same 649 = .ok (.iload 8, 2) := by decide +kernel
theorem dL_same_651 : decode cL_same 651 = .ok (.iconst 4, 1) := by decide +kernel
theorem dL_same_652 : decode cL_same 652 = .ok (.invokevirtual 44, 3) := by decide +kernel
theorem dL_same_655 : decode cL_same 655 = .ok (.iload 12, 2) := by decide +kernel
theorem dL_same_657 : decode cL_same 657 = .ok (.if_icmp .ne 27, 3) := by decide +kernel
theorem dL_same_660 : decode cL_same 660 = .ok (.aload_n 0, 1) := by decide +kernel
theorem dL_same_661 : decode cL_same 661 = .ok (.iload 8, 2) := by decide +kernel
theorem dL_same_663 : decode cL_same 663 = .ok (.iconst 5, 1) := by decide +kernel
theorem dL_same_664 : decode cL_same 664 = .ok (.invokevirtual 44, 3) := by decide +kernel
theorem dL_same_667 : decode cL_same 667 = .ok (.iload 11, 2) := by decide +kernel
theorem dL_same_669 : decode cL_same 669 = .ok (.if_icmp .ne 15, 3) := by decide +kernel
theorem dL_same_672 : decode cL_same 672 = .ok (.aload_n 0, 1) := by decide +kernel
theorem dL_same_673 : decode cL_same 673 = .ok (.iload 8, 2) := by decide +kernel
theorem dL_same_675 : decode cL_same 675 = .ok (.iload 9, 2) := by decide +kernel
theorem dL_same_677 : decode cL_same 677 = .ok (.invokevirtual 41, 3) := by decide +kernel
theorem dL_same_680 : decode cL_same 680 = .ok (.iconst (-1), 1) := by decide +kernel
theorem dL_same_681 : decode cL_same 681 = .ok (.if_icmp .eq 5, 3) := by decide +kernel
theorem dL_same_684 : decode cL_same 684 = .ok (.iconst 0, 1) := by decide +kernel
theorem dL_same_685 : decode cL_same 685 = .ok (.ireturn, 1) := by decide +kernel
theorem dL_same_686 : decode cL_same 686 = .ok (.iinc 8 1, 3) := by decide +kernel
theorem dL_same_689 : decode cL_same 689 = .ok (.goto (-277), 3) := by decide +kernel
theorem dL_same_692 : decode cL_same 692 = .ok (.iconst 0, 1) := by decide +kernel
theorem dL_same_693 : decode cL_same 693 = .ok (.istore 8, 2) := by decide +kernel
theorem dL_same_695 : decode cL_same 695 = .ok (.iload 8, 2) := by decide +kernel
theorem dL_same_697 : decode cL_same 697 = .ok (.aload_n 1, 1) := by decide +kernel
theorem dL_same_698 : decode cL_same 698 = .ok (.bipush 6, 2) := by decide +kernel
theorem dL_same_700 : decode cL_same 700 = .ok (.iaload, 1) := by decide +kernel
theorem dL_same_701 : decode cL_same 701 = .ok (.if_icmp .ge 26, 3) := by decide +kernel
theorem dL_same_704 : decode cL_same 704 = .ok (.aload_n 0, 1) := by decide +kernel
theorem dL_same_705 : decode cL_same 705 = .ok (.iconst 0, 1) := by decide +kernel
theorem dL_same_706 : decode cL_same 706 = .ok (.iload 8, 2) := by decide +kernel
theorem dL_same_708 : decode cL_same 708 = .ok (.invokevirtual 47, 3) := by decide +kernel
theorem dL_same_711 : decode cL_same 711 = .ok (.aload 4, 2) := by decide +kernel
theorem dL_same_713 : decode cL_same 713 = .ok (.iload 8, 2) := by decide +kernel
theorem dL_same_715 : decode cL_same 715 = .ok (.iaload, 1) := by decide +kernel
theorem dL_same_716 : decode cL_same 716 = .ok (.if_icmp .eq 5, 3) := by decide +kernel
theorem dL_same_719 : decode cL_same 719 = .ok (.iconst 0, 1) := by decide +kernel
theorem dL_same_720 : decode cL_same 720 = .ok (.ireturn, 1) := by decide +kernel
theorem dL_same_721 : decode cL_same 721 = .ok (.iinc 8 1, 3) := by decide +kernel
theorem dL_same_724 : decode cL_same 724 = .ok (.goto (-29), 3) := by decide +kernel
theorem dL_same_727 : decode cL_same 727 = .ok (.iconst 0, 1) := by decide +kernel
theorem dL_same_728 : decode cL_same 728 = .ok (.istore 8, 2) := by decide +kernel
theorem dL_same_730 : decode cL_same 730 = .ok (.iload 8, 2) := by decide +kernel
theorem dL_same_732 : decode cL_same 732 = .ok (.aload_n 1, 1) := by decide +kernel
theorem dL_same_733 : decode cL_same 733 = .ok (.bipush 7, 2) := by decide +kernel
theorem dL_same_735 : decode cL_same 735 = .ok (.iaload, 1) := by decide +kernel
theorem dL_same_736 : decode cL_same 736 = .ok (.if_icmp .ge 26, 3) := by decide +kernel
theorem dL_same_739 : decode cL_same 739 = .ok (.aload_n 0, 1) := by decide +kernel
theorem dL_same_740 : decode cL_same 740 = .ok (.iconst 1, 1) := by decide +kernel
theorem dL_same_741 : decode cL_same 741 = .ok (.iload 8, 2) := by decide +kernel
theorem dL_same_743 : decode cL_same 743 = .ok (.invokevirtual 47, 3) := by decide +kernel
theorem dL_same_746 : decode cL_same 746 = .ok (.aload 5, 2) := by decide +kernel
theorem dL_same_748 : decode cL_same 748 = .ok (.iload 8, 2) := by decide +kernel
theorem dL_same_750 : decode cL_same 750 = .ok (.iaload, 1) := by decide +kernel
theorem dL_same_751 : decode cL_same 751 = .ok (.if_icmp .eq 5, 3) := by decide +kernel
theorem dL_same_754 : decode cL_same 754 = .ok (.iconst 0, 1) := by decide +kernel
theorem dL_same_755 : decode cL_same 755 = .ok (.ireturn, 1) := by decide +kernel
theorem dL_same_756 : decode cL_same 756 = .ok (.iinc 8 1, 3) := by decide +kernel
theorem dL_same_759 : decode cL_same 759 = .ok (.goto (-29), 3) := by decide +kernel
theorem dL_same_762 : decode cL_same 762 = .ok (.iconst 0, 1) := by decide +kernel
theorem dL_same_763 : decode cL_same 763 = .ok (.istore 8, 2) := by decide +kernel
theorem dL_same_765 : decode cL_same 765 = .ok (.iload 8, 2) := by decide +kernel
theorem dL_same_767 : decode cL_same 767 = .ok (.iconst 4, 1) := by decide +kernel
theorem dL_same_768 : decode cL_same 768 = .ok (.if_icmp .ge 41, 3) := by decide +kernel
theorem dL_same_771 : decode cL_same 771 = .ok (.aload_n 0, 1) := by decide +kernel
theorem dL_same_772 : decode cL_same 772 = .ok (.iload 8, 2) := by decide +kernel
theorem dL_same_774 : decode cL_same 774 = .ok (.invokevirtual 51, 3) := by decide +kernel
theorem dL_same_777 : decode cL_same 777 = .ok (.aload_n 1, 1) := by decide +kernel
theorem dL_same_778 : decode cL_same 778 = .ok (.iconst 4, 1) := by decide +kernel
theorem dL_same_779 : decode cL_same 779 = .ok (.iload 8, 2) := by decide +kernel
theorem dL_same_781 : decode cL_same 781 = .ok (.iadd, 1) := by decide +kernel
theorem dL_same_782 : decode cL_same 782 = .ok (.iaload, 1) := by decide +kernel
theorem dL_same_783 : decode cL_same 783 = .ok (.if_icmp .ne 18, 3) := by decide +kernel
theorem dL_same_786 : decode cL_same 786 = .ok (.aload_n 0, 1) := by decide +kernel
theorem dL_same_787 : decode cL_same 787 = .ok (.iconst 5, 1) := by decide +kernel
theorem dL_same_788 : decode cL_same 788 = .ok (.iload 8, 2) := by decide +kernel
theorem dL_same_790 : decode cL_same 790 = .ok (.iadd, 1) := by decide +kernel
theorem dL_same_791 : decode cL_same 791 = .ok (.invokevirtual 51, 3) := by decide +kernel
theorem dL_same_794 : decode cL_same 794 = .ok (.aload_n 1, 1) := by decide +kernel
theorem dL_same_795 : decode cL_same 795 = .ok (.iload 8, 2) := by decide +kernel
theorem dL_same_797 : decode cL_same 797 = .ok (.iaload, 1) := by decide +kernel
theorem dL_same_798 : decode cL_same 798 = .ok (.if_icmp .eq 5, 3) := by decide +kernel
theorem dL_same_801 : decode cL_same 801 = .ok (.iconst 0, 1) := by decide +kernel
theorem dL_same_802 : decode cL_same 802 = .ok (.ireturn, 1) := by decide +kernel
theorem dL_same_803 : decode cL_same 803 = .ok (.iinc 8 1, 3) := by decide +kernel
theorem dL_same_806 : decode cL_same 806 = .ok (.goto (-41), 3) := by decide +kernel
theorem dL_same_809 : decode cL_same 809 = .ok (.aload_n 0, 1) := by decide +kernel
theorem dL_same_810 : decode cL_same 810 = .ok (.iconst 4, 1) := by decide +kernel
theorem dL_same_811 : decode cL_same 811 = .ok (.invokevirtual 51, 3) := by decide +kernel
theorem dL_same_814 : decode cL_same 814 = .ok (.iload 7, 2) := by decide +kernel
theorem dL_same_816 : decode cL_same 816 = .ok (.if_icmp .ne 33, 3) := by decide +kernel
theorem dL_same_819 : decode cL_same 819 = .ok (.aload_n 0, 1) := by decide +kernel
theorem dL_same_820 : decode cL_same 820 = .ok (.iconst 0, 1) := by decide +kernel
theorem dL_same_821 : decode cL_same 821 = .ok (.aload_n 1, 1) := by decide +kernel
theorem dL_same_822 : decode cL_same 822 = .ok (.bipush 6, 2) := by decide +kernel
theorem dL_same_824 : decode cL_same 824 = .ok (.iaload, 1) := by decide +kernel
theorem dL_same_825 : decode cL_same 825 = .ok (.invokevirtual 47, 3) := by decide +kernel
theorem dL_same_828 : decode cL_same 828 = .ok (.iconst (-1), 1) := by decide +kernel
theorem dL_same_829 : decode cL_same 829 = .ok (.if_icmp .ne 20, 3) := by decide +kernel
theorem dL_same_832 : decode cL_same 832 = .ok (.aload_n 0, 1) := by decide +kernel
theorem dL_same_833 : decode cL_same 833 = .ok (.iconst 1, 1) := by decide +kernel
theorem dL_same_834 : decode cL_same 834 = .ok (.aload_n 1, 1) := by decide +kernel
theorem dL_same_835 : decode cL_same 835 = .ok (.bipush 7, 2) := by decide +kernel
theorem dL_same_837 : decode cL_same 837 = .ok (.iaload, 1) := by decide +kernel
theorem dL_same_838 : decode cL_same 838 = .ok (.invokevirtual 47, 3) := by decide +kernel
theorem dL_same_841 : decode cL_same 841 = .ok (.iconst (-1), 1) := by decide +kernel
theorem dL_same_842 : decode cL_same 842 = .ok (.if_icmp .ne 7, 3) := by decide +kernel
theorem dL_same_845 : decode cL_same 845 = .ok (.iconst 1, 1) := by decide +kernel
theorem dL_same_846 : decode cL_same 846 = .ok (.goto 4, 3) := by decide +kernel
theorem dL_same_849 : decode cL_same 849 = .ok (.iconst 0, 1) := by decide +kernel
theorem dL_same_850 : decode cL_same 850 = .ok (.ireturn, 1) := by decide +kernel
theorem dL_whole_0 : decode cL_whole 0 = .ok (.bipush (-6), 2) := by decide +kernel
theorem dL_whole_2 : decode cL_whole 2 = .ok (.istore 8, 2) := by decide +kernel
theorem dL_whole_4 : decode cL_whole 4 = .ok (.iconst 0, 1) := by decide +kernel
theorem dL_whole_5 : decode cL_whole 5 = .ok (.istore 9, 2) := by decide +kernel
theorem dL_whole_7 : decode cL_whole 7 = .ok (.iconst 0, 1) := by decide +kernel
theorem dL_whole_8 : decode cL_whole 8 = .ok (.istore 10, 2) := by decide +kernel
theorem dL_whole_10 : decode cL_whole 10 = .ok (.iconst (-1), 1) := by decide +kernel
theorem dL_whole_11 : decode cL_whole 11 = .ok (.istore 11, 2) := by decide +kernel
theorem dL_whole_13 : decode cL_whole 13 = .ok (.iload 11, 2) := by decide +kernel
theorem dL_whole_15 : decode cL_whole 15 = .ok (.aload_n 2, 1) := by decide +kernel
theorem dL_whole_16 : decode cL_whole 16 = .ok (.iconst 5, 1) := by decide +kernel
theorem dL_whole_17 : decode cL_whole 17 = .ok (.iaload, 1) := by decide +kernel
theorem dL_whole_18 : decode cL_whole 18 = .ok (.if_icmp .ge 273, 3) := by decide +kernel
theorem dL_whole_21 : decode cL_whole 21 = .ok (.iload 11, 2) := by decide +kernel
theorem dL_whole_23 : decode cL_whole 23 = .ok (.ifCond .ge 13, 3) := by decide +kernel
theorem dL_whole_26 : decode cL_whole 26 = .ok (.aload_n 2, 1) := by decide +kernel
theorem dL_whole_27 : decode cL_whole 27 = .ok (.bipush 7, 2) := by decide +kernel
theorem dL_whole_29 : decode cL_whole 29 = .ok (.iaload, 1) := by decide +kernel
theorem dL_whole_30 : decode cL_whole 30 = .ok (.ifCond .ne 6, 3) := by decide +kernel
theorem dL_whole_33 : decode cL_whole 33 = .ok (.goto 252, 3) := by decide +kernel
theorem dL_whole_36 : decode cL_whole 36 = .ok (.iconst 0, 1) := by decide +kernel
theorem dL_whole_37 : decode cL_whole 37 = .ok (.istore 12, 2) := by decide +kernel
theorem dL_whole_39 : decode cL_whole 39 = .ok (.iconst 0, 1) := by decide +kernel
theorem dL_whole_40 : decode cL_whole 40 = .ok (.istore 13, 2) := by decide +kernel
theorem dL_whole_42 : decode cL_whole 42 = .ok (.bipush (-6), 2) := by decide +kernel
theorem dL_whole_44 : decode cL_whole 44 = .ok (.istore 14, 2) := by decide +kernel
theorem dL_whole_46 : decode cL_whole 46 = .ok (.iconst (-1), 1) := by decide +kernel
theorem dL_whole_47 : decode cL_whole 47 = .ok (.istore 15, 2) := by decide +kernel
theorem dL_whole_49 : decode cL_whole 49 = .ok (.iconst 0, 1) := by decide +kernel
theorem dL_whole_50 : decode cL_whole 50 = .ok (.istore 16, 2) := by decide +kernel
theorem dL_whole_52 : decode cL_whole 52 = .ok (.iconst 0, 1) := by decide +kernel
theorem dL_whole_53 : decode cL_whole 53 = .ok (.istore 17, 2) := by decide +kernel
theorem dL_whole_55 : decode cL_whole 55 = .ok (.iload 17, 2) := by decide +kernel
theorem dL_whole_57 : decode cL_whole 57 = .ok (.aload_n 2, 1) := by decide +kernel
theorem dL_whole_58 : decode cL_whole 58 = .ok (.bipush 6, 2) := by decide +kernel
theorem dL_whole_60 : decode cL_whole 60 = .ok (.iaload, 1) := by decide +kernel
theorem dL_whole_61 : decode cL_whole 61 = .ok (.if_icmp .ge 136, 3) := by decide +kernel
theorem dL_whole_64 : decode cL_whole 64 = .ok (.iload 11, 2) := by decide +kernel
theorem dL_whole_66 : decode cL_whole 66 = .ok (.ifCond .ge 16, 3) := by decide +kernel
theorem dL_whole_69 : decode cL_whole 69 = .ok (.aload 6, 2) := by decide +kernel
theorem dL_whole_71 : decode cL_whole 71 = .ok (.iload 17, 2) := by decide +kernel
theorem dL_whole_73 : decode cL_whole 73 = .ok (.aload_n 2, 1) := by decide +kernel
theorem dL_whole_74 : decode cL_whole 74 = .ok (.bipush 7, 2) := by decide +kernel
theorem dL_whole_76 : decode cL_whole 76 = .ok (.iaload, 1) := by decide +kernel
theorem dL_whole_77 : decode cL_whole 77 = .ok (.irem, 1) := by decide +kernel
theorem dL_whole_78 : decode cL_whole 78 = .ok (.iaload, 1) := by decide +kernel
theorem dL_whole_79 : decode cL_whole 79 = .ok (.goto 5, 3) := by decide +kernel
theorem dL_whole_82 : decode cL_whole 82 = .ok (.iload 11, 2) := by decide +kernel
theorem dL_whole_84 : decode cL_whole 84 = .ok (.istore 18, 2) := by decide +kernel
theorem dL_whole_86 : decode cL_whole 86 = .ok (.aload_n 3, 1) := by decide +kernel
theorem dL_whole_87 : decode cL_whole 87 = .ok (.iconst 2, 1) := by decide +kernel
theorem dL_whole_88 : decode cL_whole 88 = .ok (.aload 5, 2) := by decide +kernel
theorem dL_whole_90 : decode cL_whole 90 = .ok (.iload 17, 2) := by decide +kernel
theorem dL_whole_92 : decode cL_whole 92 = .ok (.iaload, 1) := by decide +kernel
theorem dL_whole_93 : decode cL_whole 93 = .ok (.imul, 1) := by decide +kernel
theorem dL_whole_94 : decode cL_whole 94 = .ok (.iaload, 1) := by decide +kernel
theorem dL_whole_95 : decode cL_whole 95 = .ok (.aload_n 3, 1) := by decide +kernel
theorem dL_whole_96 : decode cL_whole 96 = .ok (.iconst 2, 1) := by decide +kernel
theorem dL_whole_97 : decode cL_whole 97 = .ok (.aload 5, 2) := by decide +kernel
theorem dL_whole_99 : decode cL_whole 99 = .ok (.iload 17, 2) := by decide +kernel
theorem dL_whole_101 : decode cL_whole 101 = .ok (.iaload, 1) := by decide +kernel
theorem dL_whole_102 : decode cL_whole 102 = .ok (.imul, 1) := by decide +kernel
theorem dL_whole_103 : decode cL_whole 103 = .ok (.iconst 1, 1) := by decide +kernel
theorem dL_whole_104 : decode cL_whole 104 = .ok (.iadd, 1) := by decide +kernel
theorem dL_whole_105 : decode cL_whole 105 = .ok (.iaload, 1) := by decide +kernel
theorem dL_whole_106 : decode cL_whole 106 = .ok (.iload 18, 2) := by decide +kernel
theorem dL_whole_108 : decode cL_whole 108 = .ok (.aload_n 2, 1) := by decide +kernel
theorem dL_whole_109 : decode cL_whole 109 = .ok (.iconst 0, 1) := by decide +kernel
theorem dL_whole_110 : decode cL_whole 110 = .ok (.iaload, 1) := by decide +kernel
theorem dL_whole_111 : decode cL_whole 111 = .ok (.aload_n 2, 1) := by decide +kernel
theorem dL_whole_112 : decode cL_whole 112 = .ok (.aload 4, 2) := by decide +kernel
theorem dL_whole_114 : decode cL_whole 114 = .ok (.aload 7, 2) := by decide +kernel
theorem dL_whole_116 : decode cL_whole 116 = .ok (.invokestatic 16, 3) := by decide +kernel
theorem dL_whole_119 : decode cL_whole 119 = .ok (.iload 16, 2) := by decide +kernel
theorem dL_whole_121 : decode cL_whole 121 = .ok (.aload 4, 2) := by decide +kernel
theorem dL_whole_123 : decode cL_whole 123 = .ok (.iconst 3, 1) := by decide +kernel
theorem dL_whole_124 : decode cL_whole 124 = .ok (.iload 18, 2) := by decide +kernel
theorem dL_whole_126 : decode cL_whole 126 = .ok (.imul, 1) := by decide +kernel
theorem dL_whole_127 : decode cL_whole 127 = .ok (.iaload, 1) := by decide +kernel
theorem dL_whole_128 : decode cL_whole 128 = .ok (.iadd, 1) := by decide +kernel
theorem dL_whole_129 : decode cL_whole 129 = .ok (.istore 16, 2) := by decide +kernel
theorem dL_whole_131 : decode cL_whole 131 = .ok (.aload 7, 2) := by decide +kernel
theorem dL_whole_133 : decode cL_whole 133 = .ok (.iconst 0, 1) := by decide +kernel
theorem dL_whole_134 : decode cL_whole 134 = .ok (.iaload, 1) := by decide +kernel
theorem dL_whole_135 : decode cL_whole 135 = .ok (.ifCond .ge 9, 3) := by decide +kernel
theorem dL_whole_138 : decode cL_whole 138 = .ok (.iinc 13 1, 3) := by decide +kernel
theorem dL_whole_141 : decode cL_whole 141 = .ok (.goto 50, 3) := by decide +kernel
theorem dL_whole_144 : decode cL_whole 144 = .ok (.iload 12, 2) := by decide +kernel
theorem dL_whole_146 : decode cL_whole 146 = .ok (.aload 7, 2) := by decide +kernel
theorem dL_whole_148 : decode cL_whole 148 = .ok (.iconst 0, 1) := by decide +kernel
theorem dL_whole_149 : decode cL_whole 149 = .ok (.iaload, 1) := by decide +kernel
theorem dL_whole_150 : decode cL_whole 150 = .ok (.iadd, 1) := by decide +kernel
theorem dL_whole_151 : decode cL_whole 151 = .ok (.istore 12, 2) := by decide +kernel
theorem dL_whole_153 : decode cL_whole 153 = .ok (.aload 7, 2) := by decide +kernel
theorem dL_whole_155 : decode cL_whole 155 = .ok (.iconst 0, 1) := by decide +kernel
theorem dL_whole_156 : decode cL_whole 156 = .ok (.iaload, 1) := by decide +kernel
theorem dL_whole_157 : decode cL_whole 157 = .ok (.iload 15, 2) := by decide +kernel
theorem dL_whole_159 : decode cL_whole 159 = .ok (.if_icmp .le 8, 3) := by decide +kernel
theorem dL_whole_162 : decode cL_whole 162 = .ok (.iload 17, 2) := by decide +kernel
theorem dL_whole_164 : decode cL_whole 164 = .ok (.goto 5, 3) := by decide +kernel
theorem dL_whole_167 : decode cL_whole 167 = .ok (.iload 14, 2) := by decide +kernel
theorem dL_whole_169 : decode cL_whole 169 = .ok (.istore 14, 2) := by decide +kernel
theorem dL_whole_171 : decode cL_whole 171 = .ok (.aload 7, 2) := by decide +kernel
theorem dL_whole_173 : decode cL_whole 173 = .ok (.iconst 0, 1) := by decide +kernel
theorem dL_whole_174 : decode cL_whole 174 = .ok (.iaload, 1) := by decide +kernel
theorem dL_whole_175 : decode cL_whole 175 = .ok (.iload 15, 2) := by decide +kernel
theorem dL_whole_177 : decode cL_whole 177 = .ok (.if_icmp .le 10, 3) := by decide +kernel
theorem dL_whole_180 : decode cL_whole 180 = .ok (.aload 7, 2) := by decide +kernel
theorem dL_whole_182 : decode cL_whole 182 = .ok (.iconst 0, 1) := by decide +kernel
theorem dL_whole_183 : decode cL_whole 183 = .ok (.iaload, 1) := by decide +kernel
theorem dL_whole_184 : decode cL_whole 184 = .ok (.goto 5, 3) := by decide +kernel
theorem dL_whole_187 : decode cL_whole 187 = .ok (.iload 15, 2) := by decide +kernel
theorem dL_whole_189 : decode cL_whole 189 = .ok (.istore 15, 2) := by decide +kernel
theorem dL_whole_191 : decode cL_whole 191 = .ok (.iinc 17 1, 3) := by decide +kernel
theorem dL_whole_194 : decode cL_whole 194 = .ok (.goto (-139), 3) := by decide +kernel
theorem dL_whole_197 : decode cL_whole 197 = .ok (.iload 11, 2) := by decide +kernel
theorem dL_whole_199 : decode cL_whole 199 = .ok (.ifCond .ge 45, 3) := by decide +kernel
theorem dL_whole_202 : decode cL_whole 202 = .ok (.aload_n 0, 1) := by decide +kernel
theorem dL_whole_203 : decode cL_whole 203 = .ok (.iconst 0, 1) := by decide +kernel
theorem dL_whole_204 : decode cL_whole 204 = .ok (.invokevirtual 54, 3) := by decide +kernel
theorem dL_whole_207 : decode cL_whole 207 = .ok (.iload 12, 2) := by decide +kernel
theorem dL_whole_209 : decode cL_whole 209 = .ok (.if_icmp .ne 33, 3) := by decide +kernel
theorem dL_whole_212 : decode cL_whole 212 = .ok (.aload_n 0, 1) := by decide +kernel
theorem dL_whole_213 : decode cL_whole 213 = .ok (.iconst 1, 1) := by decide +kernel
theorem dL_whole_214 : decode cL_whole 214 = .ok (.invokevirtual 54, 3) := by decide +kernel
theorem dL_whole_217 : decode cL_whole 217 = .ok (.iload 13, 2) := by decide +kernel
theorem dL_whole_219 : decode cL_whole 219 = .ok (.if_icmp .ne 23, 3) := by decide +kernel
theorem dL_whole_222 : decode cL_whole 222 = .ok (.aload_n 0, 1) := by decide +kernel
theorem dL_whole_223 : decode cL_whole 223 = .ok (.iconst 2, 1) := by decide +kernel
theorem dL_whole_224 : decode cL_whole 224 = .ok (.invokevirtual 54, 3) := by decide +kernel
theorem dL_whole_227 : decode cL_whole 227 = .ok (.iload 14, 2) := by decide +kernel
theorem dL_whole_229 : decode cL_whole 229 = .ok (.if_icmp .ne 13, 3) := by decide +kernel
theorem dL_whole_232 : decode cL_whole 232 = .ok (.aload_n 0, 1) := by decide +kernel
theorem dL_whole_233 : decode cL_whole 233 = .ok (.iconst 3, 1) := by decide +kernel
theorem dL_whole_234 : decode cL_whole 234 = .ok (.invokevirtual 54, 3) := by decide +kernel
theorem dL_whole_237 : decode cL_whole 237 = .ok (.iload 16, 2) := by decide +kernel
theorem dL_whole_239 : decode cL_whole 239 = .ok (.if_icmp .eq 46, 3) := by decide +kernel
theorem dL_whole_242 : decode cL_whole 242 = .ok (.iconst 0, 1) := by decide +kernel
theorem dL_whole_243 : decode cL_whole 243 = .ok (.ireturn, 1) := by decide +kernel
theorem dL_whole_244 : decode cL_whole 244 = .ok (.iload 8, 2) := by decide +kernel
theorem dL_whole_246 : decode cL_whole 246 = .ok (.ifCond .lt 27, 3) := by decide +kernel
theorem dL_whole_249 : decode cL_whole 249 = .ok (.iload 13, 2) := by decide +kernel
theorem dL_whole_251 : decode cL_whole 251 = .ok (.iload 9, 2) := by decide +kernel
theorem dL_whole_253 : decode cL_whole 253 = .ok (.if_icmp .gt 32, 3) := by decide +kernel
theorem dL_whole_256 : decode cL_whole 256 = .ok (.iload 13, 2) := by decide +kernel
theorem dL_whole_258 : decode cL_whole 258 = .ok (.iload 9, 2) := by decide +kernel
theorem dL_whole_260 : decode cL_whole 260 = .ok (.if_icmp .ne 13, 3) := by decide +kernel
theorem dL_whole_263 : decode cL_whole 263 = .ok (.iload 12, 2) := by decide +kernel
theorem dL_whole_265 : decode cL_whole 265 = .ok (.iload 10, 2) := by decide +kernel
theorem dL_whole_267 : decode cL_whole 267 = .ok (.if_icmp .lt 6, 3) := by decide +kernel
theorem dL_whole_270 : decode cL_whole 270 = .ok (.goto 15, 3) := by decide +kernel
theorem dL_whole_273 : decode cL_whole 273 = .ok (.iload 11, 2) := by decide +kernel
theorem dL_whole_275 : decode cL_whole 275 = .ok (.istore 8, 2) := by decide +kernel
theorem dL_whole_277 : decode cL_whole 277 = .ok (.iload 13, 2) := by decide +kernel
theorem dL_whole_279 : decode cL_whole 279 = .ok (.istore 9, 2) := by decide +kernel
theorem dL_whole_281 : decode cL_whole 281 = .ok (.iload 12, 2) := by decide +kernel
theorem dL_whole_283 : decode cL_whole 283 = .ok (.istore 10, 2) := by decide +kernel
theorem dL_whole_285 : decode cL_whole 285 = .ok (.iinc 11 1, 3) := by decide +kernel
theorem dL_whole_288 : decode cL_whole 288 = .ok (.goto (-275), 3) := by decide +kernel
theorem dL_whole_291 : decode cL_whole 291 = .ok (.aload_n 0, 1) := by decide +kernel
theorem dL_whole_292 : decode cL_whole 292 = .ok (.invokevirtual 57, 3) := by decide +kernel
theorem dL_whole_295 : decode cL_whole 295 = .ok (.iload 8, 2) := by decide +kernel
theorem dL_whole_297 : decode cL_whole 297 = .ok (.if_icmp .ne 20, 3) := by decide +kernel
theorem dL_whole_300 : decode cL_whole 300 = .ok (.aload_n 2, 1) := by decide +kernel
theorem dL_whole_301 : decode cL_whole 301 = .ok (.bipush 7, 2) := by decide +kernel
theorem dL_whole_303 : decode cL_whole 303 = .ok (.iaload, 1) := by decide +kernel
theorem dL_whole_304 : decode cL_whole 304 = .ok (.ifCond .ne 15, 3) := by decide +kernel
theorem dL_whole_307 : decode cL_whole 307 = .ok (.aload_n 0, 1) := by decide +kernel
theorem dL_whole_308 : decode cL_whole 308 = .ok (.iconst 0, 1) := by decide +kernel
theorem dL_whole_309 : decode cL_whole 309 = .ok (.invokevirtual 54, 3) := by decide +kernel
theorem dL_whole_312 : decode cL_whole 312 = .ok (.bipush (-5), 2) := by decide +kernel
theorem dL_whole_314 : decode cL_whole 314 = .ok (.if_icmp .eq 5, 3) := by decide +kernel
theorem dL_whole_317 : decode cL_whole 317 = .ok (.iconst 0, 1) := by decide +kernel
theorem dL_whole_318 : decode cL_whole 318 = .ok (.ireturn, 1) := by decide +kernel
theorem dL_whole_319 : decode cL_whole 319 = .ok (.aload_n 2, 1) := by decide +kernel
theorem dL_whole_320 : decode cL_whole 320 = .ok (.iconst 4, 1) := by decide +kernel
theorem dL_whole_321 : decode cL_whole 321 = .ok (.iaload, 1) := by decide +kernel
theorem dL_whole_322 : decode cL_whole 322 = .ok (.ifCond .eq 9, 3) := by decide +kernel
theorem dL_whole_325 : decode cL_whole 325 = .ok (.aload_n 2, 1) := by decide +kernel
theorem dL_whole_326 : decode cL_whole 326 = .ok (.iconst 5, 1) := by decide +kernel
theorem dL_whole_327 : decode cL_whole 327 = .ok (.iaload, 1) := by decide +kernel
theorem dL_whole_328 : decode cL_whole 328 = .ok (.ifCond .ne 5, 3) := by decide +kernel
theorem dL_whole_331 : decode cL_whole 331 = .ok (.iconst 1, 1) := by decide +kernel
theorem dL_whole_332 : decode cL_whole 332 = .ok (.ireturn, 1) := by decide +kernel
theorem dL_whole_333 : decode cL_whole 333 = .ok (.iload_n 1, 1) := by decide +kernel
theorem dL_whole_334 : decode cL_whole 334 = .ok (.aload_n 2, 1) := by decide +kernel
theorem dL_whole_335 : decode cL_whole 335 = .ok (.iconst 4, 1) := by decide +kernel
theorem dL_whole_336 : decode cL_whole 336 = .ok (.iaload, 1) := by decide +kernel
theorem dL_whole_337 : decode cL_whole 337 = .ok (.invokestatic 61, 3) := by decide +kernel
theorem dL_whole_340 : decode cL_whole 340 = .ok (.istore 11, 2) := by decide +kernel
theorem dL_whole_342 : decode cL_whole 342 = .ok (.iload_n 1, 1) := by decide +kernel
theorem dL_whole_343 : decode cL_whole 343 = .ok (.iconst 4, 1) := by decide +kernel
theorem dL_whole_344 : decode cL_whole 344 = .ok (.ishr, 1) := by decide +kernel
theorem dL_whole_345 : decode cL_whole 345 = .ok (.aload_n 2, 1) := by decide +kernel
theorem dL_whole_346 : decode cL_whole 346 = .ok (.iconst 5, 1) := by decide +kernel
theorem dL_whole_347 : decode cL_whole 347 = .ok (.iaload, 1) := by decide +kernel
theorem dL_whole_348 : decode cL_whole 348 = .ok (.invokestatic 61, 3) := by decide +kernel
theorem dL_whole_351 : decode cL_whole 351 = .ok (.istore 12, 2) := by decide +kernel
theorem dL_whole_353 : decode cL_whole 353 = .ok (.bipush (-6), 2) := by decide +kernel
theorem dL_whole_355 : decode cL_whole 355 = .ok (.istore 13, 2) := by decide +kernel
theorem dL_whole_357 : decode cL_whole 357 = .ok (.bipush (-6), 2) := by decide +kernel
theorem dL_whole_359 : decode cL_whole 359 = .ok (.istore 14, 2) := by decide +kernel
theorem dL_whole_361 : decode cL_whole 361 = .ok (.aload_n 3, 1) := by decide +kernel
theorem dL_whole_362 : decode cL_whole 362 = .ok (.iconst 2, 1) := by decide +kernel
theorem dL_whole_363 : decode cL_whole 363 = .ok (.iload 11, 2) := by decide +kernel
theorem dL_whole_365 : decode cL_whole 365 = .ok (.imul, 1) := by decide +kernel
theorem dL_whole_366 : decode cL_whole 366 = .ok (.iaload, 1) := by decide +kernel
theorem dL_whole_367 : decode cL_whole 367 = .ok (.iconst 1, 1) := by decide +kernel
theorem dL_whole_368 : decode cL_whole 368 = .ok (.isub, 1) := by decide +kernel
theorem dL_whole_369 : decode cL_whole 369 = .ok (.istore 15, 2) := by decide +kernel
theorem dL_whole_371 : decode cL_whole 371 = .ok (.iload 15, 2) := by decide +kernel
theorem dL_whole_373 : decode cL_whole 373 = .ok (.ifCond .lt 75, 3) := by decide +kernel
theorem dL_whole_376 : decode cL_whole 376 = .ok (.aload_n 3, 1) := by decide +kernel
theorem dL_whole_377 : decode cL_whole 377 = .ok (.iconst 2, 1) := by decide +kernel
theorem dL_whole_378 : decode cL_whole 378 = .ok (.iload 11, 2) := by decide +kernel
theorem dL_whole_380 : decode cL_whole 380 = .ok (.imul, 1) := by decide +kernel
theorem dL_whole_381 : decode cL_whole 381 = .ok (.iaload, 1) := by decide +kernel
theorem dL_whole_382 : decode cL_whole 382 = .ok (.aload_n 3, 1) := by decide +kernel
theorem dL_whole_383 : decode cL_whole 383 = .ok (.iconst 2, 1) := by decide +kernel
theorem dL_whole_384 : decode cL_whole 384 = .ok (.iload 11, 2) := by decide +kernel
theorem dL_whole_386 : decode cL_whole 386 = .ok (.imul, 1) := by decide +kernel
theorem dL_whole_387 : decode cL_whole 387 = .ok (.iconst 1, 1) := by decide +kernel
theorem dL_whole_388 : decode cL_whole 388 = .ok (.iadd, 1) := by decide +kernel
theorem dL_whole_389 : decode cL_whole 389 = .ok (.iaload, 1) := by decide +kernel
theorem dL_whole_390 : decode cL_whole 390 = .ok (.iconst 1, 1) := by decide +kernel
theorem dL_whole_391 : decode cL_whole 391 = .ok (.iload 15, 2) := by decide +kernel
theorem dL_whole_393 : decode cL_whole 393 = .ok (.ishl, 1) := by decide +kernel
theorem dL_whole_394 : decode cL_whole 394 = .ok (.ixor, 1) := by decide +kernel
theorem dL_whole_395 : decode cL_whole 395 = .ok (.iload 12, 2) := by decide +kernel
theorem dL_whole_397 : decode cL_whole 397 = .ok (.aload_n 2, 1) := by decide +kernel
theorem dL_whole_398 : decode cL_whole 398 = .ok (.iconst 0, 1) := by decide +kernel
theorem dL_whole_399 : decode cL_whole 399 = .ok (.iaload, 1) := by decide +kernel
theorem dL_whole_400 : decode cL_whole 400 = .ok (.aload_n 2, 1) := by decide +kernel
theorem dL_whole_401 : decode cL_whole 401 = .ok (.aload 4, 2) := by decide +kernel
theorem dL_whole_403 : decode cL_whole 403 = .ok (.aload 7, 2) := by decide +kernel
theorem dL_whole_405 : decode cL_whole 405 = .ok (.invokestatic 16, 3) := by decide +kernel
theorem dL_whole_408 : decode cL_whole 408 = .ok (.aload 7, 2) := by decide +kernel
theorem dL_whole_410 : decode cL_whole 410 = .ok (.iconst 0, 1) := by decide +kernel
theorem dL_whole_411 : decode cL_whole 411 = .ok (.iaload, 1) := by decide +kernel
theorem dL_whole_412 : decode cL_whole 412 = .ok (.ifCond .lt 30, 3) := by decide +kernel
theorem dL_whole_415 : decode cL_whole 415 = .ok (.iload 14, 2) := by decide +kernel
theorem dL_whole_417 : decode cL_whole 417 = .ok (.ifCond .lt 15, 3) := by decide +kernel
theorem dL_whole_420 : decode cL_whole 420 = .ok (.aload 7, 2) := by decide +kernel
theorem dL_whole_422 : decode cL_whole 422 = .ok (.iconst 0, 1) := by decide +kernel
theorem dL_whole_423 : decode cL_whole 423 = .ok (.iaload, 1) := by decide +kernel
theorem dL_whole_424 : decode cL_whole 424 = .ok (.iload 14, 2) := by decide +kernel
theorem dL_whole_426 : decode cL_whole 426 = .ok (.if_icmp .le 6, 3) := by decide +kernel
theorem dL_whole_429 : decode cL_whole 429 = .ok (.goto 13, 3) := by decide +kernel
theorem dL_whole_432 : decode cL_whole 432 = .ok (.iload 15, 2) := by decide +kernel
theorem dL_whole_434 : decode cL_whole 434 = .ok (.istore 13, 2) := by decide +kernel
theorem dL_whole_436 : decode cL_whole 436 = .ok (.aload 7, 2) := by decide +kernel
theorem dL_whole_438 : decode cL_whole 438 = .ok (.iconst 0, 1) := by decide +kernel
theorem dL_whole_439 : decode cL_whole 439 = .ok (.iaload, 1) := by decide +kernel
theorem dL_whole_440 : decode cL_whole 440 = .ok (.istore 14, 2) := by decide +kernel
theorem dL_whole_442 : decode cL_whole 442 = .ok (.iinc 15 (-1), 3) := by decide +kernel
theorem dL_whole_445 : decode cL_whole 445 = .ok (.goto (-74), 3) := by decide +kernel
theorem dL_whole_448 : decode cL_whole 448 = .ok (.bipush (-6), 2) := by decide +kernel
theorem dL_whole_450 : decode cL_whole 450 = .ok (.istore 15, 2) := by decide +kernel
theorem dL_whole_452 : decode cL_whole 452 = .ok (.bipush (-6), 2) := by decide +kernel
theorem dL_whole_454 : decode cL_whole 454 = .ok (.istore 16, 2) := by decide +kernel
theorem dL_whole_456 : decode cL_whole 456 = .ok (.bipush 8, 2) := by decide +kernel
theorem dL_whole_458 : decode cL_whole 458 = .ok (.istore 17, 2) := by decide +kernel
theorem dL_whole_460 : decode cL_whole 460 = .ok (.iload 17, 2) := by decide +kernel
theorem dL_whole_462 : decode cL_whole 462 = .ok (.iconst 1, 1) := by decide +kernel
theorem dL_whole_463 : decode cL_whole 463 = .ok (.if_icmp .lt 69, 3) := by decide +kernel
theorem dL_whole_466 : decode cL_whole 466 = .ok (.aload_n 3, 1) := by decide +kernel
theorem dL_whole_467 : decode cL_whole 467 = .ok (.iconst 2, 1) := by decide +kernel
theorem dL_whole_468 : decode cL_whole 468 = .ok (.iload 11, 2) := by decide +kernel
theorem dL_whole_470 : decode cL_whole 470 = .ok (.imul, 1) := by decide +kernel
theorem dL_whole_471 : decode cL_whole 471 = .ok (.iaload, 1) := by decide +kernel
theorem dL_whole_472 : decode cL_whole 472 = .ok (.aload_n 3, 1) := by decide +kernel
theorem dL_whole_473 : decode cL_whole 473 = .ok (.iconst 2, 1) := by decide +kernel
theorem dL_whole_474 : decode cL_whole 474 = .ok (.iload 11, 2) := by decide +kernel
theorem dL_whole_476 : decode cL_whole 476 = .ok (.imul, 1) := by decide +kernel
theorem dL_whole_477 : decode cL_whole 477 = .ok (.iconst 1, 1) := by decide +kernel
theorem dL_whole_478 : decode cL_whole 478 = .ok (.iadd, 1) := by decide +kernel
theorem dL_whole_479 : decode cL_whole 479 = .ok (.iaload, 1) := by decide +kernel
theorem dL_whole_480 : decode cL_whole 480 = .ok (.iload 12, 2) := by decide +kernel
theorem dL_whole_482 : decode cL_whole 482 = .ok (.iload 17, 2) := by decide +kernel
theorem dL_whole_484 : decode cL_whole 484 = .ok (.aload_n 2, 1) := by decide +kernel
theorem dL_whole_485 : decode cL_whole 485 = .ok (.aload 4, 2) := by decide +kernel
theorem dL_whole_487 : decode cL_whole 487 = .ok (.aload 7, 2) := by decide +kernel
theorem dL_whole_489 : decode cL_whole 489 = .ok (.invokestatic 16, 3) := by decide +kernel
theorem dL_whole_492 : decode cL_whole 492 = .ok (.aload 7, 2) := by decide +kernel
theorem dL_whole_494 : decode cL_whole 494 = .ok (.iconst 0, 1) := by decide +kernel
theorem dL_whole_495 : decode cL_whole 495 = .ok (.iaload, 1) := by decide +kernel
theorem dL_whole_496 : decode cL_whole 496 = .ok (.ifCond .lt 36, 3) := by decide +kernel
theorem dL_whole_499 : decode cL_whole 499 = .ok (.iload 16, 2) := by decide +kernel
theorem dL_whole_501 : decode cL_whole 501 = .ok (.ifCond .lt 15, 3) := by decide +kernel
theorem dL_whole_504 : decode cL_whole 504 = .ok (.aload 7, 2) := by decide +kernel
theorem dL_whole_506 : decode cL_whole 506 = .ok (.iconst 0, 1) := by decide +kernel
theorem dL_whole_507 : decode cL_whole 507 = .ok (.iaload, 1) := by decide +kernel
theorem dL_whole_508 : decode cL_whole 508 = .ok (.iload 16, 2) := by decide +kernel
theorem dL_whole_510 : decode cL_whole 510 = .ok (.if_icmp .le 6, 3) := by decide +kernel
theorem dL_whole_513 : decode cL_whole 513 = .ok (.goto 19, 3) := by decide +kernel
theorem dL_whole_516 : decode cL_whole 516 = .ok (.iload 17, 2) := by decide +kernel
theorem dL_whole_518 : decode cL_whole 518 = .ok (.istore 15, 2) := by decide +kernel
theorem dL_whole_520 : decode cL_whole 520 = .ok (.aload 7, 2) := by decide +kernel
theorem dL_whole_522 : decode cL_whole 522 = .ok (.iconst 0, 1) := by decide +kernel
theorem dL_whole_523 : decode cL_whole 523 = .ok (.iaload, 1) := by decide +kernel
theorem dL_whole_524 : decode cL_whole 524 = .ok (.istore 16, 2) := by decide +kernel
theorem dL_whole_526 : decode cL_whole 526 = .ok (.iinc 17 (-1), 3) := by decide +kernel
theorem dL_whole_529 : decode cL_whole 529 = .ok (.goto (-69), 3) := by decide +kernel
theorem dL_whole_532 : decode cL_whole 532 = .ok (.aload_n 0, 1) := by decide +kernel
theorem dL_whole_533 : decode cL_whole 533 = .ok (.iload 11, 2) := by decide +kernel
theorem dL_whole_535 : decode cL_whole 535 = .ok (.iload 12, 2) := by decide +kernel
theorem dL_whole_537 : decode cL_whole 537 = .ok (.iconst 0, 1) := by decide +kernel
theorem dL_whole_538 : decode cL_whole 538 = .ok (.invokevirtual 64, 3) := by decide +kernel
theorem dL_whole_541 : decode cL_whole 541 = .ok (.iload 13, 2) := by decide +kernel
theorem dL_whole_543 : decode cL_whole 543 = .ok (.if_icmp .ne 34, 3) := by decide +kernel
theorem dL_whole_546 : decode cL_whole 546 = .ok (.aload_n 0, 1) := by decide +kernel
theorem dL_whole_547 : decode cL_whole 547 = .ok (.iload 11, 2) := by decide +kernel
theorem dL_whole_549 : decode cL_whole 549 = .ok (.iload 12, 2) := by decide +kernel
theorem dL_whole_551 : decode cL_whole 551 = .ok (.iconst 1, 1) := by decide +kernel
theorem dL_whole_552 : decode cL_whole 552 = .ok (.invokevirtual 64, 3) := by decide +kernel
theorem dL_whole_555 : decode cL_whole 555 = .ok (.iload 14, 2) := by decide +kernel
theorem dL_whole_557 : decode cL_whole 557 = .ok (.if_icmp .ne 20, 3) := by decide +kernel
theorem dL_whole_560 : decode cL_whole 560 = .ok (.aload_n 0, 1) := by decide +kernel
theorem dL_whole_561 : decode cL_whole 561 = .ok (.iload 11, 2) := by decide +kernel
theorem dL_whole_563 : decode cL_whole 563 = .ok (.iload 12, 2) := by decide +kernel
theorem dL_whole_565 : decode cL_whole 565 = .ok (.invokevirtual 67, 3) := by decide +kernel
theorem dL_whole_568 : decode cL_whole 568 = .ok (.iload 15, 2) := by decide +kernel
theorem dL_whole_570 : decode cL_whole 570 = .ok (.if_icmp .ne 7, 3) := by decide +kernel
theorem dL_whole_573 : decode cL_whole 573 = .ok (.iconst 1, 1) := by decide +kernel
theorem dL_whole_574 : decode cL_whole 574 = .ok (.goto 4, 3) := by decide +kernel
theorem dL_whole_577 : decode cL_whole 577 = .ok (.iconst 0, 1) := by decide +kernel
theorem dL_whole_578 : decode cL_whole 578 = .ok (.ireturn, 1) := by decide +kernel
theorem dL_law_0 : decode cL_law 0 = .ok (.new 21, 3) := by decide +kernel
theorem dL_law_3 : decode cL_law 3 = .ok (.dup, 1) := by decide +kernel
theorem dL_law_4 : decode cL_law 4 = .ok (.invokespecial 70, 3) := by decide +kernel
theorem dL_law_7 : decode cL_law 7 = .ok (.astore_n 1, 1) := by decide +kernel
theorem dL_law_8 : decode cL_law 8 = .ok (.bipush 12, 2) := by decide +kernel
theorem dL_law_10 : decode cL_law 10 = .ok (.newarray .int, 2) := by decide +kernel
theorem dL_law_12 : decode cL_law 12 = .ok (.astore_n 2, 1) := by decide +kernel
theorem dL_law_13 : decode cL_law 13 = .ok (.bipush 12, 2) := by decide +kernel
theorem dL_law_15 : decode cL_law 15 = .ok (.newarray .int, 2) := by decide +kernel
theorem dL_law_17 : decode cL_law 17 = .ok (.astore_n 3, 1) := by decide +kernel
theorem dL_law_18 : decode cL_law 18 = .ok (.bipush 40, 2) := by decide +kernel
theorem dL_law_20 : decode cL_law 20 = .ok (.newarray .int, 2) := by decide +kernel
theorem dL_law_22 : decode cL_law 22 = .ok (.astore 4, 2) := by decide +kernel
theorem dL_law_24 : decode cL_law 24 = .ok (.bipush 8, 2) := by decide +kernel
theorem dL_law_26 : decode cL_law 26 = .ok (.newarray .int, 2) := by decide +kernel
theorem dL_law_28 : decode cL_law 28 = .ok (.astore 5, 2) := by decide +kernel
theorem dL_law_30 : decode cL_law 30 = .ok (.bipush 8, 2) := by decide +kernel
theorem dL_law_32 : decode cL_law 32 = .ok (.newarray .int, 2) := by decide +kernel
theorem dL_law_34 : decode cL_law 34 = .ok (.astore 6, 2) := by decide +kernel
theorem dL_law_36 : decode cL_law 36 = .ok (.bipush 24, 2) := by decide +kernel
theorem dL_law_38 : decode cL_law 38 = .ok (.newarray .int, 2) := by decide +kernel
theorem dL_law_40 : decode cL_law 40 = .ok (.astore 7, 2) := by decide +kernel
theorem dL_law_42 : decode cL_law 42 = .ok (.aload 6, 2) := by decide +kernel
theorem dL_law_44 : decode cL_law 44 = .ok (.iconst 0, 1) := by decide +kernel
theorem dL_law_45 : decode cL_law 45 = .ok (.iconst 3, 1) := by decide +kernel
theorem dL_law_46 : decode cL_law 46 = .ok (.iastore, 1) := by decide +kernel
theorem dL_law_47 : decode cL_law 47 = .ok (.aload 6, 2) := by decide +kernel
theorem dL_law_49 : decode cL_law 49 = .ok (.iconst 1, 1) := by decide +kernel
theorem dL_law_50 : decode cL_law 50 = .ok (.iconst 1, 1) := by decide +kernel
theorem dL_law_51 : decode cL_law 51 = .ok (.iastore, 1) := by decide +kernel
theorem dL_law_52 : decode cL_law 52 = .ok (.aload 6, 2) := by decide +kernel
theorem dL_law_54 : decode cL_law 54 = .ok (.iconst 2, 1) := by decide +kernel
theorem dL_law_55 : decode cL_law 55 = .ok (.iconst 3, 1) := by decide +kernel
theorem dL_law_56 : decode cL_law 56 = .ok (.iastore, 1) := by decide +kernel
theorem dL_law_57 : decode cL_law 57 = .ok (.aload 6, 2) := by decide +kernel
theorem dL_law_59 : decode cL_law 59 = .ok (.iconst 3, 1) := by decide +kernel
theorem dL_law_60 : decode cL_law 60 = .ok (.bipush 7, 2) := by decide +kernel
theorem dL_law_62 : decode cL_law 62 = .ok (.iastore, 1) := by decide +kernel
theorem dL_law_63 : decode cL_law 63 = .ok (.iconst 0, 1) := by decide +kernel
theorem dL_law_64 : decode cL_law 64 = .ok (.istore 8, 2) := by decide +kernel
theorem dL_law_66 : decode cL_law 66 = .ok (.iload 8, 2) := by decide +kernel
theorem dL_law_68 : decode cL_law 68 = .ok (.bipush 22, 2) := by decide +kernel
theorem dL_law_70 : decode cL_law 70 = .ok (.if_icmp .ge 1564, 3) := by decide +kernel
theorem dL_law_73 : decode cL_law 73 = .ok (.aload_n 0, 1) := by decide +kernel
theorem dL_law_74 : decode cL_law 74 = .ok (.iconst 2, 1) := by decide +kernel
theorem dL_law_75 : decode cL_law 75 = .ok (.iload 8, 2) := by decide +kernel
theorem dL_law_77 : decode cL_law 77 = .ok (.imul, 1) := by decide +kernel
theorem dL_law_78 : decode cL_law 78 = .ok (.invokestatic 71, 3) := by decide +kernel
theorem dL_law_81 : decode cL_law 81 = .ok (.istore 9, 2) := by decide +kernel
theorem dL_law_83 : decode cL_law 83 = .ok (.aload_n 0, 1) := by decide +kernel
theorem dL_law_84 : decode cL_law 84 = .ok (.iconst 2, 1) := by decide +kernel
theorem dL_law_85 : decode cL_law 85 = .ok (.iload 8, 2) := by decide +kernel
theorem dL_law_87 : decode cL_law 87 = .ok (.imul, 1) := by decide +kernel
theorem dL_law_88 : decode cL_law 88 = .ok (.iconst 1, 1) := by decide +kernel
theorem dL_law_89 : decode cL_law 89 = .ok (.iadd, 1) := by decide +kernel
theorem dL_law_90 : decode cL_law 90 = .ok (.invokestatic 71, 3) := by decide +kernel
theorem dL_law_93 : decode cL_law 93 = .ok (.istore 10, 2) := by decide +kernel
theorem dL_law_95 : decode cL_law 95 = .ok (.iload 8, 2) := by decide +kernel
theorem dL_law_97 : decode cL_law 97 = .ok (.iconst 4, 1) := by decide +kernel
theorem dL_law_98 : decode cL_law 98 = .ok (.if_icmp .ge 10, 3) := by decide +kernel
theorem dL_law_101 : decode cL_law 101 = .ok (.iload 8, 2) := by decide +kernel
theorem dL_law_103 : decode cL_law 103 = .ok (.iconst 2, 1) := by decide +kernel
theorem dL_law_104 : decode cL_law 104 = .ok (.irem, 1) := by decide +kernel
theorem dL_law_105 : decode cL_law 105 = .ok (.goto 10, 3) := by decide +kernel
theorem dL_law_108 : decode cL_law 108 = .ok (.iload 9, 2) := by decide +kernel
theorem dL_law_110 : decode cL_law 110 = .ok (.bipush 14, 2) := by decide +kernel
theorem dL_law_112 : decode cL_law 112 = .ok (.invokestatic 61, 3) := by decide +kernel
theorem dL_law_115 : decode cL_law 115 = .ok (.istore 11, 2) := by decide +kernel
theorem dL_law_117 : decode cL_law 117 = .ok (.aload 6, 2) := by decide +kernel
theorem dL_law_119 : decode cL_law 119 = .ok (.iconst 4, 1) := by decide +kernel
theorem dL_law_120 : decode cL_law 120 = .ok (.iaload, 1) := by decide +kernel
theorem dL_law_121 : decode cL_law 121 = .ok (.ifCond .ne 7, 3) := by decide +kernel
theorem dL_law_124 : decode cL_law 124 = .ok (.iconst 0, 1) := by decide +kernel
theorem dL_law_125 : decode cL_law 125 = .ok (.goto 14, 3) := by decide +kernel
theorem dL_law_128 : decode cL_law 128 = .ok (.iload 9, 2) := by decide +kernel
theorem dL_law_130 : decode cL_law 130 = .ok (.iconst 4, 1) := by decide +kernel
theorem dL_law_131 : decode cL_law 131 = .ok (.ishr, 1) := by decide +kernel
theorem dL_law_132 : decode cL_law 132 = .ok (.aload 6, 2) := by decide +kernel
theorem dL_law_134 : decode cL_law 134 = .ok (.iconst 4, 1) := by decide +kernel
theorem dL_law_135 : decode cL_law 135 = .ok (.iaload, 1) := by decide +kernel
theorem dL_law_136 : decode cL_law 136 = .ok (.invokestatic 61, 3) := by decide +kernel
theorem dL_law_139 : decode cL_law 139 = .ok (.istore 12, 2) := by decide +kernel
theorem dL_law_141 : decode cL_law 141 = .ok (.aload 6, 2) := by decide +kernel
theorem dL_law_143 : decode cL_law 143 = .ok (.iconst 5, 1) := by decide +kernel
theorem dL_law_144 : decode cL_law 144 = .ok (.iaload, 1) := by decide +kernel
theorem dL_law_145 : decode cL_law 145 = .ok (.ifCond .ne 7, 3) := by decide +kernel
theorem dL_law_148 : decode cL_law 148 = .ok (.iconst 0, 1) := by decide +kernel
theorem dL_law_149 : decode cL_law 149 = .ok (.goto 14, 3) := by decide +kernel
theorem dL_law_152 : decode cL_law 152 = .ok (.iload 9, 2) := by decide +kernel
theorem dL_law_154 : decode cL_law 154 = .ok (.iconst 4, 1) := by decide +kernel
theorem dL_law_155 : decode cL_law 155 = .ok (.ishr, 1) := by decide +kernel
theorem dL_law_156 : decode cL_law 156 = .ok (.aload 6, 2) := by decide +kernel
theorem dL_law_158 : decode cL_law 158 = .ok (.iconst 5, 1) := by decide +kernel
theorem dL_law_159 : decode cL_law 159 = .ok (.iaload, 1) := by decide +kernel
theorem dL_law_160 : decode cL_law 160 = .ok (.invokestatic 61, 3) := by decide +kernel
theorem dL_law_163 : decode cL_law 163 = .ok (.istore 13, 2) := by decide +kernel
theorem dL_law_165 : decode cL_law 165 = .ok (.aload_n 1, 1) := by decide +kernel
theorem dL_law_166 : decode cL_law 166 = .ok (.invokevirtual 75, 3) := by decide +kernel
theorem dL_law_169 : decode cL_law 169 = .ok (.pop, 1) := by decide +kernel
theorem dL_law_170 : decode cL_law 170 = .ok (.iload 11, 2) := by decide +kernel
theorem dL_law_172 : decode cL_law 172 = .ok (.ifCond .ne 136, 3) := by decide +kernel
theorem dL_law_175 : decode cL_law 175 = .ok (.aload 6, 2) := by decide +kernel
theorem dL_law_177 : decode cL_law 177 = .ok (.iconst 4, 1) := by decide +kernel
theorem dL_law_178 : decode cL_law 178 = .ok (.iaload, 1) := by decide +kernel
theorem dL_law_179 : decode cL_law 179 = .ok (.bipush 6, 2) := by decide +kernel
theorem dL_law_181 : decode cL_law 181 = .ok (.if_icmp .ge 127, 3) := by decide +kernel
theorem dL_law_184 : decode cL_law 184 = .ok (.iconst 1, 1) := by decide +kernel
theorem dL_law_185 : decode cL_law 185 = .ok (.iload 10, 2) := by decide +kernel
theorem dL_law_187 : decode cL_law 187 = .ok (.iconst 5, 1) := by decide +kernel
theorem dL_law_188 : decode cL_law 188 = .ok (.invokestatic 61, 3) := by decide +kernel
theorem dL_law_191 : decode cL_law 191 = .ok (.iadd, 1) := by decide +kernel
theorem dL_law_192 : decode cL_law 192 = .ok (.istore 14, 2) := by decide +kernel
theorem dL_law_194 : decode cL_law 194 = .ok (.iconst 2, 1) := by decide +kernel
theorem dL_law_195 : decode cL_law 195 = .ok (.aload 6, 2) := by decide +kernel
theorem dL_law_197 : decode cL_law 197 = .ok (.iconst 4, 1) := by decide +kernel
theorem dL_law_198 : decode cL_law 198 = .ok (.dup2, 1) := by decide +kernel
theorem dL_law_199 : decode cL_law 199 = .ok (.iaload, 1) := by decide +kernel
theorem dL_law_200 : decode cL_law 200 = .ok (.dup_x2, 1) := by decide +kernel
theorem dL_law_201 : decode cL_law 201 = .ok (.iconst 1, 1) := by decide +kernel
theorem dL_law_202 : decode cL_law 202 = .ok (.iadd, 1) := by decide +kernel
theorem dL_law_203 : decode cL_law 203 = .ok (.iastore, 1) := by decide +kernel
theorem dL_law_204 : decode cL_law 204 = .ok (.imul, 1) := by decide +kernel
theorem dL_law_205 : decode cL_law 205 = .ok (.istore 15, 2) := by decide +kernel
theorem dL_law_207 : decode cL_law 207 = .ok (.aload_n 2, 1) := by decide +kernel
theorem dL_law_208 : decode cL_law 208 = .ok (.iload 15, 2) := by decide +kernel
theorem dL_law_210 : decode cL_law 210 = .ok (.iload 14, 2) := by decide +kernel
theorem dL_law_212 : decode cL_law 212 = .ok (.iastore, 1) := by decide +kernel
theorem dL_law_213 : decode cL_law 213 = .ok (.aload_n 2, 1) := by decide +kernel
theorem dL_law_214 : decode cL_law 214 = .ok (.iload 15, 2) := by decide +kernel
theorem dL_law_216 : decode cL_law 216 = .ok (.iconst 1, 1) := by decide +kernel
theorem dL_law_217 : decode cL_law 217 = .ok (.iadd, 1) := by decide +kernel
theorem dL_law_218 : decode cL_law 218 = .ok (.iload 10, 2) := by decide +kernel
theorem dL_law_220 : decode cL_law 220 = .ok (.iconst 4, 1) := by decide +kernel
theorem dL_law_221 : decode cL_law 221 = .ok (.ishr, 1) := by decide +kernel
theorem dL_law_222 : decode cL_law 222 = .ok (.iconst 1, 1) := by decide +kernel
theorem dL_law_223 : decode cL_law 223 = .ok (.iload 14, 2) := by decide +kernel
theorem dL_law_225 : decode cL_law 225 = .ok (.ishl, 1) := by decide +kernel
theorem dL_law_226 : decode cL_law 226 = .ok (.invokestatic 61, 3) := by decide +kernel
theorem dL_law_229 : decode cL_law 229 = .ok (.iastore, 1) := by decide +kernel
theorem dL_law_230 : decode cL_law 230 = .ok (.iconst 0, 1) := by decide +kernel
theorem dL_law_231 : decode cL_law 231 = .ok (.istore 16, 2) := by decide +kernel
theorem dL_law_233 : decode cL_law 233 = .ok (.iload 16, 2) := by decide +kernel
theorem dL_law_235 : decode cL_law 235 = .ok (.iload 14, 2) := by decide +kernel
theorem dL_law_237 : decode cL_law 237 = .ok (.if_icmp .ge 46, 3) := by decide +kernel
theorem dL_law_240 : decode cL_law 240 = .ok (.aload_n 1, 1) := by decide +kernel
theorem dL_law_241 : decode cL_law 241 = .ok (.aload_n 2, 1) := by decide +kernel
theorem dL_law_242 : decode cL_law 242 = .ok (.iload 15, 2) := by decide +kernel
theorem dL_law_244 : decode cL_law 244 = .ok (.iconst 1, 1) := by decide +kernel
theorem dL_law_245 : decode cL_law 245 = .ok (.iadd, 1) := by decide +kernel
theorem dL_law_246 : decode cL_law 246 = .ok (.iaload, 1) := by decide +kernel
theorem dL_law_247 : decode cL_law 247 = .ok (.iload 16, 2) := by decide +kernel
theorem dL_law_249 : decode cL_law 249 = .ok (.ishr, 1) := by decide +kernel
theorem dL_law_250 : decode cL_law 250 = .ok (.iconst 1, 1) := by decide +kernel
theorem dL_law_251 : decode cL_law 251 = .ok (.iand, 1) := by decide +kernel
theorem dL_law_252 : decode cL_law 252 = .ok (.iconst 1, 1) := by decide +kernel
theorem dL_law_253 : decode cL_law 253 = .ok (.if_icmp .ne 9, 3) := by decide +kernel
theorem dL_law_256 : decode cL_law 256 = .ok (.ldc2_w 78, 3) := by decide +kernel
theorem dL_law_259 : decode cL_law 259 = .ok (.goto 6, 3) := by decide +kernel
theorem dL_law_262 : decode cL_law 262 = .ok (.ldc2_w 80, 3) := by decide +kernel
theorem dL_law_265 : decode cL_law 265 = .ok (.invokevirtual 82, 3) := by decide +kernel
theorem dL_law_268 : decode cL_law 268 = .ok (.iload 16, 2) := by decide +kernel
theorem dL_law_270 : decode cL_law 270 = .ok (.iconst 1, 1) := by decide +kernel
theorem dL_law_271 : decode cL_law 271 = .ok (.iadd, 1) := by decide +kernel
theorem dL_law_272 : decode cL_law 272 = .ok (.if_icmp .eq 5, 3) := by decide +kernel
theorem dL_law_275 : decode cL_law 275 = .ok (.iconst 0, 1) := by decide +kernel
theorem dL_law_276 : decode cL_law 276 = .ok (.ireturn, 1) := by decide +kernel
theorem dL_law_277 : decode cL_law 277 = .ok (.iinc 16 1, 3) := by decide +kernel
theorem dL_law_280 : decode cL_law 280 = .ok (.goto (-47), 3) := by decide +kernel
theorem dL_law_283 : decode cL_law 283 = .ok (.aload_n 1, 1) := by decide +kernel
theorem dL_law_284 : decode cL_law 284 = .ok (.invokevirtual 86, 3) := by decide +kernel
theorem dL_law_287 : decode cL_law 287 = .ok (.bipush (-6), 2) := by decide +kernel
theorem dL_law_289 : decode cL_law 289 = .ok (.if_icmp .ne 14, 3) := by decide +kernel
theorem dL_law_292 : decode cL_law 292 = .ok (.aload_n 1, 1) := by decide +kernel
theorem dL_law_293 : decode cL_law 293 = .ok (.invokevirtual 89, 3) := by decide +kernel
theorem dL_law_296 : decode cL_law 296 = .ok (.aload 6, 2) := by decide +kernel
theorem dL_law_298 : decode cL_law 298 = .ok (.iconst 4, 1) := by decide +kernel
theorem dL_law_299 : decode cL_law 299 = .ok (.iaload, 1) := by decide +kernel
theorem dL_law_300 : decode cL_law 300 = .ok (.if_icmp .eq 5, 3) := by decide +kernel
theorem dL_law_303 : decode cL_law 303 = .ok (.iconst 0, 1) := by decide +kernel
theorem dL_law_304 : decode cL_law 304 = .ok (.ireturn, 1) := by decide +kernel
theorem dL_law_305 : decode cL_law 305 = .ok (.goto 1271, 3) := by decide +kernel
theorem dL_law_308 : decode cL_law 308 = .ok (.iload 11, 2) := by decide +kernel
theorem dL_law_310 : decode cL_law 310 = .ok (.iconst 1, 1) := by decide +kernel
theorem dL_law_311 : decode cL_law 311 = .ok (.if_icmp .ne 199, 3) := by decide +kernel
theorem dL_law_314 : decode cL_law 314 = .ok (.aload 6, 2) := by decide +kernel
theorem dL_law_316 : decode cL_law 316 = .ok (.iconst 5, 1) := by decide +kernel
theorem dL_law_317 : decode cL_law 317 = .ok (.iaload, 1) := by decide +kernel
theorem dL_law_318 : decode cL_law 318 = .ok (.iconst 4, 1) := by decide +kernel
theorem dL_law_319 : decode cL_law 319 = .ok (.if_icmp .ge 191, 3) := by decide +kernel
theorem dL_law_322 : decode cL_law 322 = .ok (.iconst 1, 1) := by decide +kernel
theorem dL_law_323 : decode cL_law 323 = .ok (.iload 10, 2) := by decide +kernel
theorem dL_law_325 : decode cL_law 325 = .ok (.bipush 9, 2) := by decide +kernel
theorem dL_law_327 : decode cL_law 327 = .ok (.invokestatic 61, 3) := by decide +kernel
theorem dL_law_330 : decode cL_law 330 = .ok (.iadd, 1) := by decide +kernel
theorem dL_law_331 : decode cL_law 331 = .ok (.istore 14, 2) := by decide +kernel
theorem dL_law_333 : decode cL_law 333 = .ok (.iconst 3, 1) := by decide +kernel
theorem dL_law_334 : decode cL_law 334 = .ok (.aload 6, 2) := by decide +kernel
theorem dL_law_336 : decode cL_law 336 = .ok (.iconst 5, 1) := by decide +kernel
theorem dL_law_337 : decode cL_law 337 = .ok (.dup2, 1) := by decide +kernel
theorem dL_law_338 : decode cL_law 338 = .ok (.iaload, 1) := by decide +kernel
theorem dL_law_339 : decode cL_law 339 = .ok (.dup_x2, 1) := by decide +kernel
theorem dL_law_340 : decode cL_law 340 = .ok (.iconst 1, 1) := by decide +kernel
theorem dL_law_341 : decode cL_law 341 = .ok (.iadd, 1) := by decide +kernel
theorem dL_law_342 : decode cL_law 342 = .ok (.iastore, 1) := by decide +kernel
theorem dL_law_343 : decode cL_law 343 = .ok (.imul, 1) := by decide +kernel
theorem dL_law_344 : decode cL_law 344 = .ok (.istore 15, 2) := by decide +kernel
theorem dL_law_346 : decode cL_law 346 = .ok (.aload_n 3, 1) := by decide +kernel
theorem dL_law_347 : decode cL_law 347 = .ok (.iload 15, 2) := by decide +kernel
theorem dL_law_349 : decode cL_law 349 = .ok (.iload 14, 2) := by decide +kernel
theorem dL_law_351 : decode cL_law 351 = .ok (.iastore, 1) := by decide +kernel
theorem dL_law_352 : decode cL_law 352 = .ok (.aload_n 3, 1) := by decide +kernel
theorem dL_law_353 : decode cL_law 353 = .ok (.iload 15, 2) := by decide +kernel
theorem dL_law_355 : decode cL_law 355 = .ok (.iconst 1, 1) := by decide +kernel
theorem dL_law_356 : decode cL_law 356 = .ok (.iadd, 1) := by decide +kernel
theorem dL_law_357 : decode cL_law 357 = .ok (.iconst 0, 1) := by decide +kernel
theorem dL_law_358 : decode cL_law 358 = .ok (.iastore, 1) := by decide +kernel
theorem dL_law_359 : decode cL_law 359 = .ok (.aload_n 3, 1) := by decide +kernel
theorem dL_law_360 : decode cL_law 360 = .ok (.iload 15, 2) := by decide +kernel
theorem dL_law_362 : decode cL_law 362 = .ok (.iconst 2, 1) := by decide +kernel
theorem dL_law_363 : decode cL_law 363 = .ok (.iadd, 1) := by decide +kernel
theorem dL_law_364 : decode cL_law 364 = .ok (.iconst 0, 1) := by decide +kernel
theorem dL_law_365 : decode cL_law 365 = .ok (.iastore, 1) := by decide +kernel
theorem dL_law_366 : decode cL_law 366 = .ok (.aload_n 1, 1) := by decide +kernel
theorem dL_law_367 : decode cL_law 367 = .ok (.ldc2_w 92, 3) := by decide +kernel
theorem dL_law_370 : decode cL_law 370 = .ok (.invokevirtual 82, 3) := by decide +kernel
theorem dL_law_373 : decode cL_law 373 = .ok (.iconst 1, 1) := by decide +kernel
theorem dL_law_374 : decode cL_law 374 = .ok (.if_icmp .eq 5, 3) := by decide +kernel
theorem dL_law_377 : decode cL_law 377 = .ok (.iconst 0, 1) := by decide +kernel
theorem dL_law_378 : decode cL_law 378 = .ok (.ireturn, 1) := by decide +kernel
theorem dL_law_379 : decode cL_law 379 = .ok (.iconst 0, 1) := by decide +kernel
theorem dL_law_380 : decode cL_law 380 = .ok (.istore 16, 2) := by decide +kernel
theorem dL_law_382 : decode cL_law 382 = .ok (.iload 16, 2) := by decide +kernel
theorem dL_law_384 : decode cL_law 384 = .ok (.iload 14, 2) := by decide +kernel
theorem dL_law_386 : decode cL_law 386 = .ok (.if_icmp .ge 108, 3) := by decide +kernel
theorem dL_law_389 : decode cL_law 389 = .ok (.iload 10, 2) := by decide +kernel
theorem dL_law_391 : decode cL_law 391 = .ok (.iconst 2, 1) := by decide +kernel
theorem dL_law_392 : decode cL_law 392 = .ok (.iload 16, 2) := by decide +kernel
theorem dL_law_394 : decode cL_law 394 = .ok (.imul, 1) := by decide +kernel
theorem dL_law_395 : decode cL_law 395 = .ok (.iconst 3, 1) := by decide +kernel
theorem dL_law_396 : decode cL_law 396 = .ok (.iadd, 1) := by decide +kernel
theorem dL_law_397 : decode cL_law 397 = .ok (.ishr, 1) := by decide +kernel
theorem dL_law_398 : decode cL_law 398 = .ok (.bipush 7, 2) := by decide +kernel
theorem dL_law_400 : decode cL_law 400 = .ok (.invokestatic 61, 3) := by decide +kernel
theorem dL_law_403 : decode cL_law 403 = .ok (.istore 17, 2) := by decide +kernel
theorem dL_law_405 : decode cL_law 405 = .ok (.iload 17, 2) := by decide +kernel
theorem dL_law_407 : decode cL_law 407 = .ok (.iconst 3, 1) := by decide +kernel
theorem dL_law_408 : decode cL_law 408 = .ok (.if_icmp .ge 19, 3) := by decide +kernel
theorem dL_law_411 : decode cL_law 411 = .ok (.aload_n 3, 1) := by decide +kernel
theorem dL_law_412 : decode cL_law 412 = .ok (.iload 15, 2) := by decide +kernel
theorem dL_law_414 : decode cL_law 414 = .ok (.iconst 1, 1) := by decide +kernel
theorem dL_law_415 : decode cL_law 415 = .ok (.iadd, 1) := by decide +kernel
theorem dL_law_416 : decode cL_law 416 = .ok (.dup2, 1) := by decide +kernel
theorem dL_law_417 : decode cL_law 417 = .ok (.iaload, 1) := by decide +kernel
theorem dL_law_418 : decode cL_law 418 = .ok (.iconst 1, 1) := by decide +kernel
theorem dL_law_419 : decode cL_law 419 = .ok (.iload 16, 2) := by decide +kernel
theorem dL_law_421 : decode cL_law 421 = .ok (.ishl, 1) := by decide +kernel
theorem dL_law_422 : decode cL_law 422 = .ok (.ior, 1) := by decide +kernel
theorem dL_law_423 : decode cL_law 423 = .ok (.iastore, 1) := by decide +kernel
theorem dL_law_424 : decode cL_law 424 = .ok (.goto 23, 3) := by decide +kernel
theorem dL_law_427 : decode cL_law 427 = .ok (.iload 17, 2) := by decide +kernel
theorem dL_law_429 : decode cL_law 429 = .ok (.bipush 6, 2) := by decide +kernel
theorem dL_law_431 : decode cL_law 431 = .ok (.if_icmp .ge 16, 3) := by decide +kernel
theorem dL_law_434 : decode cL_law 434 = .ok (.aload_n 3, 1) := by decide +kernel
theorem dL_law_435 : decode cL_law 435 = .ok (.iload 15, 2) := by decide +kernel
theorem dL_law_437 : decode cL_law 437 = .ok (.iconst 2, 1) := by decide +kernel
theorem dL_law_438 : decode cL_law 438 = .ok (.iadd, 1) := by decide +kernel
theorem dL_law_439 : decode cL_law 439 = .ok (.dup2, 1) := by decide +kernel
theorem dL_law_440 : decode cL_law 440 = .ok (.iaload, 1) := by decide +kernel
theorem dL_law_441 : decode cL_law 441 = .ok (.iconst 1, 1) := by decide +kernel
theorem dL_law_442 : decode cL_law 442 = .ok (.iload 16, 2) := by decide +kernel
theorem dL_law_444 : decode cL_law 444 = .ok (.ishl, 1) := by decide +kernel
theorem dL_law_445 : decode cL_law 445 = .ok (.ior, 1) := by decide +kernel
theorem dL_law_446 : decode cL_law 446 = .ok (.iastore, 1) := by decide +kernel
theorem dL_law_447 : decode cL_law 447 = .ok (.aload_n 1, 1) := by decide +kernel
theorem dL_law_448 : decode cL_law 448 = .ok (.iload 17, 2) := by decide +kernel
theorem dL_law_450 : decode cL_law 450 = .ok (.iconst 3, 1) := by decide +kernel
theorem dL_law_451 : decode cL_law 451 = .ok (.if_icmp .ge 9, 3) := by decide +kernel
theorem dL_law_454 : decode cL_law 454 = .ok (.ldc2_w 94, 3) := by decide +kernel
theorem dL_law_457 : decode cL_law 457 = .ok (.goto 19, 3) := by decide +kernel
theorem dL_law_460 : decode cL_law 460 = .ok (.iload 17, 2) := by decide +kernel
theorem dL_law_462 : decode cL_law 462 = .ok (.bipush 6, 2) := by decide +kernel
theorem dL_law_464 : decode cL_law 464 = .ok (.if_icmp .ge 9, 3) := by decide +kernel
theorem dL_law_467 : decode cL_law 467 = .ok (.ldc2_w 96, 3) := by decide +kernel
theorem dL_law_470 : decode cL_law 470 = .ok (.goto 6, 3) := by decide +kernel
theorem dL_law_473 : decode cL_law 473 = .ok (.ldc2_w 98, 3) := by decide +kernel
theorem dL_law_476 : decode cL_law 476 = .ok (.invokevirtual 82, 3) := by decide +kernel
theorem dL_law_479 : decode cL_law 479 = .ok (.iload 16, 2) := by decide +kernel
theorem dL_law_481 : decode cL_law 481 = .ok (.iconst 2, 1) := by decide +kernel
theorem dL_law_482 : decode cL_law 482 = .ok (.iadd, 1) := by decide +kernel
theorem dL_law_483 : decode cL_law 483 = .ok (.if_icmp .eq 5, 3) := by decide +kernel
theorem dL_law_486 : decode cL_law 486 = .ok (.iconst 0, 1) := by decide +kernel
theorem dL_law_487 : decode cL_law 487 = .ok (.ireturn, 1) := by decide +kernel
theorem dL_law_488 : decode cL_law 488 = .ok (.iinc 16 1, 3) := by decide +kernel
theorem dL_law_491 : decode cL_law 491 = .ok (.goto (-109), 3) := by decide +kernel
theorem dL_law_494 : decode cL_law 494 = .ok (.aload_n 1, 1) := by decide +kernel
theorem dL_law_495 : decode cL_law 495 = .ok (.invokevirtual 89, 3) := by decide +kernel
theorem dL_law_498 : decode cL_law 498 = .ok (.aload 6, 2) := by decide +kernel
theorem dL_law_500 : decode cL_law 500 = .ok (.iconst 4, 1) := by decide +kernel
theorem dL_law_501 : decode cL_law 501 = .ok (.iaload, 1) := by decide +kernel
theorem dL_law_502 : decode cL_law 502 = .ok (.if_icmp .eq 5, 3) := by decide +kernel
theorem dL_law_505 : decode cL_law 505 = .ok (.iconst 0, 1) := by decide +kernel
theorem dL_law_506 : decode cL_law 506 = .ok (.ireturn, 1) := by decide +kernel
theorem dL_law_507 : decode cL_law 507 = .ok (.goto 1069, 3) := by decide +kernel
theorem dL_law_510 : decode cL_law 510 = .ok (.iload 11, 2) := by decide +kernel
theorem dL_law_512 : decode cL_law 512 = .ok (.iconst 2, 1) := by decide +kernel
theorem dL_law_513 : decode cL_law 513 = .ok (.if_icmp .ne 148, 3) := by decide +kernel
theorem dL_law_516 : decode cL_law 516 = .ok (.aload 6, 2) := by decide +kernel
theorem dL_law_518 : decode cL_law 518 = .ok (.iconst 4, 1) := by decide +kernel
theorem dL_law_519 : decode cL_law 519 = .ok (.iaload, 1) := by decide +kernel
theorem dL_law_520 : decode cL_law 520 = .ok (.ifCond .le 141, 3) := by decide +kernel
theorem dL_law_523 : decode cL_law 523 = .ok (.iload 10, 2) := by decide +kernel
theorem dL_law_525 : decode cL_law 525 = .ok (.iconst 3, 1) := by decide +kernel
theorem dL_law_526 : decode cL_law 526 = .ok (.invokestatic 61, 3) := by decide +kernel
theorem dL_law_529 : decode cL_law 529 = .ok (.ifCond .ne 132, 3) := by decide +kernel
theorem dL_law_532 : decode cL_law 532 = .ok (.iconst 0, 1) := by decide +kernel
theorem dL_law_533 : decode cL_law 533 = .ok (.istore 14, 2) := by decide +kernel
theorem dL_law_535 : decode cL_law 535 = .ok (.iconst 0, 1) := by decide +kernel
theorem dL_law_536 : decode cL_law 536 = .ok (.istore 15, 2) := by decide +kernel
theorem dL_law_538 : decode cL_law 538 = .ok (.iload 15, 2) := by decide +kernel
theorem dL_law_540 : decode cL_law 540 = .ok (.aload 6, 2) := by decide +kernel
theorem dL_law_542 : decode cL_law 542 = .ok (.bipush 6, 2) := by decide +kernel
theorem dL_law_544 : decode cL_law 544 = .ok (.iaload, 1) := by decide +kernel
theorem dL_law_545 : decode cL_law 545 = .ok (.if_icmp .ge 52, 3) := by decide +kernel
theorem dL_law_548 : decode cL_law 548 = .ok (.aload 4, 2) := by decide +kernel
theorem dL_law_550 : decode cL_law 550 = .ok (.iload 15, 2) := by decide +kernel
theorem dL_law_552 : decode cL_law 552 = .ok (.iaload, 1) := by decide +kernel
theorem dL_law_553 : decode cL_law 553 = .ok (.iload 12, 2) := by decide +kernel
theorem dL_law_555 : decode cL_law 555 = .ok (.if_icmp .eq 36, 3) := by decide +kernel
theorem dL_law_558 : decode cL_law 558 = .ok (.aload 4, 2) := by decide +kernel
theorem dL_law_560 : decode cL_law 560 = .ok (.iload 14, 2) := by decide +kernel
theorem dL_law_562 : decode cL_law 562 = .ok (.iinc 14 1, 3) := by decide +kernel
theorem dL_law_565 : decode cL_law 565 = .ok (.aload 4, 2) := by decide +kernel
theorem dL_law_567 : decode cL_law 567 = .ok (.iload 15, 2) := by decide +kernel
theorem dL_law_569 : decode cL_law 569 = .ok (.iaload, 1) := by decide +kernel
theorem dL_law_570 : decode cL_law 570 = .ok (.iload 12, 2) := by decide +kernel
theorem dL_law_572 : decode cL_law 572 = .ok (.if_icmp .le 13, 3) := by decide +kernel
theorem dL_law_575 : decode cL_law 575 = .ok (.aload 4, 2) := by decide +kernel
theorem dL_law_577 : decode cL_law 577 = .ok (.iload 15, 2) := by decide +kernel
theorem dL_law_579 : decode cL_law 579 = .ok (.iaload, 1) := by decide +kernel
theorem dL_law_580 : decode cL_law 580 = .ok (.iconst 1, 1) := by decide +kernel
theorem dL_law_581 : decode cL_law 581 = .ok (.isub, 1) := by decide +kernel
theorem dL_law_582 : decode cL_law 582 = .ok (.goto 8, 3) := by decide +kernel
theorem dL_law_585 : decode cL_law 585 = .ok (.aload 4, 2) := by decide +kernel
theorem dL_law_587 : decode cL_law 587 = .ok (.iload 15, 2) := by decide +kernel
theorem dL_law_589 : decode cL_law 589 = .ok (.iaload, 1) := by decide +kernel
theorem dL_law_590 : decode cL_law 590 = .ok (.iastore, 1) := by decide +kernel
theorem dL_law_591 : decode cL_law 591 = .ok (.iinc 15 1, 3) := by decide +kernel
theorem dL_law_594 : decode cL_law 594 = .ok (.goto (-56), 3) := by decide +kernel
theorem dL_law_597 : decode cL_law 597 = .ok (.aload 6, 2) := by decide +kernel
theorem dL_law_599 : decode cL_law 599 = .ok (.bipush 6, 2) := by decide +kernel
theorem dL_law_601 : decode cL_law 601 = .ok (.iload 14, 2) := by decide +kernel
theorem dL_law_603 : decode cL_law 603 = .ok (.iastore, 1) := by decide +kernel
theorem dL_law_604 : decode cL_law 604 = .ok (.aload 6, 2) := by decide +kernel
theorem dL_law_606 : decode cL_law 606 = .ok (.iconst 4, 1) := by decide +kernel
theorem dL_law_607 : decode cL_law 607 = .ok (.dup2, 1) := by decide +kernel
theorem dL_law_608 : decode cL_law 608 = .ok (.iaload, 1) := by decide +kernel
theorem dL_law_609 : decode cL_law 609 = .ok (.iconst 1, 1) := by decide +kernel
theorem dL_law_610 : decode cL_law 610 = .ok (.isub, 1) := by decide +kernel
theorem dL_law_611 : decode cL_law 611 = .ok (.iastore, 1) := by decide +kernel
theorem dL_law_612 : decode cL_law 612 = .ok (.iconst 2, 1) := by decide +kernel
theorem dL_law_613 : decode cL_law 613 = .ok (.iload 12, 2) := by decide +kernel
theorem dL_law_615 : decode cL_law 615 = .ok (.imul, 1) := by decide +kernel
theorem dL_law_616 : decode cL_law 616 = .ok (.istore 15, 2) := by decide +kernel
theorem dL_law_618 : decode cL_law 618 = .ok (.iload 15, 2) := by decide +kernel
theorem dL_law_620 : decode cL_law 620 = .ok (.iconst 2, 1) := by decide +kernel
theorem dL_law_621 : decode cL_law 621 = .ok (.aload 6, 2) := by decide +kernel
theorem dL_law_623 : decode cL_law 623 = .ok (.iconst 4, 1) := by decide +kernel
theorem dL_law_624 : decode cL_law 624 = .ok (.iaload, 1) := by decide +kernel
theorem dL_law_625 : decode cL_law 625 = .ok (.imul, 1) := by decide +kernel
theorem dL_law_626 : decode cL_law 626 = .ok (.if_icmp .ge 19, 3) := by decide +kernel
theorem dL_law_629 : decode cL_law 629 = .ok (.aload_n 2, 1) := by decide +kernel
theorem dL_law_630 : decode cL_law 630 = .ok (.iload 15, 2) := by decide +kernel
theorem dL_law_632 : decode cL_law 632 = .ok (.aload_n 2, 1) := by decide +kernel
theorem dL_law_633 : decode cL_law 633 = .ok (.iload 15, 2) := by decide +kernel
theorem dL_law_635 : decode cL_law 635 = .ok (.iconst 2, 1) := by decide +kernel
theorem dL_law_636 : decode cL_law 636 = .ok (.iadd, 1) := by decide +kernel
theorem dL_law_637 : decode cL_law 637 = .ok (.iaload, 1) := by decide +kernel
theorem dL_law_638 : decode cL_law 638 = .ok (.iastore, 1) := by decide +kernel
theorem dL_law_639 : decode cL_law 639 = .ok (.iinc 15 1, 3) := by decide +kernel
theorem dL_law_642 : decode cL_law 642 = .ok (.goto (-24), 3) := by decide +kernel
theorem dL_law_645 : decode cL_law 645 = .ok (.aload_n 1, 1) := by decide +kernel
theorem dL_law_646 : decode cL_law 646 = .ok (.iload 12, 2) := by decide +kernel
theorem dL_law_648 : decode cL_law 648 = .ok (.invokevirtual 100, 3) := by decide +kernel
theorem dL_law_651 : decode cL_law 651 = .ok (.iload 14, 2) := by decide +kernel
theorem dL_law_653 : decode cL_law 653 = .ok (.if_icmp .eq 5, 3) := by decide +kernel
theorem dL_law_656 : decode cL_law 656 = .ok (.iconst 0, 1) := by decide +kernel
theorem dL_law_657 : decode cL_law 657 = .ok (.ireturn, 1) := by decide +kernel
theorem dL_law_658 : decode cL_law 658 = .ok (.goto 918, 3) := by decide +kernel
theorem dL_law_661 : decode cL_law 661 = .ok (.iload 11, 2) := by decide +kernel
theorem dL_law_663 : decode cL_law 663 = .ok (.iconst 3, 1) := by decide +kernel
theorem dL_law_664 : decode cL_law 664 = .ok (.if_icmp .ne 148, 3) := by decide +kernel
theorem dL_law_667 : decode cL_law 667 = .ok (.aload 6, 2) := by decide +kernel
theorem dL_law_669 : decode cL_law 669 = .ok (.iconst 5, 1) := by decide +kernel
theorem dL_law_670 : decode cL_law 670 = .ok (.iaload, 1) := by decide +kernel
theorem dL_law_671 : decode cL_law 671 = .ok (.ifCond .le 141, 3) := by decide +kernel
theorem dL_law_674 : decode cL_law 674 = .ok (.iload 10, 2) := by decide +kernel
theorem dL_law_676 : decode cL_law 676 = .ok (.iconst 3, 1) := by decide +kernel
theorem dL_law_677 : decode cL_law 677 = .ok (.invokestatic 61, 3) := by decide +kernel
theorem dL_law_680 : decode cL_law 680 = .ok (.ifCond .ne 132, 3) := by decide +kernel
theorem dL_law_683 : decode cL_law 683 = .ok (.iconst 0, 1) := by decide +kernel
theorem dL_law_684 : decode cL_law 684 = .ok (.istore 14, 2) := by decide +kernel
theorem dL_law_686 : decode cL_law 686 = .ok (.iconst 0, 1) := by decide +kernel
theorem dL_law_687 : decode cL_law 687 = .ok (.istore 15, 2) := by decide +kernel
theorem dL_law_689 : decode cL_law 689 = .ok (.iload 15, 2) := by decide +kernel
theorem dL_law_691 : decode cL_law 691 = .ok (.aload 6, 2) := by decide +kernel
theorem dL_law_693 : decode cL_law 693 = .ok (.bipush 7, 2) := by decide +kernel
theorem dL_law_695 : decode cL_law 695 = .ok (.iaload, 1) := by decide +kernel
theorem dL_law_696 : decode cL_law 696 = .ok (.if_icmp .ge 52, 3) := by decide +kernel
theorem dL_law_699 : decode cL_law 699 = .ok (.aload 5, 2) := by decide +kernel
theorem dL_law_701 : decode cL_law 701 = .ok (.iload 15, 2) := by decide +kernel
theorem dL_law_703 : decode cL_law 703 = .ok (.iaload, 1) := by decide +kernel
theorem dL_law_704 : decode cL_law 704 = .ok (.iload 13, 2) := by decide +kernel
theorem dL_law_706 : decode cL_law 706 = .ok (.if_icmp .eq 36, 3) := by decide +kernel
theorem dL_law_709 : decode cL_law 709 = .ok (.aload 5, 2) := by decide +kernel
theorem dL_law_711 : decode cL_law 711 = .ok (.iload 14, 2) := by decide +kernel
theorem dL_law_713 : decode cL_law 713 = .ok (.iinc 14 1, 3) := by decide +kernel
theorem dL_law_716 : decode cL_law 716 = .ok (.aload 5, 2) := by decide +kernel
theorem dL_law_718 : decode cL_law 718 = .ok (.iload 15, 2) := by decide +kernel
theorem dL_law_720 : decode cL_law 720 = .ok (.iaload, 1) := by decide +kernel
theorem dL_law_721 : decode cL_law 721 = .ok (.iload 13, 2) := by decide +kernel
theorem dL_law_723 : decode cL_law 723 = .ok (.if_icmp .le 13, 3) := by decide +kernel
theorem dL_law_726 : decode cL_law 726 = .ok (.aload 5, 2) := by decide +kernel
theorem dL_law_728 : decode cL_law 728 = .ok (.iload 15, 2) := by decide +kernel
theorem dL_law_730 : decode cL_law 730 = .ok (.iaload, 1) := by decide +kernel
theorem dL_law_731 : decode cL_law 731 = .ok (.iconst 1, 1) := by decide +kernel
theorem dL_law_732 : decode cL_law 732 = .ok (.isub, 1) := by decide +kernel
theorem dL_law_733 : decode cL_law 733 = .ok (.goto 8, 3) := by decide +kernel
theorem dL_law_736 : decode cL_law 736 = .ok (.aload 5, 2) := by decide +kernel
theorem dL_law_738 : decode cL_law 738 = .ok (.iload 15, 2) := by decide +kernel
theorem dL_law_740 : decode cL_law 740 = .ok (.iaload, 1) := by decide +kernel
theorem dL_law_741 : decode cL_law 741 = .ok (.iastore, 1) := by decide +kernel
theorem dL_law_742 : decode cL_law 742 = .ok (.iinc 15 1, 3) := by decide +kernel
theorem dL_law_745 : decode cL_law 745 = .ok (.goto (-56), 3) := by decide +kernel
theorem dL_law_748 : decode cL_law 748 = .ok (.aload 6, 2) := by decide +kernel
theorem dL_law_750 : decode cL_law 750 = .ok (.bipush 7, 2) := by decide +kernel
theorem dL_law_752 : decode cL_law 752 = .ok (.iload 14, 2) := by decide +kernel
theorem dL_law_754 : decode cL_law 754 = .ok (.iastore, 1) := by decide +kernel
theorem dL_law_755 : decode cL_law 755 = .ok (.aload 6, 2) := by decide +kernel
theorem dL_law_757 : decode cL_law 757 = .ok (.iconst 5, 1) := by decide +kernel
theorem dL_law_758 : decode cL_law 758 = .ok (.dup2, 1) := by decide +kernel
theorem dL_law_759 : decode cL_law 759 = .ok (.iaload, 1) := by decide +kernel
theorem dL_law_760 : decode cL_law 760 = .ok (.iconst 1, 1) := by decide +kernel
theorem dL_law_761 : decode cL_law 761 = .ok (.isub, 1) := by decide +kernel
theorem dL_law_762 : decode cL_law 762 = .ok (.iastore, 1) := by decide +kernel
theorem dL_law_763 : decode cL_law 763 = .ok (.iconst 3, 1) := by decide +kernel
theorem dL_law_764 : decode cL_law 764 = .ok (.iload 13, 2) := by decide +kernel
theorem dL_law_766 : decode cL_law 766 = .ok (.imul, 1) := by decide +kernel
theorem dL_law_767 : decode cL_law 767 = .ok (.istore 15, 2) := by decide +kernel
theorem dL_law_769 : decode cL_law 769 = .ok (.iload 15, 2) := by decide +kernel
theorem dL_law_771 : decode cL_law 771 = .ok (.iconst 3, 1) := by decide +kernel
theorem dL_law_772 : decode cL_law 772 = .ok (.aload 6, 2) := by decide +kernel
theorem dL_law_774 : decode cL_law 774 = .ok (.iconst 5, 1) := by decide +kernel
theorem dL_law_775 : decode cL_law 775 = .ok (.iaload, 1) := by decide +kernel
theorem dL_law_776 : decode cL_law 776 = .ok (.imul, 1) := by decide +kernel
theorem dL_law_777 : decode cL_law 777 = .ok (.if_icmp .ge 19, 3) := by decide +kernel
theorem dL_law_780 : decode cL_law 780 = .ok (.aload_n 3, 1) := by decide +kernel
theorem dL_law_781 : decode cL_law 781 = .ok (.iload 15, 2) := by decide +kernel
theorem dL_law_783 : decode cL_law 783 = .ok (.aload_n 3, 1) := by decide +kernel
theorem dL_law_784 : decode cL_law 784 = .ok (.iload 15, 2) := by decide +kernel
theorem dL_law_786 : decode cL_law 786 = .ok (.iconst 3, 1) := by decide +kernel
theorem dL_law_787 : decode cL_law 787 = .ok (.iadd, 1) := by decide +kernel
theorem dL_law_788 : decode cL_law 788 = .ok (.iaload, 1) := by decide +kernel
theorem dL_law_789 : decode cL_law 789 = .ok (.iastore, 1) := by decide +kernel
theorem dL_law_790 : decode cL_law 790 = .ok (.iinc 15 1, 3) := by decide +kernel
theorem dL_law_793 : decode cL_law 793 = .ok (.goto (-24), 3) := by decide +kernel
theorem dL_law_796 : decode cL_law 796 = .ok (.aload_n 1, 1) := by decide +kernel
theorem dL_law_797 : decode cL_law 797 = .ok (.iload 13, 2) := by decide +kernel
theorem dL_law_799 : decode cL_law 799 = .ok (.invokevirtual 103, 3) := by decide +kernel
theorem dL_law_802 : decode cL_law 802 = .ok (.iload 14, 2) := by decide +kernel
theorem dL_law_804 : decode cL_law 804 = .ok (.if_icmp .eq 5, 3) := by decide +kernel
theorem dL_law_807 : decode cL_law 807 = .ok (.iconst 0, 1) := by decide +kernel
theorem dL_law_808 : decode cL_law 808 = .ok (.ireturn, 1) := by decide +kernel
theorem dL_law_809 : decode cL_law 809 = .ok (.goto 767, 3) := by decide +kernel
theorem dL_law_812 : decode cL_law 812 = .ok (.iload 11, 2) := by decide +kernel
theorem dL_law_814 : decode cL_law 814 = .ok (.iconst 4, 1) := by decide +kernel
theorem dL_law_815 : decode cL_law 815 = .ok (.if_icmp .ne 109, 3) := by decide +kernel
theorem dL_law_818 : decode cL_law 818 = .ok (.aload 6, 2) := by decide +kernel
theorem dL_law_820 : decode cL_law 820 = .ok (.iconst 4, 1) := by decide +kernel
theorem dL_law_821 : decode cL_law 821 = .ok (.iaload, 1) := by decide +kernel
theorem dL_law_822 : decode cL_law 822 = .ok (.ifCond .le 102, 3) := by decide +kernel
theorem dL_law_825 : decode cL_law 825 = .ok (.iload 10, 2) := by decide +kernel
theorem dL_law_827 : decode cL_law 827 = .ok (.aload_n 2, 1) := by decide +kernel
theorem dL_law_828 : decode cL_law 828 = .ok (.iconst 2, 1) := by decide +kernel
theorem dL_law_829 : decode cL_law 829 = .ok (.iload 12, 2) := by decide +kernel
theorem dL_law_831 : decode cL_law 831 = .ok (.imul, 1) := by decide +kernel
theorem dL_law_832 : decode cL_law 832 = .ok (.iaload, 1) := by decide +kernel
theorem dL_law_833 : decode cL_law 833 = .ok (.invokestatic 61, 3) := by decide +kernel
theorem dL_law_836 : decode cL_law 836 = .ok (.istore 14, 2) := by decide +kernel
theorem dL_law_838 : decode cL_law 838 = .ok (.iload 10, 2) := by decide +kernel
theorem dL_law_840 : decode cL_law 840 = .ok (.iconst 4, 1) := by decide +kernel
theorem dL_law_841 : decode cL_law 841 = .ok (.ishr, 1) := by decide +kernel
theorem dL_law_842 : decode cL_law 842 = .ok (.iconst 2, 1) := by decide +kernel
theorem dL_law_843 : decode cL_law 843 = .ok (.invokestatic 61, 3) := by decide +kernel
theorem dL_law_846 : decode cL_law 846 = .ok (.ifCond .ne 7, 3) := by decide +kernel
theorem dL_law_849 : decode cL_law 849 = .ok (.iconst 1, 1) := by decide +kernel
theorem dL_law_850 : decode cL_law 850 = .ok (.goto 4, 3) := by decide +kernel
theorem dL_law_853 : decode cL_law 853 = .ok (.iconst 0, 1) := by decide +kernel
theorem dL_law_854 : decode cL_law 854 = .ok (.istore 15, 2) := by decide +kernel
theorem dL_law_856 : decode cL_law 856 = .ok (.aload_n 1, 1) := by decide +kernel
theorem dL_law_857 : decode cL_law 857 = .ok (.iload 12, 2) := by decide +kernel
theorem dL_law_859 : decode cL_law 859 = .ok (.iload 14, 2) := by decide +kernel
theorem dL_law_861 : decode cL_law 861 = .ok (.iload 15, 2) := by decide +kernel
theorem dL_law_863 : decode cL_law 863 = .ok (.invokevirtual 106, 3) := by decide +kernel
theorem dL_law_866 : decode cL_law 866 = .ok (.aload_n 2, 1) := by decide +kernel
theorem dL_law_867 : decode cL_law 867 = .ok (.iconst 2, 1) := by decide +kernel
theorem dL_law_868 : decode cL_law 868 = .ok (.iload 12, 2) := by decide +kernel
theorem dL_law_870 : decode cL_law 870 = .ok (.imul, 1) := by decide +kernel
theorem dL_law_871 : decode cL_law 871 = .ok (.iconst 1, 1) := by decide +kernel
theorem dL_law_872 : decode cL_law 872 = .ok (.iadd, 1) := by decide +kernel
theorem dL_law_873 : decode cL_law 873 = .ok (.iaload, 1) := by decide +kernel
theorem dL_law_874 : decode cL_law 874 = .ok (.iload 14, 2) := by decide +kernel
theorem dL_law_876 : decode cL_law 876 = .ok (.ishr, 1) := by decide +kernel
theorem dL_law_877 : decode cL_law 877 = .ok (.iconst 1, 1) := by decide +kernel
theorem dL_law_878 : decode cL_law 878 = .ok (.iand, 1) := by decide +kernel
theorem dL_law_879 : decode cL_law 879 = .ok (.if_icmp .eq 5, 3) := by decide +kernel
theorem dL_law_882 : decode cL_law 882 = .ok (.iconst 0, 1) := by decide +kernel
theorem dL_law_883 : decode cL_law 883 = .ok (.ireturn, 1) := by decide +kernel
theorem dL_law_884 : decode cL_law 884 = .ok (.aload_n 2, 1) := by decide +kernel
theorem dL_law_885 : decode cL_law 885 = .ok (.iconst 2, 1) := by decide +kernel
theorem dL_law_886 : decode cL_law 886 = .ok (.iload 12, 2) := by decide +kernel
theorem dL_law_888 : decode cL_law 888 = .ok (.imul, 1) := by decide +kernel
theorem dL_law_889 : decode cL_law 889 = .ok (.iconst 1, 1) := by decide +kernel
theorem dL_law_890 : decode cL_law 890 = .ok (.iadd, 1) := by decide +kernel
theorem dL_law_891 : decode cL_law 891 = .ok (.aload_n 2, 1) := by decide +kernel
theorem dL_law_892 : decode cL_law 892 = .ok (.iconst 2, 1) := by decide +kernel
theorem dL_law_893 : decode cL_law 893 = .ok (.iload 12, 2) := by decide +kernel
theorem dL_law_895 : decode cL_law 895 = .ok (.imul, 1) := by decide +kernel
theorem dL_law_896 : decode cL_law 896 = .ok (.iconst 1, 1) := by decide +kernel
theorem dL_law_897 : decode cL_law 897 = .ok (.iadd, 1) := by decide +kernel
theorem dL_law_898 : decode cL_law 898 = .ok (.iaload, 1) := by decide +kernel
theorem dL_law_899 : decode cL_law 899 = .ok (.iconst 1, 1) := by decide +kernel
theorem dL_law_900 : decode cL_law 900 = .ok (.iload 14, 2) := by decide +kernel
theorem dL_law_902 : decode cL_law 902 = .ok (.ishl, 1) := by decide +kernel
theorem dL_law_903 : decode cL_law 903 = .ok (.iconst (-1), 1) := by decide +kernel
theorem dL_law_904 : decode cL_law 904 = .ok (.ixor, 1) := by decide +kernel
theorem dL_law_905 : decode cL_law 905 = .ok (.iand, 1) := by decide +kernel
theorem dL_law_906 : decode cL_law 906 = .ok (.iload 15, 2) := by decide +kernel
theorem dL_law_908 : decode cL_law 908 = .ok (.ifCond .eq 10, 3) := by decide +kernel
theorem dL_law_911 : decode cL_law 911 = .ok (.iconst 1, 1) := by decide +kernel
theorem dL_law_912 : decode cL_law 912 = .ok (.iload 14, 2) := by decide +kernel
theorem dL_law_914 : decode cL_law 914 = .ok (.ishl, 1) := by decide +kernel
theorem dL_law_915 : decode cL_law 915 = .ok (.goto 4, 3) := by decide +kernel
theorem dL_law_918 : decode cL_law 918 = .ok (.iconst 0, 1) := by decide +kernel
theorem dL_law_919 : decode cL_law 919 = .ok (.ior, 1) := by decide +kernel
theorem dL_law_920 : decode cL_law 920 = .ok (.iastore, 1) := by decide +kernel
theorem dL_law_921 : decode cL_law 921 = .ok (.goto 655, 3) := by decide +kernel
theorem dL_law_924 : decode cL_law 924 = .ok (.iload 11, 2) := by decide +kernel
theorem dL_law_926 : decode cL_law 926 = .ok (.iconst 5, 1) := by decide +kernel
theorem dL_law_927 : decode cL_law 927 = .ok (.if_icmp .ne 160, 3) := by decide +kernel
theorem dL_law_930 : decode cL_law 930 = .ok (.aload 6, 2) := by decide +kernel
theorem dL_law_932 : decode cL_law 932 = .ok (.iconst 5, 1) := by decide +kernel
theorem dL_law_933 : decode cL_law 933 = .ok (.iaload, 1) := by decide +kernel
theorem dL_law_934 : decode cL_law 934 = .ok (.ifCond .le 153, 3) := by decide +kernel
theorem dL_law_937 : decode cL_law 937 = .ok (.iload 10, 2) := by decide +kernel
theorem dL_law_939 : decode cL_law 939 = .ok (.aload_n 3, 1) := by decide +kernel
theorem dL_law_940 : decode cL_law 940 = .ok (.iconst 3, 1) := by decide +kernel
theorem dL_law_941 : decode cL_law 941 = .ok (.iload 13, 2) := by decide +kernel
theorem dL_law_943 : decode cL_law 943 = .ok (.imul, 1) := by decide +kernel
theorem dL_law_944 : decode cL_law 944 = .ok (.iaload, 1) := by decide +kernel
theorem dL_law_945 : decode cL_law 945 = .ok (.invokestatic 61, 3) := by decide +kernel
theorem dL_law_948 : decode cL_law 948 = .ok (.istore 14, 2) := by decide +kernel
theorem dL_law_950 : decode cL_law 950 = .ok (.iload 10, 2) := by decide +kernel
theorem dL_law_952 : decode cL_law 952 = .ok (.iconst 5, 1) := by decide +kernel
theorem dL_law_953 : decode cL_law 953 = .ok (.ishr, 1) := by decide +kernel
theorem dL_law_954 : decode cL_law 954 = .ok (.iconst 3, 1) := by decide +kernel
theorem dL_law_955 : decode cL_law 955 = .ok (.invokestatic 61, 3) := by decide +kernel
theorem dL_law_958 : decode cL_law 958 = .ok (.istore 15, 2) := by decide +kernel
theorem dL_law_960 : decode cL_law 960 = .ok (.aload_n 3, 1) := by decide +kernel
theorem dL_law_961 : decode cL_law 961 = .ok (.iconst 3, 1) := by decide +kernel
theorem dL_law_962 : decode cL_law 962 = .ok (.iload 13, 2) := by decide +kernel
theorem dL_law_964 : decode cL_law 964 = .ok (.imul, 1) := by decide +kernel
theorem dL_law_965 : decode cL_law 965 = .ok (.iconst 1, 1) := by decide +kernel
theorem dL_law_966 : decode cL_law 966 = .ok (.iadd, 1) := by decide +kernel
theorem dL_law_967 : decode cL_law 967 = .ok (.iaload, 1) := by decide +kernel
theorem dL_law_968 : decode cL_law 968 = .ok (.iload 14, 2) := by decide +kernel
theorem dL_law_970 : decode cL_law 970 = .ok (.ishr, 1) := by decide +kernel
theorem dL_law_971 : decode cL_law 971 = .ok (.iconst 1, 1) := by decide +kernel
theorem dL_law_972 : decode cL_law 972 = .ok (.iand, 1) := by decide +kernel
theorem dL_law_973 : decode cL_law 973 = .ok (.iconst 2, 1) := by decide +kernel
theorem dL_law_974 : decode cL_law 974 = .ok (.imul, 1) := by decide +kernel
theorem dL_law_975 : decode cL_law 975 = .ok (.aload_n 3, 1) := by decide +kernel
theorem dL_law_976 : decode cL_law 976 = .ok (.iconst 3, 1) := by decide +kernel
theorem dL_law_977 : decode cL_law 977 = .ok (.iload 13, 2) := by decide +kernel
theorem dL_law_979 : decode cL_law 979 = .ok (.imul, 1) := by decide +kernel
theorem dL_law_980 : decode cL_law 980 = .ok (.iconst 2, 1) := by decide +kernel
theorem dL_law_981 : decode cL_law 981 = .ok (.iadd, 1) := by decide +kernel
theorem dL_law_982 : decode cL_law 982 = .ok (.iaload, 1) := by decide +kernel
theorem dL_law_983 : decode cL_law 983 = .ok (.iload 14, 2) := by decide +kernel
theorem dL_law_985 : decode cL_law 985 = .ok (.ishr, 1) := by decide +kernel
theorem dL_law_986 : decode cL_law 986 = .ok (.iconst 1, 1) := by decide +kernel
theorem dL_law_987 : decode cL_law 987 = .ok (.iand, 1) := by decide +kernel
theorem dL_law_988 : decode cL_law 988 = .ok (.iadd, 1) := by decide +kernel
theorem dL_law_989 : decode cL_law 989 = .ok (.istore 16, 2) := by decide +kernel
theorem dL_law_991 : decode cL_law 991 = .ok (.aload_n 1, 1) := by decide +kernel
theorem dL_law_992 : decode cL_law 992 = .ok (.iload 13, 2) := by decide +kernel
theorem dL_law_994 : decode cL_law 994 = .ok (.iload 14, 2) := by decide +kernel
theorem dL_law_996 : decode cL_law 996 = .ok (.iload 15, 2) := by decide +kernel
theorem dL_law_998 : decode cL_law 998 = .ok (.invokevirtual 110, 3) := by decide +kernel
theorem dL_law_1001 : decode cL_law 1001 = .ok (.iload 16, 2) := by decide +kernel
theorem dL_law_1003 : decode cL_law 1003 = .ok (.if_icmp .eq 5, 3) := by decide +kernel
theorem dL_law_1006 : decode cL_law 1006 = .ok (.iconst 0, 1) := by decide +kernel
theorem dL_law_1007 : decode cL_law 1007 = .ok (.ireturn, 1) := by decide +kernel
theorem dL_law_1008 : decode cL_law 1008 = .ok (.aload_n 3, 1) := by decide +kernel
theorem dL_law_1009 : decode cL_law 1009 = .ok (.iconst 3, 1) := by decide +kernel
theorem dL_law_1010 : decode cL_law 1010 = .ok (.iload 13, 2) := by decide +kernel
theorem dL_law_1012 : decode cL_law 1012 = .ok (.imul, 1) := by decide +kernel
theorem dL_law_1013 : decode cL_law 1013 = .ok (.iconst 1, 1) := by decide +kernel
theorem dL_law_1014 : decode cL_law 1014 = .ok (.iadd, 1) := by decide +kernel
theorem dL_law_1015 : decode cL_law 1015 = .ok (.aload_n 3, 1) := by decide +kernel
theorem dL_law_1016 : decode cL_law 1016 = .ok (.iconst 3, 1) := by decide +kernel
theorem dL_law_1017 : decode cL_law 1017 = .ok (.iload 13, 2) := by decide +kernel
theorem dL_law_1019 : decode cL_law 1019 = .ok (.imul, 1) := by decide +kernel
theorem dL_law_1020 : decode cL_law 1020 = .ok (.iconst 1, 1) := by decide +kernel
theorem dL_law_1021 : decode cL_law 1021 = .ok (.iadd, 1) := by decide +kernel
theorem dL_law_1022 : decode cL_law 1022 = .ok (.iaload, 1) := by decide +kernel
theorem dL_law_1023 : decode cL_law 1023 = .ok (.iconst 1, 1) := by decide +kernel
theorem dL_law_1024 : decode cL_law 1024 = .ok (.iload 14, 2) := by decide +kernel
theorem dL_law_1026 : decode cL_law 1026 = .ok (.ishl, 1) := by decide +kernel
theorem dL_law_1027 : decode cL_law 1027 = .ok (.iconst (-1), 1) := by decide +kernel
theorem dL_law_1028 : decode cL_law 1028 = .ok (.ixor, 1) := by decide +kernel
theorem dL_law_1029 : decode cL_law 1029 = .ok (.iand, 1) := by decide +kernel
theorem dL_law_1030 : decode cL_law 1030 = .ok (.iload 15, 2) := by decide +kernel
theorem dL_law_1032 : decode cL_law 1032 = .ok (.iconst 2, 1) := by decide +kernel
theorem dL_law_1033 : decode cL_law 1033 = .ok (.if_icmp .ne 10, 3) := by decide +kernel
theorem dL_law_1036 : decode cL_law 1036 = .ok (.iconst 1, 1) := by decide +kernel
theorem dL_law_1037 : decode cL_law 1037 = .ok (.iload 14, 2) := by decide +kernel
theorem dL_law_1039 : decode cL_law 1039 = .ok (.ishl, 1) := by decide +kernel
theorem dL_law_1040 : decode cL_law 1040 = .ok (.goto 4, 3) := by decide +kernel
theorem dL_law_1043 : decode cL_law 1043 = .ok (.iconst 0, 1) := by decide +kernel
theorem dL_law_1044 : decode cL_law 1044 = .ok (.ior, 1) := by decide +kernel
theorem dL_law_1045 : decode cL_law 1045 = .ok (.iastore, 1) := by decide +kernel
theorem dL_law_1046 : decode cL_law 1046 = .ok (.aload_n 3, 1) := by decide +kernel
theorem dL_law_1047 : decode cL_law 1047 = .ok (.iconst 3, 1) := by decide +kernel
theorem dL_law_1048 : decode cL_law 1048 = .ok (.iload 13, 2) := by decide +kernel
theorem dL_law_1050 : decode cL_law 1050 = .ok (.imul, 1) := by decide +kernel
theorem dL_law_1051 : decode cL_law 1051 = .ok (.iconst 2, 1) := by decide +kernel
theorem dL_law_1052 : decode cL_law 1052 = .ok (.iadd, 1) := by decide +kernel
theorem dL_law_1053 : decode cL_law 1053 = .ok (.aload_n 3, 1) := by decide +kernel
theorem dL_law_1054 : decode cL_law 1054 = .ok (.iconst 3, 1) := by decide +kernel
theorem dL_law_1055 : decode cL_law 1055 = .ok (.iload 13, 2) := by decide +kernel
theorem dL_law_1057 : decode cL_law 1057 = .ok (.imul, 1) := by decide +kernel
theorem dL_law_1058 : decode cL_law 1058 = .ok (.iconst 2, 1) := by decide +kernel
theorem dL_law_1059 : decode cL_law 1059 = .ok (.iadd, 1) := by decide +kernel
theorem dL_law_1060 : decode cL_law 1060 = .ok (.iaload, 1) := by decide +kernel
theorem dL_law_1061 : decode cL_law 1061 = .ok (.iconst 1, 1) := by decide +kernel
theorem dL_law_1062 : decode cL_law 1062 = .ok (.iload 14, 2) := by decide +kernel
theorem dL_law_1064 : decode cL_law 1064 = .ok (.ishl, 1) := by decide +kernel
theorem dL_law_1065 : decode cL_law 1065 = .ok (.iconst (-1), 1) := by decide +kernel
theorem dL_law_1066 : decode cL_law 1066 = .ok (.ixor, 1) := by decide +kernel
theorem dL_law_1067 : decode cL_law 1067 = .ok (.iand, 1) := by decide +kernel
theorem dL_law_1068 : decode cL_law 1068 = .ok (.iload 15, 2) := by decide +kernel
theorem dL_law_1070 : decode cL_law 1070 = .ok (.iconst 1, 1) := by decide +kernel
theorem dL_law_1071 : decode cL_law 1071 = .ok (.if_icmp .ne 10, 3) := by decide +kernel
theorem dL_law_1074 : decode cL_law 1074 = .ok (.iconst 1, 1) := by decide +kernel
theorem dL_law_1075 : decode cL_law 1075 = .ok (.iload 14, 2) := by decide +kernel
theorem dL_law_1077 : decode cL_law 1077 = .ok (.ishl, 1) := by decide +kernel
theorem dL_law_1078 : decode cL_law 1078 = .ok (.goto 4, 3) := by decide +kernel
theorem dL_law_1081 : decode cL_law 1081 = .ok (.iconst 0, 1) := by decide +kernel
theorem dL_law_1082 : decode cL_law 1082 = .ok (.ior, 1) := by decide +kernel
theorem dL_law_1083 : decode cL_law 1083 = .ok (.iastore, 1) := by decide +kernel
theorem dL_law_1084 : decode cL_law 1084 = .ok (.goto 492, 3) := by decide +kernel
theorem dL_law_1087 : decode cL_law 1087 = .ok (.iload 11, 2) := by decide +kernel
theorem dL_law_1089 : decode cL_law 1089 = .ok (.bipush 8, 2) := by decide +kernel
theorem dL_law_1091 : decode cL_law 1091 = .ok (.if_icmp .ge 76, 3) := by decide +kernel
theorem dL_law_1094 : decode cL_law 1094 = .ok (.aload 6, 2) := by decide +kernel
theorem dL_law_1096 : decode cL_law 1096 = .ok (.iconst 4, 1) := by decide +kernel
theorem dL_law_1097 : decode cL_law 1097 = .ok (.iaload, 1) := by decide +kernel
theorem dL_law_1098 : decode cL_law 1098 = .ok (.ifCond .le 69, 3) := by decide +kernel
theorem dL_law_1101 : decode cL_law 1101 = .ok (.aload 6, 2) := by decide +kernel
theorem dL_law_1103 : decode cL_law 1103 = .ok (.bipush 6, 2) := by decide +kernel
theorem dL_law_1105 : decode cL_law 1105 = .ok (.iaload, 1) := by decide +kernel
theorem dL_law_1106 : decode cL_law 1106 = .ok (.bipush 40, 2) := by decide +kernel
theorem dL_law_1108 : decode cL_law 1108 = .ok (.if_icmp .ge 7, 3) := by decide +kernel
theorem dL_law_1111 : decode cL_law 1111 = .ok (.iconst 1, 1) := by decide +kernel
theorem dL_law_1112 : decode cL_law 1112 = .ok (.goto 4, 3) := by decide +kernel
theorem dL_law_1115 : decode cL_law 1115 = .ok (.iconst 0, 1) := by decide +kernel
theorem dL_law_1116 : decode cL_law 1116 = .ok (.istore 14, 2) := by decide +kernel
theorem dL_law_1118 : decode cL_law 1118 = .ok (.iload 14, 2) := by decide +kernel
theorem dL_law_1120 : decode cL_law 1120 = .ok (.ifCond .eq 18, 3) := by decide +kernel
theorem dL_law_1123 : decode cL_law 1123 = .ok (.aload 4, 2) := by decide +kernel
theorem dL_law_1125 : decode cL_law 1125 = .ok (.aload 6, 2) := by decide +kernel
theorem dL_law_1127 : decode cL_law 1127 = .ok (.bipush 6, 2) := by decide +kernel
theorem dL_law_1129 : decode cL_law 1129 = .ok (.dup2, 1) := by decide +kernel
theorem dL_law_1130 : decode cL_law 1130 = .ok (.iaload, 1) := by decide +kernel
theorem dL_law_1131 : decode cL_law 1131 = .ok (.dup_x2, 1) := by decide +kernel
theorem dL_law_1132 : decode cL_law 1132 = .ok (.iconst 1, 1) := by decide +kernel
theorem dL_law_1133 : decode cL_law 1133 = .ok (.iadd, 1) := by decide +kernel
theorem dL_law_1134 : decode cL_law 1134 = .ok (.iastore, 1) := by decide +kernel
theorem dL_law_1135 : decode cL_law 1135 = .ok (.iload 12, 2) := by decide +kernel
theorem dL_law_1137 : decode cL_law 1137 = .ok (.iastore, 1) := by decide +kernel
theorem dL_law_1138 : decode cL_law 1138 = .ok (.aload_n 1, 1) := by decide +kernel
theorem dL_law_1139 : decode cL_law 1139 = .ok (.iload 12, 2) := by decide +kernel
theorem dL_law_1141 : decode cL_law 1141 = .ok (.invokevirtual 113, 3) := by decide +kernel
theorem dL_law_1144 : decode cL_law 1144 = .ok (.iload 14, 2) := by decide +kernel
theorem dL_law_1146 : decode cL_law 1146 = .ok (.ifCond .eq 11, 3) := by decide +kernel
theorem dL_law_1149 : decode cL_law 1149 = .ok (.aload 6, 2) := by decide +kernel
theorem dL_law_1151 : decode cL_law 1151 = .ok (.bipush 6, 2) := by decide +kernel
theorem dL_law_1153 : decode cL_law 1153 = .ok (.iaload, 1) := by decide +kernel
theorem dL_law_1154 : decode cL_law 1154 = .ok (.goto 5, 3) := by decide +kernel
theorem dL_law_1157 : decode cL_law 1157 = .ok (.bipush (-4), 2) := by decide +kernel
theorem dL_law_1159 : decode cL_law 1159 = .ok (.if_icmp .eq 5, 3) := by decide +kernel
theorem dL_law_1162 : decode cL_law 1162 = .ok (.iconst 0, 1) := by decide +kernel
theorem dL_law_1163 : decode cL_law 1163 = .ok (.ireturn, 1) := by decide +kernel
theorem dL_law_1164 : decode cL_law 1164 = .ok (.goto 412, 3) := by decide +kernel
theorem dL_law_1167 : decode cL_law 1167 = .ok (.iload 11, 2) := by decide +kernel
theorem dL_law_1169 : decode cL_law 1169 = .ok (.bipush 10, 2) := by decide +kernel
theorem dL_law_1171 : decode cL_law 1171 = .ok (.if_icmp .ge 76, 3) := by decide +kernel
theorem dL_law_1174 : decode cL_law 1174 = .ok (.aload 6, 2) := by decide +kernel
theorem dL_law_1176 : decode cL_law 1176 = .ok (.iconst 5, 1) := by decide +kernel
theorem dL_law_1177 : decode cL_law 1177 = .ok (.iaload, 1) := by decide +kernel
theorem dL_law_1178 : decode cL_law 1178 = .ok (.ifCond .le 69, 3) := by decide +kernel
theorem dL_law_1181 : decode cL_law 1181 = .ok (.aload 6, 2) := by decide +kernel
theorem dL_law_1183 : decode cL_law 1183 = .ok (.bipush 7, 2) := by decide +kernel
theorem dL_law_1185 : decode cL_law 1185 = .ok (.iaload, 1) := by decide +kernel
theorem dL_law_1186 : decode cL_law 1186 = .ok (.bipush 8, 2) := by decide +kernel
theorem dL_law_1188 : decode cL_law 1188 = .ok (.if_icmp .ge 7, 3) := by decide +kernel
theorem dL_law_1191 : decode cL_law 1191 = .ok (.iconst 1, 1) := by decide +kernel
theorem dL_law_1192 : decode cL_law 1192 = .ok (.goto 4, 3) := by decide +kernel
theorem dL_law_1195 : decode cL_law 1195 = .ok (.iconst 0, 1) := by decide +kernel
theorem dL_law_1196 : decode cL_law 1196 = .ok (.istore 14, 2) := by decide +kernel
theorem dL_law_1198 : decode cL_law 1198 = .ok (.iload 14, 2) := by decide +kernel
theorem dL_law_1200 : decode cL_law 1200 = .ok (.ifCond .eq 18, 3) := by decide +kernel
theorem dL_law_1203 : decode cL_law 1203 = .ok (.aload 5, 2) := by decide +kernel
theorem dL_law_1205 : decode cL_law 1205 = .ok (.aload 6, 2) := by decide +kernel
theorem dL_law_1207 : decode cL_law 1207 = .ok (.bipush 7, 2) := by decide +kernel
theorem dL_law_1209 : decode cL_law 1209 = .ok (.dup2, 1) := by decide +kernel
theorem dL_law_1210 : decode cL_law 1210 = .ok (.iaload, 1) := by decide +kernel
theorem dL_law_1211 : decode cL_law 1211 = .ok (.dup_x2, 1) := by decide +kernel
theorem dL_law_1212 : decode cL_law 1212 = .ok (.iconst 1, 1) := by decide +kernel
theorem dL_law_1213 : decode cL_law 1213 = .ok (.iadd, 1) := by decide +kernel
theorem dL_law_1214 : decode cL_law 1214 = .ok (.iastore, 1) := by decide +kernel
theorem dL_law_1215 : decode cL_law 1215 = .ok (.iload 13, 2) := by decide +kernel
theorem dL_law_1217 : decode cL_law 1217 = .ok (.iastore, 1) := by decide +kernel
theorem dL_law_1218 : decode cL_law 1218 = .ok (.aload_n 1, 1) := by decide +kernel
theorem dL_law_1219 : decode cL_law 1219 = .ok (.iload 13, 2) := by decide +kernel
theorem dL_law_1221 : decode cL_law 1221 = .ok (.invokevirtual 116, 3) := by decide +kernel
theorem dL_law_1224 : decode cL_law 1224 = .ok (.iload 14, 2) := by decide +kernel
theorem dL_law_1226 : decode cL_law 1226 = .ok (.ifCond .eq 11, 3) := by decide +kernel
theorem dL_law_1229 : decode cL_law 1229 = .ok (.aload 6, 2) := by decide +kernel
theorem dL_law_1231 : decode cL_law 1231 = .ok (.bipush 7, 2) := by decide +kernel
theorem dL_law_1233 : decode cL_law 1233 = .ok (.iaload, 1) := by decide +kernel
theorem dL_law_1234 : decode cL_law 1234 = .ok (.goto 5, 3) := by decide +kernel
theorem dL_law_1237 : decode cL_law 1237 = .ok (.bipush (-4), 2) := by decide +kernel
theorem dL_law_1239 : decode cL_law 1239 = .ok (.if_icmp .eq 5, 3) := by decide +kernel
theorem dL_law_1242 : decode cL_law 1242 = .ok (.iconst 0, 1) := by decide +kernel
theorem dL_law_1243 : decode cL_law 1243 = .ok (.ireturn, 1) := by decide +kernel
theorem dL_law_1244 : decode cL_law 1244 = .ok (.goto 332, 3) := by decide +kernel
theorem dL_law_1247 : decode cL_law 1247 = .ok (.iload 11, 2) := by decide +kernel
theorem dL_law_1249 : decode cL_law 1249 = .ok (.bipush 12, 2) := by decide +kernel
theorem dL_law_1251 : decode cL_law 1251 = .ok (.if_icmp .ge 165, 3) := by decide +kernel
theorem dL_law_1254 : decode cL_law 1254 = .ok (.aload 6, 2) := by decide +kernel
theorem dL_law_1256 : decode cL_law 1256 = .ok (.iconst 4, 1) := by decide +kernel
theorem dL_law_1257 : decode cL_law 1257 = .ok (.iaload, 1) := by decide +kernel
theorem dL_law_1258 : decode cL_law 1258 = .ok (.ifCond .le 158, 3) := by decide +kernel
theorem dL_law_1261 : decode cL_law 1261 = .ok (.iload 10, 2) := by decide +kernel
theorem dL_law_1263 : decode cL_law 1263 = .ok (.aload 6, 2) := by decide +kernel
theorem dL_law_1265 : decode cL_law 1265 = .ok (.iconst 4, 1) := by decide +kernel
theorem dL_law_1266 : decode cL_law 1266 = .ok (.iaload, 1) := by decide +kernel
theorem dL_law_1267 : decode cL_law 1267 = .ok (.invokestatic 61, 3) := by decide +kernel
theorem dL_law_1270 : decode cL_law 1270 = .ok (.istore 14, 2) := by decide +kernel
theorem dL_law_1272 : decode cL_law 1272 = .ok (.iload 10, 2) := by decide +kernel
theorem dL_law_1274 : decode cL_law 1274 = .ok (.iconst 4, 1) := by decide +kernel
theorem dL_law_1275 : decode cL_law 1275 = .ok (.ishr, 1) := by decide +kernel
theorem dL_law_1276 : decode cL_law 1276 = .ok (.aload 6, 2) := by decide +kernel
theorem dL_law_1278 : decode cL_law 1278 = .ok (.iconst 4, 1) := by decide +kernel
theorem dL_law_1279 : decode cL_law 1279 = .ok (.iaload, 1) := by decide +kernel
theorem dL_law_1280 : decode cL_law 1280 = .ok (.invokestatic 61, 3) := by decide +kernel
theorem dL_law_1283 : decode cL_law 1283 = .ok (.istore 15, 2) := by decide +kernel
theorem dL_law_1285 : decode cL_law 1285 = .ok (.iload 14, 2) := by decide +kernel
theorem dL_law_1287 : decode cL_law 1287 = .ok (.iload 12, 2) := by decide +kernel
theorem dL_law_1289 : decode cL_law 1289 = .ok (.if_icmp .lt 27, 3) := by decide +kernel
theorem dL_law_1292 : decode cL_law 1292 = .ok (.aload 6, 2) := by decide +kernel
theorem dL_law_1294 : decode cL_law 1294 = .ok (.bipush 6, 2) := by decide +kernel
theorem dL_law_1296 : decode cL_law 1296 = .ok (.iaload, 1) := by decide +kernel
theorem dL_law_1297 : decode cL_law 1297 = .ok (.iconst 2, 1) := by decide +kernel
theorem dL_law_1298 : decode cL_law 1298 = .ok (.iload 14, 2) := by decide +kernel
theorem dL_law_1300 : decode cL_law 1300 = .ok (.iload 12, 2) := by decide +kernel
theorem dL_law_1302 : decode cL_law 1302 = .ok (.isub, 1) := by decide +kernel
theorem dL_law_1303 : decode cL_law 1303 = .ok (.iconst 1, 1) := by decide +kernel
theorem dL_law_1304 : decode cL_law 1304 = .ok (.iadd, 1) := by decide +kernel
theorem dL_law_1305 : decode cL_law 1305 = .ok (.imul, 1) := by decide +kernel
theorem dL_law_1306 : decode cL_law 1306 = .ok (.iadd, 1) := by decide +kernel
theorem dL_law_1307 : decode cL_law 1307 = .ok (.bipush 40, 2) := by decide +kernel
theorem dL_law_1309 : decode cL_law 1309 = .ok (.if_icmp .gt 7, 3) := by decide +kernel
theorem dL_law_1312 : decode cL_law 1312 = .ok (.iconst 1, 1) := by decide +kernel
theorem dL_law_1313 : decode cL_law 1313 = .ok (.goto 4, 3) := by decide +kernel
theorem dL_law_1316 : decode cL_law 1316 = .ok (.iconst 0, 1) := by decide +kernel
theorem dL_law_1317 : decode cL_law 1317 = .ok (.istore 16, 2) := by decide +kernel
theorem dL_law_1319 : decode cL_law 1319 = .ok (.iload 16, 2) := by decide +kernel
theorem dL_law_1321 : decode cL_law 1321 = .ok (.ifCond .eq 50, 3) := by decide +kernel
theorem dL_law_1324 : decode cL_law 1324 = .ok (.iload 12, 2) := by decide +kernel
theorem dL_law_1326 : decode cL_law 1326 = .ok (.istore 17, 2) := by decide +kernel
theorem dL_law_1328 : decode cL_law 1328 = .ok (.iload 17, 2) := by decide +kernel
theorem dL_law_1330 : decode cL_law 1330 = .ok (.iload 14, 2) := by decide +kernel
theorem dL_law_1332 : decode cL_law 1332 = .ok (.if_icmp .gt 39, 3) := by decide +kernel
theorem dL_law_1335 : decode cL_law 1335 = .ok (.aload 4, 2) := by decide +kernel
theorem dL_law_1337 : decode cL_law 1337 = .ok (.aload 6, 2) := by decide +kernel
theorem dL_law_1339 : decode cL_law 1339 = .ok (.bipush 6, 2) := by decide +kernel
theorem dL_law_1341 : decode cL_law 1341 = .ok (.dup2, 1) := by decide +kernel
theorem dL_law_1342 : decode cL_law 1342 = .ok (.iaload, 1) := by decide +kernel
theorem dL_law_1343 : decode cL_law 1343 = .ok (.dup_x2, 1) := by decide +kernel
theorem dL_law_1344 : decode cL_law 1344 = .ok (.iconst 1, 1) := by decide +kernel
theorem dL_law_1345 : decode cL_law 1345 = .ok (.iadd, 1) := by decide +kernel
theorem dL_law_1346 : decode cL_law 1346 = .ok (.iastore, 1) := by decide +kernel
theorem dL_law_1347 : decode cL_law 1347 = .ok (.iload 17, 2) := by decide +kernel
theorem dL_law_1349 : decode cL_law 1349 = .ok (.iastore, 1) := by decide +kernel
theorem dL_law_1350 : decode cL_law 1350 = .ok (.aload 4, 2) := by decide +kernel
theorem dL_law_1352 : decode cL_law 1352 = .ok (.aload 6, 2) := by decide +kernel
theorem dL_law_1354 : decode cL_law 1354 = .ok (.bipush 6, 2) := by decide +kernel
theorem dL_law_1356 : decode cL_law 1356 = .ok (.dup2, 1) := by decide +kernel
theorem dL_law_1357 : decode cL_law 1357 = .ok (.iaload, 1) := by decide +kernel
theorem dL_law_1358 : decode cL_law 1358 = .ok (.dup_x2, 1) := by decide +kernel
theorem dL_law_1359 : decode cL_law 1359 = .ok (.iconst 1, 1) := by decide +kernel
theorem dL_law_1360 : decode cL_law 1360 = .ok (.iadd, 1) := by decide +kernel
theorem dL_law_1361 : decode cL_law 1361 = .ok (.iastore, 1) := by decide +kernel
theorem dL_law_1362 : decode cL_law 1362 = .ok (.iload 15, 2) := by decide +kernel
theorem dL_law_1364 : decode cL_law 1364 = .ok (.iastore, 1) := by decide +kernel
theorem dL_law_1365 : decode cL_law 1365 = .ok (.iinc 17 1, 3) := by decide +kernel
theorem dL_law_1368 : decode cL_law 1368 = .ok (.goto (-40), 3) := by decide +kernel
theorem dL_law_1371 : decode cL_law 1371 = .ok (.aload_n 1, 1) := by decide +kernel
theorem dL_law_1372 : decode cL_law 1372 = .ok (.iload 12, 2) := by decide +kernel
theorem dL_law_1374 : decode cL_law 1374 = .ok (.iload 14, 2) := by decide +kernel
theorem dL_law_1376 : decode cL_law 1376 = .ok (.iload 15, 2) := by decide +kernel
theorem dL_law_1378 : decode cL_law 1378 = .ok (.invokevirtual 119, 3) := by decide +kernel
theorem dL_law_1381 : decode cL_law 1381 = .ok (.iload 14, 2) := by decide +kernel
theorem dL_law_1383 : decode cL_law 1383 = .ok (.iload 12, 2) := by decide +kernel
theorem dL_law_1385 : decode cL_law 1385 = .ok (.if_icmp .ge 8, 3) := by decide +kernel
theorem dL_law_1388 : decode cL_law 1388 = .ok (.bipush (-2), 2) := by decide +kernel
theorem dL_law_1390 : decode cL_law 1390 = .ok (.goto 18, 3) := by decide +kernel
theorem dL_law_1393 : decode cL_law 1393 = .ok (.iload 16, 2) := by decide +kernel
theorem dL_law_1395 : decode cL_law 1395 = .ok (.ifCond .eq 11, 3) := by decide +kernel
theorem dL_law_1398 : decode cL_law 1398 = .ok (.aload 6, 2) := by decide +kernel
theorem dL_law_1400 : decode cL_law 1400 = .ok (.bipush 6, 2) := by decide +kernel
theorem dL_law_1402 : decode cL_law 1402 = .ok (.iaload, 1) := by decide +kernel
theorem dL_law_1403 : decode cL_law 1403 = .ok (.goto 5, 3) := by decide +kernel
theorem dL_law_1406 : decode cL_law 1406 = .ok (.bipush (-4), 2) := by decide +kernel
theorem dL_law_1408 : decode cL_law 1408 = .ok (.if_icmp .eq 5, 3) := by decide +kernel
theorem dL_law_1411 : decode cL_law 1411 = .ok (.iconst 0, 1) := by decide +kernel
theorem dL_law_1412 : decode cL_law 1412 = .ok (.ireturn, 1) := by decide +kernel
theorem dL_law_1413 : decode cL_law 1413 = .ok (.goto 163, 3) := by decide +kernel
theorem dL_law_1416 : decode cL_law 1416 = .ok (.iload 11, 2) := by decide +kernel
theorem dL_law_1418 : decode cL_law 1418 = .ok (.bipush 12, 2) := by decide +kernel
theorem dL_law_1420 : decode cL_law 1420 = .ok (.if_icmp .ne 75, 3) := by decide +kernel
theorem dL_law_1423 : decode cL_law 1423 = .ok (.iload 10, 2) := by decide +kernel
theorem dL_law_1425 : decode cL_law 1425 = .ok (.iconst 4, 1) := by decide +kernel
theorem dL_law_1426 : decode cL_law 1426 = .ok (.invokestatic 61, 3) := by decide +kernel
theorem dL_law_1429 : decode cL_law 1429 = .ok (.ifCond .ne 66, 3) := by decide +kernel
theorem dL_law_1432 : decode cL_law 1432 = .ok (.iload 10, 2) := by decide +kernel
theorem dL_law_1434 : decode cL_law 1434 = .ok (.iconst 2, 1) := by decide +kernel
theorem dL_law_1435 : decode cL_law 1435 = .ok (.ishr, 1) := by decide +kernel
theorem dL_law_1436 : decode cL_law 1436 = .ok (.iconst 2, 1) := by decide +kernel
theorem dL_law_1437 : decode cL_law 1437 = .ok (.invokestatic 61, 3) := by decide +kernel
theorem dL_law_1440 : decode cL_law 1440 = .ok (.ifCond .ne 7, 3) := by decide +kernel
theorem dL_law_1443 : decode cL_law 1443 = .ok (.iconst 1, 1) := by decide +kernel
theorem dL_law_1444 : decode cL_law 1444 = .ok (.goto 4, 3) := by decide +kernel
theorem dL_law_1447 : decode cL_law 1447 = .ok (.iconst 0, 1) := by decide +kernel
theorem dL_law_1448 : decode cL_law 1448 = .ok (.istore 14, 2) := by decide +kernel
theorem dL_law_1450 : decode cL_law 1450 = .ok (.aload_n 1, 1) := by decide +kernel
theorem dL_law_1451 : decode cL_law 1451 = .ok (.iload 14, 2) := by decide +kernel
theorem dL_law_1453 : decode cL_law 1453 = .ok (.invokevirtual 122, 3) := by decide +kernel
theorem dL_law_1456 : decode cL_law 1456 = .ok (.aload 6, 2) := by decide +kernel
theorem dL_law_1458 : decode cL_law 1458 = .ok (.iload 14, 2) := by decide +kernel
theorem dL_law_1460 : decode cL_law 1460 = .ok (.ifCond .eq 8, 3) := by decide +kernel
theorem dL_law_1463 : decode cL_law 1463 = .ok (.bipush 7, 2) := by decide +kernel
theorem dL_law_1465 : decode cL_law 1465 = .ok (.goto 5, 3) := by decide +kernel
theorem dL_law_1468 : decode cL_law 1468 = .ok (.bipush 6, 2) := by decide +kernel
theorem dL_law_1470 : decode cL_law 1470 = .ok (.iaload, 1) := by decide +kernel
theorem dL_law_1471 : decode cL_law 1471 = .ok (.if_icmp .eq 5, 3) := by decide +kernel
theorem dL_law_1474 : decode cL_law 1474 = .ok (.iconst 0, 1) := by decide +kernel
theorem dL_law_1475 : decode cL_law 1475 = .ok (.ireturn, 1) := by decide +kernel
theorem dL_law_1476 : decode cL_law 1476 = .ok (.aload 6, 2) := by decide +kernel
theorem dL_law_1478 : decode cL_law 1478 = .ok (.iload 14, 2) := by decide +kernel
theorem dL_law_1480 : decode cL_law 1480 = .ok (.ifCond .eq 8, 3) := by decide +kernel
theorem dL_law_1483 : decode cL_law 1483 = .ok (.bipush 7, 2) := by decide +kernel
theorem dL_law_1485 : decode cL_law 1485 = .ok (.goto 5, 3) := by decide +kernel
theorem dL_law_1488 : decode cL_law 1488 = .ok (.bipush 6, 2) := by decide +kernel
theorem dL_law_1490 : decode cL_law 1490 = .ok (.iconst 0, 1) := by decide +kernel
theorem dL_law_1491 : decode cL_law 1491 = .ok (.iastore, 1) := by decide +kernel
theorem dL_law_1492 : decode cL_law 1492 = .ok (.goto 84, 3) := by decide +kernel
theorem dL_law_1495 : decode cL_law 1495 = .ok (.iload 10, 2) := by decide +kernel
theorem dL_law_1497 : decode cL_law 1497 = .ok (.iconst 4, 1) := by decide +kernel
theorem dL_law_1498 : decode cL_law 1498 = .ok (.invokestatic 61, 3) := by decide +kernel
theorem dL_law_1501 : decode cL_law 1501 = .ok (.istore 14, 2) := by decide +kernel
theorem dL_law_1503 : decode cL_law 1503 = .ok (.iload 14, 2) := by decide +kernel
theorem dL_law_1505 : decode cL_law 1505 = .ok (.ifCond .ne 17, 3) := by decide +kernel
theorem dL_law_1508 : decode cL_law 1508 = .ok (.iconst 1, 1) := by decide +kernel
theorem dL_law_1509 : decode cL_law 1509 = .ok (.iload 10, 2) := by decide +kernel
theorem dL_law_1511 : decode cL_law 1511 = .ok (.iconst 3, 1) := by decide +kernel
theorem dL_law_1512 : decode cL_law 1512 = .ok (.ishr, 1) := by decide +kernel
theorem dL_law_1513 : decode cL_law 1513 = .ok (.bipush 8, 2) := by decide +kernel
theorem dL_law_1515 : decode cL_law 1515 = .ok (.invokestatic 61, 3) := by decide +kernel
theorem dL_law_1518 : decode cL_law 1518 = .ok (.iadd, 1) := by decide +kernel
theorem dL_law_1519 : decode cL_law 1519 = .ok (.goto 30, 3) := by decide +kernel
theorem dL_law_1522 : decode cL_law 1522 = .ok (.iload 14, 2) := by decide +kernel
theorem dL_law_1524 : decode cL_law 1524 = .ok (.iconst 3, 1) := by decide +kernel
theorem dL_law_1525 : decode cL_law 1525 = .ok (.if_icmp .ne 15, 3) := by decide +kernel
theorem dL_law_1528 : decode cL_law 1528 = .ok (.iload 10, 2) := by decide +kernel
theorem dL_law_1530 : decode cL_law 1530 = .ok (.iconst 3, 1) := by decide +kernel
theorem dL_law_1531 : decode cL_law 1531 = .ok (.ishr, 1) := by decide +kernel
theorem dL_law_1532 : decode cL_law 1532 = .ok (.bipush 21, 2) := by decide +kernel
theorem dL_law_1534 : decode cL_law 1534 = .ok (.invokestatic 61, 3) := by decide +kernel
theorem dL_law_1537 : decode cL_law 1537 = .ok (.goto 12, 3) := by decide +kernel
theorem dL_law_1540 : decode cL_law 1540 = .ok (.iload 10, 2) := by decide +kernel
theorem dL_law_1542 : decode cL_law 1542 = .ok (.iconst 3, 1) := by decide +kernel
theorem dL_law_1543 : decode cL_law 1543 = .ok (.ishr, 1) := by decide +kernel
theorem dL_law_1544 : decode cL_law 1544 = .ok (.bipush 10, 2) := by decide +kernel
theorem dL_law_1546 : decode cL_law 1546 = .ok (.invokestatic 61, 3) := by decide +kernel
theorem dL_law_1549 : decode cL_law 1549 = .ok (.istore 15, 2) := by decide +kernel
theorem dL_law_1551 : decode cL_law 1551 = .ok (.aload_n 1, 1) := by decide +kernel
theorem dL_law_1552 : decode cL_law 1552 = .ok (.iload 14, 2) := by decide +kernel
theorem dL_law_1554 : decode cL_law 1554 = .ok (.iload 15, 2) := by decide +kernel
theorem dL_law_1556 : decode cL_law 1556 = .ok (.invokevirtual 126, 3) := by decide +kernel
theorem dL_law_1559 : decode cL_law 1559 = .ok (.aload 6, 2) := by decide +kernel
theorem dL_law_1561 : decode cL_law 1561 = .ok (.iload 14, 2) := by decide +kernel
theorem dL_law_1563 : decode cL_law 1563 = .ok (.iaload, 1) := by decide +kernel
theorem dL_law_1564 : decode cL_law 1564 = .ok (.if_icmp .eq 5, 3) := by decide +kernel
theorem dL_law_1567 : decode cL_law 1567 = .ok (.iconst 0, 1) := by decide +kernel
theorem dL_law_1568 : decode cL_law 1568 = .ok (.ireturn, 1) := by decide +kernel
theorem dL_law_1569 : decode cL_law 1569 = .ok (.aload 6, 2) := by decide +kernel
theorem dL_law_1571 : decode cL_law 1571 = .ok (.iload 14, 2) := by decide +kernel
theorem dL_law_1573 : decode cL_law 1573 = .ok (.iload 15, 2) := by decide +kernel
theorem dL_law_1575 : decode cL_law 1575 = .ok (.iastore, 1) := by decide +kernel
theorem dL_law_1576 : decode cL_law 1576 = .ok (.aload_n 1, 1) := by decide +kernel
theorem dL_law_1577 : decode cL_law 1577 = .ok (.aload 6, 2) := by decide +kernel
theorem dL_law_1579 : decode cL_law 1579 = .ok (.aload_n 2, 1) := by decide +kernel
theorem dL_law_1580 : decode cL_law 1580 = .ok (.aload_n 3, 1) := by decide +kernel
theorem dL_law_1581 : decode cL_law 1581 = .ok (.aload 4, 2) := by decide +kernel
theorem dL_law_1583 : decode cL_law 1583 = .ok (.aload 5, 2) := by decide +kernel
theorem dL_law_1585 : decode cL_law 1585 = .ok (.aload 7, 2) := by decide +kernel
theorem dL_law_1587 : decode cL_law 1587 = .ok (.invokestatic 129, 3) := by decide +kernel
theorem dL_law_1590 : decode cL_law 1590 = .ok (.ifCond .eq 36, 3) := by decide +kernel
theorem dL_law_1593 : decode cL_law 1593 = .ok (.iload 10, 2) := by decide +kernel
theorem dL_law_1595 : decode cL_law 1595 = .ok (.bipush 13, 2) := by decide +kernel
theorem dL_law_1597 : decode cL_law 1597 = .ok (.ishr, 1) := by decide +kernel
theorem dL_law_1598 : decode cL_law 1598 = .ok (.iconst 2, 1) := by decide +kernel
theorem dL_law_1599 : decode cL_law 1599 = .ok (.invokestatic 61, 3) := by decide +kernel
theorem dL_law_1602 : decode cL_law 1602 = .ok (.ifCond .ne 26, 3) := by decide +kernel
theorem dL_law_1605 : decode cL_law 1605 = .ok (.aload_n 1, 1) := by decide +kernel
theorem dL_law_1606 : decode cL_law 1606 = .ok (.iload 10, 2) := by decide +kernel
theorem dL_law_1608 : decode cL_law 1608 = .ok (.iconst 2, 1) := by decide +kernel
theorem dL_law_1609 : decode cL_law 1609 = .ok (.ishr, 1) := by decide +kernel
theorem dL_law_1610 : decode cL_law 1610 = .ok (.aload 6, 2) := by decide +kernel
theorem dL_law_1612 : decode cL_law 1612 = .ok (.aload_n 2, 1) := by decide +kernel
theorem dL_law_1613 : decode cL_law 1613 = .ok (.aload_n 3, 1) := by decide +kernel
theorem dL_law_1614 : decode cL_law 1614 = .ok (.aload 4, 2) := by decide +kernel
theorem dL_law_1616 : decode cL_law 1616 = .ok (.aload 5, 2) := by decide +kernel
theorem dL_law_1618 : decode cL_law 1618 = .ok (.aload 7, 2) := by decide +kernel
theorem dL_law_1620 : decode cL_law 1620 = .ok (.invokestatic 133, 3) := by decide +kernel
theorem dL_law_1623 : decode cL_law 1623 = .ok (.ifCond .ne 5, 3) := by decide +kernel
theorem dL_law_1626 : decode cL_law 1626 = .ok (.iconst 0, 1) := by decide +kernel
theorem dL_law_1627 : decode cL_law 1627 = .ok (.ireturn, 1) := by decide +kernel
theorem dL_law_1628 : decode cL_law 1628 = .ok (.iinc 8 1, 3) := by decide +kernel
theorem dL_law_1631 : decode cL_law 1631 = .ok (.goto (-1565), 3) := by decide +kernel
theorem dL_law_1634 : decode cL_law 1634 = .ok (.iconst 1, 1) := by decide +kernel
theorem dL_law_1635 : decode cL_law 1635 = .ok (.ireturn, 1) := by decide +kernel

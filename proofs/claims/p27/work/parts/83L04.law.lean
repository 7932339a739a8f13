theorem dL_sound_1 : decode cL_sound 1 = .ok (.istore_n 1, 1) := by decide +kernel
theorem dL_sound_2 : decode cL_sound 2 = .ok (.iconst 0, 1) := by decide +kernel
theorem dL_sound_3 : decode cL_sound 3 = .ok (.istore_n 2, 1) := by decide +kernel
theorem dL_sound_4 : decode cL_sound 4 = .ok (.iconst 0, 1) := by decide +kernel
theorem dL_sound_5 : decode cL_sound 5 = .ok (.istore_n 3, 1) := by decide +kernel
theorem dL_sound_6 : decode cL_sound 6 = .ok (.iconst 4, 1) := by decide +kernel
theorem dL_sound_7 : decode cL_sound 7 = .ok (.newarray .int, 2) := by decide +kernel
theorem dL_sound_9 : decode cL_sound 9 = .ok (.astore 4, 2) := by decide +kernel
theorem dL_sound_11 : decode cL_sound 11 = .ok (.iconst 0, 1) := by decide +kernel
theorem dL_sound_12 : decode cL_sound 12 = .ok (.istore 5, 2) := by decide +kernel
theorem dL_sound_14 : decode cL_sound 14 = .ok (.iload 5, 2) := by decide +kernel
theorem dL_sound_16 : decode cL_sound 16 = .ok (.aload_n 0, 1) := by decide +kernel
theorem dL_sound_17 : decode cL_sound 17 = .ok (.iconst 0, 1) := by decide +kernel
theorem dL_sound_18 : decode cL_sound 18 = .ok (.invokevirtual 21, 3) := by decide +kernel
theorem dL_sound_21 : decode cL_sound 21 = .ok (.if_icmp .ge 213, 3) := by decide +kernel
theorem dL_sound_24 : decode cL_sound 24 = .ok (.aload_n 0, 1) := by decide +kernel
theorem dL_sound_25 : decode cL_sound 25 = .ok (.iload 5, 2) := by decide +kernel
theorem dL_sound_27 : decode cL_sound 27 = .ok (.invokevirtual 28, 3) := by decide +kernel
theorem dL_sound_30 : decode cL_sound 30 = .ok (.istore 6, 2) := by decide +kernel
theorem dL_sound_32 : decode cL_sound 32 = .ok (.aload_n 0, 1) := by decide +kernel
theorem dL_sound_33 : decode cL_sound 33 = .ok (.iload 5, 2) := by decide +kernel
theorem dL_sound_35 : decode cL_sound 35 = .ok (.invokevirtual 37, 3) := by decide +kernel
theorem dL_sound_38 : decode cL_sound 38 = .ok (.istore 7, 2) := by decide +kernel
theorem dL_sound_40 : decode cL_sound 40 = .ok (.iload_n 1, 1) := by decide +kernel
theorem dL_sound_41 : decode cL_sound 41 = .ok (.iload 6, 2) := by decide +kernel
theorem dL_sound_43 : decode cL_sound 43 = .ok (.ifCond .ne 7, 3) := by decide +kernel
theorem dL_sound_46 : decode cL_sound 46 = .ok (.iconst 1, 1) := by decide +kernel
theorem dL_sound_47 : decode cL_sound 47 = .ok (.goto 4, 3) := by decide +kernel
theorem dL_sound_50 : decode cL_sound 50 = .ok (.iconst 0, 1) := by decide +kernel
theorem dL_sound_51 : decode cL_sound 51 = .ok (.iadd, 1) := by decide +kernel
theorem dL_sound_52 : decode cL_sound 52 = .ok (.istore_n 1, 1) := by decide +kernel
theorem dL_sound_53 : decode cL_sound 53 = .ok (.iload_n 3, 1) := by decide +kernel
theorem dL_sound_54 : decode cL_sound 54 = .ok (.iload 6, 2) := by decide +kernel
theorem dL_sound_56 : decode cL_sound 56 = .ok (.ifCond .ne 13, 3) := by decide +kernel
theorem dL_sound_59 : decode cL_sound 59 = .ok (.aload_n 0, 1) := by decide +kernel
theorem dL_sound_60 : decode cL_sound 60 = .ok (.iload 5, 2) := by decide +kernel
theorem dL_sound_62 : decode cL_sound 62 = .ok (.iconst 2, 1) := by decide +kernel
theorem dL_sound_63 : decode cL_sound 63 = .ok (.invokevirtual 24, 3) := by decide +kernel
theorem dL_sound_66 : decode cL_sound 66 = .ok (.goto 4, 3) := by decide +kernel
theorem dL_sound_69 : decode cL_sound 69 = .ok (.iconst 0, 1) := by decide +kernel
theorem dL_sound_70 : decode cL_sound 70 = .ok (.iadd, 1) := by decide +kernel
theorem dL_sound_71 : decode cL_sound 71 = .ok (.istore_n 3, 1) := by decide +kernel
theorem dL_sound_72 : decode cL_sound 72 = .ok (.iload_n 2, 1) := by decide +kernel
theorem dL_sound_73 : decode cL_sound 73 = .ok (.aload_n 0, 1) := by decide +kernel
theorem dL_sound_74 : decode cL_sound 74 = .ok (.iload 5, 2) := by decide +kernel
theorem dL_sound_76 : decode cL_sound 76 = .ok (.bipush 7, 2) := by decide +kernel
theorem dL_sound_78 : decode cL_sound 78 = .ok (.invokevirtual 24, 3) := by decide +kernel
theorem dL_sound_81 : decode cL_sound 81 = .ok (.iadd, 1) := by decide +kernel
theorem dL_sound_82 : decode cL_sound 82 = .ok (.istore_n 2, 1) := by decide +kernel
theorem dL_sound_83 : decode cL_sound 83 = .ok (.aload 4, 2) := by decide +kernel
theorem dL_sound_85 : decode cL_sound 85 = .ok (.aload_n 0, 1) := by decide +kernel
theorem dL_sound_86 : decode cL_sound 86 = .ok (.iload 5, 2) := by decide +kernel
theorem dL_sound_88 : decode cL_sound 88 = .ok (.iconst 0, 1) := by decide +kernel
theorem dL_sound_89 : decode cL_sound 89 = .ok (.invokevirtual 24, 3) := by decide +kernel
theorem dL_sound_92 : decode cL_sound 92 = .ok (.dup2, 1) := by decide +kernel
theorem dL_sound_93 : decode cL_sound 93 = .ok (.iaload, 1) := by decide +kernel
theorem dL_sound_94 : decode cL_sound 94 = .ok (.iload 6, 2) := by decide +kernel
theorem dL_sound_96 : decode cL_sound 96 = .ok (.ifCond .ne 7, 3) := by decide +kernel
theorem dL_sound_99 : decode cL_sound 99 = .ok (.iconst 1, 1) := by decide +kernel
theorem dL_sound_100 : decode cL_sound 100 = .ok (.goto 4, 3) := by decide +kernel
theorem dL_sound_103 : decode cL_sound 103 = .ok (.iconst 0, 1) := by decide +kernel
theorem dL_sound_104 : decode cL_sound 104 = .ok (.iadd, 1) := by decide +kernel
theorem dL_sound_105 : decode cL_sound 105 = .ok (.iastore, 1) := by decide +kernel
theorem dL_sound_106 : decode cL_sound 106 = .ok (.iload 6, 2) := by decide +kernel
theorem dL_sound_108 : decode cL_sound 108 = .ok (.ifCond .ne 7, 3) := by decide +kernel
theorem dL_sound_111 : decode cL_sound 111 = .ok (.iconst 1, 1) := by decide +kernel
theorem dL_sound_112 : decode cL_sound 112 = .ok (.goto 4, 3) := by decide +kernel
theorem dL_sound_115 : decode cL_sound 115 = .ok (.iconst 0, 1) := by decide +kernel
theorem dL_sound_116 : decode cL_sound 116 = .ok (.aload_n 0, 1) := by decide +kernel
theorem dL_sound_117 : decode cL_sound 117 = .ok (.iload 5, 2) := by decide +kernel
theorem dL_sound_119 : decode cL_sound 119 = .ok (.bipush 7, 2) := by decide +kernel
theorem dL_sound_121 : decode cL_sound 121 = .ok (.invokevirtual 24, 3) := by decide +kernel
theorem dL_sound_124 : decode cL_sound 124 = .ok (.ifCond .le 7, 3) := by decide +kernel
theorem dL_sound_127 : decode cL_sound 127 = .ok (.iconst 1, 1) := by decide +kernel
theorem dL_sound_128 : decode cL_sound 128 = .ok (.goto 4, 3) := by decide +kernel
theorem dL_sound_131 : decode cL_sound 131 = .ok (.iconst 0, 1) := by decide +kernel
theorem dL_sound_132 : decode cL_sound 132 = .ok (.if_icmp .ne 94, 3) := by decide +kernel
theorem dL_sound_135 : decode cL_sound 135 = .ok (.iload 6, 2) := by decide +kernel
theorem dL_sound_137 : decode cL_sound 137 = .ok (.ifCond .ne 7, 3) := by decide +kernel
theorem dL_sound_140 : decode cL_sound 140 = .ok (.iconst 1, 1) := by decide +kernel
theorem dL_sound_141 : decode cL_sound 141 = .ok (.goto 4, 3) := by decide +kernel
theorem dL_sound_144 : decode cL_sound 144 = .ok (.iconst 0, 1) := by decide +kernel
theorem dL_sound_145 : decode cL_sound 145 = .ok (.aload_n 0, 1) := by decide +kernel
theorem dL_sound_146 : decode cL_sound 146 = .ok (.iload 5, 2) := by decide +kernel
theorem dL_sound_148 : decode cL_sound 148 = .ok (.bipush 8, 2) := by decide +kernel
theorem dL_sound_150 : decode cL_sound 150 = .ok (.invokevirtual 24, 3) := by decide +kernel
theorem dL_sound_153 : decode cL_sound 153 = .ok (.ifCond .lt 7, 3) := by decide +kernel
theorem dL_sound_156 : decode cL_sound 156 = .ok (.iconst 1, 1) := by decide +kernel
theorem dL_sound_157 : decode cL_sound 157 = .ok (.goto 4, 3) := by decide +kernel
theorem dL_sound_160 : decode cL_sound 160 = .ok (.iconst 0, 1) := by decide +kernel
theorem dL_sound_161 : decode cL_sound 161 = .ok (.if_icmp .ne 65, 3) := by decide +kernel
theorem dL_sound_164 : decode cL_sound 164 = .ok (.iload 6, 2) := by decide +kernel
theorem dL_sound_166 : decode cL_sound 166 = .ok (.iconst 1, 1) := by decide +kernel
theorem dL_sound_167 : decode cL_sound 167 = .ok (.if_icmp .ne 7, 3) := by decide +kernel
theorem dL_sound_170 : decode cL_sound 170 = .ok (.iconst 1, 1) := by decide +kernel
theorem dL_sound_171 : decode cL_sound 171 = .ok (.goto 4, 3) := by decide +kernel
theorem dL_sound_174 : decode cL_sound 174 = .ok (.iconst 0, 1) := by decide +kernel
theorem dL_sound_175 : decode cL_sound 175 = .ok (.aload_n 0, 1) := by decide +kernel
theorem dL_sound_176 : decode cL_sound 176 = .ok (.iload 5, 2) := by decide +kernel
theorem dL_sound_178 : decode cL_sound 178 = .ok (.bipush 6, 2) := by decide +kernel
theorem dL_sound_180 : decode cL_sound 180 = .ok (.invokevirtual 24, 3) := by decide +kernel
theorem dL_sound_183 : decode cL_sound 183 = .ok (.ifCond .ne 7, 3) := by decide +kernel
theorem dL_sound_186 : decode cL_sound 186 = .ok (.iconst 1, 1) := by decide +kernel
theorem dL_sound_187 : decode cL_sound 187 = .ok (.goto 4, 3) := by decide +kernel
theorem dL_sound_190 : decode cL_sound 190 = .ok (.iconst 0, 1) := by decide +kernel
theorem dL_sound_191 : decode cL_sound 191 = .ok (.if_icmp .ne 35, 3) := by decide +kernel
theorem dL_sound_194 : decode cL_sound 194 = .ok (.iload 6, 2) := by decide +kernel
theorem dL_sound_196 : decode cL_sound 196 = .ok (.ifCond .le 13, 3) := by decide +kernel
theorem dL_sound_199 : decode cL_sound 199 = .ok (.iload 7, 2) := by decide +kernel
theorem dL_sound_201 : decode cL_sound 201 = .ok (.bipush (-2), 2) := by decide +kernel
theorem dL_sound_203 : decode cL_sound 203 = .ok (.if_icmp .eq 25, 3) := by decide +kernel
theorem dL_sound_206 : decode cL_sound 206 = .ok (.goto 20, 3) := by decide +kernel
theorem dL_sound_209 : decode cL_sound 209 = .ok (.iload 7, 2) := by decide +kernel
theorem dL_sound_211 : decode cL_sound 211 = .ok (.bipush (-99), 2) := by decide +kernel
theorem dL_sound_213 : decode cL_sound 213 = .ok (.if_icmp .eq 15, 3) := by decide +kernel
theorem dL_sound_216 : decode cL_sound 216 = .ok (.aload_n 0, 1) := by decide +kernel
theorem dL_sound_217 : decode cL_sound 217 = .ok (.iload 7, 2) := by decide +kernel
theorem dL_sound_219 : decode cL_sound 219 = .ok (.invokevirtual 28, 3) := by decide +kernel
theorem dL_sound_222 : decode cL_sound 222 = .ok (.iconst 4, 1) := by decide +kernel
theorem dL_sound_223 : decode cL_sound 223 = .ok (.if_icmp .eq 5, 3) := by decide +kernel
theorem dL_sound_226 : decode cL_sound 226 = .ok (.iconst 0, 1) := by decide +kernel
theorem dL_sound_227 : decode cL_sound 227 = .ok (.ireturn, 1) := by decide +kernel
theorem dL_sound_228 : decode cL_sound 228 = .ok (.iinc 5 1, 3) := by decide +kernel
theorem dL_sound_231 : decode cL_sound 231 = .ok (.goto (-217), 3) := by decide +kernel
theorem dL_sound_234 : decode cL_sound 234 = .ok (.iconst 0, 1) := by decide +kernel
theorem dL_sound_235 : decode cL_sound 235 = .ok (.istore 5, 2) := by decide +kernel
theorem dL_sound_237 : decode cL_sound 237 = .ok (.iload 5, 2) := by decide +kernel
theorem dL_sound_239 : decode cL_sound 239 = .ok (.iconst 4, 1) := by decide +kernel
theorem dL_sound_240 : decode cL_sound 240 = .ok (.if_icmp .ge 24, 3) := by decide +kernel
theorem dL_sound_243 : decode cL_sound 243 = .ok (.aload 4, 2) := by decide +kernel
theorem dL_sound_245 : decode cL_sound 245 = .ok (.iload 5, 2) := by decide +kernel
theorem dL_sound_247 : decode cL_sound 247 = .ok (.iaload, 1) := by decide +kernel
theorem dL_sound_248 : decode cL_sound 248 = .ok (.aload_n 0, 1) := by decide +kernel
theorem dL_sound_249 : decode cL_sound 249 = .ok (.iconst 2, 1) := by decide +kernel
theorem dL_sound_250 : decode cL_sound 250 = .ok (.invokevirtual 17, 3) := by decide +kernel
theorem dL_sound_253 : decode cL_sound 253 = .ok (.if_icmp .le 5, 3) := by decide +kernel
theorem dL_sound_256 : decode cL_sound 256 = .ok (.iconst 0, 1) := by decide +kernel
theorem dL_sound_257 : decode cL_sound 257 = .ok (.ireturn, 1) := by decide +kernel
theorem dL_sound_258 : decode cL_sound 258 = .ok (.iinc 5 1, 3) := by decide +kernel
theorem dL_sound_261 : decode cL_sound 261 = .ok (.goto (-24), 3) := by decide +kernel
theorem dL_sound_264 : decode cL_sound 264 = .ok (.aload_n 0, 1) := by decide +kernel
theorem dL_sound_265 : decode cL_sound 265 = .ok (.iconst 2, 1) := by decide +kernel
theorem dL_sound_266 : decode cL_sound 266 = .ok (.invokevirtual 21, 3) := by decide +kernel
theorem dL_sound_269 : decode cL_sound 269 = .ok (.aload_n 0, 1) := by decide +kernel
theorem dL_sound_270 : decode cL_sound 270 = .ok (.iconst 3, 1) := by decide +kernel
theorem dL_sound_271 : decode cL_sound 271 = .ok (.invokevirtual 21, 3) := by decide +kernel
theorem dL_sound_274 : decode cL_sound 274 = .ok (.if_icmp .ne 7, 3) := by decide +kernel
theorem dL_sound_277 : decode cL_sound 277 = .ok (.iconst 1, 1) := by decide +kernel
theorem dL_sound_278 : decode cL_sound 278 = .ok (.goto 4, 3) := by decide +kernel
theorem dL_sound_281 : decode cL_sound 281 = .ok (.iconst 0, 1) := by decide +kernel
theorem dL_sound_282 : decode cL_sound 282 = .ok (.istore 5, 2) := by decide +kernel
theorem dL_sound_284 : decode cL_sound 284 = .ok (.aload_n 0, 1) := by decide +kernel
theorem dL_sound_285 : decode cL_sound 285 = .ok (.bipush 10, 2) := by decide +kernel
theorem dL_sound_287 : decode cL_sound 287 = .ok (.invokevirtual 21, 3) := by decide +kernel
theorem dL_sound_290 : decode cL_sound 290 = .ok (.istore 6, 2) := by decide +kernel
theorem dL_sound_292 : decode cL_sound 292 = .ok (.aload_n 0, 1) := by decide +kernel
theorem dL_sound_293 : decode cL_sound 293 = .ok (.iconst 1, 1) := by decide +kernel
theorem dL_sound_294 : decode cL_sound 294 = .ok (.invokevirtual 21, 3) := by decide +kernel
theorem dL_sound_297 : decode cL_sound 297 = .ok (.iload_n 1, 1) := by decide +kernel
theorem dL_sound_298 : decode cL_sound 298 = .ok (.if_icmp .ne 166, 3) := by decide +kernel
theorem dL_sound_301 : decode cL_sound 301 = .ok (.aload_n 0, 1) := by decide +kernel
theorem dL_sound_302 : decode cL_sound 302 = .ok (.aload_n 0, 1) := by decide +kernel
theorem dL_sound_303 : decode cL_sound 303 = .ok (.iconst 5, 1) := by decide +kernel
theorem dL_sound_304 : decode cL_sound 304 = .ok (.invokevirtual 17, 3) := by decide +kernel
theorem dL_sound_307 : decode cL_sound 307 = .ok (.invokevirtual 40, 3) := by decide +kernel
theorem dL_sound_310 : decode cL_sound 310 = .ok (.iload_n 1, 1) := by decide +kernel
theorem dL_sound_311 : decode cL_sound 311 = .ok (.if_icmp .ne 153, 3) := by decide +kernel
theorem dL_sound_314 : decode cL_sound 314 = .ok (.aload_n 0, 1) := by decide +kernel
theorem dL_sound_315 : decode cL_sound 315 = .ok (.bipush 12, 2) := by decide +kernel
theorem dL_sound_317 : decode cL_sound 317 = .ok (.invokevirtual 21, 3) := by decide +kernel
theorem dL_sound_320 : decode cL_sound 320 = .ok (.iload_n 3, 1) := by decide +kernel
theorem dL_sound_321 : decode cL_sound 321 = .ok (.if_icmp .ne 143, 3) := by decide +kernel
theorem dL_sound_324 : decode cL_sound 324 = .ok (.aload_n 0, 1) := by decide +kernel
theorem dL_sound_325 : decode cL_sound 325 = .ok (.iconst 0, 1) := by decide +kernel
theorem dL_sound_326 : decode cL_sound 326 = .ok (.iconst 1, 1) := by decide +kernel
theorem dL_sound_327 : decode cL_sound 327 = .ok (.invokevirtual 34, 3) := by decide +kernel
theorem dL_sound_330 : decode cL_sound 330 = .ok (.aload_n 0, 1) := by decide +kernel
theorem dL_sound_331 : decode cL_sound 331 = .ok (.iconst 1, 1) := by decide +kernel
theorem dL_sound_332 : decode cL_sound 332 = .ok (.iconst 1, 1) := by decide +kernel
theorem dL_sound_333 : decode cL_sound 333 = .ok (.invokevirtual 34, 3) := by decide +kernel
theorem dL_sound_336 : decode cL_sound 336 = .ok (.iadd, 1) := by decide +kernel
theorem dL_sound_337 : decode cL_sound 337 = .ok (.iload_n 2, 1) := by decide +kernel
theorem dL_sound_338 : decode cL_sound 338 = .ok (.if_icmp .ne 126, 3) := by decide +kernel
theorem dL_sound_341 : decode cL_sound 341 = .ok (.aload_n 0, 1) := by decide +kernel
theorem dL_sound_342 : decode cL_sound 342 = .ok (.bipush 11, 2) := by decide +kernel
theorem dL_sound_344 : decode cL_sound 344 = .ok (.invokevirtual 21, 3) := by decide +kernel
theorem dL_sound_347 : decode cL_sound 347 = .ok (.iconst 1, 1) := by decide +kernel
theorem dL_sound_348 : decode cL_sound 348 = .ok (.if_icmp .ne 7, 3) := by decide +kernel
theorem dL_sound_351 : decode cL_sound 351 = .ok (.iconst 1, 1) := by decide +kernel
theorem dL_sound_352 : decode cL_sound 352 = .ok (.goto 4, 3) := by decide +kernel
theorem dL_sound_355 : decode cL_sound 355 = .ok (.iconst 0, 1) := by decide +kernel
theorem dL_sound_356 : decode cL_sound 356 = .ok (.iload 5, 2) := by decide +kernel
theorem dL_sound_358 : decode cL_sound 358 = .ok (.if_icmp .ne 106, 3) := by decide +kernel
theorem dL_sound_361 : decode cL_sound 361 = .ok (.iload 6, 2) := by decide +kernel
theorem dL_sound_363 : decode cL_sound 363 = .ok (.ifCond .eq 19, 3) := by decide +kernel
theorem dL_sound_366 : decode cL_sound 366 = .ok (.iload 6, 2) := by decide +kernel
theorem dL_sound_368 : decode cL_sound 368 = .ok (.aload_n 0, 1) := by decide +kernel
theorem dL_sound_369 : decode cL_sound 369 = .ok (.bipush 9, 2) := by decide +kernel
theorem dL_sound_371 : decode cL_sound 371 = .ok (.invokevirtual 21, 3) := by decide +kernel
theorem dL_sound_374 : decode cL_sound 374 = .ok (.if_icmp .ne 90, 3) := by decide +kernel
theorem dL_sound_377 : decode cL_sound 377 = .ok (.iload 5, 2) := by decide +kernel
theorem dL_sound_379 : decode cL_sound 379 = .ok (.ifCond .eq 85, 3) := by decide +kernel
theorem dL_sound_382 : decode cL_sound 382 = .ok (.aload_n 0, 1) := by decide +kernel
theorem dL_sound_383 : decode cL_sound 383 = .ok (.bipush 9, 2) := by decide +kernel
theorem dL_sound_385 : decode cL_sound 385 = .ok (.invokevirtual 21, 3) := by decide +kernel
theorem dL_sound_388 : decode cL_sound 388 = .ok (.ifCond .eq 8, 3) := by decide +kernel
theorem dL_sound_391 : decode cL_sound 391 = .ok (.iload 6, 2) := by decide +kernel
theorem dL_sound_393 : decode cL_sound 393 = .ok (.ifCond .le 7, 3) := by decide +kernel
theorem dL_sound_396 : decode cL_sound 396 = .ok (.iconst 1, 1) := by decide +kernel
theorem dL_sound_397 : decode cL_sound 397 = .ok (.goto 4, 3) := by decide +kernel
theorem dL_sound_400 : decode cL_sound 400 = .ok (.iconst 0, 1) := by decide +kernel
theorem dL_sound_401 : decode cL_sound 401 = .ok (.iload 5, 2) := by decide +kernel
theorem dL_sound_403 : decode cL_sound 403 = .ok (.if_icmp .ne 61, 3) := by decide +kernel
theorem dL_sound_406 : decode cL_sound 406 = .ok (.aload_n 0, 1) := by decide +kernel
theorem dL_sound_407 : decode cL_sound 407 = .ok (.bipush 7, 2) := by decide +kernel
theorem dL_sound_409 : decode cL_sound 409 = .ok (.invokevirtual 21, 3) := by decide +kernel
theorem dL_sound_412 : decode cL_sound 412 = .ok (.ifCond .ne 7, 3) := by decide +kernel
theorem dL_sound_415 : decode cL_sound 415 = .ok (.iconst 1, 1) := by decide +kernel
theorem dL_sound_416 : decode cL_sound 416 = .ok (.goto 4, 3) := by decide +kernel
theorem dL_sound_419 : decode cL_sound 419 = .ok (.iconst 0, 1) := by decide +kernel
theorem dL_sound_420 : decode cL_sound 420 = .ok (.aload_n 0, 1) := by decide +kernel
theorem dL_sound_421 : decode cL_sound 421 = .ok (.bipush 8, 2) := by decide +kernel
theorem dL_sound_423 : decode cL_sound 423 = .ok (.invokevirtual 21, 3) := by decide +kernel
theorem dL_sound_426 : decode cL_sound 426 = .ok (.bipush (-99), 2) := by decide +kernel
theorem dL_sound_428 : decode cL_sound 428 = .ok (.if_icmp .ne 7, 3) := by decide +kernel
theorem dL_sound_431 : decode cL_sound 431 = .ok (.iconst 1, 1) := by decide +kernel
theorem dL_sound_432 : decode cL_sound 432 = .ok (.goto 4, 3) := by decide +kernel
theorem dL_sound_435 : decode cL_sound 435 = .ok (.iconst 0, 1) := by decide +kernel
theorem dL_sound_436 : decode cL_sound 436 = .ok (.if_icmp .ne 28, 3) := by decide +kernel
theorem dL_sound_439 : decode cL_sound 439 = .ok (.aload_n 0, 1) := by decide +kernel
theorem dL_sound_440 : decode cL_sound 440 = .ok (.invokevirtual 43, 3) := by decide +kernel
theorem dL_sound_443 : decode cL_sound 443 = .ok (.aload_n 0, 1) := by decide +kernel
theorem dL_sound_444 : decode cL_sound 444 = .ok (.iconst 0, 1) := by decide +kernel
theorem dL_sound_445 : decode cL_sound 445 = .ok (.invokevirtual 17, 3) := by decide +kernel
theorem dL_sound_448 : decode cL_sound 448 = .ok (.ishr, 1) := by decide +kernel
theorem dL_sound_449 : decode cL_sound 449 = .ok (.iconst 1, 1) := by decide +kernel
theorem dL_sound_450 : decode cL_sound 450 = .ok (.iand, 1) := by decide +kernel
theorem dL_sound_451 : decode cL_sound 451 = .ok (.aload_n 0, 1) := by decide +kernel
theorem dL_sound_452 : decode cL_sound 452 = .ok (.bipush 11, 2) := by decide +kernel
theorem dL_sound_454 : decode cL_sound 454 = .ok (.invokevirtual 21, 3) := by decide +kernel
theorem dL_sound_457 : decode cL_sound 457 = .ok (.if_icmp .ne 7, 3) := by decide +kernel
theorem dL_sound_460 : decode cL_sound 460 = .ok (.iconst 1, 1) := by decide +kernel
theorem dL_sound_461 : decode cL_sound 461 = .ok (.goto 4, 3) := by decide +kernel
theorem dL_sound_464 : decode cL_sound 464 = .ok (.iconst 0, 1) := by decide +kernel
theorem dL_sound_465 : decode cL_sound 465 = .ok (.ireturn, 1) := by decide +kernel
set_option maxRecDepth 20000 in
theorem ggL_refuses_X8_count : GoodIn wsL_refuses wsX8_count := goodIn_r _ [5, 6, 7, 8, 9, 10, 11, 12, 13, 4, 14, 15, 16, 17, 18, 19, 20, 21, 22, 23, 24, 25, 26, 27, 28, 29, 30, 31, 32, 33, 34, 35, 36, 37, 38, 39, 40, 41, 42, 43, 44, 45, 46, 47, 48, 49, 50, 51, 52, 53, 54, 55, 56, 57, 58, 59, 60, 61, 62, 63, 64, 65, 66, 67, 68, 69, 70, 71, 72, 73, 74, 75, 76, 77, 78, 79, 80, 81, 82, 83, 84, 85, 86, 87, 88, 89, 90, 91, 92, 93, 94, 95, 96, 97, 98, 99, 100, 101, 102, 103, 104, 105, 106, 107, 108, 109, 110, 111, 112, 113, 114, 115, 116, 117, 118, 119, 120, 121, 122, 123, 124, 125, 126, 127, 128, 129, 130, 131, 132, 133, 134, 135, 136, 137, 138, 139, 140, 141, 142, 143, 144, 145, 146, 147, 148, 149, 150, 151, 152, 153, 154, 155, 156, 510, 511, 512, 513, 514, 515, 516, 517, 518, 519, 520, 521, 522, 523, 524, 525, 526, 527, 528, 529, 530, 531, 532, 533, 534, 535, 536, 537, 538, 539, 540, 541, 542, 543, 544, 545] (by decide +kernel) (by decide +kernel)
set_option maxRecDepth 20000 in
theorem gL_refuses_X8_count : GoodIn wsL_refuses (wsV RL 21 RX8 yX8_count wsX8_count) := goodIn_app (goodIn_of _ (by decide +kernel)) ggL_refuses_X8_count
set_option maxRecDepth 20000 in
theorem ggL_refuses_X8_addDish : GoodIn wsL_refuses wsX8_addDish := goodIn_r _ [160, 6, 9, 161, 162, 4, 163, 164, 165, 145, 146, 147, 166, 167, 168, 18, 169, 46, 170, 171, 172, 173, 174, 175, 176, 177, 178, 179, 180, 181, 182, 183, 184, 185, 186, 187, 188, 189, 190, 191, 192, 51, 193, 194, 195, 196, 20, 197, 198, 199, 200, 201, 202, 203, 204, 205, 206, 207, 208, 209, 210, 510, 511, 512, 513, 514, 515, 516, 517, 518, 519, 520, 521, 542, 543, 544, 545, 535, 536] (by decide +kernel) (by decide +kernel)
set_option maxRecDepth 20000 in
theorem gL_refuses_X8_addDish : GoodIn wsL_refuses (wsV RL 47 RX8 yX8_addDish wsX8_addDish) := goodIn_app (goodIn_of _ (by decide +kernel)) ggL_refuses_X8_addDish

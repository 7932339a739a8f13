theorem dL_refuses_96 : decode cL_refuses 96 = .ok (.if_icmp .ne 291, 3) := by decide +kernel
theorem dL_refuses_99 : decode cL_refuses 99 = .ok (.aload_n 0, 1) := by decide +kernel
theorem dL_refuses_100 : decode cL_refuses 100 = .ok (.iload_n 1, 1) := by decide +kernel
theorem dL_refuses_101 : decode cL_refuses 101 = .ok (.invokevirtual 51, 3) := by decide +kernel
theorem dL_refuses_104 : decode cL_refuses 104 = .ok (.iconst (-1), 1) := by decide +kernel
theorem dL_refuses_105 : decode cL_refuses 105 = .ok (.if_icmp .ne 282, 3) := by decide +kernel
theorem dL_refuses_108 : decode cL_refuses 108 = .ok (.aload_n 0, 1) := by decide +kernel
theorem dL_refuses_109 : decode cL_refuses 109 = .ok (.iconst (-1), 1) := by decide +kernel
theorem dL_refuses_110 : decode cL_refuses 110 = .ok (.invokevirtual 51, 3) := by decide +kernel
theorem dL_refuses_113 : decode cL_refuses 113 = .ok (.iconst (-1), 1) := by decide +kernel
theorem dL_refuses_114 : decode cL_refuses 114 = .ok (.if_icmp .ne 273, 3) := by decide +kernel
theorem dL_refuses_117 : decode cL_refuses 117 = .ok (.aload_n 0, 1) := by decide +kernel
theorem dL_refuses_118 : decode cL_refuses 118 = .ok (.iload_n 1, 1) := by decide +kernel
theorem dL_refuses_119 : decode cL_refuses 119 = .ok (.iconst 0, 1) := by decide +kernel
theorem dL_refuses_120 : decode cL_refuses 120 = .ok (.iconst 0, 1) := by decide +kernel
theorem dL_refuses_121 : decode cL_refuses 121 = .ok (.invokevirtual 54, 3) := by decide +kernel
theorem dL_refuses_124 : decode cL_refuses 124 = .ok (.iconst (-1), 1) := by decide +kernel
theorem dL_refuses_125 : decode cL_refuses 125 = .ok (.if_icmp .ne 262, 3) := by decide +kernel
theorem dL_refuses_128 : decode cL_refuses 128 = .ok (.aload_n 0, 1) := by decide +kernel
theorem dL_refuses_129 : decode cL_refuses 129 = .ok (.iconst 0, 1) := by decide +kernel
theorem dL_refuses_130 : decode cL_refuses 130 = .ok (.bipush 7, 2) := by decide +kernel
theorem dL_refuses_132 : decode cL_refuses 132 = .ok (.iconst 0, 1) := by decide +kernel
theorem dL_refuses_133 : decode cL_refuses 133 = .ok (.invokevirtual 54, 3) := by decide +kernel
theorem dL_refuses_136 : decode cL_refuses 136 = .ok (.iconst (-1), 1) := by decide +kernel
theorem dL_refuses_137 : decode cL_refuses 137 = .ok (.if_icmp .ne 250, 3) := by decide +kernel
theorem dL_refuses_140 : decode cL_refuses 140 = .ok (.aload_n 0, 1) := by decide +kernel
theorem dL_refuses_141 : decode cL_refuses 141 = .ok (.bipush 6, 2) := by decide +kernel
theorem dL_refuses_143 : decode cL_refuses 143 = .ok (.iconst 0, 1) := by decide +kernel
theorem dL_refuses_144 : decode cL_refuses 144 = .ok (.invokevirtual 57, 3) := by decide +kernel
theorem dL_refuses_147 : decode cL_refuses 147 = .ok (.iconst (-1), 1) := by decide +kernel
theorem dL_refuses_148 : decode cL_refuses 148 = .ok (.if_icmp .ne 239, 3) := by decide +kernel
theorem dL_refuses_151 : decode cL_refuses 151 = .ok (.aload_n 0, 1) := by decide +kernel
theorem dL_refuses_152 : decode cL_refuses 152 = .ok (.iconst 0, 1) := by decide +kernel
theorem dL_refuses_153 : decode cL_refuses 153 = .ok (.iconst 4, 1) := by decide +kernel
theorem dL_refuses_154 : decode cL_refuses 154 = .ok (.invokevirtual 57, 3) := by decide +kernel
theorem dL_refuses_157 : decode cL_refuses 157 = .ok (.iconst (-1), 1) := by decide +kernel
theorem dL_refuses_158 : decode cL_refuses 158 = .ok (.if_icmp .ne 229, 3) := by decide +kernel
theorem dL_refuses_161 : decode cL_refuses 161 = .ok (.aload_n 0, 1) := by decide +kernel
theorem dL_refuses_162 : decode cL_refuses 162 = .ok (.iconst 1, 1) := by decide +kernel
theorem dL_refuses_163 : decode cL_refuses 163 = .ok (.bipush 19, 2) := by decide +kernel
theorem dL_refuses_165 : decode cL_refuses 165 = .ok (.invokevirtual 57, 3) := by decide +kernel
theorem dL_refuses_168 : decode cL_refuses 168 = .ok (.iconst (-1), 1) := by decide +kernel
theorem dL_refuses_169 : decode cL_refuses 169 = .ok (.if_icmp .ne 218, 3) := by decide +kernel
theorem dL_refuses_172 : decode cL_refuses 172 = .ok (.aload_n 0, 1) := by decide +kernel
theorem dL_refuses_173 : decode cL_refuses 173 = .ok (.iconst 4, 1) := by decide +kernel
theorem dL_refuses_174 : decode cL_refuses 174 = .ok (.iconst (-1), 1) := by decide +kernel
theorem dL_refuses_175 : decode cL_refuses 175 = .ok (.invokevirtual 57, 3) := by decide +kernel
theorem dL_refuses_178 : decode cL_refuses 178 = .ok (.iconst (-1), 1) := by decide +kernel
theorem dL_refuses_179 : decode cL_refuses 179 = .ok (.if_icmp .ne 208, 3) := by decide +kernel
theorem dL_refuses_182 : decode cL_refuses 182 = .ok (.aload_n 0, 1) := by decide +kernel
theorem dL_refuses_183 : decode cL_refuses 183 = .ok (.iconst 4, 1) := by decide +kernel
theorem dL_refuses_184 : decode cL_refuses 184 = .ok (.iconst 0, 1) := by decide +kernel
theorem dL_refuses_185 : decode cL_refuses 185 = .ok (.invokevirtual 60, 3) := by decide +kernel
theorem dL_refuses_188 : decode cL_refuses 188 = .ok (.iconst (-1), 1) := by decide +kernel
theorem dL_refuses_189 : decode cL_refuses 189 = .ok (.if_icmp .ne 198, 3) := by decide +kernel
theorem dL_refuses_192 : decode cL_refuses 192 = .ok (.aload_n 0, 1) := by decide +kernel
theorem dL_refuses_193 : decode cL_refuses 193 = .ok (.iconst 0, 1) := by decide +kernel
theorem dL_refuses_194 : decode cL_refuses 194 = .ok (.iconst 2, 1) := by decide +kernel
theorem dL_refuses_195 : decode cL_refuses 195 = .ok (.invokevirtual 60, 3) := by decide +kernel
theorem dL_refuses_198 : decode cL_refuses 198 = .ok (.iconst (-1), 1) := by decide +kernel
theorem dL_refuses_199 : decode cL_refuses 199 = .ok (.if_icmp .ne 188, 3) := by decide +kernel
theorem dL_refuses_202 : decode cL_refuses 202 = .ok (.aload_n 0, 1) := by decide +kernel
theorem dL_refuses_203 : decode cL_refuses 203 = .ok (.iconst 2, 1) := by decide +kernel
theorem dL_refuses_204 : decode cL_refuses 204 = .ok (.iconst 0, 1) := by decide +kernel
theorem dL_refuses_205 : decode cL_refuses 205 = .ok (.iconst 1, 1) := by decide +kernel
theorem dL_refuses_206 : decode cL_refuses 206 = .ok (.invokevirtual 63, 3) := by decide +kernel
theorem dL_refuses_209 : decode cL_refuses 209 = .ok (.iconst (-1), 1) := by decide +kernel
theorem dL_refuses_210 : decode cL_refuses 210 = .ok (.if_icmp .ne 177, 3) := by decide +kernel
theorem dL_refuses_213 : decode cL_refuses 213 = .ok (.aload_n 0, 1) := by decide +kernel
theorem dL_refuses_214 : decode cL_refuses 214 = .ok (.iconst 0, 1) := by decide +kernel
theorem dL_refuses_215 : decode cL_refuses 215 = .ok (.iconst 0, 1) := by decide +kernel
theorem dL_refuses_216 : decode cL_refuses 216 = .ok (.iconst 5, 1) := by decide +kernel
theorem dL_refuses_217 : decode cL_refuses 217 = .ok (.invokevirtual 63, 3) := by decide +kernel
theorem dL_refuses_220 : decode cL_refuses 220 = .ok (.iconst (-1), 1) := by decide +kernel
theorem dL_refuses_221 : decode cL_refuses 221 = .ok (.if_icmp .ne 166, 3) := by decide +kernel
theorem dL_refuses_224 : decode cL_refuses 224 = .ok (.aload_n 0, 1) := by decide +kernel
theorem dL_refuses_225 : decode cL_refuses 225 = .ok (.iconst 2, 1) := by decide +kernel
theorem dL_refuses_226 : decode cL_refuses 226 = .ok (.invokevirtual 66, 3) := by decide +kernel
theorem dL_refuses_229 : decode cL_refuses 229 = .ok (.iconst (-1), 1) := by decide +kernel
theorem dL_refuses_230 : decode cL_refuses 230 = .ok (.if_icmp .ne 157, 3) := by decide +kernel
theorem dL_refuses_233 : decode cL_refuses 233 = .ok (.aload_n 0, 1) := by decide +kernel
theorem dL_refuses_234 : decode cL_refuses 234 = .ok (.iconst (-1), 1) := by decide +kernel
theorem dL_refuses_235 : decode cL_refuses 235 = .ok (.invokevirtual 69, 3) := by decide +kernel
theorem dL_refuses_238 : decode cL_refuses 238 = .ok (.iconst (-1), 1) := by decide +kernel
theorem dL_refuses_239 : decode cL_refuses 239 = .ok (.if_icmp .ne 148, 3) := by decide +kernel
theorem dL_refuses_242 : decode cL_refuses 242 = .ok (.aload_n 0, 1) := by decide +kernel
theorem dL_refuses_243 : decode cL_refuses 243 = .ok (.iconst 0, 1) := by decide +kernel
theorem dL_refuses_244 : decode cL_refuses 244 = .ok (.invokevirtual 72, 3) := by decide +kernel
theorem dL_refuses_247 : decode cL_refuses 247 = .ok (.iconst (-1), 1) := by decide +kernel
theorem dL_refuses_248 : decode cL_refuses 248 = .ok (.if_icmp .ne 139, 3) := by decide +kernel
theorem dL_refuses_251 : decode cL_refuses 251 = .ok (.aload_n 0, 1) := by decide +kernel
theorem dL_refuses_252 : decode cL_refuses 252 = .ok (.iconst (-1), 1) := by decide +kernel
theorem dL_refuses_253 : decode cL_refuses 253 = .ok (.invokevirtual 21, 3) := by decide +kernel
theorem dL_refuses_256 : decode cL_refuses 256 = .ok (.iconst (-1), 1) := by decide +kernel
theorem dL_refuses_257 : decode cL_refuses 257 = .ok (.if_icmp .ne 130, 3) := by decide +kernel
theorem dL_refuses_260 : decode cL_refuses 260 = .ok (.aload_n 0, 1) := by decide +kernel
theorem dL_refuses_261 : decode cL_refuses 261 = .ok (.bipush 16, 2) := by decide +kernel
theorem dL_refuses_263 : decode cL_refuses 263 = .ok (.invokevirtual 21, 3) := by decide +kernel
theorem dL_refuses_266 : decode cL_refuses 266 = .ok (.iconst (-1), 1) := by decide +kernel
theorem dL_refuses_267 : decode cL_refuses 267 = .ok (.if_icmp .ne 120, 3) := by decide +kernel
theorem dL_refuses_270 : decode cL_refuses 270 = .ok (.aload_n 0, 1) := by decide +kernel
theorem dL_refuses_271 : decode cL_refuses 271 = .ok (.bipush 10, 2) := by decide +kernel
theorem dL_refuses_273 : decode cL_refuses 273 = .ok (.invokevirtual 17, 3) := by decide +kernel
theorem dL_refuses_276 : decode cL_refuses 276 = .ok (.iconst (-1), 1) := by decide +kernel
theorem dL_refuses_277 : decode cL_refuses 277 = .ok (.if_icmp .ne 110, 3) := by decide +kernel
theorem dL_refuses_280 : decode cL_refuses 280 = .ok (.aload_n 0, 1) := by decide +kernel
theorem dL_refuses_281 : decode cL_refuses 281 = .ok (.iload_n 1, 1) := by decide +kernel
theorem dL_refuses_282 : decode cL_refuses 282 = .ok (.iconst 0, 1) := by decide +kernel
theorem dL_refuses_283 : decode cL_refuses 283 = .ok (.invokevirtual 24, 3) := by decide +kernel
theorem dL_refuses_286 : decode cL_refuses 286 = .ok (.iconst (-1), 1) := by decide +kernel
theorem dL_refuses_287 : decode cL_refuses 287 = .ok (.if_icmp .ne 100, 3) := by decide +kernel
theorem dL_refuses_290 : decode cL_refuses 290 = .ok (.aload_n 0, 1) := by decide +kernel
theorem dL_refuses_291 : decode cL_refuses 291 = .ok (.iconst 0, 1) := by decide +kernel
theorem dL_refuses_292 : decode cL_refuses 292 = .ok (.iconst (-1), 1) := by decide +kernel
theorem dL_refuses_293 : decode cL_refuses 293 = .ok (.iconst 0, 1) := by decide +kernel
theorem dL_refuses_294 : decode cL_refuses 294 = .ok (.invokevirtual 9, 3) := by decide +kernel
theorem dL_refuses_297 : decode cL_refuses 297 = .ok (.iconst (-1), 1) := by decide +kernel
theorem dL_refuses_298 : decode cL_refuses 298 = .ok (.if_icmp .ne 89, 3) := by decide +kernel
theorem dL_refuses_301 : decode cL_refuses 301 = .ok (.aload_n 0, 1) := by decide +kernel
theorem dL_refuses_302 : decode cL_refuses 302 = .ok (.iconst 0, 1) := by decide +kernel
theorem dL_refuses_303 : decode cL_refuses 303 = .ok (.iconst 0, 1) := by decide +kernel
theorem dL_refuses_304 : decode cL_refuses 304 = .ok (.bipush 6, 2) := by decide +kernel
theorem dL_refuses_306 : decode cL_refuses 306 = .ok (.invokevirtual 9, 3) := by decide +kernel
theorem dL_refuses_309 : decode cL_refuses 309 = .ok (.iconst (-1), 1) := by decide +kernel
theorem dL_refuses_310 : decode cL_refuses 310 = .ok (.if_icmp .ne 77, 3) := by decide +kernel
theorem dL_refuses_313 : decode cL_refuses 313 = .ok (.aload_n 0, 1) := by decide +kernel
theorem dL_refuses_314 : decode cL_refuses 314 = .ok (.iconst 0, 1) := by decide +kernel
theorem dL_refuses_315 : decode cL_refuses 315 = .ok (.iconst 5, 1) := by decide +kernel
theorem dL_refuses_316 : decode cL_refuses 316 = .ok (.invokevirtual 34, 3) := by decide +kernel
theorem dL_refuses_319 : decode cL_refuses 319 = .ok (.iconst (-1), 1) := by decide +kernel
theorem dL_refuses_320 : decode cL_refuses 320 = .ok (.if_icmp .ne 67, 3) := by decide +kernel
theorem dL_refuses_323 : decode cL_refuses 323 = .ok (.aload_n 0, 1) := by decide +kernel
theorem dL_refuses_324 : decode cL_refuses 324 = .ok (.iload_n 1, 1) := by decide +kernel
theorem dL_refuses_325 : decode cL_refuses 325 = .ok (.invokevirtual 28, 3) := by decide +kernel
theorem dL_refuses_328 : decode cL_refuses 328 = .ok (.iconst (-1), 1) := by decide +kernel
theorem dL_refuses_329 : decode cL_refuses 329 = .ok (.if_icmp .ne 58, 3) := by decide +kernel
theorem dL_refuses_332 : decode cL_refuses 332 = .ok (.aload_n 0, 1) := by decide +kernel
theorem dL_refuses_333 : decode cL_refuses 333 = .ok (.iload_n 1, 1) := by decide +kernel
theorem dL_refuses_334 : decode cL_refuses 334 = .ok (.invokevirtual 37, 3) := by decide +kernel
theorem dL_refuses_337 : decode cL_refuses 337 = .ok (.iconst (-1), 1) := by decide +kernel
theorem dL_refuses_338 : decode cL_refuses 338 = .ok (.if_icmp .ne 49, 3) := by decide +kernel
theorem dL_refuses_341 : decode cL_refuses 341 = .ok (.aload_n 0, 1) := by decide +kernel
theorem dL_refuses_342 : decode cL_refuses 342 = .ok (.iconst (-1), 1) := by decide +kernel
theorem dL_refuses_343 : decode cL_refuses 343 = .ok (.invokevirtual 40, 3) := by decide +kernel
theorem dL_refuses_346 : decode cL_refuses 346 = .ok (.iconst (-1), 1) := by decide +kernel
theorem dL_refuses_347 : decode cL_refuses 347 = .ok (.if_icmp .ne 40, 3) := by decide +kernel
theorem dL_refuses_350 : decode cL_refuses 350 = .ok (.aload_n 0, 1) := by decide +kernel
theorem dL_refuses_351 : decode cL_refuses 351 = .ok (.iconst 4, 1) := by decide +kernel
theorem dL_refuses_352 : decode cL_refuses 352 = .ok (.invokevirtual 75, 3) := by decide +kernel
theorem dL_refuses_355 : decode cL_refuses 355 = .ok (.iconst (-1), 1) := by decide +kernel
theorem dL_refuses_356 : decode cL_refuses 356 = .ok (.if_icmp .ne 31, 3) := by decide +kernel
theorem dL_refuses_359 : decode cL_refuses 359 = .ok (.aload_n 0, 1) := by decide +kernel
theorem dL_refuses_360 : decode cL_refuses 360 = .ok (.iconst 0, 1) := by decide +kernel
theorem dL_refuses_361 : decode cL_refuses 361 = .ok (.iconst 0, 1) := by decide +kernel
theorem dL_refuses_362 : decode cL_refuses 362 = .ok (.iconst 0, 1) := by decide +kernel
theorem dL_refuses_363 : decode cL_refuses 363 = .ok (.iconst 0, 1) := by decide +kernel
theorem dL_refuses_364 : decode cL_refuses 364 = .ok (.invokevirtual 78, 3) := by decide +kernel
theorem dL_refuses_367 : decode cL_refuses 367 = .ok (.iconst (-1), 1) := by decide +kernel
theorem dL_refuses_368 : decode cL_refuses 368 = .ok (.if_icmp .ne 19, 3) := by decide +kernel
theorem dL_refuses_371 : decode cL_refuses 371 = .ok (.aload_n 0, 1) := by decide +kernel
theorem dL_refuses_372 : decode cL_refuses 372 = .ok (.iconst 0, 1) := by decide +kernel
theorem dL_refuses_373 : decode cL_refuses 373 = .ok (.iconst 0, 1) := by decide +kernel
theorem dL_refuses_374 : decode cL_refuses 374 = .ok (.iconst 1, 1) := by decide +kernel
theorem dL_refuses_375 : decode cL_refuses 375 = .ok (.iconst 3, 1) := by decide +kernel
theorem dL_refuses_376 : decode cL_refuses 376 = .ok (.invokevirtual 78, 3) := by decide +kernel
theorem dL_refuses_379 : decode cL_refuses 379 = .ok (.iconst (-1), 1) := by decide +kernel
theorem dL_refuses_380 : decode cL_refuses 380 = .ok (.if_icmp .ne 7, 3) := by decide +kernel
theorem dL_refuses_383 : decode cL_refuses 383 = .ok (.iconst 1, 1) := by decide +kernel
theorem dL_refuses_384 : decode cL_refuses 384 = .ok (.goto 4, 3) := by decide +kernel
theorem dL_refuses_387 : decode cL_refuses 387 = .ok (.iconst 0, 1) := by decide +kernel
theorem dL_refuses_388 : decode cL_refuses 388 = .ok (.istore_n 3, 1) := by decide +kernel
theorem dL_refuses_389 : decode cL_refuses 389 = .ok (.iload_n 3, 1) := by decide +kernel
theorem dL_refuses_390 : decode cL_refuses 390 = .ok (.ifCond .eq 26, 3) := by decide +kernel
theorem dL_refuses_393 : decode cL_refuses 393 = .ok (.aload_n 0, 1) := by decide +kernel
theorem dL_refuses_394 : decode cL_refuses 394 = .ok (.iconst 0, 1) := by decide +kernel
theorem dL_refuses_395 : decode cL_refuses 395 = .ok (.invokevirtual 21, 3) := by decide +kernel
theorem dL_refuses_398 : decode cL_refuses 398 = .ok (.iload_n 1, 1) := by decide +kernel
theorem dL_refuses_399 : decode cL_refuses 399 = .ok (.if_icmp .ne 17, 3) := by decide +kernel
theorem dL_refuses_402 : decode cL_refuses 402 = .ok (.aload_n 0, 1) := by decide +kernel
theorem dL_refuses_403 : decode cL_refuses 403 = .ok (.bipush 14, 2) := by decide +kernel
theorem dL_refuses_405 : decode cL_refuses 405 = .ok (.invokevirtual 21, 3) := by decide +kernel
theorem dL_refuses_408 : decode cL_refuses 408 = .ok (.iload_n 2, 1) := by decide +kernel
theorem dL_refuses_409 : decode cL_refuses 409 = .ok (.if_icmp .ne 7, 3) := by decide +kernel
theorem dL_refuses_412 : decode cL_refuses 412 = .ok (.iconst 1, 1) := by decide +kernel
theorem dL_refuses_413 : decode cL_refuses 413 = .ok (.goto 4, 3) := by decide +kernel
theorem dL_refuses_416 : decode cL_refuses 416 = .ok (.iconst 0, 1) := by decide +kernel
theorem dL_refuses_417 : decode cL_refuses 417 = .ok (.ireturn, 1) := by decide +kernel
set_option maxRecDepth 20000 in
theorem ggL_arranges_X8_count : GoodIn wsL_arranges wsX8_count := goodIn_r _ [5, 6, 7, 8, 9, 10, 11, 12, 13, 4, 14, 15, 16, 17, 18, 19, 20, 21, 22, 23, 24, 25, 26, 27, 28, 29, 30, 31, 32, 33, 34, 35, 36, 37, 38, 39, 40, 41, 42, 43, 44, 45, 46, 47, 48, 49, 50, 51, 52, 53, 54, 55, 56, 57, 58, 59, 60, 61, 62, 63, 64, 65, 66, 67, 68, 69, 70, 71, 72, 73, 74, 75, 76, 77, 78, 79, 80, 81, 82, 83, 84, 85, 86, 87, 88, 89, 90, 91, 92, 93, 94, 95, 96, 97, 98, 99, 100, 101, 102, 103, 104, 105, 106, 107, 108, 109, 110, 111, 112, 113, 114, 115, 116, 117, 118, 119, 120, 121, 122, 123, 124, 125, 126, 127, 128, 129, 130, 131, 132, 133, 134, 135, 136, 137, 138, 139, 140, 141, 142, 143, 144, 145, 146, 147, 148, 149, 150, 151, 152, 153, 154, 155, 156, 236, 237, 238, 239, 240, 241, 242, 243, 244, 245, 246, 247, 248, 249, 250, 251, 252, 253, 254, 255, 256, 257, 258, 259, 260, 261, 262, 263, 264, 265, 266, 267, 268, 269, 270, 271] (by decide +kernel) (by decide +kernel)
set_option maxRecDepth 20000 in
theorem gL_arranges_X8_count : GoodIn wsL_arranges (wsV RL 21 RX8 yX8_count wsX8_count) := goodIn_app (goodIn_of _ (by decide +kernel)) ggL_arranges_X8_count
set_option maxRecDepth 20000 in
theorem ggL_arranges_X8_bestSides : GoodIn wsL_arranges wsX8_bestSides := goodIn_r _ [160, 6, 8, 145, 146, 4, 147, 161, 162, 163, 164, 7, 15, 16, 17, 18, 19, 20, 21, 22, 23, 24, 25, 26, 27, 28, 29, 30, 31, 32, 33, 34, 35, 36, 37, 38, 39, 40, 41, 42, 43, 44, 45, 46, 47, 48, 49, 50, 51, 52, 53, 54, 55, 56, 57, 58, 59, 60, 61, 62, 63, 64, 65, 66, 67, 68, 69, 70, 71, 72, 73, 74, 75, 76, 77, 78, 79, 80, 81, 82, 83, 84, 85, 86, 87, 88, 89, 90, 91, 92, 93, 94, 95, 165, 166, 167, 168, 169, 96, 97, 98, 99, 100, 101, 102, 103, 104, 105, 106, 107, 108, 109, 110, 111, 112, 113, 114, 115, 116, 117, 118, 119, 120, 121, 122, 123, 124, 125, 126, 127, 128, 129, 130, 131, 132, 133, 134, 135, 136, 170, 171, 172, 173, 174, 154, 155, 156, 175, 176, 177, 178, 179, 180, 181, 182, 183, 184, 185, 153, 236, 237, 238, 239, 240, 241, 242, 243, 244, 245, 246, 247, 268, 269, 270, 271, 248, 249, 250, 251, 252, 253, 254, 255, 256, 257, 258, 259, 260] (by decide +kernel) (by decide +kernel)
set_option maxRecDepth 20000 in
theorem gL_arranges_X8_bestSides : GoodIn wsL_arranges (wsV RL 75 RX8 yX8_bestSides wsX8_bestSides) := goodIn_app (goodIn_of _ (by decide +kernel)) ggL_arranges_X8_bestSides
set_option maxRecDepth 20000 in
theorem ggL_arranges_X8_arrange : GoodIn wsL_arranges wsX8_arrange := goodIn_r _ [189, 9, 6, 8, 190, 191, 192, 193, 194, 195, 196, 197, 198, 199, 200, 201, 202, 203, 204, 205, 206, 207, 208, 209, 210, 211, 18, 212, 51, 213, 214, 215, 216, 20, 46, 217, 161, 162, 163, 4, 164, 7, 15, 16, 17, 19, 21, 22, 23, 24, 25, 26, 27, 28, 29, 30, 31, 32, 33, 34, 35, 36, 37, 38, 39, 40, 41, 42, 43, 44, 45, 47, 48, 49, 50, 52, 53, 54, 55, 56, 57, 58, 59, 60, 61, 62, 63, 64, 65, 66, 67, 68, 69, 70, 71, 72, 73, 74, 75, 76, 77, 78, 79, 80, 81, 82, 83, 84, 85, 86, 87, 88, 89, 90, 91, 92, 93, 94, 95, 165, 166, 167, 168, 169, 96, 97, 98, 99, 100, 101, 102, 103, 104, 105, 106, 107, 108, 109, 110, 111, 112, 113, 114, 115, 116, 117, 118, 119, 120, 121, 122, 123, 124, 125, 126, 127, 128, 129, 130, 131, 132, 133, 134, 135, 136, 170, 171, 172, 173, 174, 154, 155, 156, 175, 176, 177, 178, 179, 180, 181, 182, 183, 184, 236, 237, 238, 239, 240, 241, 242, 243, 244, 245, 246, 247, 268, 269, 270, 271, 261, 262, 248, 249, 250, 251, 252, 253, 254, 255, 256, 257, 258, 259, 260] (by decide +kernel) (by decide +kernel)
set_option maxRecDepth 20000 in
theorem gL_arranges_X8_arrange : GoodIn wsL_arranges (wsV RL 82 RX8 yX8_arrange wsX8_arrange) := goodIn_app (goodIn_of _ (by decide +kernel)) ggL_arranges_X8_arrange

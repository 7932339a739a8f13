theorem dL_acts_115 : decode cL_acts 115 = .ok (.goto 13, 3) := by decide +kernel
theorem dL_acts_118 : decode cL_acts 118 = .ok (.iload_n 2, 1) := by decide +kernel
theorem dL_acts_119 : decode cL_acts 119 = .ok (.bipush 8, 2) := by decide +kernel
theorem dL_acts_121 : decode cL_acts 121 = .ok (.ishr, 1) := by decide +kernel
theorem dL_acts_122 : decode cL_acts 122 = .ok (.sipush 256, 3) := by decide +kernel
theorem dL_acts_125 : decode cL_acts 125 = .ok (.invokestatic 85, 3) := by decide +kernel
theorem dL_acts_128 : decode cL_acts 128 = .ok (.iconst 1, 1) := by decide +kernel
theorem dL_acts_129 : decode cL_acts 129 = .ok (.iload_n 2, 1) := by decide +kernel
theorem dL_acts_130 : decode cL_acts 130 = .ok (.bipush 10, 2) := by decide +kernel
theorem dL_acts_132 : decode cL_acts 132 = .ok (.ishr, 1) := by decide +kernel
theorem dL_acts_133 : decode cL_acts 133 = .ok (.iconst 5, 1) := by decide +kernel
theorem dL_acts_134 : decode cL_acts 134 = .ok (.invokestatic 85, 3) := by decide +kernel
theorem dL_acts_137 : decode cL_acts 137 = .ok (.iadd, 1) := by decide +kernel
theorem dL_acts_138 : decode cL_acts 138 = .ok (.invokevirtual 47, 3) := by decide +kernel
theorem dL_acts_141 : decode cL_acts 141 = .ok (.istore 6, 2) := by decide +kernel
theorem dL_acts_143 : decode cL_acts 143 = .ok (.iload 6, 2) := by decide +kernel
theorem dL_acts_145 : decode cL_acts 145 = .ok (.iload 4, 2) := by decide +kernel
theorem dL_acts_147 : decode cL_acts 147 = .ok (.bipush 20, 2) := by decide +kernel
theorem dL_acts_149 : decode cL_acts 149 = .ok (.if_icmp .ne 8, 3) := by decide +kernel
theorem dL_acts_152 : decode cL_acts 152 = .ok (.bipush (-3), 2) := by decide +kernel
theorem dL_acts_154 : decode cL_acts 154 = .ok (.goto 5, 3) := by decide +kernel
theorem dL_acts_157 : decode cL_acts 157 = .ok (.iload 4, 2) := by decide +kernel
theorem dL_acts_159 : decode cL_acts 159 = .ok (.if_icmp .ne 26, 3) := by decide +kernel
theorem dL_acts_162 : decode cL_acts 162 = .ok (.iload 4, 2) := by decide +kernel
theorem dL_acts_164 : decode cL_acts 164 = .ok (.bipush 20, 2) := by decide +kernel
theorem dL_acts_166 : decode cL_acts 166 = .ok (.if_icmp .eq 15, 3) := by decide +kernel
theorem dL_acts_169 : decode cL_acts 169 = .ok (.aload_n 0, 1) := by decide +kernel
theorem dL_acts_170 : decode cL_acts 170 = .ok (.iload 4, 2) := by decide +kernel
theorem dL_acts_172 : decode cL_acts 172 = .ok (.bipush 6, 2) := by decide +kernel
theorem dL_acts_174 : decode cL_acts 174 = .ok (.invokevirtual 24, 3) := by decide +kernel
theorem dL_acts_177 : decode cL_acts 177 = .ok (.iconst 1, 1) := by decide +kernel
theorem dL_acts_178 : decode cL_acts 178 = .ok (.if_icmp .ne 7, 3) := by decide +kernel
theorem dL_acts_181 : decode cL_acts 181 = .ok (.iconst 1, 1) := by decide +kernel
theorem dL_acts_182 : decode cL_acts 182 = .ok (.goto 4, 3) := by decide +kernel
theorem dL_acts_185 : decode cL_acts 185 = .ok (.iconst 0, 1) := by decide +kernel
theorem dL_acts_186 : decode cL_acts 186 = .ok (.ireturn, 1) := by decide +kernel
theorem dL_acts_187 : decode cL_acts 187 = .ok (.iload_n 3, 1) := by decide +kernel
theorem dL_acts_188 : decode cL_acts 188 = .ok (.iconst 5, 1) := by decide +kernel
theorem dL_acts_189 : decode cL_acts 189 = .ok (.if_icmp .ne 61, 3) := by decide +kernel
theorem dL_acts_192 : decode cL_acts 192 = .ok (.aload_n 0, 1) := by decide +kernel
theorem dL_acts_193 : decode cL_acts 193 = .ok (.iload 5, 2) := by decide +kernel
theorem dL_acts_195 : decode cL_acts 195 = .ok (.invokevirtual 51, 3) := by decide +kernel
theorem dL_acts_198 : decode cL_acts 198 = .ok (.iload 4, 2) := by decide +kernel
theorem dL_acts_200 : decode cL_acts 200 = .ok (.iconst 1, 1) := by decide +kernel
theorem dL_acts_201 : decode cL_acts 201 = .ok (.isub, 1) := by decide +kernel
theorem dL_acts_202 : decode cL_acts 202 = .ok (.if_icmp .ne 46, 3) := by decide +kernel
theorem dL_acts_205 : decode cL_acts 205 = .ok (.aload_n 0, 1) := by decide +kernel
theorem dL_acts_206 : decode cL_acts 206 = .ok (.iconst 0, 1) := by decide +kernel
theorem dL_acts_207 : decode cL_acts 207 = .ok (.invokevirtual 21, 3) := by decide +kernel
theorem dL_acts_210 : decode cL_acts 210 = .ok (.iload 4, 2) := by decide +kernel
theorem dL_acts_212 : decode cL_acts 212 = .ok (.iconst 1, 1) := by decide +kernel
theorem dL_acts_213 : decode cL_acts 213 = .ok (.isub, 1) := by decide +kernel
theorem dL_acts_214 : decode cL_acts 214 = .ok (.if_icmp .ne 34, 3) := by decide +kernel
theorem dL_acts_217 : decode cL_acts 217 = .ok (.iload_n 1, 1) := by decide +kernel
theorem dL_acts_218 : decode cL_acts 218 = .ok (.iconst 4, 1) := by decide +kernel
theorem dL_acts_219 : decode cL_acts 219 = .ok (.ishr, 1) := by decide +kernel
theorem dL_acts_220 : decode cL_acts 220 = .ok (.iconst 2, 1) := by decide +kernel
theorem dL_acts_221 : decode cL_acts 221 = .ok (.invokestatic 85, 3) := by decide +kernel
theorem dL_acts_224 : decode cL_acts 224 = .ok (.ifCond .eq 20, 3) := by decide +kernel
theorem dL_acts_227 : decode cL_acts 227 = .ok (.aload_n 0, 1) := by decide +kernel
theorem dL_acts_228 : decode cL_acts 228 = .ok (.invokevirtual 88, 3) := by decide +kernel
theorem dL_acts_231 : decode cL_acts 231 = .ok (.ifCond .lt 17, 3) := by decide +kernel
theorem dL_acts_234 : decode cL_acts 234 = .ok (.aload_n 0, 1) := by decide +kernel
theorem dL_acts_235 : decode cL_acts 235 = .ok (.iconst 0, 1) := by decide +kernel
theorem dL_acts_236 : decode cL_acts 236 = .ok (.invokevirtual 21, 3) := by decide +kernel
theorem dL_acts_239 : decode cL_acts 239 = .ok (.iload 4, 2) := by decide +kernel
theorem dL_acts_241 : decode cL_acts 241 = .ok (.if_icmp .ne 7, 3) := by decide +kernel
theorem dL_acts_244 : decode cL_acts 244 = .ok (.iconst 1, 1) := by decide +kernel
theorem dL_acts_245 : decode cL_acts 245 = .ok (.goto 4, 3) := by decide +kernel
theorem dL_acts_248 : decode cL_acts 248 = .ok (.iconst 0, 1) := by decide +kernel
theorem dL_acts_249 : decode cL_acts 249 = .ok (.ireturn, 1) := by decide +kernel
theorem dL_acts_250 : decode cL_acts 250 = .ok (.iload_n 3, 1) := by decide +kernel
theorem dL_acts_251 : decode cL_acts 251 = .ok (.bipush 6, 2) := by decide +kernel
theorem dL_acts_253 : decode cL_acts 253 = .ok (.if_icmp .ne 57, 3) := by decide +kernel
theorem dL_acts_256 : decode cL_acts 256 = .ok (.aload_n 0, 1) := by decide +kernel
theorem dL_acts_257 : decode cL_acts 257 = .ok (.iload 5, 2) := by decide +kernel
theorem dL_acts_259 : decode cL_acts 259 = .ok (.bipush 6, 2) := by decide +kernel
theorem dL_acts_261 : decode cL_acts 261 = .ok (.invokevirtual 24, 3) := by decide +kernel
theorem dL_acts_264 : decode cL_acts 264 = .ok (.istore 6, 2) := by decide +kernel
theorem dL_acts_266 : decode cL_acts 266 = .ok (.aload_n 0, 1) := by decide +kernel
theorem dL_acts_267 : decode cL_acts 267 = .ok (.iload 5, 2) := by decide +kernel
theorem dL_acts_269 : decode cL_acts 269 = .ok (.bipush 6, 2) := by decide +kernel
theorem dL_acts_271 : decode cL_acts 271 = .ok (.iload_n 2, 1) := by decide +kernel
theorem dL_acts_272 : decode cL_acts 272 = .ok (.iconst 4, 1) := by decide +kernel
theorem dL_acts_273 : decode cL_acts 273 = .ok (.ishr, 1) := by decide +kernel
theorem dL_acts_274 : decode cL_acts 274 = .ok (.iconst 2, 1) := by decide +kernel
theorem dL_acts_275 : decode cL_acts 275 = .ok (.invokestatic 85, 3) := by decide +kernel
theorem dL_acts_278 : decode cL_acts 278 = .ok (.invokevirtual 54, 3) := by decide +kernel
theorem dL_acts_281 : decode cL_acts 281 = .ok (.iload 6, 2) := by decide +kernel
theorem dL_acts_283 : decode cL_acts 283 = .ok (.if_icmp .ne 25, 3) := by decide +kernel
theorem dL_acts_286 : decode cL_acts 286 = .ok (.aload_n 0, 1) := by decide +kernel
theorem dL_acts_287 : decode cL_acts 287 = .ok (.iload 5, 2) := by decide +kernel
theorem dL_acts_289 : decode cL_acts 289 = .ok (.bipush 6, 2) := by decide +kernel
theorem dL_acts_291 : decode cL_acts 291 = .ok (.invokevirtual 24, 3) := by decide +kernel
theorem dL_acts_294 : decode cL_acts 294 = .ok (.iload_n 2, 1) := by decide +kernel
theorem dL_acts_295 : decode cL_acts 295 = .ok (.iconst 4, 1) := by decide +kernel
theorem dL_acts_296 : decode cL_acts 296 = .ok (.ishr, 1) := by decide +kernel
theorem dL_acts_297 : decode cL_acts 297 = .ok (.iconst 2, 1) := by decide +kernel
theorem dL_acts_298 : decode cL_acts 298 = .ok (.invokestatic 85, 3) := by decide +kernel
theorem dL_acts_301 : decode cL_acts 301 = .ok (.if_icmp .ne 7, 3) := by decide +kernel
theorem dL_acts_304 : decode cL_acts 304 = .ok (.iconst 1, 1) := by decide +kernel
theorem dL_acts_305 : decode cL_acts 305 = .ok (.goto 4, 3) := by decide +kernel
theorem dL_acts_308 : decode cL_acts 308 = .ok (.iconst 0, 1) := by decide +kernel
theorem dL_acts_309 : decode cL_acts 309 = .ok (.ireturn, 1) := by decide +kernel
theorem dL_acts_310 : decode cL_acts 310 = .ok (.iload_n 3, 1) := by decide +kernel
theorem dL_acts_311 : decode cL_acts 311 = .ok (.bipush 9, 2) := by decide +kernel
theorem dL_acts_313 : decode cL_acts 313 = .ok (.if_icmp .ge 127, 3) := by decide +kernel
theorem dL_acts_316 : decode cL_acts 316 = .ok (.iload_n 2, 1) := by decide +kernel
theorem dL_acts_317 : decode cL_acts 317 = .ok (.iconst 5, 1) := by decide +kernel
theorem dL_acts_318 : decode cL_acts 318 = .ok (.invokestatic 85, 3) := by decide +kernel
theorem dL_acts_321 : decode cL_acts 321 = .ok (.istore 6, 2) := by decide +kernel
theorem dL_acts_323 : decode cL_acts 323 = .ok (.iload 6, 2) := by decide +kernel
theorem dL_acts_325 : decode cL_acts 325 = .ok (.ifCond .ne 13, 3) := by decide +kernel
theorem dL_acts_328 : decode cL_acts 328 = .ok (.iload_n 2, 1) := by decide +kernel
theorem dL_acts_329 : decode cL_acts 329 = .ok (.iconst 3, 1) := by decide +kernel
theorem dL_acts_330 : decode cL_acts 330 = .ok (.ishr, 1) := by decide +kernel
theorem dL_acts_331 : decode cL_acts 331 = .ok (.iconst 4, 1) := by decide +kernel
theorem dL_acts_332 : decode cL_acts 332 = .ok (.invokestatic 85, 3) := by decide +kernel
theorem dL_acts_335 : decode cL_acts 335 = .ok (.goto 65, 3) := by decide +kernel
theorem dL_acts_338 : decode cL_acts 338 = .ok (.iload 6, 2) := by decide +kernel
theorem dL_acts_340 : decode cL_acts 340 = .ok (.iconst 1, 1) := by decide +kernel
theorem dL_acts_341 : decode cL_acts 341 = .ok (.if_icmp .ne 17, 3) := by decide +kernel
theorem dL_acts_344 : decode cL_acts 344 = .ok (.bipush 20, 2) := by decide +kernel
theorem dL_acts_346 : decode cL_acts 346 = .ok (.iload_n 2, 1) := by decide +kernel
theorem dL_acts_347 : decode cL_acts 347 = .ok (.iconst 3, 1) := by decide +kernel
theorem dL_acts_348 : decode cL_acts 348 = .ok (.ishr, 1) := by decide +kernel
theorem dL_acts_349 : decode cL_acts 349 = .ok (.bipush 41, 2) := by decide +kernel
theorem dL_acts_351 : decode cL_acts 351 = .ok (.invokestatic 85, 3) := by decide +kernel
theorem dL_acts_354 : decode cL_acts 354 = .ok (.iadd, 1) := by decide +kernel
theorem dL_acts_355 : decode cL_acts 355 = .ok (.goto 45, 3) := by decide +kernel
theorem dL_acts_358 : decode cL_acts 358 = .ok (.iload 6, 2) := by decide +kernel
theorem dL_acts_360 : decode cL_acts 360 = .ok (.iconst 2, 1) := by decide +kernel
theorem dL_acts_361 : decode cL_acts 361 = .ok (.if_icmp .ne 16, 3) := by decide +kernel
theorem dL_acts_364 : decode cL_acts 364 = .ok (.iconst 1, 1) := by decide +kernel
theorem dL_acts_365 : decode cL_acts 365 = .ok (.iload_n 2, 1) := by decide +kernel
theorem dL_acts_366 : decode cL_acts 366 = .ok (.iconst 3, 1) := by decide +kernel
theorem dL_acts_367 : decode cL_acts 367 = .ok (.ishr, 1) := by decide +kernel
theorem dL_acts_368 : decode cL_acts 368 = .ok (.bipush 9, 2) := by decide +kernel
theorem dL_acts_370 : decode cL_acts 370 = .ok (.invokestatic 85, 3) := by decide +kernel
theorem dL_acts_373 : decode cL_acts 373 = .ok (.iadd, 1) := by decide +kernel
theorem dL_acts_374 : decode cL_acts 374 = .ok (.goto 26, 3) := by decide +kernel
theorem dL_acts_377 : decode cL_acts 377 = .ok (.iload 6, 2) := by decide +kernel
theorem dL_acts_379 : decode cL_acts 379 = .ok (.iconst 3, 1) := by decide +kernel
theorem dL_acts_380 : decode cL_acts 380 = .ok (.if_icmp .ne 13, 3) := by decide +kernel
theorem dL_acts_383 : decode cL_acts 383 = .ok (.iload_n 2, 1) := by decide +kernel
theorem dL_acts_384 : decode cL_acts 384 = .ok (.iconst 3, 1) := by decide +kernel
theorem dL_acts_385 : decode cL_acts 385 = .ok (.ishr, 1) := by decide +kernel
theorem dL_acts_386 : decode cL_acts 386 = .ok (.iconst 3, 1) := by decide +kernel
theorem dL_acts_387 : decode cL_acts 387 = .ok (.invokestatic 85, 3) := by decide +kernel
theorem dL_acts_390 : decode cL_acts 390 = .ok (.goto 10, 3) := by decide +kernel
theorem dL_acts_393 : decode cL_acts 393 = .ok (.iload_n 2, 1) := by decide +kernel
theorem dL_acts_394 : decode cL_acts 394 = .ok (.iconst 3, 1) := by decide +kernel
theorem dL_acts_395 : decode cL_acts 395 = .ok (.ishr, 1) := by decide +kernel
theorem dL_acts_396 : decode cL_acts 396 = .ok (.iconst 4, 1) := by decide +kernel
theorem dL_acts_397 : decode cL_acts 397 = .ok (.invokestatic 85, 3) := by decide +kernel
theorem dL_acts_400 : decode cL_acts 400 = .ok (.istore 7, 2) := by decide +kernel
theorem dL_acts_402 : decode cL_acts 402 = .ok (.aload_n 0, 1) := by decide +kernel
theorem dL_acts_403 : decode cL_acts 403 = .ok (.iload 6, 2) := by decide +kernel
theorem dL_acts_405 : decode cL_acts 405 = .ok (.invokevirtual 17, 3) := by decide +kernel
theorem dL_acts_408 : decode cL_acts 408 = .ok (.istore 8, 2) := by decide +kernel
theorem dL_acts_410 : decode cL_acts 410 = .ok (.aload_n 0, 1) := by decide +kernel
theorem dL_acts_411 : decode cL_acts 411 = .ok (.iload 6, 2) := by decide +kernel
theorem dL_acts_413 : decode cL_acts 413 = .ok (.iload 7, 2) := by decide +kernel
theorem dL_acts_415 : decode cL_acts 415 = .ok (.invokevirtual 57, 3) := by decide +kernel
theorem dL_acts_418 : decode cL_acts 418 = .ok (.iload 8, 2) := by decide +kernel
theorem dL_acts_420 : decode cL_acts 420 = .ok (.if_icmp .ne 18, 3) := by decide +kernel
theorem dL_acts_423 : decode cL_acts 423 = .ok (.aload_n 0, 1) := by decide +kernel
theorem dL_acts_424 : decode cL_acts 424 = .ok (.iload 6, 2) := by decide +kernel
theorem dL_acts_426 : decode cL_acts 426 = .ok (.invokevirtual 17, 3) := by decide +kernel
theorem dL_acts_429 : decode cL_acts 429 = .ok (.iload 7, 2) := by decide +kernel
theorem dL_acts_431 : decode cL_acts 431 = .ok (.if_icmp .ne 7, 3) := by decide +kernel
theorem dL_acts_434 : decode cL_acts 434 = .ok (.iconst 1, 1) := by decide +kernel
theorem dL_acts_435 : decode cL_acts 435 = .ok (.goto 4, 3) := by decide +kernel
theorem dL_acts_438 : decode cL_acts 438 = .ok (.iconst 0, 1) := by decide +kernel
theorem dL_acts_439 : decode cL_acts 439 = .ok (.ireturn, 1) := by decide +kernel
theorem dL_acts_440 : decode cL_acts 440 = .ok (.iload_n 3, 1) := by decide +kernel
theorem dL_acts_441 : decode cL_acts 441 = .ok (.bipush 9, 2) := by decide +kernel
theorem dL_acts_443 : decode cL_acts 443 = .ok (.if_icmp .ne 64, 3) := by decide +kernel
theorem dL_acts_446 : decode cL_acts 446 = .ok (.iload_n 2, 1) := by decide +kernel
theorem dL_acts_447 : decode cL_acts 447 = .ok (.iconst 4, 1) := by decide +kernel
theorem dL_acts_448 : decode cL_acts 448 = .ok (.invokestatic 85, 3) := by decide +kernel
theorem dL_acts_451 : decode cL_acts 451 = .ok (.istore 6, 2) := by decide +kernel
theorem dL_acts_453 : decode cL_acts 453 = .ok (.aload_n 0, 1) := by decide +kernel
theorem dL_acts_454 : decode cL_acts 454 = .ok (.bipush 6, 2) := by decide +kernel
theorem dL_acts_456 : decode cL_acts 456 = .ok (.iload 6, 2) := by decide +kernel
theorem dL_acts_458 : decode cL_acts 458 = .ok (.iadd, 1) := by decide +kernel
theorem dL_acts_459 : decode cL_acts 459 = .ok (.invokevirtual 17, 3) := by decide +kernel
theorem dL_acts_462 : decode cL_acts 462 = .ok (.istore 7, 2) := by decide +kernel
theorem dL_acts_464 : decode cL_acts 464 = .ok (.aload_n 0, 1) := by decide +kernel
theorem dL_acts_465 : decode cL_acts 465 = .ok (.iload 6, 2) := by decide +kernel
theorem dL_acts_467 : decode cL_acts 467 = .ok (.iload_n 2, 1) := by decide +kernel
theorem dL_acts_468 : decode cL_acts 468 = .ok (.iconst 2, 1) := by decide +kernel
theorem dL_acts_469 : decode cL_acts 469 = .ok (.ishr, 1) := by decide +kernel
theorem dL_acts_470 : decode cL_acts 470 = .ok (.iconst 2, 1) := by decide +kernel
theorem dL_acts_471 : decode cL_acts 471 = .ok (.invokestatic 85, 3) := by decide +kernel
theorem dL_acts_474 : decode cL_acts 474 = .ok (.invokevirtual 60, 3) := by decide +kernel
theorem dL_acts_477 : decode cL_acts 477 = .ok (.iload 7, 2) := by decide +kernel
theorem dL_acts_479 : decode cL_acts 479 = .ok (.if_icmp .ne 26, 3) := by decide +kernel
theorem dL_acts_482 : decode cL_acts 482 = .ok (.aload_n 0, 1) := by decide +kernel
theorem dL_acts_483 : decode cL_acts 483 = .ok (.bipush 6, 2) := by decide +kernel
theorem dL_acts_485 : decode cL_acts 485 = .ok (.iload 6, 2) := by decide +kernel
theorem dL_acts_487 : decode cL_acts 487 = .ok (.iadd, 1) := by decide +kernel
theorem dL_acts_488 : decode cL_acts 488 = .ok (.invokevirtual 17, 3) := by decide +kernel
theorem dL_acts_491 : decode cL_acts 491 = .ok (.iload_n 2, 1) := by decide +kernel
theorem dL_acts_492 : decode cL_acts 492 = .ok (.iconst 2, 1) := by decide +kernel
theorem dL_acts_493 : decode cL_acts 493 = .ok (.ishr, 1) := by decide +kernel
theorem dL_acts_494 : decode cL_acts 494 = .ok (.iconst 2, 1) := by decide +kernel
theorem dL_acts_495 : decode cL_acts 495 = .ok (.invokestatic 85, 3) := by decide +kernel
theorem dL_acts_498 : decode cL_acts 498 = .ok (.if_icmp .ne 7, 3) := by decide +kernel
theorem dL_acts_501 : decode cL_acts 501 = .ok (.iconst 1, 1) := by decide +kernel
theorem dL_acts_502 : decode cL_acts 502 = .ok (.goto 4, 3) := by decide +kernel
theorem dL_acts_505 : decode cL_acts 505 = .ok (.iconst 0, 1) := by decide +kernel
theorem dL_acts_506 : decode cL_acts 506 = .ok (.ireturn, 1) := by decide +kernel
theorem dL_acts_507 : decode cL_acts 507 = .ok (.iload_n 3, 1) := by decide +kernel
theorem dL_acts_508 : decode cL_acts 508 = .ok (.bipush 10, 2) := by decide +kernel
theorem dL_acts_510 : decode cL_acts 510 = .ok (.if_icmp .ne 66, 3) := by decide +kernel
theorem dL_acts_513 : decode cL_acts 513 = .ok (.iload_n 2, 1) := by decide +kernel
theorem dL_acts_514 : decode cL_acts 514 = .ok (.iconst 2, 1) := by decide +kernel
theorem dL_acts_515 : decode cL_acts 515 = .ok (.invokestatic 85, 3) := by decide +kernel
theorem dL_acts_518 : decode cL_acts 518 = .ok (.istore 6, 2) := by decide +kernel
theorem dL_acts_520 : decode cL_acts 520 = .ok (.aload_n 0, 1) := by decide +kernel
theorem dL_acts_521 : decode cL_acts 521 = .ok (.iconst 1, 1) := by decide +kernel
theorem dL_acts_522 : decode cL_acts 522 = .ok (.invokevirtual 21, 3) := by decide +kernel
theorem dL_acts_525 : decode cL_acts 525 = .ok (.istore 7, 2) := by decide +kernel
theorem dL_acts_527 : decode cL_acts 527 = .ok (.aload_n 0, 1) := by decide +kernel
theorem dL_acts_528 : decode cL_acts 528 = .ok (.iload 6, 2) := by decide +kernel
theorem dL_acts_530 : decode cL_acts 530 = .ok (.invokevirtual 66, 3) := by decide +kernel
theorem dL_acts_533 : decode cL_acts 533 = .ok (.iload 7, 2) := by decide +kernel
theorem dL_acts_535 : decode cL_acts 535 = .ok (.if_icmp .ne 39, 3) := by decide +kernel
theorem dL_acts_538 : decode cL_acts 538 = .ok (.aload_n 0, 1) := by decide +kernel
theorem dL_acts_539 : decode cL_acts 539 = .ok (.iconst 5, 1) := by decide +kernel
theorem dL_acts_540 : decode cL_acts 540 = .ok (.sipush 255, 3) := by decide +kernel
theorem dL_acts_543 : decode cL_acts 543 = .ok (.invokevirtual 57, 3) := by decide +kernel
theorem dL_acts_546 : decode cL_acts 546 = .ok (.ifCond .lt 28, 3) := by decide +kernel
theorem dL_acts_549 : decode cL_acts 549 = .ok (.aload_n 0, 1) := by decide +kernel
theorem dL_acts_550 : decode cL_acts 550 = .ok (.iload 6, 2) := by decide +kernel
theorem dL_acts_552 : decode cL_acts 552 = .ok (.invokevirtual 69, 3) := by decide +kernel
theorem dL_acts_555 : decode cL_acts 555 = .ok (.iload 7, 2) := by decide +kernel
theorem dL_acts_557 : decode cL_acts 557 = .ok (.if_icmp .ne 17, 3) := by decide +kernel
theorem dL_acts_560 : decode cL_acts 560 = .ok (.aload_n 0, 1) := by decide +kernel
theorem dL_acts_561 : decode cL_acts 561 = .ok (.iconst 1, 1) := by decide +kernel
theorem dL_acts_562 : decode cL_acts 562 = .ok (.invokevirtual 21, 3) := by decide +kernel
theorem dL_acts_565 : decode cL_acts 565 = .ok (.iload 7, 2) := by decide +kernel
theorem dL_acts_567 : decode cL_acts 567 = .ok (.if_icmp .ne 7, 3) := by decide +kernel
theorem dL_acts_570 : decode cL_acts 570 = .ok (.iconst 1, 1) := by decide +kernel
theorem dL_acts_571 : decode cL_acts 571 = .ok (.goto 4, 3) := by decide +kernel
theorem dL_acts_574 : decode cL_acts 574 = .ok (.iconst 0, 1) := by decide +kernel
theorem dL_acts_575 : decode cL_acts 575 = .ok (.ireturn, 1) := by decide +kernel
theorem dL_acts_576 : decode cL_acts 576 = .ok (.aload_n 0, 1) := by decide +kernel
theorem dL_acts_577 : decode cL_acts 577 = .ok (.iload_n 2, 1) := by decide +kernel
theorem dL_acts_578 : decode cL_acts 578 = .ok (.invokestatic 91, 3) := by decide +kernel
theorem dL_acts_581 : decode cL_acts 581 = .ok (.ireturn, 1) := by decide +kernel
theorem dL_law_0 : decode cL_law 0 = .ok (.new 10, 3) := by decide +kernel
theorem dL_law_3 : decode cL_law 3 = .ok (.dup, 1) := by decide +kernel
theorem dL_law_4 : decode cL_law 4 = .ok (.invokespecial 95, 3) := by decide +kernel
theorem dL_law_7 : decode cL_law 7 = .ok (.astore_n 1, 1) := by decide +kernel
theorem dL_law_8 : decode cL_law 8 = .ok (.aload_n 1, 1) := by decide +kernel
theorem dL_law_9 : decode cL_law 9 = .ok (.invokestatic 96, 3) := by decide +kernel
theorem dL_law_12 : decode cL_law 12 = .ok (.ifCond .eq 62, 3) := by decide +kernel
theorem dL_law_15 : decode cL_law 15 = .ok (.aload_n 1, 1) := by decide +kernel
theorem dL_law_16 : decode cL_law 16 = .ok (.iconst 0, 1) := by decide +kernel
theorem dL_law_17 : decode cL_law 17 = .ok (.invokestatic 100, 3) := by decide +kernel
theorem dL_law_20 : decode cL_law 20 = .ok (.ifCond .eq 54, 3) := by decide +kernel
theorem dL_law_23 : decode cL_law 23 = .ok (.aload_n 1, 1) := by decide +kernel
theorem dL_law_24 : decode cL_law 24 = .ok (.iconst 1, 1) := by decide +kernel
theorem dL_law_25 : decode cL_law 25 = .ok (.invokestatic 100, 3) := by decide +kernel
theorem dL_law_28 : decode cL_law 28 = .ok (.ifCond .eq 46, 3) := by decide +kernel
theorem dL_law_31 : decode cL_law 31 = .ok (.aload_n 1, 1) := by decide +kernel
theorem dL_law_32 : decode cL_law 32 = .ok (.invokevirtual 88, 3) := by decide +kernel
theorem dL_law_35 : decode cL_law 35 = .ok (.bipush (-2), 2) := by decide +kernel
theorem dL_law_37 : decode cL_law 37 = .ok (.if_icmp .ne 37, 3) := by decide +kernel
theorem dL_law_40 : decode cL_law 40 = .ok (.aload_n 1, 1) := by decide +kernel
theorem dL_law_41 : decode cL_law 41 = .ok (.iconst 0, 1) := by decide +kernel
theorem dL_law_42 : decode cL_law 42 = .ok (.invokevirtual 69, 3) := by decide +kernel
theorem dL_law_45 : decode cL_law 45 = .ok (.bipush (-2), 2) := by decide +kernel
theorem dL_law_47 : decode cL_law 47 = .ok (.if_icmp .ne 27, 3) := by decide +kernel
theorem dL_law_50 : decode cL_law 50 = .ok (.aload_n 1, 1) := by decide +kernel
theorem dL_law_51 : decode cL_law 51 = .ok (.iconst 1, 1) := by decide +kernel
theorem dL_law_52 : decode cL_law 52 = .ok (.invokevirtual 69, 3) := by decide +kernel
theorem dL_law_55 : decode cL_law 55 = .ok (.bipush (-2), 2) := by decide +kernel
theorem dL_law_57 : decode cL_law 57 = .ok (.if_icmp .ne 17, 3) := by decide +kernel
theorem dL_law_60 : decode cL_law 60 = .ok (.aload_n 1, 1) := by decide +kernel
theorem dL_law_61 : decode cL_law 61 = .ok (.invokevirtual 103, 3) := by decide +kernel
theorem dL_law_64 : decode cL_law 64 = .ok (.ifCond .ne 10, 3) := by decide +kernel
theorem dL_law_67 : decode cL_law 67 = .ok (.aload_n 1, 1) := by decide +kernel
theorem dL_law_68 : decode cL_law 68 = .ok (.invokevirtual 88, 3) := by decide +kernel
theorem dL_law_71 : decode cL_law 71 = .ok (.ifCond .eq 5, 3) := by decide +kernel
theorem dL_law_74 : decode cL_law 74 = .ok (.iconst 0, 1) := by decide +kernel
theorem dL_law_75 : decode cL_law 75 = .ok (.ireturn, 1) := by decide +kernel
theorem dL_law_76 : decode cL_law 76 = .ok (.iconst 0, 1) := by decide +kernel
theorem dL_law_77 : decode cL_law 77 = .ok (.istore_n 2, 1) := by decide +kernel
theorem dL_law_78 : decode cL_law 78 = .ok (.iload_n 2, 1) := by decide +kernel
theorem dL_law_79 : decode cL_law 79 = .ok (.bipush 36, 2) := by decide +kernel
theorem dL_law_81 : decode cL_law 81 = .ok (.if_icmp .ge 88, 3) := by decide +kernel
theorem dL_law_84 : decode cL_law 84 = .ok (.aload_n 0, 1) := by decide +kernel
theorem dL_law_85 : decode cL_law 85 = .ok (.iconst 2, 1) := by decide +kernel
theorem dL_law_86 : decode cL_law 86 = .ok (.iload_n 2, 1) := by decide +kernel
theorem dL_law_87 : decode cL_law 87 = .ok (.imul, 1) := by decide +kernel
theorem dL_law_88 : decode cL_law 88 = .ok (.invokestatic 106, 3) := by decide +kernel
theorem dL_law_91 : decode cL_law 91 = .ok (.istore_n 3, 1) := by decide +kernel
theorem dL_law_92 : decode cL_law 92 = .ok (.aload_n 0, 1) := by decide +kernel
theorem dL_law_93 : decode cL_law 93 = .ok (.iconst 2, 1) := by decide +kernel
theorem dL_law_94 : decode cL_law 94 = .ok (.iload_n 2, 1) := by decide +kernel
theorem dL_law_95 : decode cL_law 95 = .ok (.imul, 1) := by decide +kernel
theorem dL_law_96 : decode cL_law 96 = .ok (.iconst 1, 1) := by decide +kernel
theorem dL_law_97 : decode cL_law 97 = .ok (.iadd, 1) := by decide +kernel
theorem dL_law_98 : decode cL_law 98 = .ok (.invokestatic 106, 3) := by decide +kernel
theorem dL_law_101 : decode cL_law 101 = .ok (.istore 4, 2) := by decide +kernel
theorem dL_law_103 : decode cL_law 103 = .ok (.aload_n 1, 1) := by decide +kernel
theorem dL_law_104 : decode cL_law 104 = .ok (.iload_n 3, 1) := by decide +kernel
theorem dL_law_105 : decode cL_law 105 = .ok (.iload 4, 2) := by decide +kernel
theorem dL_law_107 : decode cL_law 107 = .ok (.invokestatic 110, 3) := by decide +kernel
theorem dL_law_110 : decode cL_law 110 = .ok (.ifCond .eq 51, 3) := by decide +kernel
theorem dL_law_113 : decode cL_law 113 = .ok (.aload_n 1, 1) := by decide +kernel
theorem dL_law_114 : decode cL_law 114 = .ok (.invokestatic 96, 3) := by decide +kernel
theorem dL_law_117 : decode cL_law 117 = .ok (.ifCond .eq 44, 3) := by decide +kernel
theorem dL_law_120 : decode cL_law 120 = .ok (.iload_n 2, 1) := by decide +kernel
theorem dL_law_121 : decode cL_law 121 = .ok (.bipush 6, 2) := by decide +kernel
theorem dL_law_123 : decode cL_law 123 = .ok (.irem, 1) := by decide +kernel
theorem dL_law_124 : decode cL_law 124 = .ok (.iconst 5, 1) := by decide +kernel
theorem dL_law_125 : decode cL_law 125 = .ok (.if_icmp .ne 38, 3) := by decide +kernel
theorem dL_law_128 : decode cL_law 128 = .ok (.aload_n 1, 1) := by decide +kernel
theorem dL_law_129 : decode cL_law 129 = .ok (.iconst 0, 1) := by decide +kernel
theorem dL_law_130 : decode cL_law 130 = .ok (.invokestatic 100, 3) := by decide +kernel
theorem dL_law_133 : decode cL_law 133 = .ok (.ifCond .eq 28, 3) := by decide +kernel
theorem dL_law_136 : decode cL_law 136 = .ok (.aload_n 1, 1) := by decide +kernel
theorem dL_law_137 : decode cL_law 137 = .ok (.iconst 1, 1) := by decide +kernel
theorem dL_law_138 : decode cL_law 138 = .ok (.invokestatic 100, 3) := by decide +kernel
theorem dL_law_141 : decode cL_law 141 = .ok (.ifCond .eq 20, 3) := by decide +kernel
theorem dL_law_144 : decode cL_law 144 = .ok (.aload_n 1, 1) := by decide +kernel
theorem dL_law_145 : decode cL_law 145 = .ok (.iload_n 3, 1) := by decide +kernel
theorem dL_law_146 : decode cL_law 146 = .ok (.iconst 4, 1) := by decide +kernel
theorem dL_law_147 : decode cL_law 147 = .ok (.ishr, 1) := by decide +kernel
theorem dL_law_148 : decode cL_law 148 = .ok (.invokestatic 114, 3) := by decide +kernel
theorem dL_law_151 : decode cL_law 151 = .ok (.ifCond .eq 10, 3) := by decide +kernel
theorem dL_law_154 : decode cL_law 154 = .ok (.aload_n 1, 1) := by decide +kernel
theorem dL_law_155 : decode cL_law 155 = .ok (.invokestatic 96, 3) := by decide +kernel
theorem dL_law_158 : decode cL_law 158 = .ok (.ifCond .ne 5, 3) := by decide +kernel
theorem dL_law_161 : decode cL_law 161 = .ok (.iconst 0, 1) := by decide +kernel
theorem dL_law_162 : decode cL_law 162 = .ok (.ireturn, 1) := by decide +kernel
theorem dL_law_163 : decode cL_law 163 = .ok (.iinc 2 1, 3) := by decide +kernel
theorem dL_law_166 : decode cL_law 166 = .ok (.goto (-88), 3) := by decide +kernel
theorem dL_law_169 : decode cL_law 169 = .ok (.aload_n 1, 1) := by decide +kernel
theorem dL_law_170 : decode cL_law 170 = .ok (.invokestatic 117, 3) := by decide +kernel
theorem dL_law_173 : decode cL_law 173 = .ok (.ireturn, 1) := by decide +kernel


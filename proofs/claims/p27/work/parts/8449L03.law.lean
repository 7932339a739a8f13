theorem dL_sound_256 : decode cL_sound 256 = .ok (.iconst 0, 1) := by decide +kernel
theorem dL_sound_257 : decode cL_sound 257 = .ok (.ireturn, 1) := by decide +kernel
theorem dL_sound_258 : decode cL_sound 258 = .ok (.iinc 5 1, 3) := by decide +kernel
theorem dL_sound_261 : decode cL_sound 261 = .ok (.goto (-24), 3) := by decide +kernel
theorem dL_sound_264 : decode cL_sound 264 = .ok (.aload_n 0, 1) := by decide +kernel
theorem dL_sound_265 : decode cL_sound 265 = .ok (.iconst 2, 1) := by decide +kernel
theorem dL_sound_266 : decode cL_sound 266 = .ok (.invokevirtual 21, 3) := by decide +kernel
theorem dL_sound_269 : decode cL_sound 269 = .ok (.aload_n 0, 1) := by decide +kernel
theorem dL_sound_270 : decode cL_sound 270 = .ok (.iconst 3, 1) := by decide +kernel
theorem dL_sound_271 : decode cL_sound 271 = .ok (.invokevirtual 21, 3) := by decide +kernel
theorem dL_sound_274 : decode cL_sound 274 = .ok (.if_icmp .ne 7, 3) := by decide +kernel
theorem dL_sound_277 : decode cL_sound 277 = .ok (.iconst 1, 1) := by decide +kernel
theorem dL_sound_278 : decode cL_sound 278 = .ok (.goto 4, 3) := by decide +kernel
theorem dL_sound_281 : decode cL_sound 281 = .ok (.iconst 0, 1) := by decide +kernel
theorem dL_sound_282 : decode cL_sound 282 = .ok (.istore 5, 2) := by decide +kernel
theorem dL_sound_284 : decode cL_sound 284 = .ok (.aload_n 0, 1) := by decide +kernel
theorem dL_sound_285 : decode cL_sound 285 = .ok (.bipush 10, 2) := by decide +kernel
theorem dL_sound_287 : decode cL_sound 287 = .ok (.invokevirtual 21, 3) := by decide +kernel
theorem dL_sound_290 : decode cL_sound 290 = .ok (.istore 6, 2) := by decide +kernel
theorem dL_sound_292 : decode cL_sound 292 = .ok (.aload_n 0, 1) := by decide +kernel
theorem dL_sound_293 : decode cL_sound 293 = .ok (.iconst 1, 1) := by decide +kernel
theorem dL_sound_294 : decode cL_sound 294 = .ok (.invokevirtual 21, 3) := by decide +kernel
theorem dL_sound_297 : decode cL_sound 297 = .ok (.iload_n 1, 1) := by decide +kernel
theorem dL_sound_298 : decode cL_sound 298 = .ok (.if_icmp .ne 166, 3) := by decide +kernel
theorem dL_sound_301 : decode cL_sound 301 = .ok (.aload_n 0, 1) := by decide +kernel
theorem dL_sound_302 : decode cL_sound 302 = .ok (.aload_n 0, 1) := by decide +kernel
theorem dL_sound_303 : decode cL_sound 303 = .ok (.iconst 5, 1) := by decide +kernel
theorem dL_sound_304 : decode cL_sound 304 = .ok (.invokevirtual 17, 3) := by decide +kernel
theorem dL_sound_307 : decode cL_sound 307 = .ok (.invokevirtual 40, 3) := by decide +kernel
theorem dL_sound_310 : decode cL_sound 310 = .ok (.iload_n 1, 1) := by decide +kernel
theorem dL_sound_311 : decode cL_sound 311 = .ok (.if_icmp .ne 153, 3) := by decide +kernel
theorem dL_sound_314 : decode cL_sound 314 = .ok (.aload_n 0, 1) := by decide +kernel
theorem dL_sound_315 : decode cL_sound 315 = .ok (.bipush 12, 2) := by decide +kernel
theorem dL_sound_317 : decode cL_sound 317 = .ok (.invokevirtual 21, 3) := by decide +kernel
theorem dL_sound_320 : decode cL_sound 320 = .ok (.iload_n 3, 1) := by decide +kernel
theorem dL_sound_321 : decode cL_sound 321 = .ok (.if_icmp .ne 143, 3) := by decide +kernel
theorem dL_sound_324 : decode cL_sound 324 = .ok (.aload_n 0, 1) := by decide +kernel
theorem dL_sound_325 : decode cL_sound 325 = .ok (.iconst 0, 1) := by decide +kernel
theorem dL_sound_326 : decode cL_sound 326 = .ok (.iconst 1, 1) := by decide +kernel
theorem dL_sound_327 : decode cL_sound 327 = .ok (.invokevirtual 34, 3) := by decide +kernel
theorem dL_sound_330 : decode cL_sound 330 = .ok (.aload_n 0, 1) := by decide +kernel
theorem dL_sound_331 : decode cL_sound 331 = .ok (.iconst 1, 1) := by decide +kernel
theorem dL_sound_332 : decode cL_sound 332 = .ok (.iconst 1, 1) := by decide +kernel
theorem dL_sound_333 : decode cL_sound 333 = .ok (.invokevirtual 34, 3) := by decide +kernel
theorem dL_sound_336 : decode cL_sound 336 = .ok (.iadd, 1) := by decide +kernel
theorem dL_sound_337 : decode cL_sound 337 = .ok (.iload_n 2, 1) := by decide +kernel
theorem dL_sound_338 : decode cL_sound 338 = .ok (.if_icmp .ne 126, 3) := by decide +kernel
theorem dL_sound_341 : decode cL_sound 341 = .ok (.aload_n 0, 1) := by decide +kernel
theorem dL_sound_342 : decode cL_sound 342 = .ok (.bipush 11, 2) := by decide +kernel
theorem dL_sound_344 : decode cL_sound 344 = .ok (.invokevirtual 21, 3) := by decide +kernel
theorem dL_sound_347 : decode cL_sound 347 = .ok (.iconst 1, 1) := by decide +kernel
theorem dL_sound_348 : decode cL_sound 348 = .ok (.if_icmp .ne 7, 3) := by decide +kernel
theorem dL_sound_351 : decode cL_sound 351 = .ok (.iconst 1, 1) := by decide +kernel
theorem dL_sound_352 : decode cL_sound 352 = .ok (.goto 4, 3) := by decide +kernel
theorem dL_sound_355 : decode cL_sound 355 = .ok (.iconst 0, 1) := by decide +kernel
theorem dL_sound_356 : decode cL_sound 356 = .ok (.iload 5, 2) := by decide +kernel
theorem dL_sound_358 : decode cL_sound 358 = .ok (.if_icmp .ne 106, 3) := by decide +kernel
theorem dL_sound_361 : decode cL_sound 361 = .ok (.iload 6, 2) := by decide +kernel
theorem dL_sound_363 : decode cL_sound 363 = .ok (.ifCond .eq 19, 3) := by decide +kernel
theorem dL_sound_366 : decode cL_sound 366 = .ok (.iload 6, 2) := by decide +kernel
theorem dL_sound_368 : decode cL_sound 368 = .ok (.aload_n 0, 1) := by decide +kernel
theorem dL_sound_369 : decode cL_sound 369 = .ok (.bipush 9, 2) := by decide +kernel
theorem dL_sound_371 : decode cL_sound 371 = .ok (.invokevirtual 21, 3) := by decide +kernel
theorem dL_sound_374 : decode cL_sound 374 = .ok (.if_icmp .ne 90, 3) := by decide +kernel
theorem dL_sound_377 : decode cL_sound 377 = .ok (.iload 5, 2) := by decide +kernel
theorem dL_sound_379 : decode cL_sound 379 = .ok (.ifCond .eq 85, 3) := by decide +kernel
theorem dL_sound_382 : decode cL_sound 382 = .ok (.aload_n 0, 1) := by decide +kernel
theorem dL_sound_383 : decode cL_sound 383 = .ok (.bipush 9, 2) := by decide +kernel
theorem dL_sound_385 : decode cL_sound 385 = .ok (.invokevirtual 21, 3) := by decide +kernel
theorem dL_sound_388 : decode cL_sound 388 = .ok (.ifCond .eq 8, 3) := by decide +kernel
theorem dL_sound_391 : decode cL_sound 391 = .ok (.iload 6, 2) := by decide +kernel
theorem dL_sound_393 : decode cL_sound 393 = .ok (.ifCond .le 7, 3) := by decide +kernel
theorem dL_sound_396 : decode cL_sound 396 = .ok (.iconst 1, 1) := by decide +kernel
theorem dL_sound_397 : decode cL_sound 397 = .ok (.goto 4, 3) := by decide +kernel
theorem dL_sound_400 : decode cL_sound 400 = .ok (.iconst 0, 1) := by decide +kernel
theorem dL_sound_401 : decode cL_sound 401 = .ok (.iload 5, 2) := by decide +kernel
theorem dL_sound_403 : decode cL_sound 403 = .ok (.if_icmp .ne 61, 3) := by decide +kernel
theorem dL_sound_406 : decode cL_sound 406 = .ok (.aload_n 0, 1) := by decide +kernel
theorem dL_sound_407 : decode cL_sound 407 = .ok (.bipush 7, 2) := by decide +kernel
theorem dL_sound_409 : decode cL_sound 409 = .ok (.invokevirtual 21, 3) := by decide +kernel
theorem dL_sound_412 : decode cL_sound 412 = .ok (.ifCond .ne 7, 3) := by decide +kernel
theorem dL_sound_415 : decode cL_sound 415 = .ok (.iconst 1, 1) := by decide +kernel
theorem dL_sound_416 : decode cL_sound 416 = .ok (.goto 4, 3) := by decide +kernel
theorem dL_sound_419 : decode cL_sound 419 = .ok (.iconst 0, 1) := by decide +kernel
theorem dL_sound_420 : decode cL_sound 420 = .ok (.aload_n 0, 1) := by decide +kernel
theorem dL_sound_421 : decode cL_sound 421 = .ok (.bipush 8, 2) := by decide +kernel
theorem dL_sound_423 : decode cL_sound 423 = .ok (.invokevirtual 21, 3) := by decide +kernel
theorem dL_sound_426 : decode cL_sound 426 = .ok (.bipush (-99), 2) := by decide +kernel
theorem dL_sound_428 : decode cL_sound 428 = .ok (.if_icmp .ne 7, 3) := by decide +kernel
theorem dL_sound_431 : decode cL_sound 431 = .ok (.iconst 1, 1) := by decide +kernel
theorem dL_sound_432 : decode cL_sound 432 = .ok (.goto 4, 3) := by decide +kernel
theorem dL_sound_435 : decode cL_sound 435 = .ok (.iconst 0, 1) := by decide +kernel
theorem dL_sound_436 : decode cL_sound 436 = .ok (.if_icmp .ne 28, 3) := by decide +kernel
theorem dL_sound_439 : decode cL_sound 439 = .ok (.aload_n 0, 1) := by decide +kernel
theorem dL_sound_440 : decode cL_sound 440 = .ok (.invokevirtual 43, 3) := by decide +kernel
theorem dL_sound_443 : decode cL_sound 443 = .ok (.aload_n 0, 1) := by decide +kernel
theorem dL_sound_444 : decode cL_sound 444 = .ok (.iconst 0, 1) := by decide +kernel
theorem dL_sound_445 : decode cL_sound 445 = .ok (.invokevirtual 17, 3) := by decide +kernel
theorem dL_sound_448 : decode cL_sound 448 = .ok (.ishr, 1) := by decide +kernel
theorem dL_sound_449 : decode cL_sound 449 = .ok (.iconst 1, 1) := by decide +kernel
theorem dL_sound_450 : decode cL_sound 450 = .ok (.iand, 1) := by decide +kernel
theorem dL_sound_451 : decode cL_sound 451 = .ok (.aload_n 0, 1) := by decide +kernel
theorem dL_sound_452 : decode cL_sound 452 = .ok (.bipush 11, 2) := by decide +kernel
theorem dL_sound_454 : decode cL_sound 454 = .ok (.invokevirtual 21, 3) := by decide +kernel
theorem dL_sound_457 : decode cL_sound 457 = .ok (.if_icmp .ne 7, 3) := by decide +kernel
theorem dL_sound_460 : decode cL_sound 460 = .ok (.iconst 1, 1) := by decide +kernel
theorem dL_sound_461 : decode cL_sound 461 = .ok (.goto 4, 3) := by decide +kernel
theorem dL_sound_464 : decode cL_sound 464 = .ok (.iconst 0, 1) := by decide +kernel
theorem dL_sound_465 : decode cL_sound 465 = .ok (.ireturn, 1) := by decide +kernel
def wsL_refuses_xs : List Cond := wsX80 ++ (wsX70 ++ (wsX40 ++ (wsX10 ++ (wsX20 ++ (wsX50 ++ (wsX30 ++ (wsX60 ++ (wsX00))))))))
set_option maxRecDepth 20000 in
def wsL_refuses_f22 : List Cond := Cond.code yX8_bestSet cX8_bestSet 5 (some .int) :: Cond.methodLink RX8 291 yX6_foundSet :: Cond.instanceMethod yX6_foundSet :: Cond.selects RX6 yX6_foundSet yX6_foundSet :: Cond.code yX6_foundSet cX6_foundSet 3 (some .int) :: wsL_refuses_xs
set_option maxRecDepth 20000 in
def wsL_refuses_f21 : List Cond := Cond.methodLink RX8 138 yX8_foldBestWay :: Cond.instanceMethod yX8_foldBestWay :: Cond.selects RX8 yX8_foldBestWay yX8_foldBestWay :: Cond.code yX8_foldBestWay cX8_foldBestWay 3 (some .int) :: Cond.fieldLink RX8 51 "FoldedMenu" "otherFold" "LFoldedMenu$Fold;" :: Cond.methodLink RX8 294 yX1_isBetterThan :: Cond.instanceMethod yX1_isBetterThan :: Cond.selects RX1 yX1_isBetterThan yX1_isBetterThan :: Cond.code yX1_isBetterThan cX1_isBetterThan 2 (some .boolean) :: Cond.methodLink RX1 82 yX1_isEven :: Cond.methodLink RX1 86 yX1_difference :: Cond.instanceMethod yX1_difference :: Cond.selects RX1 yX1_difference yX1_difference :: Cond.code yX1_difference cX1_difference 1 (some .int) :: Cond.methodLink RX1 90 yX1_longest :: Cond.instanceMethod yX1_longest :: Cond.selects RX1 yX1_longest yX1_longest :: Cond.code yX1_longest cX1_longest 1 (some .int) :: Cond.methodLink RX1 79 Lib.Math.max.name :: Cond.methodLink RX8 141 yX1_difference :: Cond.methodLink RX8 288 yX1_longest :: Cond.methodLink RL 78 yX8_bestSet :: Cond.instanceMethod yX8_bestSet :: Cond.selects RX8 yX8_bestSet yX8_bestSet :: wsL_refuses_f22
set_option maxRecDepth 20000 in
def wsL_refuses_f20 : List Cond := Cond.methodLink RL 28 yX8_why :: Cond.instanceMethod yX8_why :: Cond.selects RX8 yX8_why yX8_why :: Cond.code yX8_why cX8_why 2 (some .int) :: Cond.methodLink RX8 270 yX3_isOffered :: Cond.methodLink RX8 273 yX3_isInSeason :: Cond.methodLink RX8 276 yX3_suits :: Cond.methodLink RL 37 yX8_replacement :: Cond.instanceMethod yX8_replacement :: Cond.selects RX8 yX8_replacement yX8_replacement :: Cond.code yX8_replacement cX8_replacement 3 (some .int) :: Cond.fieldLink RX8 26 "FoldedMenu" "draft" "LFoldedMenu$Menu;" :: Cond.methodLink RX8 186 yX3_copyFrom :: Cond.methodLink RX8 279 yX8_smallestIn :: Cond.static yX8_smallestIn :: Cond.code yX8_smallestIn cX8_smallestIn 1 (some .int) :: Cond.methodLink RL 40 yX8_printedFor :: Cond.instanceMethod yX8_printedFor :: Cond.selects RX8 yX8_printedFor yX8_printedFor :: Cond.code yX8_printedFor cX8_printedFor 2 (some .int) :: Cond.methodLink RL 75 yX8_bestSides :: Cond.instanceMethod yX8_bestSides :: Cond.selects RX8 yX8_bestSides yX8_bestSides :: Cond.code yX8_bestSides cX8_bestSides 3 (some .int) :: wsL_refuses_f21
set_option maxRecDepth 20000 in
def wsL_refuses_f19 : List Cond := Cond.code yX0_numberOf cX0_numberOf 2 (some .int) :: Cond.methodLink RX8 257 yX8_headingLine :: Cond.instanceMethod yX8_headingLine :: Cond.selects RX8 yX8_headingLine yX8_headingLine :: Cond.code yX8_headingLine cX8_headingLine 4 (some .int) :: Cond.methodLink RX8 261 yX8_dishLine :: Cond.instanceMethod yX8_dishLine :: Cond.selects RX8 yX8_dishLine yX8_dishLine :: Cond.code yX8_dishLine cX8_dishLine 7 (some .int) :: Cond.methodLink RX8 304 Lib.Math.min.name :: Cond.methodLink RX8 309 Lib.Math.max.name :: Cond.methodLink RX8 301 yX3_textOf :: Cond.methodLink RX8 264 yX8_keyLine :: Cond.instanceMethod yX8_keyLine :: Cond.selects RX8 yX8_keyLine yX8_keyLine :: Cond.code yX8_keyLine cX8_keyLine 4 (some .int) :: Cond.methodLink RX8 312 yX8_memberOf :: Cond.static yX8_memberOf :: Cond.code yX8_memberOf cX8_memberOf 4 (some .int) :: Cond.methodLink RL 34 yX8_account :: Cond.instanceMethod yX8_account :: Cond.selects RX8 yX8_account yX8_account :: Cond.code yX8_account cX8_account 3 (some .int) :: Cond.methodLink RX8 267 yX1_partOf :: wsL_refuses_f20
set_option maxRecDepth 20000 in
def wsL_refuses_f18 : List Cond := Cond.code yX0_blockOfDish cX0_blockOfDish 3 (some .int) :: Cond.methodLink RX8 254 yX0_startOf :: Cond.instanceMethod yX0_startOf :: Cond.selects RX0 yX0_startOf yX0_startOf :: Cond.code yX0_startOf cX0_startOf 2 (some .int) :: Cond.methodLink RX0 72 yX0_isBlock :: Cond.instanceMethod yX0_isBlock :: Cond.selects RX0 yX0_isBlock yX0_isBlock :: Cond.code yX0_isBlock cX0_isBlock 2 (some .boolean) :: Cond.methodLink RL 9 yX8_line :: Cond.instanceMethod yX8_line :: Cond.selects RX8 yX8_line yX8_line :: Cond.code yX8_line cX8_line 8 (some .int) :: Cond.methodLink RX8 245 yX0_blockAt :: Cond.instanceMethod yX0_blockAt :: Cond.selects RX0 yX0_blockAt yX0_blockAt :: Cond.code yX0_blockAt cX0_blockAt 3 (some .int) :: Cond.methodLink RX8 248 yX0_kindOf :: Cond.instanceMethod yX0_kindOf :: Cond.selects RX0 yX0_kindOf yX0_kindOf :: Cond.code yX0_kindOf cX0_kindOf 2 (some .int) :: Cond.methodLink RX8 251 yX0_numberOf :: Cond.instanceMethod yX0_numberOf :: Cond.selects RX0 yX0_numberOf yX0_numberOf :: wsL_refuses_f19
set_option maxRecDepth 20000 in
def wsL_refuses_f17 : List Cond := Cond.methodLink RX0 100 yX1_fillAt :: Cond.instanceMethod yX1_fillAt :: Cond.selects RX1 yX1_fillAt yX1_fillAt :: Cond.code yX1_fillAt cX1_fillAt 5 (some .int) :: Cond.methodLink RX0 52 yX0_put :: Cond.instanceMethod yX0_put :: Cond.selects RX0 yX0_put yX0_put :: Cond.code yX0_put cX0_put 4 none :: Cond.fieldLink RX0 11 "FoldedMenu$Blocks" "kinds" "[I" :: Cond.fieldLink RX0 15 "FoldedMenu$Blocks" "numbers" "[I" :: Cond.fieldLink RX0 18 "FoldedMenu$Blocks" "starts" "[I" :: Cond.fieldLink RX0 21 "FoldedMenu$Blocks" "sizes" "[I" :: Cond.methodLink RX0 56 yX0_layDishes :: Cond.instanceMethod yX0_layDishes :: Cond.selects RX0 yX0_layDishes yX0_layDishes :: Cond.code yX0_layDishes cX0_layDishes 7 none :: Cond.methodLink RX0 76 yX3_size :: Cond.methodLink RX0 87 yX3_valueOf :: Cond.methodLink RX0 90 yX3_setting :: Cond.methodLink RX0 97 yX3_linesOf :: Cond.methodLink RX0 65 yX1_partOf :: Cond.methodLink RX8 298 yX0_blockOfDish :: Cond.instanceMethod yX0_blockOfDish :: Cond.selects RX0 yX0_blockOfDish yX0_blockOfDish :: wsL_refuses_f18
set_option maxRecDepth 20000 in
def wsL_refuses_f16 : List Cond := Cond.code yX8_card cX8_card 2 (some .int) :: Cond.methodLink RL 24 yX8_dish :: Cond.instanceMethod yX8_dish :: Cond.selects RX8 yX8_dish yX8_dish :: Cond.code yX8_dish cX8_dish 4 (some .int) :: Cond.methodLink RX8 233 yX8_has :: Cond.methodLink RX8 236 yX3_linesOf :: Cond.methodLink RX8 238 yX8_firstLineOf :: Cond.instanceMethod yX8_firstLineOf :: Cond.selects RX8 yX8_firstLineOf yX8_firstLineOf :: Cond.code yX8_firstLineOf cX8_firstLineOf 3 (some .int) :: Cond.fieldLink RX8 57 "FoldedMenu" "blocks" "LFoldedMenu$Blocks;" :: Cond.methodLink RX8 241 yX0_lay :: Cond.instanceMethod yX0_lay :: Cond.selects RX0 yX0_lay yX0_lay :: Cond.initialized RX0 :: Cond.code yX0_lay cX0_lay 6 none :: Cond.fieldLink RX0 24 "FoldedMenu$Blocks" "blockCount" "I" :: Cond.fieldLink RX0 28 "FoldedMenu$Blocks" "end" "I" :: Cond.fieldLink RX0 31 "FoldedMenu$Blocks" "place" "I" :: Cond.methodLink RX0 48 yX0_leaveFill :: Cond.instanceMethod yX0_leaveFill :: Cond.selects RX0 yX0_leaveFill yX0_leaveFill :: Cond.code yX0_leaveFill cX0_leaveFill 3 none :: wsL_refuses_f17
set_option maxRecDepth 20000 in
def wsL_refuses_f15 : List Cond := Cond.code yX8_restore cX8_restore 2 (some .int) :: Cond.methodLink RX8 169 yX7_isKept :: Cond.instanceMethod yX7_isKept :: Cond.selects RX7 yX7_isKept yX7_isKept :: Cond.code yX7_isKept cX7_isKept 2 (some .boolean) :: Cond.methodLink RX8 172 yX7_bringBack :: Cond.instanceMethod yX7_bringBack :: Cond.selects RX7 yX7_bringBack yX7_bringBack :: Cond.code yX7_bringBack cX7_bringBack 2 none :: Cond.methodLink RX7 38 yX7_isKept :: Cond.methodLink RL 72 yX8_append :: Cond.instanceMethod yX8_append :: Cond.selects RX8 yX8_append yX8_append :: Cond.code yX8_append cX8_append 2 (some .int) :: Cond.methodLink RX8 183 yX5_write :: Cond.instanceMethod yX5_write :: Cond.selects RX5 yX5_write yX5_write :: Cond.initialized RX5 :: Cond.code yX5_write cX5_write 2 none :: Cond.fieldLink RX5 18 "FoldedMenu$Reader" "length" "I" :: Cond.fieldLink RX5 9 "FoldedMenu$Reader" "text" "[I" :: Cond.methodLink RL 17 yX8_card :: Cond.instanceMethod yX8_card :: Cond.selects RX8 yX8_card yX8_card :: wsL_refuses_f16
set_option maxRecDepth 20000 in
def wsL_refuses_f14 : List Cond := Cond.code yX6_isChosen cX6_isChosen 2 (some .boolean) :: Cond.methodLink RX6 60 yX3_change :: Cond.methodLink RX8 157 yX6_prices :: Cond.instanceMethod yX6_prices :: Cond.selects RX6 yX6_prices yX6_prices :: Cond.code yX6_prices cX6_prices 1 (some .int) :: Cond.methodLink RL 66 yX8_take :: Cond.instanceMethod yX8_take :: Cond.selects RX8 yX8_take yX8_take :: Cond.code yX8_take cX8_take 2 (some .int) :: Cond.methodLink RX8 160 yX8_isSlot :: Cond.static yX8_isSlot :: Cond.code yX8_isSlot cX8_isSlot 1 (some .boolean) :: Cond.methodLink RX8 163 yX7_keep :: Cond.instanceMethod yX7_keep :: Cond.selects RX7 yX7_keep yX7_keep :: Cond.code yX7_keep cX7_keep 2 none :: Cond.methodLink RX8 134 yX8_findPrinted :: Cond.instanceMethod yX8_findPrinted :: Cond.selects RX8 yX8_findPrinted yX8_findPrinted :: Cond.code yX8_findPrinted cX8_findPrinted 2 none :: Cond.methodLink RL 69 yX8_restore :: Cond.instanceMethod yX8_restore :: Cond.selects RX8 yX8_restore yX8_restore :: wsL_refuses_f15
set_option maxRecDepth 20000 in
def wsL_refuses_f13 : List Cond := Cond.code yX6_tryCandidate cX6_tryCandidate 9 none :: Cond.methodLink RX6 99 Lib.MathLoose.max_long.x :: Cond.static Lib.MathLoose.max_long.x :: Cond.code Lib.MathLoose.max_long.x Lib.MathLoose.max_long.code 4 (some .long) :: Cond.methodLink RX6 85 yX6_addCandidate :: Cond.instanceMethod yX6_addCandidate :: Cond.selects RX6 yX6_addCandidate yX6_addCandidate :: Cond.code yX6_addCandidate cX6_addCandidate 2 none :: Cond.fieldLink RX6 16 "FoldedMenu$SetFinder" "candidates" "[I" :: Cond.methodLink RX6 89 yX6_endCourse :: Cond.instanceMethod yX6_endCourse :: Cond.selects RX6 yX6_endCourse yX6_endCourse :: Cond.code yX6_endCourse cX6_endCourse 4 none :: Cond.methodLink RX8 151 yX6_hasFound :: Cond.instanceMethod yX6_hasFound :: Cond.selects RX6 yX6_hasFound yX6_hasFound :: Cond.code yX6_hasFound cX6_hasFound 1 (some .boolean) :: Cond.methodLink RX8 154 yX6_offerFound :: Cond.instanceMethod yX6_offerFound :: Cond.selects RX6 yX6_offerFound yX6_offerFound :: Cond.code yX6_offerFound cX6_offerFound 3 none :: Cond.methodLink RX6 56 yX6_isChosen :: Cond.instanceMethod yX6_isChosen :: Cond.selects RX6 yX6_isChosen yX6_isChosen :: wsL_refuses_f14
set_option maxRecDepth 20000 in
def wsL_refuses_f12 : List Cond := Cond.fieldLink RX6 30 "FoldedMenu$SetFinder" "lineBound" "I" :: Cond.fieldLink RX6 13 "FoldedMenu$SetFinder" "best" "[[J" :: Cond.constantLong RX6 36 (1048575) :: Cond.constantLong RX6 50 (-1) :: Cond.fieldLink RX6 52 "FoldedMenu$SetFinder" "found" "J" :: Cond.methodLink RX6 33 yX6_forgetSets :: Cond.instanceMethod yX6_forgetSets :: Cond.selects RX6 yX6_forgetSets yX6_forgetSets :: Cond.code yX6_forgetSets cX6_forgetSets 3 none :: Cond.methodLink RX6 46 yX6_tryCourse :: Cond.instanceMethod yX6_tryCourse :: Cond.selects RX6 yX6_tryCourse yX6_tryCourse :: Cond.code yX6_tryCourse cX6_tryCourse 9 none :: Cond.methodLink RX6 64 yX3_setting :: Cond.methodLink RX6 68 yX3_size :: Cond.methodLink RX6 72 yX3_valueOf :: Cond.methodLink RX6 75 yX6_isCandidate :: Cond.static yX6_isCandidate :: Cond.code yX6_isCandidate cX6_isCandidate 3 (some .boolean) :: Cond.methodLink RX6 92 yX3_mayBePrinted :: Cond.methodLink RX6 79 yX3_linesOf :: Cond.methodLink RX6 82 yX6_tryCandidate :: Cond.instanceMethod yX6_tryCandidate :: Cond.selects RX6 yX6_tryCandidate yX6_tryCandidate :: wsL_refuses_f13
set_option maxRecDepth 20000 in
def wsL_refuses_f11 : List Cond := Cond.code yX8_setSide cX8_setSide 4 (some .int) :: Cond.methodLink RX8 121 yX8_isSide :: Cond.methodLink RX8 128 yX8_sideIn :: Cond.methodLink RX8 131 yX3_putCourse :: Cond.instanceMethod yX3_putCourse :: Cond.selects RX3 yX3_putCourse yX3_putCourse :: Cond.code yX3_putCourse cX3_putCourse 3 none :: Cond.methodLink RL 63 yX8_choose :: Cond.instanceMethod yX8_choose :: Cond.selects RX8 yX8_choose yX8_choose :: Cond.code yX8_choose cX8_choose 4 (some .int) :: Cond.fieldLink RX8 64 "FoldedMenu" "finder" "LFoldedMenu$SetFinder;" :: Cond.methodLink RX8 144 yX8_areSetArguments :: Cond.static yX8_areSetArguments :: Cond.code yX8_areSetArguments cX8_areSetArguments 3 (some .boolean) :: Cond.methodLink RX8 147 yX6_find :: Cond.instanceMethod yX6_find :: Cond.selects RX6 yX6_find yX6_find :: Cond.initialized RX6 :: Cond.code yX6_find cX6_find 6 none :: Cond.fieldLink RX6 20 "FoldedMenu$SetFinder" "candidateCount" "I" :: Cond.methodLink RX6 24 Lib.Math.min.name :: Cond.static Lib.Math.min.name :: Cond.code Lib.Math.min.name Lib.Math.min.code 2 (some .int) :: wsL_refuses_f12
set_option maxRecDepth 20000 in
def wsL_refuses_f10 : List Cond := Cond.instanceMethod yX3_drop :: Cond.selects RX3 yX3_drop yX3_drop :: Cond.code yX3_drop cX3_drop 3 none :: Cond.methodLink RL 54 yX8_setDish :: Cond.instanceMethod yX8_setDish :: Cond.selects RX8 yX8_setDish yX8_setDish :: Cond.code yX8_setDish cX8_setDish 5 (some .int) :: Cond.methodLink RX8 102 yX3_valueOf :: Cond.methodLink RL 57 yX8_setCard :: Cond.instanceMethod yX8_setCard :: Cond.selects RX8 yX8_setCard yX8_setCard :: Cond.code yX8_setCard cX8_setCard 4 (some .int) :: Cond.methodLink RX8 106 yX8_isCardValue :: Cond.static yX8_isCardValue :: Cond.code yX8_isCardValue cX8_isCardValue 2 (some .boolean) :: Cond.fieldLink RX8 322 "FoldedMenu" "CARD_LOW" "[I" :: Cond.fieldLink RX8 325 "FoldedMenu" "CARD_HIGH" "[I" :: Cond.methodLink RX8 113 yX3_changeSetting :: Cond.instanceMethod yX3_changeSetting :: Cond.selects RX3 yX3_changeSetting yX3_changeSetting :: Cond.code yX3_changeSetting cX3_changeSetting 3 none :: Cond.methodLink RL 60 yX8_setSide :: Cond.instanceMethod yX8_setSide :: Cond.selects RX8 yX8_setSide yX8_setSide :: wsL_refuses_f11
set_option maxRecDepth 20000 in
def wsL_refuses_f9 : List Cond := Cond.methodLink RX3 25 arraycopyName :: Cond.native arraycopyName :: Cond.static arraycopyName :: Cond.initialized "java/lang/System" :: Cond.fieldLink RX3 22 "FoldedMenu$Menu" "way" "I" :: Cond.methodLink RX8 83 yX3_addOffered :: Cond.instanceMethod yX3_addOffered :: Cond.selects RX3 yX3_addOffered yX3_addOffered :: Cond.code yX3_addOffered cX3_addOffered 1 (some .int) :: Cond.methodLink RX3 43 yX3_isFull :: Cond.methodLink RX8 87 yX3_change :: Cond.instanceMethod yX3_change :: Cond.selects RX3 yX3_change yX3_change :: Cond.code yX3_change cX3_change 4 none :: Cond.methodLink RX3 35 yX3_hasDish :: Cond.instanceMethod yX3_hasDish :: Cond.selects RX3 yX3_hasDish yX3_hasDish :: Cond.code yX3_hasDish cX3_hasDish 2 (some .boolean) :: Cond.methodLink RL 51 yX8_removeDish :: Cond.instanceMethod yX8_removeDish :: Cond.selects RX8 yX8_removeDish yX8_removeDish :: Cond.code yX8_removeDish cX8_removeDish 2 (some .int) :: Cond.methodLink RX8 91 yX3_hasDish :: Cond.methodLink RX8 95 yX3_drop :: wsL_refuses_f10
set_option maxRecDepth 20000 in
def wsL_refuses_f8 : List Cond := Cond.code yX3_isFull cX3_isFull 1 (some .boolean) :: Cond.methodLink RX8 79 yX2_record :: Cond.instanceMethod yX2_record :: Cond.selects RX2 yX2_record yX2_record :: Cond.initialized RX2 :: Cond.code yX2_record cX2_record 2 none :: Cond.fieldLink RX2 18 "FoldedMenu$History" "size" "I" :: Cond.fieldLink RX2 12 "FoldedMenu$History" "states" "[LFoldedMenu$State;" :: Cond.methodLink RX2 22 yX2_dropOldest :: Cond.instanceMethod yX2_dropOldest :: Cond.selects RX2 yX2_dropOldest yX2_dropOldest :: Cond.code yX2_dropOldest cX2_dropOldest 3 none :: Cond.methodLink RX2 25 yX7_copyFrom :: Cond.instanceMethod yX7_copyFrom :: Cond.selects RX7 yX7_copyFrom yX7_copyFrom :: Cond.initialized RX7 :: Cond.code yX7_copyFrom cX7_copyFrom 3 none :: Cond.fieldLink RX7 12 "FoldedMenu$State" "menu" "LFoldedMenu$Menu;" :: Cond.fieldLink RX7 18 "FoldedMenu$State" "snapshots" "[LFoldedMenu$Menu;" :: Cond.fieldLink RX7 22 "FoldedMenu$State" "kept" "I" :: Cond.methodLink RX7 26 yX3_copyFrom :: Cond.instanceMethod yX3_copyFrom :: Cond.selects RX3 yX3_copyFrom yX3_copyFrom :: Cond.code yX3_copyFrom cX3_copyFrom 2 none :: wsL_refuses_f9
set_option maxRecDepth 20000 in
def wsL_refuses_f7 : List Cond := Cond.methodLink RX8 117 yX8_inRange :: Cond.static yX8_inRange :: Cond.code yX8_inRange cX8_inRange 3 (some .boolean) :: Cond.methodLink RX8 208 yJ6_bitCount_0f7a4 :: Cond.methodLink RX8 219 yX1_fill :: Cond.instanceMethod yX1_fill :: Cond.selects RX1 yX1_fill yX1_fill :: Cond.code yX1_fill cX1_fill 1 (some .int) :: Cond.methodLink RX8 222 yX1_isEven :: Cond.instanceMethod yX1_isEven :: Cond.selects RX1 yX1_isEven yX1_isEven :: Cond.code yX1_isEven cX1_isEven 1 (some .boolean) :: Cond.methodLink RL 47 yX8_addDish :: Cond.instanceMethod yX8_addDish :: Cond.selects RX8 yX8_addDish yX8_addDish :: Cond.code yX8_addDish cX8_addDish 8 (some .int) :: Cond.methodLink RX8 68 yX8_isDishValue :: Cond.static yX8_isDishValue :: Cond.code yX8_isDishValue cX8_isDishValue 2 (some .boolean) :: Cond.fieldLink RX8 315 "FoldedMenu" "DISH_LOW" "[I" :: Cond.fieldLink RX8 319 "FoldedMenu" "DISH_HIGH" "[I" :: Cond.methodLink RX8 75 yX3_isFull :: Cond.instanceMethod yX3_isFull :: Cond.selects RX3 yX3_isFull yX3_isFull :: wsL_refuses_f8
set_option maxRecDepth 20000 in
def wsL_refuses_f6 : List Cond := Cond.methodLink RX1 54 yX1_putKey :: Cond.instanceMethod yX1_putKey :: Cond.selects RX1 yX1_putKey yX1_putKey :: Cond.code yX1_putKey cX1_putKey 3 none :: Cond.methodLink RX1 58 yX1_linesOf :: Cond.instanceMethod yX1_linesOf :: Cond.selects RX1 yX1_linesOf yX1_linesOf :: Cond.code yX1_linesOf cX1_linesOf 4 (some .int) :: Cond.methodLink RX1 72 yX1_partOf :: Cond.instanceMethod yX1_partOf :: Cond.selects RX1 yX1_partOf yX1_partOf :: Cond.code yX1_partOf cX1_partOf 3 (some .int) :: Cond.methodLink RX1 69 yX1_putFill :: Cond.instanceMethod yX1_putFill :: Cond.selects RX1 yX1_putFill yX1_putFill :: Cond.code yX1_putFill cX1_putFill 3 none :: Cond.methodLink RX8 99 yX3_size :: Cond.methodLink RX8 196 yX1_linesOf :: Cond.methodLink RX8 199 yX1_weightOf :: Cond.instanceMethod yX1_weightOf :: Cond.selects RX1 yX1_weightOf yX1_weightOf :: Cond.code yX1_weightOf cX1_weightOf 2 (some .int) :: Cond.static yX8_isSide :: Cond.code yX8_isSide cX8_isSide 1 (some .boolean) :: wsL_refuses_f7
set_option maxRecDepth 20000 in
def wsL_refuses_f5 : List Cond := Cond.instanceMethod yX1_lay :: Cond.selects RX1 yX1_lay yX1_lay :: Cond.initialized RX1 :: Cond.code yX1_lay cX1_lay 5 none :: Cond.methodLink RX1 61 Lib.Math.abs.name :: Cond.static Lib.Math.abs.name :: Cond.code Lib.Math.abs.name Lib.Math.abs.code 1 (some .int) :: Cond.fieldLink RX1 66 "FoldedMenu$Fold" "gap" "I" :: Cond.methodLink RX1 23 yX1_clear :: Cond.instanceMethod yX1_clear :: Cond.selects RX1 yX1_clear yX1_clear :: Cond.code yX1_clear cX1_clear 3 none :: Cond.fieldLink RX1 11 "FoldedMenu$Fold" "parts" "[[I" :: Cond.fieldLink RX1 16 "FoldedMenu$Fold" "weights" "[I" :: Cond.fieldLink RX1 20 "FoldedMenu$Fold" "places" "[I" :: Cond.fieldLink RX1 93 "FoldedMenu$Fold" "keySide" "I" :: Cond.static yX8_sideIn :: Cond.code yX8_sideIn cX8_sideIn 2 (some .int) :: Cond.methodLink RX1 35 yX3_setting :: Cond.methodLink RX1 41 yX1_putCourse :: Cond.instanceMethod yX1_putCourse :: Cond.selects RX1 yX1_putCourse yX1_putCourse :: Cond.code yX1_putCourse cX1_putCourse 6 none :: Cond.methodLink RX1 49 yJ6_bitCount_0f7a4 :: wsL_refuses_f6
set_option maxRecDepth 20000 in
def wsL_refuses_f4 : List Cond := Cond.code yX8_digitsOf cX8_digitsOf 1 (some .int) :: Cond.methodLink RX4 70 yX4_measure :: Cond.instanceMethod yX4_measure :: Cond.selects RX4 yX4_measure yX4_measure :: Cond.code yX4_measure cX4_measure 5 none :: Cond.methodLink RX4 78 yX3_linesOf :: Cond.instanceMethod yX3_linesOf :: Cond.selects RX3 yX3_linesOf yX3_linesOf :: Cond.code yX3_linesOf cX3_linesOf 3 (some .int) :: Cond.methodLink RX3 69 yX3_textOf :: Cond.instanceMethod yX3_textOf :: Cond.selects RX3 yX3_textOf yX3_textOf :: Cond.code yX3_textOf cX3_textOf 3 (some .int) :: Cond.methodLink RX3 63 yJ6_bitCount_0f7a4 :: Cond.static yJ6_bitCount_0f7a4 :: Cond.initialized RJ6 :: Cond.code yJ6_bitCount_0f7a4 cJ6_bitCount_0f7a4 1 (some .int) :: Cond.constant RJ6 265 (1431655765) :: Cond.constant RJ6 266 (858993459) :: Cond.constant RJ6 267 (252645135) :: Cond.methodLink RX3 72 yX3_setting :: Cond.static yX8_partsOfSize :: Cond.code yX8_partsOfSize cX8_partsOfSize 2 (some .int) :: Cond.methodLink RX8 285 yX1_lay :: wsL_refuses_f5
set_option maxRecDepth 20000 in
def wsL_refuses_f3 : List Cond := Cond.selects RX3 yX3_valueOf yX3_valueOf :: Cond.code yX3_valueOf cX3_valueOf 4 (some .int) :: Cond.fieldLink RX3 9 "FoldedMenu$Menu" "values" "[I" :: Cond.methodLink RX4 34 yX3_isOffered :: Cond.instanceMethod yX3_isOffered :: Cond.selects RX3 yX3_isOffered yX3_isOffered :: Cond.code yX3_isOffered cX3_isOffered 2 (some .boolean) :: Cond.methodLink RX3 50 yX3_valueOf :: Cond.methodLink RX4 38 yX3_mayBePrinted :: Cond.instanceMethod yX3_mayBePrinted :: Cond.selects RX3 yX3_mayBePrinted yX3_mayBePrinted :: Cond.code yX3_mayBePrinted cX3_mayBePrinted 4 (some .boolean) :: Cond.methodLink RX3 57 yX3_isInSeason :: Cond.instanceMethod yX3_isInSeason :: Cond.selects RX3 yX3_isInSeason yX3_isInSeason :: Cond.code yX3_isInSeason cX3_isInSeason 3 (some .boolean) :: Cond.static yX8_has :: Cond.code yX8_has cX8_has 2 (some .boolean) :: Cond.methodLink RX3 60 yX3_suits :: Cond.instanceMethod yX3_suits :: Cond.selects RX3 yX3_suits yX3_suits :: Cond.code yX3_suits cX3_suits 3 (some .boolean) :: Cond.methodLink RX4 42 yX3_setting :: Cond.static yX8_digitsOf :: wsL_refuses_f4
set_option maxRecDepth 20000 in
def wsL_refuses_f2 : List Cond := Cond.code yX4_find cX4_find 8 none :: Cond.fieldLink RX4 9 "FoldedMenu$Printing" "dishes" "[I" :: Cond.fieldLink RX4 46 "FoldedMenu$Printing" "set" "I" :: Cond.fieldLink RX4 50 "FoldedMenu$Printing" "number" "I" :: Cond.fieldLink RX4 53 "FoldedMenu$Printing" "prices" "I" :: Cond.fieldLink RX4 56 "FoldedMenu$Printing" "allergens" "I" :: Cond.methodLink RX4 59 Lib.Math.max.name :: Cond.static Lib.Math.max.name :: Cond.initialized "java/lang/Math" :: Cond.code Lib.Math.max.name Lib.Math.max.code 2 (some .int) :: Cond.fieldLink RX4 67 "FoldedMenu$Printing" "column" "I" :: Cond.methodLink RX4 21 yX4_clear :: Cond.instanceMethod yX4_clear :: Cond.selects RX4 yX4_clear yX4_clear :: Cond.code yX4_clear cX4_clear 2 none :: Cond.fieldLink RX4 15 "FoldedMenu$Printing" "lines" "[I" :: Cond.fieldLink RX4 18 "FoldedMenu$Printing" "weights" "[I" :: Cond.methodLink RX4 24 yX3_size :: Cond.instanceMethod yX3_size :: Cond.selects RX3 yX3_size yX3_size :: Cond.code yX3_size cX3_size 1 (some .int) :: Cond.fieldLink RX3 18 "FoldedMenu$Menu" "dishes" "I" :: Cond.methodLink RX4 30 yX3_valueOf :: Cond.instanceMethod yX3_valueOf :: wsL_refuses_f3
set_option maxRecDepth 20000 in
def wsL_refuses_f1 : List Cond := Cond.methodLink RL 21 yX8_count :: Cond.instanceMethod yX8_count :: Cond.selects RX8 yX8_count yX8_count :: Cond.initialized RX8 :: Cond.code yX8_count cX8_count 2 (some .int) :: Cond.fieldLink RX8 10 "FoldedMenu" "state" "LFoldedMenu$State;" :: Cond.fieldLink RX8 40 "FoldedMenu" "printing" "LFoldedMenu$Printing;" :: Cond.fieldLink RX8 47 "FoldedMenu" "fold" "LFoldedMenu$Fold;" :: Cond.fieldLink RX8 19 "FoldedMenu" "history" "LFoldedMenu$History;" :: Cond.fieldLink RX8 33 "FoldedMenu" "reader" "LFoldedMenu$Reader;" :: Cond.methodLink RX8 193 yX8_layCard :: Cond.instanceMethod yX8_layCard :: Cond.selects RX8 yX8_layCard yX8_layCard :: Cond.code yX8_layCard cX8_layCard 1 none :: Cond.methodLink RX8 109 yX3_setting :: Cond.instanceMethod yX3_setting :: Cond.selects RX3 yX3_setting yX3_setting :: Cond.initialized RX3 :: Cond.code yX3_setting cX3_setting 2 (some .int) :: Cond.fieldLink RX3 15 "FoldedMenu$Menu" "settings" "[I" :: Cond.methodLink RX8 282 yX4_find :: Cond.instanceMethod yX4_find :: Cond.selects RX4 yX4_find yX4_find :: Cond.initialized RX4 :: wsL_refuses_f2
set_option maxRecDepth 20000 in
theorem wsL_refuses_e22 : wsL_refuses_f22 = wsL_refuses_r22 ++ wsL_refuses_xs := rfl
set_option maxRecDepth 20000 in
theorem wsL_refuses_e21 : wsL_refuses_f21 = wsL_refuses_r21 ++ wsL_refuses_f22 := rfl
set_option maxRecDepth 20000 in
theorem wsL_refuses_e20 : wsL_refuses_f20 = wsL_refuses_r20 ++ wsL_refuses_f21 := rfl
set_option maxRecDepth 20000 in
theorem wsL_refuses_e19 : wsL_refuses_f19 = wsL_refuses_r19 ++ wsL_refuses_f20 := rfl
set_option maxRecDepth 20000 in
theorem wsL_refuses_e18 : wsL_refuses_f18 = wsL_refuses_r18 ++ wsL_refuses_f19 := rfl
set_option maxRecDepth 20000 in
theorem wsL_refuses_e17 : wsL_refuses_f17 = wsL_refuses_r17 ++ wsL_refuses_f18 := rfl
set_option maxRecDepth 20000 in
theorem wsL_refuses_e16 : wsL_refuses_f16 = wsL_refuses_r16 ++ wsL_refuses_f17 := rfl
set_option maxRecDepth 20000 in
theorem wsL_refuses_e15 : wsL_refuses_f15 = wsL_refuses_r15 ++ wsL_refuses_f16 := rfl
set_option maxRecDepth 20000 in
theorem wsL_refuses_e14 : wsL_refuses_f14 = wsL_refuses_r14 ++ wsL_refuses_f15 := rfl
set_option maxRecDepth 20000 in
theorem wsL_refuses_e13 : wsL_refuses_f13 = wsL_refuses_r13 ++ wsL_refuses_f14 := rfl
set_option maxRecDepth 20000 in
theorem wsL_refuses_e12 : wsL_refuses_f12 = wsL_refuses_r12 ++ wsL_refuses_f13 := rfl
set_option maxRecDepth 20000 in
theorem wsL_refuses_e11 : wsL_refuses_f11 = wsL_refuses_r11 ++ wsL_refuses_f12 := rfl
set_option maxRecDepth 20000 in
theorem wsL_refuses_e10 : wsL_refuses_f10 = wsL_refuses_r10 ++ wsL_refuses_f11 := rfl
set_option maxRecDepth 20000 in
theorem wsL_refuses_e9 : wsL_refuses_f9 = wsL_refuses_r9 ++ wsL_refuses_f10 := rfl
set_option maxRecDepth 20000 in
theorem wsL_refuses_e8 : wsL_refuses_f8 = wsL_refuses_r8 ++ wsL_refuses_f9 := rfl
set_option maxRecDepth 20000 in
theorem wsL_refuses_e7 : wsL_refuses_f7 = wsL_refuses_r7 ++ wsL_refuses_f8 := rfl
set_option maxRecDepth 20000 in
theorem wsL_refuses_e6 : wsL_refuses_f6 = wsL_refuses_r6 ++ wsL_refuses_f7 := rfl
set_option maxRecDepth 20000 in
theorem wsL_refuses_e5 : wsL_refuses_f5 = wsL_refuses_r5 ++ wsL_refuses_f6 := rfl
set_option maxRecDepth 20000 in
theorem wsL_refuses_e4 : wsL_refuses_f4 = wsL_refuses_r4 ++ wsL_refuses_f5 := rfl
set_option maxRecDepth 20000 in
theorem wsL_refuses_e3 : wsL_refuses_f3 = wsL_refuses_r3 ++ wsL_refuses_f4 := rfl
set_option maxRecDepth 20000 in
theorem wsL_refuses_e2 : wsL_refuses_f2 = wsL_refuses_r2 ++ wsL_refuses_f3 := rfl
set_option maxRecDepth 20000 in
theorem wsL_refuses_e1 : wsL_refuses_f1 = wsL_refuses_r1 ++ wsL_refuses_f2 := rfl
def wsL_refuses_f0 : List Cond := .code yL_refuses cL_refuses 4 (some .boolean) :: wsL_refuses_f1
theorem wsL_refuses_eq : wsL_refuses = wsL_refuses_f0 := by
  unfold wsL_refuses wsL_refuses_f0
  rw [wsL_refuses_e1, wsL_refuses_e2, wsL_refuses_e3, wsL_refuses_e4, wsL_refuses_e5, wsL_refuses_e6, wsL_refuses_e7, wsL_refuses_e8, wsL_refuses_e9, wsL_refuses_e10, wsL_refuses_e11, wsL_refuses_e12, wsL_refuses_e13, wsL_refuses_e14, wsL_refuses_e15, wsL_refuses_e16, wsL_refuses_e17, wsL_refuses_e18, wsL_refuses_e19, wsL_refuses_e20, wsL_refuses_e21, wsL_refuses_e22]
  unfold wsL_refuses_xs
  simp only [List.append_assoc, List.append_nil]
theorem wsL_refuses_good {ws : List Cond} (h : GoodIn wsL_refuses_f0 ws) : GoodIn wsL_refuses ws := by
  rw [wsL_refuses_eq]
  exact h
set_option maxRecDepth 20000 in
theorem ggL_refuses_X8_count : GoodIn wsL_refuses wsX8_count := wsL_refuses_good (goodIn_r _ [5, 6, 7, 8, 9, 10, 11, 12, 13, 4, 14, 15, 16, 17, 18, 19, 20, 21, 22, 23, 24, 25, 26, 27, 28, 29, 30, 31, 32, 33, 34, 35, 36, 37, 38, 39, 40, 41, 42, 43, 44, 45, 46, 47, 48, 49, 50, 51, 52, 53, 54, 55, 56, 57, 58, 59, 60, 61, 62, 63, 64, 65, 66, 67, 68, 69, 70, 71, 72, 73, 74, 75, 76, 77, 78, 79, 80, 81, 82, 83, 84, 85, 86, 87, 88, 89, 90, 91, 92, 93, 94, 95, 96, 97, 98, 99, 100, 101, 102, 103, 104, 105, 106, 107, 108, 109, 110, 111, 112, 113, 114, 115, 116, 117, 118, 119, 120, 121, 122, 123, 124, 125, 126, 127, 128, 129, 130, 131, 132, 133, 134, 135, 136, 137, 138, 139, 140, 141, 142, 143, 144, 145, 146, 147, 148, 149, 150, 151, 152, 153, 154, 155, 156, 510, 511, 512, 513, 514, 515, 516, 517, 518, 519, 520, 521, 522, 523, 524, 525, 526, 527, 528, 529, 530, 531, 532, 533, 534, 535, 536, 537, 538, 539, 540, 541, 542, 543, 544, 545] (by decide +kernel) (by decide +kernel))
set_option maxRecDepth 20000 in
theorem gL_refuses_X8_count : GoodIn wsL_refuses (wsV RL 21 RX8 yX8_count wsX8_count) := goodIn_app (goodIn_of _ (by decide +kernel)) ggL_refuses_X8_count
set_option maxRecDepth 20000 in
theorem ggL_refuses_X8_addDish : GoodIn wsL_refuses wsX8_addDish := wsL_refuses_good (goodIn_r _ [160, 6, 9, 161, 162, 4, 163, 164, 165, 145, 146, 147, 166, 167, 168, 18, 169, 46, 170, 171, 172, 173, 174, 175, 176, 177, 178, 179, 180, 181, 182, 183, 184, 185, 186, 187, 188, 189, 190, 191, 192, 51, 193, 194, 195, 196, 20, 197, 198, 199, 200, 201, 202, 203, 204, 205, 206, 207, 208, 209, 210, 510, 511, 512, 513, 514, 515, 516, 517, 518, 519, 520, 521, 542, 543, 544, 545, 535, 536] (by decide +kernel) (by decide +kernel))
set_option maxRecDepth 20000 in
theorem gL_refuses_X8_addDish : GoodIn wsL_refuses (wsV RL 47 RX8 yX8_addDish wsX8_addDish) := goodIn_app (goodIn_of _ (by decide +kernel)) ggL_refuses_X8_addDish
set_option maxRecDepth 20000 in
theorem ggL_refuses_X8_removeDish : GoodIn wsL_refuses wsX8_removeDish := wsL_refuses_good (goodIn_r _ [214, 6, 9, 215, 208, 209, 18, 210, 46, 146, 4, 147, 170, 171, 172, 173, 174, 175, 176, 177, 178, 179, 180, 181, 182, 183, 184, 185, 186, 187, 188, 189, 190, 191, 192, 51, 193, 194, 195, 196, 20, 197, 216, 217, 218, 219, 207, 137, 43, 44, 45, 510, 511, 512, 513, 514, 515, 516, 517, 518, 519, 520, 521, 542, 543, 544, 545, 535, 536] (by decide +kernel) (by decide +kernel))
set_option maxRecDepth 20000 in
theorem gL_refuses_X8_removeDish : GoodIn wsL_refuses (wsV RL 51 RX8 yX8_removeDish wsX8_removeDish) := goodIn_app (goodIn_of _ (by decide +kernel)) ggL_refuses_X8_removeDish
set_option maxRecDepth 20000 in
theorem ggL_refuses_X8_setDish : GoodIn wsL_refuses wsX8_setDish := wsL_refuses_good (goodIn_r _ [223, 6, 9, 215, 208, 209, 18, 210, 46, 146, 4, 147, 161, 162, 163, 164, 165, 145, 170, 171, 172, 173, 174, 175, 176, 177, 178, 179, 180, 181, 182, 183, 184, 185, 186, 187, 188, 189, 190, 191, 192, 51, 193, 194, 195, 196, 20, 197, 224, 48, 49, 50, 203, 204, 205, 206, 207, 510, 511, 512, 513, 514, 515, 516, 517, 518, 519, 520, 521, 542, 543, 544, 545, 535, 536] (by decide +kernel) (by decide +kernel))
set_option maxRecDepth 20000 in
theorem gL_refuses_X8_setDish : GoodIn wsL_refuses (wsV RL 54 RX8 yX8_setDish wsX8_setDish) := goodIn_app (goodIn_of _ (by decide +kernel)) ggL_refuses_X8_setDish
set_option maxRecDepth 20000 in
theorem ggL_refuses_X8_setCard : GoodIn wsL_refuses wsX8_setCard := wsL_refuses_good (goodIn_r _ [228, 9, 6, 229, 230, 4, 231, 232, 233, 145, 146, 147, 170, 171, 172, 173, 174, 175, 176, 177, 178, 179, 180, 181, 182, 183, 184, 185, 186, 187, 188, 189, 190, 191, 18, 192, 51, 193, 194, 195, 196, 20, 46, 197, 15, 16, 17, 19, 234, 235, 236, 237, 510, 511, 512, 513, 514, 515, 516, 517, 518, 519, 520, 521, 535, 536, 542, 543, 544, 545] (by decide +kernel) (by decide +kernel))
set_option maxRecDepth 20000 in
theorem gL_refuses_X8_setCard : GoodIn wsL_refuses (wsV RL 57 RX8 yX8_setCard wsX8_setCard) := goodIn_app (goodIn_of _ (by decide +kernel)) ggL_refuses_X8_setCard
set_option maxRecDepth 20000 in
theorem ggL_refuses_X8_setSide : GoodIn wsL_refuses wsX8_setSide := wsL_refuses_good (goodIn_r _ [241, 9, 6, 145, 146, 4, 147, 242, 143, 144, 170, 171, 172, 173, 174, 175, 176, 177, 178, 179, 180, 181, 182, 183, 184, 185, 186, 187, 188, 189, 190, 191, 18, 192, 51, 193, 194, 195, 196, 20, 46, 197, 243, 113, 114, 244, 245, 246, 247, 510, 511, 512, 513, 514, 515, 516, 517, 518, 519, 520, 521, 542, 543, 544, 545, 535, 536] (by decide +kernel) (by decide +kernel))
set_option maxRecDepth 20000 in
theorem gL_refuses_X8_setSide : GoodIn wsL_refuses (wsV RL 60 RX8 yX8_setSide wsX8_setSide) := goodIn_app (goodIn_of _ (by decide +kernel)) ggL_refuses_X8_setSide
set_option maxRecDepth 20000 in
theorem ggL_refuses_X8_choose : GoodIn wsL_refuses wsX8_choose := wsL_refuses_good (goodIn_r _ [251, 252, 6, 9, 253, 254, 4, 255, 242, 143, 144, 145, 146, 147, 256, 257, 258, 259, 260, 261, 262, 263, 33, 264, 265, 266, 267, 268, 269, 270, 271, 272, 273, 113, 114, 274, 275, 276, 277, 278, 16, 17, 18, 19, 20, 279, 43, 44, 45, 46, 280, 48, 49, 50, 51, 281, 282, 283, 284, 58, 59, 60, 61, 62, 63, 64, 56, 65, 66, 67, 68, 69, 70, 72, 73, 285, 79, 80, 81, 82, 83, 84, 85, 86, 87, 88, 89, 90, 91, 92, 93, 94, 95, 286, 287, 288, 289, 290, 291, 292, 293, 294, 295, 296, 297, 298, 299, 300, 301, 302, 303, 304, 305, 170, 171, 172, 173, 174, 175, 176, 177, 178, 179, 180, 181, 182, 183, 184, 185, 186, 187, 188, 189, 190, 191, 192, 193, 194, 195, 196, 197, 306, 307, 308, 309, 310, 311, 312, 313, 314, 204, 205, 206, 207, 208, 209, 210, 162, 163, 164, 165, 315, 316, 317, 318, 510, 511, 512, 513, 514, 515, 516, 517, 518, 519, 520, 521, 546, 547, 548, 549, 550, 542, 543, 544, 545, 535, 536] (by decide +kernel) (by decide +kernel))
set_option maxRecDepth 20000 in
theorem gL_refuses_X8_choose : GoodIn wsL_refuses (wsV RL 63 RX8 yX8_choose wsX8_choose) := goodIn_app (goodIn_of _ (by decide +kernel)) ggL_refuses_X8_choose
set_option maxRecDepth 20000 in
theorem ggL_refuses_X8_take : GoodIn wsL_refuses wsX8_take := wsL_refuses_good (goodIn_r _ [322, 9, 6, 7, 323, 324, 4, 325, 145, 146, 147, 170, 171, 172, 173, 174, 175, 176, 177, 178, 179, 180, 181, 182, 183, 184, 185, 186, 187, 188, 189, 190, 191, 18, 192, 51, 193, 194, 195, 196, 20, 46, 197, 326, 327, 328, 329, 330, 331, 332, 333, 15, 16, 17, 19, 21, 22, 23, 24, 25, 26, 27, 28, 29, 30, 31, 32, 33, 34, 35, 36, 37, 38, 39, 40, 41, 42, 43, 44, 45, 47, 48, 49, 50, 52, 53, 54, 55, 56, 57, 58, 59, 60, 61, 62, 63, 64, 65, 66, 67, 68, 69, 70, 71, 72, 73, 74, 75, 76, 77, 78, 79, 80, 81, 82, 83, 84, 85, 86, 87, 88, 89, 90, 91, 92, 93, 94, 95, 510, 511, 512, 513, 514, 515, 516, 517, 518, 519, 520, 521, 522, 523, 524, 525, 526, 527, 528, 529, 535, 536, 542, 543, 544, 545] (by decide +kernel) (by decide +kernel))
set_option maxRecDepth 20000 in
theorem gL_refuses_X8_take : GoodIn wsL_refuses (wsV RL 66 RX8 yX8_take wsX8_take) := goodIn_app (goodIn_of _ (by decide +kernel)) ggL_refuses_X8_take

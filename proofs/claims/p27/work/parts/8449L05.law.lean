theorem dL_refuses_168 : decode cL_refuses 168 = .ok (.iconst (-1), 1) := by decide +kernel
theorem dL_refuses_169 : decode cL_refuses 169 = .ok (.if_icmp .ne 218, 3) := by decide +kernel
theorem dL_refuses_172 : decode cL_refuses 172 = .ok (.aload_n 0, 1) := by decide +kernel
theorem dL_refuses_173 : decode cL_refuses 173 = .ok (.iconst 4, 1) := by decide +kernel
theorem dL_refuses_174 : decode cL_refuses 174 = .ok (.iconst (-1), 1) := by decide +kernel
theorem dL_refuses_175 : decode cL_refuses 175 = .ok (.invokevirtual 57, 3) := by decide +kernel
theorem dL_refuses_178 : decode cL_refuses 178 = .ok (.iconst (-1), 1) := by decide +kernel
theorem dL_refuses_179 : decode cL_refuses 179 = .ok (.if_icmp .ne 208, 3) := by decide +kernel
theorem dL_refuses_182 : decode cL_refuses 182 = .ok (.aload_n 0, 1) := by decide +kernel
theorem dL_refuses_183 : decode cL_refuses 183 = .ok (.iconst 4, 1) := by decide +kernel
theorem dL_refuses_184 : decode cL_refuses 184 = .ok (.iconst 0, 1) := by decide +kernel
theorem dL_refuses_185 : decode cL_refuses 185 = .ok (.invokevirtual 60, 3) := by decide +kernel
theorem dL_refuses_188 : decode cL_refuses 188 = .ok (.iconst (-1), 1) := by decide +kernel
theorem dL_refuses_189 : decode cL_refuses 189 = .ok (.if_icmp .ne 198, 3) := by decide +kernel
theorem dL_refuses_192 : decode cL_refuses 192 = .ok (.aload_n 0, 1) := by decide +kernel
theorem dL_refuses_193 : decode cL_refuses 193 = .ok (.iconst 0, 1) := by decide +kernel
theorem dL_refuses_194 : decode cL_refuses 194 = .ok (.iconst 2, 1) := by decide +kernel
theorem dL_refuses_195 : decode cL_refuses 195 = .ok (.invokevirtual 60, 3) := by decide +kernel
theorem dL_refuses_198 : decode cL_refuses 198 = .ok (.iconst (-1), 1) := by decide +kernel
theorem dL_refuses_199 : decode cL_refuses 199 = .ok (.if_icmp .ne 188, 3) := by decide +kernel
theorem dL_refuses_202 : decode cL_refuses 202 = .ok (.aload_n 0, 1) := by decide +kernel
theorem dL_refuses_203 : decode cL_refuses 203 = .ok (.iconst 2, 1) := by decide +kernel
theorem dL_refuses_204 : decode cL_refuses 204 = .ok (.iconst 0, 1) := by decide +kernel
theorem dL_refuses_205 : decode cL_refuses 205 = .ok (.iconst 1, 1) := by decide +kernel
theorem dL_refuses_206 : decode cL_refuses 206 = .ok (.invokevirtual 63, 3) := by decide +kernel
theorem dL_refuses_209 : decode cL_refuses 209 = .ok (.iconst (-1), 1) := by decide +kernel
theorem dL_refuses_210 : decode cL_refuses 210 = .ok (.if_icmp .ne 177, 3) := by decide +kernel
theorem dL_refuses_213 : decode cL_refuses 213 = .ok (.aload_n 0, 1) := by decide +kernel
theorem dL_refuses_214 : decode cL_refuses 214 = .ok (.iconst 0, 1) := by decide +kernel
theorem dL_refuses_215 : decode cL_refuses 215 = .ok (.iconst 0, 1) := by decide +kernel
theorem dL_refuses_216 : decode cL_refuses 216 = .ok (.iconst 5, 1) := by decide +kernel
theorem dL_refuses_217 : decode cL_refuses 217 = .ok (.invokevirtual 63, 3) := by decide +kernel
theorem dL_refuses_220 : decode cL_refuses 220 = .ok (.iconst (-1), 1) := by decide +kernel
theorem dL_refuses_221 : decode cL_refuses 221 = .ok (.if_icmp .ne 166, 3) := by decide +kernel
theorem dL_refuses_224 : decode cL_refuses 224 = .ok (.aload_n 0, 1) := by decide +kernel
theorem dL_refuses_225 : decode cL_refuses 225 = .ok (.iconst 2, 1) := by decide +kernel
theorem dL_refuses_226 : decode cL_refuses 226 = .ok (.invokevirtual 66, 3) := by decide +kernel
theorem dL_refuses_229 : decode cL_refuses 229 = .ok (.iconst (-1), 1) := by decide +kernel
theorem dL_refuses_230 : decode cL_refuses 230 = .ok (.if_icmp .ne 157, 3) := by decide +kernel
theorem dL_refuses_233 : decode cL_refuses 233 = .ok (.aload_n 0, 1) := by decide +kernel
theorem dL_refuses_234 : decode cL_refuses 234 = .ok (.iconst (-1), 1) := by decide +kernel
theorem dL_refuses_235 : decode cL_refuses 235 = .ok (.invokevirtual 69, 3) := by decide +kernel
theorem dL_refuses_238 : decode cL_refuses 238 = .ok (.iconst (-1), 1) := by decide +kernel
theorem dL_refuses_239 : decode cL_refuses 239 = .ok (.if_icmp .ne 148, 3) := by decide +kernel
theorem dL_refuses_242 : decode cL_refuses 242 = .ok (.aload_n 0, 1) := by decide +kernel
theorem dL_refuses_243 : decode cL_refuses 243 = .ok (.iconst 0, 1) := by decide +kernel
theorem dL_refuses_244 : decode cL_refuses 244 = .ok (.invokevirtual 72, 3) := by decide +kernel
theorem dL_refuses_247 : decode cL_refuses 247 = .ok (.iconst (-1), 1) := by decide +kernel
theorem dL_refuses_248 : decode cL_refuses 248 = .ok (.if_icmp .ne 139, 3) := by decide +kernel
theorem dL_refuses_251 : decode cL_refuses 251 = .ok (.aload_n 0, 1) := by decide +kernel
theorem dL_refuses_252 : decode cL_refuses 252 = .ok (.iconst (-1), 1) := by decide +kernel
theorem dL_refuses_253 : decode cL_refuses 253 = .ok (.invokevirtual 21, 3) := by decide +kernel
theorem dL_refuses_256 : decode cL_refuses 256 = .ok (.iconst (-1), 1) := by decide +kernel
theorem dL_refuses_257 : decode cL_refuses 257 = .ok (.if_icmp .ne 130, 3) := by decide +kernel
theorem dL_refuses_260 : decode cL_refuses 260 = .ok (.aload_n 0, 1) := by decide +kernel
theorem dL_refuses_261 : decode cL_refuses 261 = .ok (.bipush 16, 2) := by decide +kernel
theorem dL_refuses_263 : decode cL_refuses 263 = .ok (.invokevirtual 21, 3) := by decide +kernel
theorem dL_refuses_266 : decode cL_refuses 266 = .ok (.iconst (-1), 1) := by decide +kernel
theorem dL_refuses_267 : decode cL_refuses 267 = .ok (.if_icmp .ne 120, 3) := by decide +kernel
theorem dL_refuses_270 : decode cL_refuses 270 = .ok (.aload_n 0, 1) := by decide +kernel
theorem dL_refuses_271 : decode cL_refuses 271 = .ok (.bipush 10, 2) := by decide +kernel
theorem dL_refuses_273 : decode cL_refuses 273 = .ok (.invokevirtual 17, 3) := by decide +kernel
theorem dL_refuses_276 : decode cL_refuses 276 = .ok (.iconst (-1), 1) := by decide +kernel
theorem dL_refuses_277 : decode cL_refuses 277 = .ok (.if_icmp .ne 110, 3) := by decide +kernel
theorem dL_refuses_280 : decode cL_refuses 280 = .ok (.aload_n 0, 1) := by decide +kernel
theorem dL_refuses_281 : decode cL_refuses 281 = .ok (.iload_n 1, 1) := by decide +kernel
theorem dL_refuses_282 : decode cL_refuses 282 = .ok (.iconst 0, 1) := by decide +kernel
theorem dL_refuses_283 : decode cL_refuses 283 = .ok (.invokevirtual 24, 3) := by decide +kernel
theorem dL_refuses_286 : decode cL_refuses 286 = .ok (.iconst (-1), 1) := by decide +kernel
theorem dL_refuses_287 : decode cL_refuses 287 = .ok (.if_icmp .ne 100, 3) := by decide +kernel
theorem dL_refuses_290 : decode cL_refuses 290 = .ok (.aload_n 0, 1) := by decide +kernel
theorem dL_refuses_291 : decode cL_refuses 291 = .ok (.iconst 0, 1) := by decide +kernel
theorem dL_refuses_292 : decode cL_refuses 292 = .ok (.iconst (-1), 1) := by decide +kernel
theorem dL_refuses_293 : decode cL_refuses 293 = .ok (.iconst 0, 1) := by decide +kernel
theorem dL_refuses_294 : decode cL_refuses 294 = .ok (.invokevirtual 9, 3) := by decide +kernel
theorem dL_refuses_297 : decode cL_refuses 297 = .ok (.iconst (-1), 1) := by decide +kernel
theorem dL_refuses_298 : decode cL_refuses 298 = .ok (.if_icmp .ne 89, 3) := by decide +kernel
theorem dL_refuses_301 : decode cL_refuses 301 = .ok (.aload_n 0, 1) := by decide +kernel
theorem dL_refuses_302 : decode cL_refuses 302 = .ok (.iconst 0, 1) := by decide +kernel
theorem dL_refuses_303 : decode cL_refuses 303 = .ok (.iconst 0, 1) := by decide +kernel
theorem dL_refuses_304 : decode cL_refuses 304 = .ok (.bipush 6, 2) := by decide +kernel
theorem dL_refuses_306 : decode cL_refuses 306 = .ok (.invokevirtual 9, 3) := by decide +kernel
theorem dL_refuses_309 : decode cL_refuses 309 = .ok (.iconst (-1), 1) := by decide +kernel
theorem dL_refuses_310 : decode cL_refuses 310 = .ok (.if_icmp .ne 77, 3) := by decide +kernel
theorem dL_refuses_313 : decode cL_refuses 313 = .ok (.aload_n 0, 1) := by decide +kernel
theorem dL_refuses_314 : decode cL_refuses 314 = .ok (.iconst 0, 1) := by decide +kernel
theorem dL_refuses_315 : decode cL_refuses 315 = .ok (.iconst 5, 1) := by decide +kernel
theorem dL_refuses_316 : decode cL_refuses 316 = .ok (.invokevirtual 34, 3) := by decide +kernel
theorem dL_refuses_319 : decode cL_refuses 319 = .ok (.iconst (-1), 1) := by decide +kernel
theorem dL_refuses_320 : decode cL_refuses 320 = .ok (.if_icmp .ne 67, 3) := by decide +kernel
theorem dL_refuses_323 : decode cL_refuses 323 = .ok (.aload_n 0, 1) := by decide +kernel
theorem dL_refuses_324 : decode cL_refuses 324 = .ok (.iload_n 1, 1) := by decide +kernel
theorem dL_refuses_325 : decode cL_refuses 325 = .ok (.invokevirtual 28, 3) := by decide +kernel
theorem dL_refuses_328 : decode cL_refuses 328 = .ok (.iconst (-1), 1) := by decide +kernel
theorem dL_refuses_329 : decode cL_refuses 329 = .ok (.if_icmp .ne 58, 3) := by decide +kernel
theorem dL_refuses_332 : decode cL_refuses 332 = .ok (.aload_n 0, 1) := by decide +kernel
theorem dL_refuses_333 : decode cL_refuses 333 = .ok (.iload_n 1, 1) := by decide +kernel
theorem dL_refuses_334 : decode cL_refuses 334 = .ok (.invokevirtual 37, 3) := by decide +kernel
theorem dL_refuses_337 : decode cL_refuses 337 = .ok (.iconst (-1), 1) := by decide +kernel
theorem dL_refuses_338 : decode cL_refuses 338 = .ok (.if_icmp .ne 49, 3) := by decide +kernel
theorem dL_refuses_341 : decode cL_refuses 341 = .ok (.aload_n 0, 1) := by decide +kernel
theorem dL_refuses_342 : decode cL_refuses 342 = .ok (.iconst (-1), 1) := by decide +kernel
theorem dL_refuses_343 : decode cL_refuses 343 = .ok (.invokevirtual 40, 3) := by decide +kernel
theorem dL_refuses_346 : decode cL_refuses 346 = .ok (.iconst (-1), 1) := by decide +kernel
theorem dL_refuses_347 : decode cL_refuses 347 = .ok (.if_icmp .ne 40, 3) := by decide +kernel
theorem dL_refuses_350 : decode cL_refuses 350 = .ok (.aload_n 0, 1) := by decide +kernel
theorem dL_refuses_351 : decode cL_refuses 351 = .ok (.iconst 4, 1) := by decide +kernel
theorem dL_refuses_352 : decode cL_refuses 352 = .ok (.invokevirtual 75, 3) := by decide +kernel
theorem dL_refuses_355 : decode cL_refuses 355 = .ok (.iconst (-1), 1) := by decide +kernel
theorem dL_refuses_356 : decode cL_refuses 356 = .ok (.if_icmp .ne 31, 3) := by decide +kernel
theorem dL_refuses_359 : decode cL_refuses 359 = .ok (.aload_n 0, 1) := by decide +kernel
theorem dL_refuses_360 : decode cL_refuses 360 = .ok (.iconst 0, 1) := by decide +kernel
theorem dL_refuses_361 : decode cL_refuses 361 = .ok (.iconst 0, 1) := by decide +kernel
theorem dL_refuses_362 : decode cL_refuses 362 = .ok (.iconst 0, 1) := by decide +kernel
theorem dL_refuses_363 : decode cL_refuses 363 = .ok (.iconst 0, 1) := by decide +kernel
theorem dL_refuses_364 : decode cL_refuses 364 = .ok (.invokevirtual 78, 3) := by decide +kernel
theorem dL_refuses_367 : decode cL_refuses 367 = .ok (.iconst (-1), 1) := by decide +kernel
theorem dL_refuses_368 : decode cL_refuses 368 = .ok (.if_icmp .ne 19, 3) := by decide +kernel
theorem dL_refuses_371 : decode cL_refuses 371 = .ok (.aload_n 0, 1) := by decide +kernel
theorem dL_refuses_372 : decode cL_refuses 372 = .ok (.iconst 0, 1) := by decide +kernel
theorem dL_refuses_373 : decode cL_refuses 373 = .ok (.iconst 0, 1) := by decide +kernel
theorem dL_refuses_374 : decode cL_refuses 374 = .ok (.iconst 1, 1) := by decide +kernel
theorem dL_refuses_375 : decode cL_refuses 375 = .ok (.iconst 3, 1) := by decide +kernel
theorem dL_refuses_376 : decode cL_refuses 376 = .ok (.invokevirtual 78, 3) := by decide +kernel
theorem dL_refuses_379 : decode cL_refuses 379 = .ok (.iconst (-1), 1) := by decide +kernel
theorem dL_refuses_380 : decode cL_refuses 380 = .ok (.if_icmp .ne 7, 3) := by decide +kernel
theorem dL_refuses_383 : decode cL_refuses 383 = .ok (.iconst 1, 1) := by decide +kernel
theorem dL_refuses_384 : decode cL_refuses 384 = .ok (.goto 4, 3) := by decide +kernel
theorem dL_refuses_387 : decode cL_refuses 387 = .ok (.iconst 0, 1) := by decide +kernel
theorem dL_refuses_388 : decode cL_refuses 388 = .ok (.istore_n 3, 1) := by decide +kernel
theorem dL_refuses_389 : decode cL_refuses 389 = .ok (.iload_n 3, 1) := by decide +kernel
theorem dL_refuses_390 : decode cL_refuses 390 = .ok (.ifCond .eq 26, 3) := by decide +kernel
theorem dL_refuses_393 : decode cL_refuses 393 = .ok (.aload_n 0, 1) := by decide +kernel
theorem dL_refuses_394 : decode cL_refuses 394 = .ok (.iconst 0, 1) := by decide +kernel
theorem dL_refuses_395 : decode cL_refuses 395 = .ok (.invokevirtual 21, 3) := by decide +kernel
theorem dL_refuses_398 : decode cL_refuses 398 = .ok (.iload_n 1, 1) := by decide +kernel
theorem dL_refuses_399 : decode cL_refuses 399 = .ok (.if_icmp .ne 17, 3) := by decide +kernel
theorem dL_refuses_402 : decode cL_refuses 402 = .ok (.aload_n 0, 1) := by decide +kernel
theorem dL_refuses_403 : decode cL_refuses 403 = .ok (.bipush 14, 2) := by decide +kernel
theorem dL_refuses_405 : decode cL_refuses 405 = .ok (.invokevirtual 21, 3) := by decide +kernel
theorem dL_refuses_408 : decode cL_refuses 408 = .ok (.iload_n 2, 1) := by decide +kernel
theorem dL_refuses_409 : decode cL_refuses 409 = .ok (.if_icmp .ne 7, 3) := by decide +kernel
theorem dL_refuses_412 : decode cL_refuses 412 = .ok (.iconst 1, 1) := by decide +kernel
theorem dL_refuses_413 : decode cL_refuses 413 = .ok (.goto 4, 3) := by decide +kernel
theorem dL_refuses_416 : decode cL_refuses 416 = .ok (.iconst 0, 1) := by decide +kernel
theorem dL_refuses_417 : decode cL_refuses 417 = .ok (.ireturn, 1) := by decide +kernel
def wsL_arranges_xs : List Cond := wsX80 ++ (wsX70 ++ (wsX40 ++ (wsX10 ++ (wsX20 ++ (wsX50 ++ (wsX30))))))
set_option maxRecDepth 20000 in
def wsL_arranges_f10 : List Cond := Cond.fieldLink RX3 22 "FoldedMenu$Menu" "way" "I" :: Cond.methodLink RL 17 yX8_card :: Cond.instanceMethod yX8_card :: Cond.selects RX8 yX8_card yX8_card :: Cond.code yX8_card cX8_card 2 (some .int) :: Cond.methodLink RX8 128 yX8_sideIn :: Cond.methodLink RL 85 yL_low :: Cond.static yL_low :: Cond.initialized RL :: Cond.code yL_low cL_low 2 (some .int) :: Cond.constant RL 8 (2147483647) :: Cond.methodLink RL 88 yX8_undo :: Cond.instanceMethod yX8_undo :: Cond.selects RX8 yX8_undo yX8_undo :: Cond.code yX8_undo cX8_undo 1 (some .int) :: Cond.methodLink RX8 177 yX2_giveBack :: Cond.instanceMethod yX2_giveBack :: Cond.selects RX2 yX2_giveBack yX2_giveBack :: Cond.code yX2_giveBack cX2_giveBack 2 none :: wsL_arranges_xs
set_option maxRecDepth 20000 in
def wsL_arranges_f9 : List Cond := Cond.initialized RX2 :: Cond.code yX2_record cX2_record 2 none :: Cond.fieldLink RX2 18 "FoldedMenu$History" "size" "I" :: Cond.fieldLink RX2 12 "FoldedMenu$History" "states" "[LFoldedMenu$State;" :: Cond.methodLink RX2 22 yX2_dropOldest :: Cond.instanceMethod yX2_dropOldest :: Cond.selects RX2 yX2_dropOldest yX2_dropOldest :: Cond.code yX2_dropOldest cX2_dropOldest 3 none :: Cond.methodLink RX2 25 yX7_copyFrom :: Cond.instanceMethod yX7_copyFrom :: Cond.selects RX7 yX7_copyFrom yX7_copyFrom :: Cond.initialized RX7 :: Cond.code yX7_copyFrom cX7_copyFrom 3 none :: Cond.fieldLink RX7 12 "FoldedMenu$State" "menu" "LFoldedMenu$Menu;" :: Cond.fieldLink RX7 18 "FoldedMenu$State" "snapshots" "[LFoldedMenu$Menu;" :: Cond.fieldLink RX7 22 "FoldedMenu$State" "kept" "I" :: Cond.methodLink RX7 26 yX3_copyFrom :: Cond.instanceMethod yX3_copyFrom :: Cond.selects RX3 yX3_copyFrom yX3_copyFrom :: Cond.code yX3_copyFrom cX3_copyFrom 2 none :: Cond.methodLink RX3 25 arraycopyName :: Cond.native arraycopyName :: Cond.static arraycopyName :: Cond.initialized "java/lang/System" :: wsL_arranges_f10
set_option maxRecDepth 20000 in
def wsL_arranges_f8 : List Cond := Cond.fieldLink RX8 51 "FoldedMenu" "otherFold" "LFoldedMenu$Fold;" :: Cond.methodLink RX8 294 yX1_isBetterThan :: Cond.instanceMethod yX1_isBetterThan :: Cond.selects RX1 yX1_isBetterThan yX1_isBetterThan :: Cond.code yX1_isBetterThan cX1_isBetterThan 2 (some .boolean) :: Cond.methodLink RX1 82 yX1_isEven :: Cond.methodLink RX1 86 yX1_difference :: Cond.instanceMethod yX1_difference :: Cond.selects RX1 yX1_difference yX1_difference :: Cond.code yX1_difference cX1_difference 1 (some .int) :: Cond.methodLink RX1 90 yX1_longest :: Cond.instanceMethod yX1_longest :: Cond.selects RX1 yX1_longest yX1_longest :: Cond.code yX1_longest cX1_longest 1 (some .int) :: Cond.methodLink RX1 79 Lib.Math.max.name :: Cond.methodLink RX8 141 yX1_difference :: Cond.methodLink RX8 288 yX1_longest :: Cond.methodLink RL 82 yX8_arrange :: Cond.instanceMethod yX8_arrange :: Cond.selects RX8 yX8_arrange yX8_arrange :: Cond.code yX8_arrange cX8_arrange 1 (some .int) :: Cond.methodLink RX8 79 yX2_record :: Cond.instanceMethod yX2_record :: Cond.selects RX2 yX2_record yX2_record :: wsL_arranges_f9
set_option maxRecDepth 20000 in
def wsL_arranges_f7 : List Cond := Cond.methodLink RX8 117 yX8_inRange :: Cond.static yX8_inRange :: Cond.code yX8_inRange cX8_inRange 3 (some .boolean) :: Cond.methodLink RX8 208 yJ6_bitCount_0f7a4 :: Cond.methodLink RX8 219 yX1_fill :: Cond.instanceMethod yX1_fill :: Cond.selects RX1 yX1_fill yX1_fill :: Cond.code yX1_fill cX1_fill 1 (some .int) :: Cond.methodLink RX8 222 yX1_isEven :: Cond.instanceMethod yX1_isEven :: Cond.selects RX1 yX1_isEven yX1_isEven :: Cond.code yX1_isEven cX1_isEven 1 (some .boolean) :: Cond.methodLink RL 75 yX8_bestSides :: Cond.instanceMethod yX8_bestSides :: Cond.selects RX8 yX8_bestSides yX8_bestSides :: Cond.code yX8_bestSides cX8_bestSides 3 (some .int) :: Cond.methodLink RX8 134 yX8_findPrinted :: Cond.instanceMethod yX8_findPrinted :: Cond.selects RX8 yX8_findPrinted yX8_findPrinted :: Cond.code yX8_findPrinted cX8_findPrinted 2 none :: Cond.methodLink RX8 138 yX8_foldBestWay :: Cond.instanceMethod yX8_foldBestWay :: Cond.selects RX8 yX8_foldBestWay yX8_foldBestWay :: Cond.code yX8_foldBestWay cX8_foldBestWay 3 (some .int) :: wsL_arranges_f8
set_option maxRecDepth 20000 in
def wsL_arranges_f6 : List Cond := Cond.methodLink RX1 54 yX1_putKey :: Cond.instanceMethod yX1_putKey :: Cond.selects RX1 yX1_putKey yX1_putKey :: Cond.code yX1_putKey cX1_putKey 3 none :: Cond.methodLink RX1 58 yX1_linesOf :: Cond.instanceMethod yX1_linesOf :: Cond.selects RX1 yX1_linesOf yX1_linesOf :: Cond.code yX1_linesOf cX1_linesOf 4 (some .int) :: Cond.methodLink RX1 72 yX1_partOf :: Cond.instanceMethod yX1_partOf :: Cond.selects RX1 yX1_partOf yX1_partOf :: Cond.code yX1_partOf cX1_partOf 3 (some .int) :: Cond.methodLink RX1 69 yX1_putFill :: Cond.instanceMethod yX1_putFill :: Cond.selects RX1 yX1_putFill yX1_putFill :: Cond.code yX1_putFill cX1_putFill 3 none :: Cond.methodLink RX8 99 yX3_size :: Cond.methodLink RX8 196 yX1_linesOf :: Cond.methodLink RX8 199 yX1_weightOf :: Cond.instanceMethod yX1_weightOf :: Cond.selects RX1 yX1_weightOf yX1_weightOf :: Cond.code yX1_weightOf cX1_weightOf 2 (some .int) :: Cond.static yX8_isSide :: Cond.code yX8_isSide cX8_isSide 1 (some .boolean) :: wsL_arranges_f7
set_option maxRecDepth 20000 in
def wsL_arranges_f5 : List Cond := Cond.instanceMethod yX1_lay :: Cond.selects RX1 yX1_lay yX1_lay :: Cond.initialized RX1 :: Cond.code yX1_lay cX1_lay 5 none :: Cond.methodLink RX1 61 Lib.Math.abs.name :: Cond.static Lib.Math.abs.name :: Cond.code Lib.Math.abs.name Lib.Math.abs.code 1 (some .int) :: Cond.fieldLink RX1 66 "FoldedMenu$Fold" "gap" "I" :: Cond.methodLink RX1 23 yX1_clear :: Cond.instanceMethod yX1_clear :: Cond.selects RX1 yX1_clear yX1_clear :: Cond.code yX1_clear cX1_clear 3 none :: Cond.fieldLink RX1 11 "FoldedMenu$Fold" "parts" "[[I" :: Cond.fieldLink RX1 16 "FoldedMenu$Fold" "weights" "[I" :: Cond.fieldLink RX1 20 "FoldedMenu$Fold" "places" "[I" :: Cond.fieldLink RX1 93 "FoldedMenu$Fold" "keySide" "I" :: Cond.static yX8_sideIn :: Cond.code yX8_sideIn cX8_sideIn 2 (some .int) :: Cond.methodLink RX1 35 yX3_setting :: Cond.methodLink RX1 41 yX1_putCourse :: Cond.instanceMethod yX1_putCourse :: Cond.selects RX1 yX1_putCourse yX1_putCourse :: Cond.code yX1_putCourse cX1_putCourse 6 none :: Cond.methodLink RX1 49 yJ6_bitCount_0f7a4 :: wsL_arranges_f6
set_option maxRecDepth 20000 in
def wsL_arranges_f4 : List Cond := Cond.code yX8_digitsOf cX8_digitsOf 1 (some .int) :: Cond.methodLink RX4 70 yX4_measure :: Cond.instanceMethod yX4_measure :: Cond.selects RX4 yX4_measure yX4_measure :: Cond.code yX4_measure cX4_measure 5 none :: Cond.methodLink RX4 78 yX3_linesOf :: Cond.instanceMethod yX3_linesOf :: Cond.selects RX3 yX3_linesOf yX3_linesOf :: Cond.code yX3_linesOf cX3_linesOf 3 (some .int) :: Cond.methodLink RX3 69 yX3_textOf :: Cond.instanceMethod yX3_textOf :: Cond.selects RX3 yX3_textOf yX3_textOf :: Cond.code yX3_textOf cX3_textOf 3 (some .int) :: Cond.methodLink RX3 63 yJ6_bitCount_0f7a4 :: Cond.static yJ6_bitCount_0f7a4 :: Cond.initialized RJ6 :: Cond.code yJ6_bitCount_0f7a4 cJ6_bitCount_0f7a4 1 (some .int) :: Cond.constant RJ6 265 (1431655765) :: Cond.constant RJ6 266 (858993459) :: Cond.constant RJ6 267 (252645135) :: Cond.methodLink RX3 72 yX3_setting :: Cond.static yX8_partsOfSize :: Cond.code yX8_partsOfSize cX8_partsOfSize 2 (some .int) :: Cond.methodLink RX8 285 yX1_lay :: wsL_arranges_f5
set_option maxRecDepth 20000 in
def wsL_arranges_f3 : List Cond := Cond.selects RX3 yX3_valueOf yX3_valueOf :: Cond.code yX3_valueOf cX3_valueOf 4 (some .int) :: Cond.fieldLink RX3 9 "FoldedMenu$Menu" "values" "[I" :: Cond.methodLink RX4 34 yX3_isOffered :: Cond.instanceMethod yX3_isOffered :: Cond.selects RX3 yX3_isOffered yX3_isOffered :: Cond.code yX3_isOffered cX3_isOffered 2 (some .boolean) :: Cond.methodLink RX3 50 yX3_valueOf :: Cond.methodLink RX4 38 yX3_mayBePrinted :: Cond.instanceMethod yX3_mayBePrinted :: Cond.selects RX3 yX3_mayBePrinted yX3_mayBePrinted :: Cond.code yX3_mayBePrinted cX3_mayBePrinted 4 (some .boolean) :: Cond.methodLink RX3 57 yX3_isInSeason :: Cond.instanceMethod yX3_isInSeason :: Cond.selects RX3 yX3_isInSeason yX3_isInSeason :: Cond.code yX3_isInSeason cX3_isInSeason 3 (some .boolean) :: Cond.static yX8_has :: Cond.code yX8_has cX8_has 2 (some .boolean) :: Cond.methodLink RX3 60 yX3_suits :: Cond.instanceMethod yX3_suits :: Cond.selects RX3 yX3_suits yX3_suits :: Cond.code yX3_suits cX3_suits 3 (some .boolean) :: Cond.methodLink RX4 42 yX3_setting :: Cond.static yX8_digitsOf :: wsL_arranges_f4
set_option maxRecDepth 20000 in
def wsL_arranges_f2 : List Cond := Cond.code yX4_find cX4_find 8 none :: Cond.fieldLink RX4 9 "FoldedMenu$Printing" "dishes" "[I" :: Cond.fieldLink RX4 46 "FoldedMenu$Printing" "set" "I" :: Cond.fieldLink RX4 50 "FoldedMenu$Printing" "number" "I" :: Cond.fieldLink RX4 53 "FoldedMenu$Printing" "prices" "I" :: Cond.fieldLink RX4 56 "FoldedMenu$Printing" "allergens" "I" :: Cond.methodLink RX4 59 Lib.Math.max.name :: Cond.static Lib.Math.max.name :: Cond.initialized "java/lang/Math" :: Cond.code Lib.Math.max.name Lib.Math.max.code 2 (some .int) :: Cond.fieldLink RX4 67 "FoldedMenu$Printing" "column" "I" :: Cond.methodLink RX4 21 yX4_clear :: Cond.instanceMethod yX4_clear :: Cond.selects RX4 yX4_clear yX4_clear :: Cond.code yX4_clear cX4_clear 2 none :: Cond.fieldLink RX4 15 "FoldedMenu$Printing" "lines" "[I" :: Cond.fieldLink RX4 18 "FoldedMenu$Printing" "weights" "[I" :: Cond.methodLink RX4 24 yX3_size :: Cond.instanceMethod yX3_size :: Cond.selects RX3 yX3_size yX3_size :: Cond.code yX3_size cX3_size 1 (some .int) :: Cond.fieldLink RX3 18 "FoldedMenu$Menu" "dishes" "I" :: Cond.methodLink RX4 30 yX3_valueOf :: Cond.instanceMethod yX3_valueOf :: wsL_arranges_f3
set_option maxRecDepth 20000 in
def wsL_arranges_f1 : List Cond := Cond.methodLink RL 21 yX8_count :: Cond.instanceMethod yX8_count :: Cond.selects RX8 yX8_count yX8_count :: Cond.initialized RX8 :: Cond.code yX8_count cX8_count 2 (some .int) :: Cond.fieldLink RX8 10 "FoldedMenu" "state" "LFoldedMenu$State;" :: Cond.fieldLink RX8 40 "FoldedMenu" "printing" "LFoldedMenu$Printing;" :: Cond.fieldLink RX8 47 "FoldedMenu" "fold" "LFoldedMenu$Fold;" :: Cond.fieldLink RX8 19 "FoldedMenu" "history" "LFoldedMenu$History;" :: Cond.fieldLink RX8 33 "FoldedMenu" "reader" "LFoldedMenu$Reader;" :: Cond.methodLink RX8 193 yX8_layCard :: Cond.instanceMethod yX8_layCard :: Cond.selects RX8 yX8_layCard yX8_layCard :: Cond.code yX8_layCard cX8_layCard 1 none :: Cond.methodLink RX8 109 yX3_setting :: Cond.instanceMethod yX3_setting :: Cond.selects RX3 yX3_setting yX3_setting :: Cond.initialized RX3 :: Cond.code yX3_setting cX3_setting 2 (some .int) :: Cond.fieldLink RX3 15 "FoldedMenu$Menu" "settings" "[I" :: Cond.methodLink RX8 282 yX4_find :: Cond.instanceMethod yX4_find :: Cond.selects RX4 yX4_find yX4_find :: Cond.initialized RX4 :: wsL_arranges_f2
set_option maxRecDepth 20000 in
theorem wsL_arranges_e10 : wsL_arranges_f10 = wsL_arranges_r10 ++ wsL_arranges_xs := rfl
set_option maxRecDepth 20000 in
theorem wsL_arranges_e9 : wsL_arranges_f9 = wsL_arranges_r9 ++ wsL_arranges_f10 := rfl
set_option maxRecDepth 20000 in
theorem wsL_arranges_e8 : wsL_arranges_f8 = wsL_arranges_r8 ++ wsL_arranges_f9 := rfl
set_option maxRecDepth 20000 in
theorem wsL_arranges_e7 : wsL_arranges_f7 = wsL_arranges_r7 ++ wsL_arranges_f8 := rfl
set_option maxRecDepth 20000 in
theorem wsL_arranges_e6 : wsL_arranges_f6 = wsL_arranges_r6 ++ wsL_arranges_f7 := rfl
set_option maxRecDepth 20000 in
theorem wsL_arranges_e5 : wsL_arranges_f5 = wsL_arranges_r5 ++ wsL_arranges_f6 := rfl
set_option maxRecDepth 20000 in
theorem wsL_arranges_e4 : wsL_arranges_f4 = wsL_arranges_r4 ++ wsL_arranges_f5 := rfl
set_option maxRecDepth 20000 in
theorem wsL_arranges_e3 : wsL_arranges_f3 = wsL_arranges_r3 ++ wsL_arranges_f4 := rfl
set_option maxRecDepth 20000 in
theorem wsL_arranges_e2 : wsL_arranges_f2 = wsL_arranges_r2 ++ wsL_arranges_f3 := rfl
set_option maxRecDepth 20000 in
theorem wsL_arranges_e1 : wsL_arranges_f1 = wsL_arranges_r1 ++ wsL_arranges_f2 := rfl
def wsL_arranges_f0 : List Cond := .code yL_arranges cL_arranges 9 (some .boolean) :: wsL_arranges_f1
theorem wsL_arranges_eq : wsL_arranges = wsL_arranges_f0 := by
  unfold wsL_arranges wsL_arranges_f0
  rw [wsL_arranges_e1, wsL_arranges_e2, wsL_arranges_e3, wsL_arranges_e4, wsL_arranges_e5, wsL_arranges_e6, wsL_arranges_e7, wsL_arranges_e8, wsL_arranges_e9, wsL_arranges_e10]
  unfold wsL_arranges_xs
  simp only [List.append_assoc, List.append_nil]
theorem wsL_arranges_good {ws : List Cond} (h : GoodIn wsL_arranges_f0 ws) : GoodIn wsL_arranges ws := by
  rw [wsL_arranges_eq]
  exact h
set_option maxRecDepth 20000 in
theorem ggL_arranges_X8_count : GoodIn wsL_arranges wsX8_count := wsL_arranges_good (goodIn_r _ [5, 6, 7, 8, 9, 10, 11, 12, 13, 4, 14, 15, 16, 17, 18, 19, 20, 21, 22, 23, 24, 25, 26, 27, 28, 29, 30, 31, 32, 33, 34, 35, 36, 37, 38, 39, 40, 41, 42, 43, 44, 45, 46, 47, 48, 49, 50, 51, 52, 53, 54, 55, 56, 57, 58, 59, 60, 61, 62, 63, 64, 65, 66, 67, 68, 69, 70, 71, 72, 73, 74, 75, 76, 77, 78, 79, 80, 81, 82, 83, 84, 85, 86, 87, 88, 89, 90, 91, 92, 93, 94, 95, 96, 97, 98, 99, 100, 101, 102, 103, 104, 105, 106, 107, 108, 109, 110, 111, 112, 113, 114, 115, 116, 117, 118, 119, 120, 121, 122, 123, 124, 125, 126, 127, 128, 129, 130, 131, 132, 133, 134, 135, 136, 137, 138, 139, 140, 141, 142, 143, 144, 145, 146, 147, 148, 149, 150, 151, 152, 153, 154, 155, 156, 236, 237, 238, 239, 240, 241, 242, 243, 244, 245, 246, 247, 248, 249, 250, 251, 252, 253, 254, 255, 256, 257, 258, 259, 260, 261, 262, 263, 264, 265, 266, 267, 268, 269, 270, 271] (by decide +kernel) (by decide +kernel))
set_option maxRecDepth 20000 in
theorem gL_arranges_X8_count : GoodIn wsL_arranges (wsV RL 21 RX8 yX8_count wsX8_count) := goodIn_app (goodIn_of _ (by decide +kernel)) ggL_arranges_X8_count
set_option maxRecDepth 20000 in
theorem ggL_arranges_X8_bestSides : GoodIn wsL_arranges wsX8_bestSides := wsL_arranges_good (goodIn_r _ [160, 6, 8, 145, 146, 4, 147, 161, 162, 163, 164, 7, 15, 16, 17, 18, 19, 20, 21, 22, 23, 24, 25, 26, 27, 28, 29, 30, 31, 32, 33, 34, 35, 36, 37, 38, 39, 40, 41, 42, 43, 44, 45, 46, 47, 48, 49, 50, 51, 52, 53, 54, 55, 56, 57, 58, 59, 60, 61, 62, 63, 64, 65, 66, 67, 68, 69, 70, 71, 72, 73, 74, 75, 76, 77, 78, 79, 80, 81, 82, 83, 84, 85, 86, 87, 88, 89, 90, 91, 92, 93, 94, 95, 165, 166, 167, 168, 169, 96, 97, 98, 99, 100, 101, 102, 103, 104, 105, 106, 107, 108, 109, 110, 111, 112, 113, 114, 115, 116, 117, 118, 119, 120, 121, 122, 123, 124, 125, 126, 127, 128, 129, 130, 131, 132, 133, 134, 135, 136, 170, 171, 172, 173, 174, 154, 155, 156, 175, 176, 177, 178, 179, 180, 181, 182, 183, 184, 185, 153, 236, 237, 238, 239, 240, 241, 242, 243, 244, 245, 246, 247, 268, 269, 270, 271, 248, 249, 250, 251, 252, 253, 254, 255, 256, 257, 258, 259, 260] (by decide +kernel) (by decide +kernel))
set_option maxRecDepth 20000 in
theorem gL_arranges_X8_bestSides : GoodIn wsL_arranges (wsV RL 75 RX8 yX8_bestSides wsX8_bestSides) := goodIn_app (goodIn_of _ (by decide +kernel)) ggL_arranges_X8_bestSides
set_option maxRecDepth 20000 in
theorem ggL_arranges_X8_arrange : GoodIn wsL_arranges wsX8_arrange := wsL_arranges_good (goodIn_r _ [189, 9, 6, 8, 190, 191, 192, 193, 194, 195, 196, 197, 198, 199, 200, 201, 202, 203, 204, 205, 206, 207, 208, 209, 210, 211, 18, 212, 51, 213, 214, 215, 216, 20, 46, 217, 161, 162, 163, 4, 164, 7, 15, 16, 17, 19, 21, 22, 23, 24, 25, 26, 27, 28, 29, 30, 31, 32, 33, 34, 35, 36, 37, 38, 39, 40, 41, 42, 43, 44, 45, 47, 48, 49, 50, 52, 53, 54, 55, 56, 57, 58, 59, 60, 61, 62, 63, 64, 65, 66, 67, 68, 69, 70, 71, 72, 73, 74, 75, 76, 77, 78, 79, 80, 81, 82, 83, 84, 85, 86, 87, 88, 89, 90, 91, 92, 93, 94, 95, 165, 166, 167, 168, 169, 96, 97, 98, 99, 100, 101, 102, 103, 104, 105, 106, 107, 108, 109, 110, 111, 112, 113, 114, 115, 116, 117, 118, 119, 120, 121, 122, 123, 124, 125, 126, 127, 128, 129, 130, 131, 132, 133, 134, 135, 136, 170, 171, 172, 173, 174, 154, 155, 156, 175, 176, 177, 178, 179, 180, 181, 182, 183, 184, 236, 237, 238, 239, 240, 241, 242, 243, 244, 245, 246, 247, 268, 269, 270, 271, 261, 262, 248, 249, 250, 251, 252, 253, 254, 255, 256, 257, 258, 259, 260] (by decide +kernel) (by decide +kernel))
set_option maxRecDepth 20000 in
theorem gL_arranges_X8_arrange : GoodIn wsL_arranges (wsV RL 82 RX8 yX8_arrange wsX8_arrange) := goodIn_app (goodIn_of _ (by decide +kernel)) ggL_arranges_X8_arrange
set_option maxRecDepth 20000 in
theorem ggL_arranges_X8_card : GoodIn wsL_arranges wsX8_card := wsL_arranges_good (goodIn_r _ [221, 6, 145, 146, 4, 147, 15, 16, 17, 18, 19, 20, 222, 113, 114, 236, 237, 238, 239, 240, 241, 242, 243, 244, 245, 246, 247, 268, 269, 270, 271] (by decide +kernel) (by decide +kernel))
set_option maxRecDepth 20000 in
theorem gL_arranges_X8_card : GoodIn wsL_arranges (wsV RL 17 RX8 yX8_card wsX8_card) := goodIn_app (goodIn_of _ (by decide +kernel)) ggL_arranges_X8_card
set_option maxRecDepth 20000 in
theorem ggL_arranges_L_low : GoodIn wsL_arranges wsL_low := wsL_arranges_good (goodIn_r _ [226, 227] (by decide +kernel) (by decide +kernel))
set_option maxRecDepth 20000 in
theorem gL_arranges_L_low : GoodIn wsL_arranges (va_wsS RL 85 yL_low wsL_low) := goodIn_app (goodIn_of _ (by decide +kernel)) ggL_arranges_L_low
set_option maxRecDepth 20000 in
theorem ggL_arranges_X8_undo : GoodIn wsL_arranges wsX8_undo := wsL_arranges_good (goodIn_r _ [231, 9, 6, 232, 233, 234, 193, 235, 195, 196, 201, 202, 203, 204, 205, 206, 207, 208, 209, 210, 211, 18, 212, 51, 213, 214, 215, 216, 20, 46, 217, 236, 237, 238, 239, 240, 241, 242, 243, 244, 261, 262, 245, 246, 247, 268, 269, 270, 271] (by decide +kernel) (by decide +kernel))
set_option maxRecDepth 20000 in
theorem gL_arranges_X8_undo : GoodIn wsL_arranges (wsV RL 88 RX8 yX8_undo wsX8_undo) := goodIn_app (goodIn_of _ (by decide +kernel)) ggL_arranges_X8_undo
theorem dL_arranges_0 : decode cL_arranges 0 = .ok (.aload_n 0, 1) := by decide +kernel
theorem dL_arranges_1 : decode cL_arranges 1 = .ok (.iconst 4, 1) := by decide +kernel
theorem dL_arranges_2 : decode cL_arranges 2 = .ok (.invokevirtual 21, 3) := by decide +kernel
theorem dL_arranges_5 : decode cL_arranges 5 = .ok (.aload_n 0, 1) := by decide +kernel
theorem dL_arranges_6 : decode cL_arranges 6 = .ok (.iconst 5, 1) := by decide +kernel
theorem dL_arranges_7 : decode cL_arranges 7 = .ok (.invokevirtual 21, 3) := by decide +kernel
theorem dL_arranges_10 : decode cL_arranges 10 = .ok (.if_icmp .le 17, 3) := by decide +kernel
theorem dL_arranges_13 : decode cL_arranges 13 = .ok (.aload_n 0, 1) := by decide +kernel
theorem dL_arranges_14 : decode cL_arranges 14 = .ok (.iconst 4, 1) := by decide +kernel
theorem dL_arranges_15 : decode cL_arranges 15 = .ok (.invokevirtual 21, 3) := by decide +kernel
theorem dL_arranges_18 : decode cL_arranges 18 = .ok (.aload_n 0, 1) := by decide +kernel
theorem dL_arranges_19 : decode cL_arranges 19 = .ok (.iconst 5, 1) := by decide +kernel
theorem dL_arranges_20 : decode cL_arranges 20 = .ok (.invokevirtual 21, 3) := by decide +kernel
theorem dL_arranges_23 : decode cL_arranges 23 = .ok (.isub, 1) := by decide +kernel
theorem dL_arranges_24 : decode cL_arranges 24 = .ok (.goto 14, 3) := by decide +kernel
theorem dL_arranges_27 : decode cL_arranges 27 = .ok (.aload_n 0, 1) := by decide +kernel
theorem dL_arranges_28 : decode cL_arranges 28 = .ok (.iconst 5, 1) := by decide +kernel
theorem dL_arranges_29 : decode cL_arranges 29 = .ok (.invokevirtual 21, 3) := by decide +kernel
theorem dL_arranges_32 : decode cL_arranges 32 = .ok (.aload_n 0, 1) := by decide +kernel
theorem dL_arranges_33 : decode cL_arranges 33 = .ok (.iconst 4, 1) := by decide +kernel
theorem dL_arranges_34 : decode cL_arranges 34 = .ok (.invokevirtual 21, 3) := by decide +kernel
theorem dL_arranges_37 : decode cL_arranges 37 = .ok (.isub, 1) := by decide +kernel
theorem dL_arranges_38 : decode cL_arranges 38 = .ok (.istore_n 2, 1) := by decide +kernel
theorem dL_arranges_39 : decode cL_arranges 39 = .ok (.aload_n 0, 1) := by decide +kernel
theorem dL_arranges_40 : decode cL_arranges 40 = .ok (.iconst 0, 1) := by decide +kernel
theorem dL_arranges_41 : decode cL_arranges 41 = .ok (.invokevirtual 75, 3) := by decide +kernel
theorem dL_arranges_44 : decode cL_arranges 44 = .ok (.istore_n 3, 1) := by decide +kernel
theorem dL_arranges_45 : decode cL_arranges 45 = .ok (.aload_n 0, 1) := by decide +kernel
theorem dL_arranges_46 : decode cL_arranges 46 = .ok (.iconst 1, 1) := by decide +kernel
theorem dL_arranges_47 : decode cL_arranges 47 = .ok (.invokevirtual 75, 3) := by decide +kernel
theorem dL_arranges_50 : decode cL_arranges 50 = .ok (.istore 4, 2) := by decide +kernel
theorem dL_arranges_52 : decode cL_arranges 52 = .ok (.aload_n 0, 1) := by decide +kernel
theorem dL_arranges_53 : decode cL_arranges 53 = .ok (.iconst 3, 1) := by decide +kernel
theorem dL_arranges_54 : decode cL_arranges 54 = .ok (.invokevirtual 75, 3) := by decide +kernel
theorem dL_arranges_57 : decode cL_arranges 57 = .ok (.istore 5, 2) := by decide +kernel
theorem dL_arranges_59 : decode cL_arranges 59 = .ok (.aload_n 0, 1) := by decide +kernel
theorem dL_arranges_60 : decode cL_arranges 60 = .ok (.iconst 2, 1) := by decide +kernel
theorem dL_arranges_61 : decode cL_arranges 61 = .ok (.invokevirtual 75, 3) := by decide +kernel
theorem dL_arranges_64 : decode cL_arranges 64 = .ok (.istore 6, 2) := by decide +kernel
theorem dL_arranges_66 : decode cL_arranges 66 = .ok (.iload 5, 2) := by decide +kernel
theorem dL_arranges_68 : decode cL_arranges 68 = .ok (.aload_n 0, 1) := by decide +kernel
theorem dL_arranges_69 : decode cL_arranges 69 = .ok (.bipush 11, 2) := by decide +kernel
theorem dL_arranges_71 : decode cL_arranges 71 = .ok (.invokevirtual 21, 3) := by decide +kernel
theorem dL_arranges_74 : decode cL_arranges 74 = .ok (.if_icmp .lt 40, 3) := by decide +kernel
theorem dL_arranges_77 : decode cL_arranges 77 = .ok (.iload 5, 2) := by decide +kernel
theorem dL_arranges_79 : decode cL_arranges 79 = .ok (.aload_n 0, 1) := by decide +kernel
theorem dL_arranges_80 : decode cL_arranges 80 = .ok (.bipush 11, 2) := by decide +kernel
theorem dL_arranges_82 : decode cL_arranges 82 = .ok (.invokevirtual 21, 3) := by decide +kernel
theorem dL_arranges_85 : decode cL_arranges 85 = .ok (.if_icmp .ne 9, 3) := by decide +kernel
theorem dL_arranges_88 : decode cL_arranges 88 = .ok (.iload 4, 2) := by decide +kernel
theorem dL_arranges_90 : decode cL_arranges 90 = .ok (.iload_n 2, 1) := by decide +kernel
theorem dL_arranges_91 : decode cL_arranges 91 = .ok (.if_icmp .gt 23, 3) := by decide +kernel
theorem dL_arranges_94 : decode cL_arranges 94 = .ok (.aload_n 0, 1) := by decide +kernel
theorem dL_arranges_95 : decode cL_arranges 95 = .ok (.invokevirtual 82, 3) := by decide +kernel
theorem dL_arranges_98 : decode cL_arranges 98 = .ok (.iload 4, 2) := by decide +kernel
theorem dL_arranges_100 : decode cL_arranges 100 = .ok (.if_icmp .ne 14, 3) := by decide +kernel
theorem dL_arranges_103 : decode cL_arranges 103 = .ok (.aload_n 0, 1) := by decide +kernel
theorem dL_arranges_104 : decode cL_arranges 104 = .ok (.bipush 11, 2) := by decide +kernel

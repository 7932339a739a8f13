theorem dL_chooses_111 : decode cL_chooses 111 = .ok (.iand, 1) := by decide +kernel
theorem dL_chooses_112 : decode cL_chooses 112 = .ok (.iconst 1, 1) := by decide +kernel
theorem dL_chooses_113 : decode cL_chooses 113 = .ok (.if_icmp .ne 7, 3) := by decide +kernel
theorem dL_chooses_116 : decode cL_chooses 116 = .ok (.iconst 1, 1) := by decide +kernel
theorem dL_chooses_117 : decode cL_chooses 117 = .ok (.goto 4, 3) := by decide +kernel
theorem dL_chooses_120 : decode cL_chooses 120 = .ok (.iconst 0, 1) := by decide +kernel
theorem dL_chooses_121 : decode cL_chooses 121 = .ok (.istore 9, 2) := by decide +kernel
theorem dL_chooses_123 : decode cL_chooses 123 = .ok (.iload 7, 2) := by decide +kernel
theorem dL_chooses_125 : decode cL_chooses 125 = .ok (.iload 9, 2) := by decide +kernel
theorem dL_chooses_127 : decode cL_chooses 127 = .ok (.ifCond .eq 13, 3) := by decide +kernel
theorem dL_chooses_130 : decode cL_chooses 130 = .ok (.aload_n 0, 1) := by decide +kernel
theorem dL_chooses_131 : decode cL_chooses 131 = .ok (.iload 8, 2) := by decide +kernel
theorem dL_chooses_133 : decode cL_chooses 133 = .ok (.iconst 2, 1) := by decide +kernel
theorem dL_chooses_134 : decode cL_chooses 134 = .ok (.invokevirtual 24, 3) := by decide +kernel
theorem dL_chooses_137 : decode cL_chooses 137 = .ok (.goto 4, 3) := by decide +kernel
theorem dL_chooses_140 : decode cL_chooses 140 = .ok (.iconst 0, 1) := by decide +kernel
theorem dL_chooses_141 : decode cL_chooses 141 = .ok (.iadd, 1) := by decide +kernel
theorem dL_chooses_142 : decode cL_chooses 142 = .ok (.istore 7, 2) := by decide +kernel
theorem dL_chooses_144 : decode cL_chooses 144 = .ok (.iload 9, 2) := by decide +kernel
theorem dL_chooses_146 : decode cL_chooses 146 = .ok (.ifCond .eq 23, 3) := by decide +kernel
theorem dL_chooses_149 : decode cL_chooses 149 = .ok (.aload_n 0, 1) := by decide +kernel
theorem dL_chooses_150 : decode cL_chooses 150 = .ok (.bipush 6, 2) := by decide +kernel
theorem dL_chooses_152 : decode cL_chooses 152 = .ok (.aload_n 0, 1) := by decide +kernel
theorem dL_chooses_153 : decode cL_chooses 153 = .ok (.iload 8, 2) := by decide +kernel
theorem dL_chooses_155 : decode cL_chooses 155 = .ok (.iconst 0, 1) := by decide +kernel
theorem dL_chooses_156 : decode cL_chooses 156 = .ok (.invokevirtual 24, 3) := by decide +kernel
theorem dL_chooses_159 : decode cL_chooses 159 = .ok (.iadd, 1) := by decide +kernel
theorem dL_chooses_160 : decode cL_chooses 160 = .ok (.invokevirtual 17, 3) := by decide +kernel
theorem dL_chooses_163 : decode cL_chooses 163 = .ok (.iload_n 2, 1) := by decide +kernel
theorem dL_chooses_164 : decode cL_chooses 164 = .ok (.if_icmp .eq 5, 3) := by decide +kernel
theorem dL_chooses_167 : decode cL_chooses 167 = .ok (.iconst 0, 1) := by decide +kernel
theorem dL_chooses_168 : decode cL_chooses 168 = .ok (.ireturn, 1) := by decide +kernel
theorem dL_chooses_169 : decode cL_chooses 169 = .ok (.iinc 8 1, 3) := by decide +kernel
theorem dL_chooses_172 : decode cL_chooses 172 = .ok (.goto (-77), 3) := by decide +kernel
theorem dL_chooses_175 : decode cL_chooses 175 = .ok (.iload 7, 2) := by decide +kernel
theorem dL_chooses_177 : decode cL_chooses 177 = .ok (.iload 5, 2) := by decide +kernel
theorem dL_chooses_179 : decode cL_chooses 179 = .ok (.if_icmp .ne 30, 3) := by decide +kernel
theorem dL_chooses_182 : decode cL_chooses 182 = .ok (.aload_n 0, 1) := by decide +kernel
theorem dL_chooses_183 : decode cL_chooses 183 = .ok (.iload_n 2, 1) := by decide +kernel
theorem dL_chooses_184 : decode cL_chooses 184 = .ok (.iload_n 3, 1) := by decide +kernel
theorem dL_chooses_185 : decode cL_chooses 185 = .ok (.iload 4, 2) := by decide +kernel
theorem dL_chooses_187 : decode cL_chooses 187 = .ok (.iconst 1, 1) := by decide +kernel
theorem dL_chooses_188 : decode cL_chooses 188 = .ok (.invokevirtual 78, 3) := by decide +kernel
theorem dL_chooses_191 : decode cL_chooses 191 = .ok (.iload 5, 2) := by decide +kernel
theorem dL_chooses_193 : decode cL_chooses 193 = .ok (.if_icmp .ne 16, 3) := by decide +kernel
theorem dL_chooses_196 : decode cL_chooses 196 = .ok (.aload_n 0, 1) := by decide +kernel
theorem dL_chooses_197 : decode cL_chooses 197 = .ok (.iload_n 2, 1) := by decide +kernel
theorem dL_chooses_198 : decode cL_chooses 198 = .ok (.iload_n 3, 1) := by decide +kernel
theorem dL_chooses_199 : decode cL_chooses 199 = .ok (.iload 4, 2) := by decide +kernel
theorem dL_chooses_201 : decode cL_chooses 201 = .ok (.invokevirtual 63, 3) := by decide +kernel
theorem dL_chooses_204 : decode cL_chooses 204 = .ok (.iload 5, 2) := by decide +kernel
theorem dL_chooses_206 : decode cL_chooses 206 = .ok (.if_icmp .eq 5, 3) := by decide +kernel
theorem dL_chooses_209 : decode cL_chooses 209 = .ok (.iconst 0, 1) := by decide +kernel
theorem dL_chooses_210 : decode cL_chooses 210 = .ok (.ireturn, 1) := by decide +kernel
theorem dL_chooses_211 : decode cL_chooses 211 = .ok (.iconst 0, 1) := by decide +kernel
theorem dL_chooses_212 : decode cL_chooses 212 = .ok (.istore 8, 2) := by decide +kernel
theorem dL_chooses_214 : decode cL_chooses 214 = .ok (.iload 8, 2) := by decide +kernel
theorem dL_chooses_216 : decode cL_chooses 216 = .ok (.aload_n 0, 1) := by decide +kernel
theorem dL_chooses_217 : decode cL_chooses 217 = .ok (.iconst 0, 1) := by decide +kernel
theorem dL_chooses_218 : decode cL_chooses 218 = .ok (.invokevirtual 21, 3) := by decide +kernel
theorem dL_chooses_221 : decode cL_chooses 221 = .ok (.if_icmp .ge 59, 3) := by decide +kernel
theorem dL_chooses_224 : decode cL_chooses 224 = .ok (.iload 6, 2) := by decide +kernel
theorem dL_chooses_226 : decode cL_chooses 226 = .ok (.iload 8, 2) := by decide +kernel
theorem dL_chooses_228 : decode cL_chooses 228 = .ok (.ishr, 1) := by decide +kernel
theorem dL_chooses_229 : decode cL_chooses 229 = .ok (.iconst 1, 1) := by decide +kernel
theorem dL_chooses_230 : decode cL_chooses 230 = .ok (.iand, 1) := by decide +kernel
theorem dL_chooses_231 : decode cL_chooses 231 = .ok (.iconst 1, 1) := by decide +kernel
theorem dL_chooses_232 : decode cL_chooses 232 = .ok (.if_icmp .ne 7, 3) := by decide +kernel
theorem dL_chooses_235 : decode cL_chooses 235 = .ok (.iconst 1, 1) := by decide +kernel
theorem dL_chooses_236 : decode cL_chooses 236 = .ok (.goto 4, 3) := by decide +kernel
theorem dL_chooses_239 : decode cL_chooses 239 = .ok (.iconst 0, 1) := by decide +kernel
theorem dL_chooses_240 : decode cL_chooses 240 = .ok (.istore 9, 2) := by decide +kernel
theorem dL_chooses_242 : decode cL_chooses 242 = .ok (.iload 9, 2) := by decide +kernel
theorem dL_chooses_244 : decode cL_chooses 244 = .ok (.ifCond .eq 30, 3) := by decide +kernel
theorem dL_chooses_247 : decode cL_chooses 247 = .ok (.aload_n 0, 1) := by decide +kernel
theorem dL_chooses_248 : decode cL_chooses 248 = .ok (.iload 8, 2) := by decide +kernel
theorem dL_chooses_250 : decode cL_chooses 250 = .ok (.invokevirtual 28, 3) := by decide +kernel
theorem dL_chooses_253 : decode cL_chooses 253 = .ok (.ifCond .eq 21, 3) := by decide +kernel
theorem dL_chooses_256 : decode cL_chooses 256 = .ok (.iload 4, 2) := by decide +kernel
theorem dL_chooses_258 : decode cL_chooses 258 = .ok (.iconst 4, 1) := by decide +kernel
theorem dL_chooses_259 : decode cL_chooses 259 = .ok (.if_icmp .eq 13, 3) := by decide +kernel
theorem dL_chooses_262 : decode cL_chooses 262 = .ok (.aload_n 0, 1) := by decide +kernel
theorem dL_chooses_263 : decode cL_chooses 263 = .ok (.iload 8, 2) := by decide +kernel
theorem dL_chooses_265 : decode cL_chooses 265 = .ok (.invokevirtual 28, 3) := by decide +kernel
theorem dL_chooses_268 : decode cL_chooses 268 = .ok (.iconst 4, 1) := by decide +kernel
theorem dL_chooses_269 : decode cL_chooses 269 = .ok (.if_icmp .eq 5, 3) := by decide +kernel
theorem dL_chooses_272 : decode cL_chooses 272 = .ok (.iconst 0, 1) := by decide +kernel
theorem dL_chooses_273 : decode cL_chooses 273 = .ok (.ireturn, 1) := by decide +kernel
theorem dL_chooses_274 : decode cL_chooses 274 = .ok (.iinc 8 1, 3) := by decide +kernel
theorem dL_chooses_277 : decode cL_chooses 277 = .ok (.goto (-63), 3) := by decide +kernel
theorem dL_chooses_280 : decode cL_chooses 280 = .ok (.aload_n 0, 1) := by decide +kernel
theorem dL_chooses_281 : decode cL_chooses 281 = .ok (.iload_n 2, 1) := by decide +kernel
theorem dL_chooses_282 : decode cL_chooses 282 = .ok (.iload_n 3, 1) := by decide +kernel
theorem dL_chooses_283 : decode cL_chooses 283 = .ok (.iload 4, 2) := by decide +kernel
theorem dL_chooses_285 : decode cL_chooses 285 = .ok (.iconst 2, 1) := by decide +kernel
theorem dL_chooses_286 : decode cL_chooses 286 = .ok (.invokevirtual 78, 3) := by decide +kernel
theorem dL_chooses_289 : decode cL_chooses 289 = .ok (.iload 6, 2) := by decide +kernel
theorem dL_chooses_291 : decode cL_chooses 291 = .ok (.if_icmp .ne 25, 3) := by decide +kernel
theorem dL_chooses_294 : decode cL_chooses 294 = .ok (.iload_n 1, 1) := by decide +kernel
theorem dL_chooses_295 : decode cL_chooses 295 = .ok (.bipush 9, 2) := by decide +kernel
theorem dL_chooses_297 : decode cL_chooses 297 = .ok (.ishr, 1) := by decide +kernel
theorem dL_chooses_298 : decode cL_chooses 298 = .ok (.iconst 2, 1) := by decide +kernel
theorem dL_chooses_299 : decode cL_chooses 299 = .ok (.invokestatic 85, 3) := by decide +kernel
theorem dL_chooses_302 : decode cL_chooses 302 = .ok (.ifCond .eq 10, 3) := by decide +kernel
theorem dL_chooses_305 : decode cL_chooses 305 = .ok (.aload_n 0, 1) := by decide +kernel
theorem dL_chooses_306 : decode cL_chooses 306 = .ok (.invokevirtual 88, 3) := by decide +kernel
theorem dL_chooses_309 : decode cL_chooses 309 = .ok (.ifCond .lt 7, 3) := by decide +kernel
theorem dL_chooses_312 : decode cL_chooses 312 = .ok (.iconst 1, 1) := by decide +kernel
theorem dL_chooses_313 : decode cL_chooses 313 = .ok (.goto 4, 3) := by decide +kernel
theorem dL_chooses_316 : decode cL_chooses 316 = .ok (.iconst 0, 1) := by decide +kernel
theorem dL_chooses_317 : decode cL_chooses 317 = .ok (.ireturn, 1) := by decide +kernel
def wsL_acts_xs : List Cond := wsX80 ++ (wsX70 ++ (wsX40 ++ (wsX10 ++ (wsX20 ++ (wsX50 ++ (wsX30 ++ (wsX00)))))))
set_option maxRecDepth 20000 in
def wsL_acts_f16 : List Cond := Cond.methodLink RX8 294 yX1_isBetterThan :: Cond.instanceMethod yX1_isBetterThan :: Cond.selects RX1 yX1_isBetterThan yX1_isBetterThan :: Cond.code yX1_isBetterThan cX1_isBetterThan 2 (some .boolean) :: Cond.methodLink RX1 82 yX1_isEven :: Cond.methodLink RX1 86 yX1_difference :: Cond.instanceMethod yX1_difference :: Cond.selects RX1 yX1_difference yX1_difference :: Cond.code yX1_difference cX1_difference 1 (some .int) :: Cond.methodLink RX1 90 yX1_longest :: Cond.instanceMethod yX1_longest :: Cond.selects RX1 yX1_longest yX1_longest :: Cond.code yX1_longest cX1_longest 1 (some .int) :: Cond.methodLink RX1 79 Lib.Math.max.name :: Cond.methodLink RX8 141 yX1_difference :: Cond.methodLink RX8 288 yX1_longest :: Cond.methodLink RL 82 yX8_arrange :: Cond.instanceMethod yX8_arrange :: Cond.selects RX8 yX8_arrange yX8_arrange :: Cond.code yX8_arrange cX8_arrange 1 (some .int) :: wsL_acts_xs
set_option maxRecDepth 20000 in
def wsL_acts_f15 : List Cond := Cond.instanceMethod yX8_restore :: Cond.selects RX8 yX8_restore yX8_restore :: Cond.code yX8_restore cX8_restore 2 (some .int) :: Cond.methodLink RX8 169 yX7_isKept :: Cond.instanceMethod yX7_isKept :: Cond.selects RX7 yX7_isKept yX7_isKept :: Cond.code yX7_isKept cX7_isKept 2 (some .boolean) :: Cond.methodLink RX8 172 yX7_bringBack :: Cond.instanceMethod yX7_bringBack :: Cond.selects RX7 yX7_bringBack yX7_bringBack :: Cond.code yX7_bringBack cX7_bringBack 2 none :: Cond.methodLink RX7 38 yX7_isKept :: Cond.methodLink RL 91 yL_arranges :: Cond.static yL_arranges :: Cond.code yL_arranges cL_arranges 9 (some .boolean) :: Cond.methodLink RL 75 yX8_bestSides :: Cond.instanceMethod yX8_bestSides :: Cond.selects RX8 yX8_bestSides yX8_bestSides :: Cond.code yX8_bestSides cX8_bestSides 3 (some .int) :: Cond.methodLink RX8 138 yX8_foldBestWay :: Cond.instanceMethod yX8_foldBestWay :: Cond.selects RX8 yX8_foldBestWay yX8_foldBestWay :: Cond.code yX8_foldBestWay cX8_foldBestWay 3 (some .int) :: Cond.fieldLink RX8 51 "FoldedMenu" "otherFold" "LFoldedMenu$Fold;" :: wsL_acts_f16
set_option maxRecDepth 20000 in
def wsL_acts_f14 : List Cond := Cond.instanceMethod yX8_setSide :: Cond.selects RX8 yX8_setSide yX8_setSide :: Cond.code yX8_setSide cX8_setSide 4 (some .int) :: Cond.methodLink RX8 121 yX8_isSide :: Cond.methodLink RX8 131 yX3_putCourse :: Cond.instanceMethod yX3_putCourse :: Cond.selects RX3 yX3_putCourse yX3_putCourse :: Cond.code yX3_putCourse cX3_putCourse 3 none :: Cond.methodLink RL 66 yX8_take :: Cond.instanceMethod yX8_take :: Cond.selects RX8 yX8_take yX8_take :: Cond.code yX8_take cX8_take 2 (some .int) :: Cond.methodLink RX8 160 yX8_isSlot :: Cond.static yX8_isSlot :: Cond.code yX8_isSlot cX8_isSlot 1 (some .boolean) :: Cond.methodLink RX8 163 yX7_keep :: Cond.instanceMethod yX7_keep :: Cond.selects RX7 yX7_keep yX7_keep :: Cond.code yX7_keep cX7_keep 2 none :: Cond.methodLink RX8 134 yX8_findPrinted :: Cond.instanceMethod yX8_findPrinted :: Cond.selects RX8 yX8_findPrinted yX8_findPrinted :: Cond.code yX8_findPrinted cX8_findPrinted 2 none :: Cond.methodLink RL 69 yX8_restore :: wsL_acts_f15
set_option maxRecDepth 20000 in
def wsL_acts_f13 : List Cond := Cond.selects RX8 yX8_undo yX8_undo :: Cond.code yX8_undo cX8_undo 1 (some .int) :: Cond.methodLink RX8 177 yX2_giveBack :: Cond.instanceMethod yX2_giveBack :: Cond.selects RX2 yX2_giveBack yX2_giveBack :: Cond.code yX2_giveBack cX2_giveBack 2 none :: Cond.methodLink RL 54 yX8_setDish :: Cond.instanceMethod yX8_setDish :: Cond.selects RX8 yX8_setDish yX8_setDish :: Cond.code yX8_setDish cX8_setDish 5 (some .int) :: Cond.methodLink RL 57 yX8_setCard :: Cond.instanceMethod yX8_setCard :: Cond.selects RX8 yX8_setCard yX8_setCard :: Cond.code yX8_setCard cX8_setCard 4 (some .int) :: Cond.methodLink RX8 106 yX8_isCardValue :: Cond.static yX8_isCardValue :: Cond.code yX8_isCardValue cX8_isCardValue 2 (some .boolean) :: Cond.fieldLink RX8 322 "FoldedMenu" "CARD_LOW" "[I" :: Cond.fieldLink RX8 325 "FoldedMenu" "CARD_HIGH" "[I" :: Cond.methodLink RX8 113 yX3_changeSetting :: Cond.instanceMethod yX3_changeSetting :: Cond.selects RX3 yX3_changeSetting yX3_changeSetting :: Cond.code yX3_changeSetting cX3_changeSetting 3 none :: Cond.methodLink RL 60 yX8_setSide :: wsL_acts_f14
set_option maxRecDepth 20000 in
def wsL_acts_f12 : List Cond := Cond.methodLink RX0 97 yX3_linesOf :: Cond.methodLink RX0 65 yX1_partOf :: Cond.methodLink RX8 298 yX0_blockOfDish :: Cond.instanceMethod yX0_blockOfDish :: Cond.selects RX0 yX0_blockOfDish yX0_blockOfDish :: Cond.code yX0_blockOfDish cX0_blockOfDish 3 (some .int) :: Cond.methodLink RX8 254 yX0_startOf :: Cond.instanceMethod yX0_startOf :: Cond.selects RX0 yX0_startOf yX0_startOf :: Cond.code yX0_startOf cX0_startOf 2 (some .int) :: Cond.methodLink RX0 72 yX0_isBlock :: Cond.instanceMethod yX0_isBlock :: Cond.selects RX0 yX0_isBlock yX0_isBlock :: Cond.code yX0_isBlock cX0_isBlock 2 (some .boolean) :: Cond.methodLink RL 51 yX8_removeDish :: Cond.instanceMethod yX8_removeDish :: Cond.selects RX8 yX8_removeDish yX8_removeDish :: Cond.code yX8_removeDish cX8_removeDish 2 (some .int) :: Cond.methodLink RX8 95 yX3_drop :: Cond.instanceMethod yX3_drop :: Cond.selects RX3 yX3_drop yX3_drop :: Cond.code yX3_drop cX3_drop 3 none :: Cond.methodLink RL 88 yX8_undo :: Cond.instanceMethod yX8_undo :: wsL_acts_f13
set_option maxRecDepth 20000 in
def wsL_acts_f11 : List Cond := Cond.fieldLink RX0 31 "FoldedMenu$Blocks" "place" "I" :: Cond.methodLink RX0 48 yX0_leaveFill :: Cond.instanceMethod yX0_leaveFill :: Cond.selects RX0 yX0_leaveFill yX0_leaveFill :: Cond.code yX0_leaveFill cX0_leaveFill 3 none :: Cond.methodLink RX0 100 yX1_fillAt :: Cond.instanceMethod yX1_fillAt :: Cond.selects RX1 yX1_fillAt yX1_fillAt :: Cond.code yX1_fillAt cX1_fillAt 5 (some .int) :: Cond.methodLink RX0 52 yX0_put :: Cond.instanceMethod yX0_put :: Cond.selects RX0 yX0_put yX0_put :: Cond.code yX0_put cX0_put 4 none :: Cond.fieldLink RX0 11 "FoldedMenu$Blocks" "kinds" "[I" :: Cond.fieldLink RX0 15 "FoldedMenu$Blocks" "numbers" "[I" :: Cond.fieldLink RX0 18 "FoldedMenu$Blocks" "starts" "[I" :: Cond.fieldLink RX0 21 "FoldedMenu$Blocks" "sizes" "[I" :: Cond.methodLink RX0 56 yX0_layDishes :: Cond.instanceMethod yX0_layDishes :: Cond.selects RX0 yX0_layDishes yX0_layDishes :: Cond.code yX0_layDishes cX0_layDishes 7 none :: Cond.methodLink RX0 76 yX3_size :: Cond.methodLink RX0 87 yX3_valueOf :: Cond.methodLink RX0 90 yX3_setting :: wsL_acts_f12
set_option maxRecDepth 20000 in
def wsL_acts_f10 : List Cond := Cond.methodLink RX3 35 yX3_hasDish :: Cond.instanceMethod yX3_hasDish :: Cond.selects RX3 yX3_hasDish yX3_hasDish :: Cond.code yX3_hasDish cX3_hasDish 2 (some .boolean) :: Cond.methodLink RL 24 yX8_dish :: Cond.instanceMethod yX8_dish :: Cond.selects RX8 yX8_dish yX8_dish :: Cond.code yX8_dish cX8_dish 4 (some .int) :: Cond.methodLink RX8 91 yX3_hasDish :: Cond.methodLink RX8 102 yX3_valueOf :: Cond.methodLink RX8 233 yX8_has :: Cond.methodLink RX8 236 yX3_linesOf :: Cond.methodLink RX8 238 yX8_firstLineOf :: Cond.instanceMethod yX8_firstLineOf :: Cond.selects RX8 yX8_firstLineOf yX8_firstLineOf :: Cond.code yX8_firstLineOf cX8_firstLineOf 3 (some .int) :: Cond.fieldLink RX8 57 "FoldedMenu" "blocks" "LFoldedMenu$Blocks;" :: Cond.methodLink RX8 241 yX0_lay :: Cond.instanceMethod yX0_lay :: Cond.selects RX0 yX0_lay yX0_lay :: Cond.initialized RX0 :: Cond.code yX0_lay cX0_lay 6 none :: Cond.fieldLink RX0 24 "FoldedMenu$Blocks" "blockCount" "I" :: Cond.fieldLink RX0 28 "FoldedMenu$Blocks" "end" "I" :: wsL_acts_f11
set_option maxRecDepth 20000 in
def wsL_acts_f9 : List Cond := Cond.selects RX7 yX7_copyFrom yX7_copyFrom :: Cond.initialized RX7 :: Cond.code yX7_copyFrom cX7_copyFrom 3 none :: Cond.fieldLink RX7 12 "FoldedMenu$State" "menu" "LFoldedMenu$Menu;" :: Cond.fieldLink RX7 18 "FoldedMenu$State" "snapshots" "[LFoldedMenu$Menu;" :: Cond.fieldLink RX7 22 "FoldedMenu$State" "kept" "I" :: Cond.methodLink RX7 26 yX3_copyFrom :: Cond.instanceMethod yX3_copyFrom :: Cond.selects RX3 yX3_copyFrom yX3_copyFrom :: Cond.code yX3_copyFrom cX3_copyFrom 2 none :: Cond.methodLink RX3 25 arraycopyName :: Cond.native arraycopyName :: Cond.static arraycopyName :: Cond.initialized "java/lang/System" :: Cond.fieldLink RX3 22 "FoldedMenu$Menu" "way" "I" :: Cond.methodLink RX8 83 yX3_addOffered :: Cond.instanceMethod yX3_addOffered :: Cond.selects RX3 yX3_addOffered yX3_addOffered :: Cond.code yX3_addOffered cX3_addOffered 1 (some .int) :: Cond.methodLink RX3 43 yX3_isFull :: Cond.methodLink RX8 87 yX3_change :: Cond.instanceMethod yX3_change :: Cond.selects RX3 yX3_change yX3_change :: Cond.code yX3_change cX3_change 4 none :: wsL_acts_f10
set_option maxRecDepth 20000 in
def wsL_acts_f8 : List Cond := Cond.selects RX8 yX8_addDish yX8_addDish :: Cond.code yX8_addDish cX8_addDish 8 (some .int) :: Cond.methodLink RX8 68 yX8_isDishValue :: Cond.static yX8_isDishValue :: Cond.code yX8_isDishValue cX8_isDishValue 2 (some .boolean) :: Cond.fieldLink RX8 315 "FoldedMenu" "DISH_LOW" "[I" :: Cond.fieldLink RX8 319 "FoldedMenu" "DISH_HIGH" "[I" :: Cond.methodLink RX8 75 yX3_isFull :: Cond.instanceMethod yX3_isFull :: Cond.selects RX3 yX3_isFull yX3_isFull :: Cond.code yX3_isFull cX3_isFull 1 (some .boolean) :: Cond.methodLink RX8 79 yX2_record :: Cond.instanceMethod yX2_record :: Cond.selects RX2 yX2_record yX2_record :: Cond.initialized RX2 :: Cond.code yX2_record cX2_record 2 none :: Cond.fieldLink RX2 18 "FoldedMenu$History" "size" "I" :: Cond.fieldLink RX2 12 "FoldedMenu$History" "states" "[LFoldedMenu$State;" :: Cond.methodLink RX2 22 yX2_dropOldest :: Cond.instanceMethod yX2_dropOldest :: Cond.selects RX2 yX2_dropOldest yX2_dropOldest :: Cond.code yX2_dropOldest cX2_dropOldest 3 none :: Cond.methodLink RX2 25 yX7_copyFrom :: Cond.instanceMethod yX7_copyFrom :: wsL_acts_f9
set_option maxRecDepth 20000 in
def wsL_acts_f7 : List Cond := Cond.instanceMethod yX1_weightOf :: Cond.selects RX1 yX1_weightOf yX1_weightOf :: Cond.code yX1_weightOf cX1_weightOf 2 (some .int) :: Cond.static yX8_isSide :: Cond.code yX8_isSide cX8_isSide 1 (some .boolean) :: Cond.methodLink RX8 117 yX8_inRange :: Cond.static yX8_inRange :: Cond.code yX8_inRange cX8_inRange 3 (some .boolean) :: Cond.methodLink RX8 208 yJ6_bitCount_0f7a4 :: Cond.methodLink RX8 219 yX1_fill :: Cond.instanceMethod yX1_fill :: Cond.selects RX1 yX1_fill yX1_fill :: Cond.code yX1_fill cX1_fill 1 (some .int) :: Cond.methodLink RX8 222 yX1_isEven :: Cond.instanceMethod yX1_isEven :: Cond.selects RX1 yX1_isEven yX1_isEven :: Cond.code yX1_isEven cX1_isEven 1 (some .boolean) :: Cond.methodLink RL 17 yX8_card :: Cond.instanceMethod yX8_card :: Cond.selects RX8 yX8_card yX8_card :: Cond.code yX8_card cX8_card 2 (some .int) :: Cond.methodLink RX8 128 yX8_sideIn :: Cond.methodLink RL 47 yX8_addDish :: Cond.instanceMethod yX8_addDish :: wsL_acts_f8
set_option maxRecDepth 20000 in
def wsL_acts_f6 : List Cond := Cond.methodLink RX1 41 yX1_putCourse :: Cond.instanceMethod yX1_putCourse :: Cond.selects RX1 yX1_putCourse yX1_putCourse :: Cond.code yX1_putCourse cX1_putCourse 6 none :: Cond.methodLink RX1 49 yJ6_bitCount_0f7a4 :: Cond.methodLink RX1 54 yX1_putKey :: Cond.instanceMethod yX1_putKey :: Cond.selects RX1 yX1_putKey yX1_putKey :: Cond.code yX1_putKey cX1_putKey 3 none :: Cond.methodLink RX1 58 yX1_linesOf :: Cond.instanceMethod yX1_linesOf :: Cond.selects RX1 yX1_linesOf yX1_linesOf :: Cond.code yX1_linesOf cX1_linesOf 4 (some .int) :: Cond.methodLink RX1 72 yX1_partOf :: Cond.instanceMethod yX1_partOf :: Cond.selects RX1 yX1_partOf yX1_partOf :: Cond.code yX1_partOf cX1_partOf 3 (some .int) :: Cond.methodLink RX1 69 yX1_putFill :: Cond.instanceMethod yX1_putFill :: Cond.selects RX1 yX1_putFill yX1_putFill :: Cond.code yX1_putFill cX1_putFill 3 none :: Cond.methodLink RX8 99 yX3_size :: Cond.methodLink RX8 196 yX1_linesOf :: Cond.methodLink RX8 199 yX1_weightOf :: wsL_acts_f7
set_option maxRecDepth 20000 in
def wsL_acts_f5 : List Cond := Cond.constant RJ6 267 (252645135) :: Cond.methodLink RX3 72 yX3_setting :: Cond.static yX8_partsOfSize :: Cond.code yX8_partsOfSize cX8_partsOfSize 2 (some .int) :: Cond.methodLink RX8 285 yX1_lay :: Cond.instanceMethod yX1_lay :: Cond.selects RX1 yX1_lay yX1_lay :: Cond.initialized RX1 :: Cond.code yX1_lay cX1_lay 5 none :: Cond.methodLink RX1 61 Lib.Math.abs.name :: Cond.static Lib.Math.abs.name :: Cond.code Lib.Math.abs.name Lib.Math.abs.code 1 (some .int) :: Cond.fieldLink RX1 66 "FoldedMenu$Fold" "gap" "I" :: Cond.methodLink RX1 23 yX1_clear :: Cond.instanceMethod yX1_clear :: Cond.selects RX1 yX1_clear yX1_clear :: Cond.code yX1_clear cX1_clear 3 none :: Cond.fieldLink RX1 11 "FoldedMenu$Fold" "parts" "[[I" :: Cond.fieldLink RX1 16 "FoldedMenu$Fold" "weights" "[I" :: Cond.fieldLink RX1 20 "FoldedMenu$Fold" "places" "[I" :: Cond.fieldLink RX1 93 "FoldedMenu$Fold" "keySide" "I" :: Cond.static yX8_sideIn :: Cond.code yX8_sideIn cX8_sideIn 2 (some .int) :: Cond.methodLink RX1 35 yX3_setting :: wsL_acts_f6
set_option maxRecDepth 20000 in
def wsL_acts_f4 : List Cond := Cond.instanceMethod yX3_suits :: Cond.selects RX3 yX3_suits yX3_suits :: Cond.code yX3_suits cX3_suits 3 (some .boolean) :: Cond.methodLink RX4 42 yX3_setting :: Cond.static yX8_digitsOf :: Cond.code yX8_digitsOf cX8_digitsOf 1 (some .int) :: Cond.methodLink RX4 70 yX4_measure :: Cond.instanceMethod yX4_measure :: Cond.selects RX4 yX4_measure yX4_measure :: Cond.code yX4_measure cX4_measure 5 none :: Cond.methodLink RX4 78 yX3_linesOf :: Cond.instanceMethod yX3_linesOf :: Cond.selects RX3 yX3_linesOf yX3_linesOf :: Cond.code yX3_linesOf cX3_linesOf 3 (some .int) :: Cond.methodLink RX3 69 yX3_textOf :: Cond.instanceMethod yX3_textOf :: Cond.selects RX3 yX3_textOf yX3_textOf :: Cond.code yX3_textOf cX3_textOf 3 (some .int) :: Cond.methodLink RX3 63 yJ6_bitCount_0f7a4 :: Cond.static yJ6_bitCount_0f7a4 :: Cond.initialized RJ6 :: Cond.code yJ6_bitCount_0f7a4 cJ6_bitCount_0f7a4 1 (some .int) :: Cond.constant RJ6 265 (1431655765) :: Cond.constant RJ6 266 (858993459) :: wsL_acts_f5
set_option maxRecDepth 20000 in
def wsL_acts_f3 : List Cond := Cond.selects RX3 yX3_size yX3_size :: Cond.code yX3_size cX3_size 1 (some .int) :: Cond.fieldLink RX3 18 "FoldedMenu$Menu" "dishes" "I" :: Cond.methodLink RX4 30 yX3_valueOf :: Cond.instanceMethod yX3_valueOf :: Cond.selects RX3 yX3_valueOf yX3_valueOf :: Cond.code yX3_valueOf cX3_valueOf 4 (some .int) :: Cond.fieldLink RX3 9 "FoldedMenu$Menu" "values" "[I" :: Cond.methodLink RX4 34 yX3_isOffered :: Cond.instanceMethod yX3_isOffered :: Cond.selects RX3 yX3_isOffered yX3_isOffered :: Cond.code yX3_isOffered cX3_isOffered 2 (some .boolean) :: Cond.methodLink RX3 50 yX3_valueOf :: Cond.methodLink RX4 38 yX3_mayBePrinted :: Cond.instanceMethod yX3_mayBePrinted :: Cond.selects RX3 yX3_mayBePrinted yX3_mayBePrinted :: Cond.code yX3_mayBePrinted cX3_mayBePrinted 4 (some .boolean) :: Cond.methodLink RX3 57 yX3_isInSeason :: Cond.instanceMethod yX3_isInSeason :: Cond.selects RX3 yX3_isInSeason yX3_isInSeason :: Cond.code yX3_isInSeason cX3_isInSeason 3 (some .boolean) :: Cond.static yX8_has :: Cond.code yX8_has cX8_has 2 (some .boolean) :: Cond.methodLink RX3 60 yX3_suits :: wsL_acts_f4
set_option maxRecDepth 20000 in
def wsL_acts_f2 : List Cond := Cond.fieldLink RX3 15 "FoldedMenu$Menu" "settings" "[I" :: Cond.methodLink RX8 282 yX4_find :: Cond.instanceMethod yX4_find :: Cond.selects RX4 yX4_find yX4_find :: Cond.initialized RX4 :: Cond.code yX4_find cX4_find 8 none :: Cond.fieldLink RX4 9 "FoldedMenu$Printing" "dishes" "[I" :: Cond.fieldLink RX4 46 "FoldedMenu$Printing" "set" "I" :: Cond.fieldLink RX4 50 "FoldedMenu$Printing" "number" "I" :: Cond.fieldLink RX4 53 "FoldedMenu$Printing" "prices" "I" :: Cond.fieldLink RX4 56 "FoldedMenu$Printing" "allergens" "I" :: Cond.methodLink RX4 59 Lib.Math.max.name :: Cond.static Lib.Math.max.name :: Cond.initialized "java/lang/Math" :: Cond.code Lib.Math.max.name Lib.Math.max.code 2 (some .int) :: Cond.fieldLink RX4 67 "FoldedMenu$Printing" "column" "I" :: Cond.methodLink RX4 21 yX4_clear :: Cond.instanceMethod yX4_clear :: Cond.selects RX4 yX4_clear yX4_clear :: Cond.code yX4_clear cX4_clear 2 none :: Cond.fieldLink RX4 15 "FoldedMenu$Printing" "lines" "[I" :: Cond.fieldLink RX4 18 "FoldedMenu$Printing" "weights" "[I" :: Cond.methodLink RX4 24 yX3_size :: Cond.instanceMethod yX3_size :: wsL_acts_f3
set_option maxRecDepth 20000 in
def wsL_acts_f1 : List Cond := Cond.methodLink RL 85 yL_low :: Cond.static yL_low :: Cond.initialized RL :: Cond.code yL_low cL_low 2 (some .int) :: Cond.constant RL 8 (2147483647) :: Cond.methodLink RL 21 yX8_count :: Cond.instanceMethod yX8_count :: Cond.selects RX8 yX8_count yX8_count :: Cond.initialized RX8 :: Cond.code yX8_count cX8_count 2 (some .int) :: Cond.fieldLink RX8 10 "FoldedMenu" "state" "LFoldedMenu$State;" :: Cond.fieldLink RX8 40 "FoldedMenu" "printing" "LFoldedMenu$Printing;" :: Cond.fieldLink RX8 47 "FoldedMenu" "fold" "LFoldedMenu$Fold;" :: Cond.fieldLink RX8 19 "FoldedMenu" "history" "LFoldedMenu$History;" :: Cond.fieldLink RX8 33 "FoldedMenu" "reader" "LFoldedMenu$Reader;" :: Cond.methodLink RX8 193 yX8_layCard :: Cond.instanceMethod yX8_layCard :: Cond.selects RX8 yX8_layCard yX8_layCard :: Cond.code yX8_layCard cX8_layCard 1 none :: Cond.methodLink RX8 109 yX3_setting :: Cond.instanceMethod yX3_setting :: Cond.selects RX3 yX3_setting yX3_setting :: Cond.initialized RX3 :: Cond.code yX3_setting cX3_setting 2 (some .int) :: wsL_acts_f2
set_option maxRecDepth 20000 in
theorem wsL_acts_e16 : wsL_acts_f16 = wsL_acts_r16 ++ wsL_acts_xs := rfl
set_option maxRecDepth 20000 in
theorem wsL_acts_e15 : wsL_acts_f15 = wsL_acts_r15 ++ wsL_acts_f16 := rfl
set_option maxRecDepth 20000 in
theorem wsL_acts_e14 : wsL_acts_f14 = wsL_acts_r14 ++ wsL_acts_f15 := rfl
set_option maxRecDepth 20000 in
theorem wsL_acts_e13 : wsL_acts_f13 = wsL_acts_r13 ++ wsL_acts_f14 := rfl
set_option maxRecDepth 20000 in
theorem wsL_acts_e12 : wsL_acts_f12 = wsL_acts_r12 ++ wsL_acts_f13 := rfl
set_option maxRecDepth 20000 in
theorem wsL_acts_e11 : wsL_acts_f11 = wsL_acts_r11 ++ wsL_acts_f12 := rfl
set_option maxRecDepth 20000 in
theorem wsL_acts_e10 : wsL_acts_f10 = wsL_acts_r10 ++ wsL_acts_f11 := rfl
set_option maxRecDepth 20000 in
theorem wsL_acts_e9 : wsL_acts_f9 = wsL_acts_r9 ++ wsL_acts_f10 := rfl
set_option maxRecDepth 20000 in
theorem wsL_acts_e8 : wsL_acts_f8 = wsL_acts_r8 ++ wsL_acts_f9 := rfl
set_option maxRecDepth 20000 in
theorem wsL_acts_e7 : wsL_acts_f7 = wsL_acts_r7 ++ wsL_acts_f8 := rfl
set_option maxRecDepth 20000 in
theorem wsL_acts_e6 : wsL_acts_f6 = wsL_acts_r6 ++ wsL_acts_f7 := rfl
set_option maxRecDepth 20000 in
theorem wsL_acts_e5 : wsL_acts_f5 = wsL_acts_r5 ++ wsL_acts_f6 := rfl
set_option maxRecDepth 20000 in
theorem wsL_acts_e4 : wsL_acts_f4 = wsL_acts_r4 ++ wsL_acts_f5 := rfl
set_option maxRecDepth 20000 in
theorem wsL_acts_e3 : wsL_acts_f3 = wsL_acts_r3 ++ wsL_acts_f4 := rfl
set_option maxRecDepth 20000 in
theorem wsL_acts_e2 : wsL_acts_f2 = wsL_acts_r2 ++ wsL_acts_f3 := rfl
set_option maxRecDepth 20000 in
theorem wsL_acts_e1 : wsL_acts_f1 = wsL_acts_r1 ++ wsL_acts_f2 := rfl
def wsL_acts_f0 : List Cond := .code yL_acts cL_acts 9 (some .boolean) :: wsL_acts_f1
theorem wsL_acts_eq : wsL_acts = wsL_acts_f0 := by
  unfold wsL_acts wsL_acts_f0
  rw [wsL_acts_e1, wsL_acts_e2, wsL_acts_e3, wsL_acts_e4, wsL_acts_e5, wsL_acts_e6, wsL_acts_e7, wsL_acts_e8, wsL_acts_e9, wsL_acts_e10, wsL_acts_e11, wsL_acts_e12, wsL_acts_e13, wsL_acts_e14, wsL_acts_e15, wsL_acts_e16]
  unfold wsL_acts_xs
  simp only [List.append_assoc, List.append_nil]
theorem wsL_acts_good {ws : List Cond} (h : GoodIn wsL_acts_f0 ws) : GoodIn wsL_acts ws := by
  rw [wsL_acts_eq]
  exact h
set_option maxRecDepth 20000 in
theorem ggL_acts_L_low : GoodIn wsL_acts wsL_low := wsL_acts_good (goodIn_r _ [4, 5] (by decide +kernel) (by decide +kernel))
set_option maxRecDepth 20000 in
theorem gL_acts_L_low : GoodIn wsL_acts (va_wsS RL 85 yL_low wsL_low) := goodIn_app (goodIn_of _ (by decide +kernel)) ggL_acts_L_low
set_option maxRecDepth 20000 in
theorem ggL_acts_X8_count : GoodIn wsL_acts wsX8_count := wsL_acts_good (goodIn_r _ [10, 11, 12, 13, 14, 15, 16, 17, 18, 9, 19, 20, 21, 22, 23, 24, 25, 26, 27, 28, 29, 30, 31, 32, 33, 34, 35, 36, 37, 38, 39, 40, 41, 42, 43, 44, 45, 46, 47, 48, 49, 50, 51, 52, 53, 54, 55, 56, 57, 58, 59, 60, 61, 62, 63, 64, 65, 66, 67, 68, 69, 70, 71, 72, 73, 74, 75, 76, 77, 78, 79, 80, 81, 82, 83, 84, 85, 86, 87, 88, 89, 90, 91, 92, 93, 94, 95, 96, 97, 98, 99, 100, 101, 102, 103, 104, 105, 106, 107, 108, 109, 110, 111, 112, 113, 114, 115, 116, 117, 118, 119, 120, 121, 122, 123, 124, 125, 126, 127, 128, 129, 130, 131, 132, 133, 134, 135, 136, 137, 138, 139, 140, 141, 142, 143, 144, 145, 146, 147, 148, 149, 150, 151, 152, 153, 154, 155, 156, 157, 158, 159, 160, 161, 381, 382, 383, 384, 385, 386, 387, 388, 389, 390, 391, 392, 393, 394, 395, 396, 397, 398, 399, 400, 401, 402, 403, 404, 405, 406, 407, 408, 409, 410, 411, 412, 413, 414, 415, 416] (by decide +kernel) (by decide +kernel))
set_option maxRecDepth 20000 in
theorem gL_acts_X8_count : GoodIn wsL_acts (wsV RL 21 RX8 yX8_count wsX8_count) := goodIn_app (goodIn_of _ (by decide +kernel)) ggL_acts_X8_count
set_option maxRecDepth 20000 in
theorem ggL_acts_X8_card : GoodIn wsL_acts wsX8_card := wsL_acts_good (goodIn_r _ [165, 11, 150, 151, 9, 152, 20, 21, 22, 23, 24, 25, 166, 118, 119, 381, 382, 383, 384, 385, 386, 387, 388, 389, 390, 391, 392, 413, 414, 415, 416] (by decide +kernel) (by decide +kernel))
set_option maxRecDepth 20000 in
theorem gL_acts_X8_card : GoodIn wsL_acts (wsV RL 17 RX8 yX8_card wsX8_card) := goodIn_app (goodIn_of _ (by decide +kernel)) ggL_acts_X8_card
set_option maxRecDepth 20000 in
theorem ggL_acts_X8_addDish : GoodIn wsL_acts wsX8_addDish := wsL_acts_good (goodIn_r _ [170, 11, 14, 171, 172, 9, 173, 174, 175, 150, 151, 152, 176, 177, 178, 23, 179, 51, 180, 181, 182, 183, 184, 185, 186, 187, 188, 189, 190, 191, 192, 193, 194, 195, 196, 197, 198, 199, 200, 201, 202, 56, 203, 204, 205, 206, 25, 207, 208, 209, 210, 211, 212, 213, 214, 215, 216, 217, 218, 219, 220, 381, 382, 383, 384, 385, 386, 387, 388, 389, 390, 391, 392, 413, 414, 415, 416, 406, 407] (by decide +kernel) (by decide +kernel))
set_option maxRecDepth 20000 in
theorem gL_acts_X8_addDish : GoodIn wsL_acts (wsV RL 47 RX8 yX8_addDish wsX8_addDish) := goodIn_app (goodIn_of _ (by decide +kernel)) ggL_acts_X8_addDish
set_option maxRecDepth 20000 in
theorem ggL_acts_X8_dish : GoodIn wsL_acts wsX8_dish := wsL_acts_good (goodIn_r _ [224, 11, 12, 225, 218, 219, 23, 220, 51, 151, 9, 152, 150, 226, 53, 54, 55, 56, 16, 17, 18, 19, 13, 20, 21, 22, 24, 25, 26, 27, 28, 29, 30, 31, 32, 33, 34, 35, 36, 37, 38, 39, 40, 41, 42, 43, 44, 45, 46, 47, 48, 49, 50, 52, 57, 58, 59, 60, 61, 62, 63, 64, 65, 66, 67, 68, 69, 70, 71, 72, 73, 74, 75, 76, 77, 78, 79, 80, 81, 82, 83, 84, 85, 86, 87, 88, 89, 90, 91, 92, 93, 94, 95, 96, 97, 98, 99, 100, 101, 102, 103, 104, 105, 106, 107, 108, 109, 110, 111, 112, 113, 114, 115, 116, 117, 118, 119, 120, 121, 122, 123, 124, 125, 126, 127, 128, 129, 130, 131, 132, 133, 134, 135, 136, 137, 138, 139, 140, 141, 227, 228, 229, 230, 231, 232, 233, 166, 234, 235, 236, 237, 238, 239, 240, 241, 242, 243, 244, 245, 246, 247, 248, 249, 250, 251, 252, 253, 254, 255, 256, 257, 258, 259, 260, 261, 262, 263, 264, 265, 266, 267, 268, 269, 270, 271, 272, 273, 274, 275, 276, 277, 278, 381, 382, 383, 384, 385, 386, 387, 388, 389, 390, 391, 392, 393, 394, 395, 396, 397, 398, 399, 400, 413, 414, 415, 416, 401, 402, 403, 404, 405, 417, 418, 419, 420, 421, 422, 423] (by decide +kernel) (by decide +kernel))
set_option maxRecDepth 20000 in
theorem gL_acts_X8_dish : GoodIn wsL_acts (wsV RL 24 RX8 yX8_dish wsX8_dish) := goodIn_app (goodIn_of _ (by decide +kernel)) ggL_acts_X8_dish
set_option maxRecDepth 20000 in
theorem ggL_acts_X8_removeDish : GoodIn wsL_acts wsX8_removeDish := wsL_acts_good (goodIn_r _ [282, 11, 14, 225, 218, 219, 23, 220, 51, 151, 9, 152, 180, 181, 182, 183, 184, 185, 186, 187, 188, 189, 190, 191, 192, 193, 194, 195, 196, 197, 198, 199, 200, 201, 202, 56, 203, 204, 205, 206, 25, 207, 283, 284, 285, 286, 217, 142, 48, 49, 50, 381, 382, 383, 384, 385, 386, 387, 388, 389, 390, 391, 392, 413, 414, 415, 416, 406, 407] (by decide +kernel) (by decide +kernel))
set_option maxRecDepth 20000 in
theorem gL_acts_X8_removeDish : GoodIn wsL_acts (wsV RL 51 RX8 yX8_removeDish wsX8_removeDish) := goodIn_app (goodIn_of _ (by decide +kernel)) ggL_acts_X8_removeDish
set_option maxRecDepth 20000 in
theorem ggL_acts_X8_undo : GoodIn wsL_acts wsX8_undo := wsL_acts_good (goodIn_r _ [290, 14, 11, 291, 292, 293, 183, 294, 185, 186, 191, 192, 193, 194, 195, 196, 197, 198, 199, 200, 201, 23, 202, 56, 203, 204, 205, 206, 25, 51, 207, 381, 382, 383, 384, 385, 386, 387, 388, 389, 406, 407, 390, 391, 392, 413, 414, 415, 416] (by decide +kernel) (by decide +kernel))
set_option maxRecDepth 20000 in
theorem gL_acts_X8_undo : GoodIn wsL_acts (wsV RL 88 RX8 yX8_undo wsX8_undo) := goodIn_app (goodIn_of _ (by decide +kernel)) ggL_acts_X8_undo
set_option maxRecDepth 20000 in
theorem ggL_acts_X8_setDish : GoodIn wsL_acts wsX8_setDish := wsL_acts_good (goodIn_r _ [298, 11, 14, 225, 218, 219, 23, 220, 51, 151, 9, 152, 171, 172, 173, 174, 175, 150, 180, 181, 182, 183, 184, 185, 186, 187, 188, 189, 190, 191, 192, 193, 194, 195, 196, 197, 198, 199, 200, 201, 202, 56, 203, 204, 205, 206, 25, 207, 226, 53, 54, 55, 213, 214, 215, 216, 217, 381, 382, 383, 384, 385, 386, 387, 388, 389, 390, 391, 392, 413, 414, 415, 416, 406, 407] (by decide +kernel) (by decide +kernel))
set_option maxRecDepth 20000 in
theorem gL_acts_X8_setDish : GoodIn wsL_acts (wsV RL 54 RX8 yX8_setDish wsX8_setDish) := goodIn_app (goodIn_of _ (by decide +kernel)) ggL_acts_X8_setDish

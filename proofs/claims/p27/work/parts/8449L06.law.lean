theorem dL_arranges_106 : decode cL_arranges 106 = .ok (.invokevirtual 21, 3) := by decide +kernel
theorem dL_arranges_109 : decode cL_arranges 109 = .ok (.iload 5, 2) := by decide +kernel
theorem dL_arranges_111 : decode cL_arranges 111 = .ok (.if_icmp .eq 5, 3) := by decide +kernel
theorem dL_arranges_114 : decode cL_arranges 114 = .ok (.iconst 0, 1) := by decide +kernel
theorem dL_arranges_115 : decode cL_arranges 115 = .ok (.ireturn, 1) := by decide +kernel
theorem dL_arranges_116 : decode cL_arranges 116 = .ok (.aload_n 0, 1) := by decide +kernel
theorem dL_arranges_117 : decode cL_arranges 117 = .ok (.iconst 2, 1) := by decide +kernel
theorem dL_arranges_118 : decode cL_arranges 118 = .ok (.invokevirtual 21, 3) := by decide +kernel
theorem dL_arranges_121 : decode cL_arranges 121 = .ok (.aload_n 0, 1) := by decide +kernel
theorem dL_arranges_122 : decode cL_arranges 122 = .ok (.iconst 3, 1) := by decide +kernel
theorem dL_arranges_123 : decode cL_arranges 123 = .ok (.invokevirtual 21, 3) := by decide +kernel
theorem dL_arranges_126 : decode cL_arranges 126 = .ok (.if_icmp .le 11, 3) := by decide +kernel
theorem dL_arranges_129 : decode cL_arranges 129 = .ok (.aload_n 0, 1) := by decide +kernel
theorem dL_arranges_130 : decode cL_arranges 130 = .ok (.iconst 2, 1) := by decide +kernel
theorem dL_arranges_131 : decode cL_arranges 131 = .ok (.invokevirtual 21, 3) := by decide +kernel
theorem dL_arranges_134 : decode cL_arranges 134 = .ok (.goto 8, 3) := by decide +kernel
theorem dL_arranges_137 : decode cL_arranges 137 = .ok (.aload_n 0, 1) := by decide +kernel
theorem dL_arranges_138 : decode cL_arranges 138 = .ok (.iconst 3, 1) := by decide +kernel
theorem dL_arranges_139 : decode cL_arranges 139 = .ok (.invokevirtual 21, 3) := by decide +kernel
theorem dL_arranges_142 : decode cL_arranges 142 = .ok (.istore 7, 2) := by decide +kernel
theorem dL_arranges_144 : decode cL_arranges 144 = .ok (.iload 7, 2) := by decide +kernel
theorem dL_arranges_146 : decode cL_arranges 146 = .ok (.iload 6, 2) := by decide +kernel
theorem dL_arranges_148 : decode cL_arranges 148 = .ok (.if_icmp .ne 54, 3) := by decide +kernel
theorem dL_arranges_151 : decode cL_arranges 151 = .ok (.aload_n 0, 1) := by decide +kernel
theorem dL_arranges_152 : decode cL_arranges 152 = .ok (.bipush 6, 2) := by decide +kernel
theorem dL_arranges_154 : decode cL_arranges 154 = .ok (.invokevirtual 17, 3) := by decide +kernel
theorem dL_arranges_157 : decode cL_arranges 157 = .ok (.iconst 2, 1) := by decide +kernel
theorem dL_arranges_158 : decode cL_arranges 158 = .ok (.aload_n 0, 1) := by decide +kernel
theorem dL_arranges_159 : decode cL_arranges 159 = .ok (.bipush 7, 2) := by decide +kernel
theorem dL_arranges_161 : decode cL_arranges 161 = .ok (.invokevirtual 17, 3) := by decide +kernel
theorem dL_arranges_164 : decode cL_arranges 164 = .ok (.imul, 1) := by decide +kernel
theorem dL_arranges_165 : decode cL_arranges 165 = .ok (.iadd, 1) := by decide +kernel
theorem dL_arranges_166 : decode cL_arranges 166 = .ok (.iconst 4, 1) := by decide +kernel
theorem dL_arranges_167 : decode cL_arranges 167 = .ok (.aload_n 0, 1) := by decide +kernel
theorem dL_arranges_168 : decode cL_arranges 168 = .ok (.bipush 8, 2) := by decide +kernel
theorem dL_arranges_170 : decode cL_arranges 170 = .ok (.invokevirtual 17, 3) := by decide +kernel
theorem dL_arranges_173 : decode cL_arranges 173 = .ok (.imul, 1) := by decide +kernel
theorem dL_arranges_174 : decode cL_arranges 174 = .ok (.iadd, 1) := by decide +kernel
theorem dL_arranges_175 : decode cL_arranges 175 = .ok (.bipush 8, 2) := by decide +kernel
theorem dL_arranges_177 : decode cL_arranges 177 = .ok (.aload_n 0, 1) := by decide +kernel
theorem dL_arranges_178 : decode cL_arranges 178 = .ok (.bipush 9, 2) := by decide +kernel
theorem dL_arranges_180 : decode cL_arranges 180 = .ok (.invokevirtual 17, 3) := by decide +kernel
theorem dL_arranges_183 : decode cL_arranges 183 = .ok (.imul, 1) := by decide +kernel
theorem dL_arranges_184 : decode cL_arranges 184 = .ok (.iadd, 1) := by decide +kernel
theorem dL_arranges_185 : decode cL_arranges 185 = .ok (.iload_n 3, 1) := by decide +kernel
theorem dL_arranges_186 : decode cL_arranges 186 = .ok (.if_icmp .ne 16, 3) := by decide +kernel
theorem dL_arranges_189 : decode cL_arranges 189 = .ok (.aload_n 0, 1) := by decide +kernel
theorem dL_arranges_190 : decode cL_arranges 190 = .ok (.iconst 0, 1) := by decide +kernel
theorem dL_arranges_191 : decode cL_arranges 191 = .ok (.invokevirtual 75, 3) := by decide +kernel
theorem dL_arranges_194 : decode cL_arranges 194 = .ok (.iload_n 3, 1) := by decide +kernel
theorem dL_arranges_195 : decode cL_arranges 195 = .ok (.if_icmp .ne 7, 3) := by decide +kernel
theorem dL_arranges_198 : decode cL_arranges 198 = .ok (.iconst 1, 1) := by decide +kernel
theorem dL_arranges_199 : decode cL_arranges 199 = .ok (.goto 4, 3) := by decide +kernel
theorem dL_arranges_202 : decode cL_arranges 202 = .ok (.iconst 0, 1) := by decide +kernel
theorem dL_arranges_203 : decode cL_arranges 203 = .ok (.istore 8, 2) := by decide +kernel
theorem dL_arranges_205 : decode cL_arranges 205 = .ok (.iload 8, 2) := by decide +kernel
theorem dL_arranges_207 : decode cL_arranges 207 = .ok (.ifCond .eq 22, 3) := by decide +kernel
theorem dL_arranges_210 : decode cL_arranges 210 = .ok (.iload_n 1, 1) := by decide +kernel
theorem dL_arranges_211 : decode cL_arranges 211 = .ok (.iconst 2, 1) := by decide +kernel
theorem dL_arranges_212 : decode cL_arranges 212 = .ok (.invokestatic 85, 3) := by decide +kernel
theorem dL_arranges_215 : decode cL_arranges 215 = .ok (.ifCond .eq 10, 3) := by decide +kernel
theorem dL_arranges_218 : decode cL_arranges 218 = .ok (.aload_n 0, 1) := by decide +kernel
theorem dL_arranges_219 : decode cL_arranges 219 = .ok (.invokevirtual 88, 3) := by decide +kernel
theorem dL_arranges_222 : decode cL_arranges 222 = .ok (.ifCond .lt 7, 3) := by decide +kernel
theorem dL_arranges_225 : decode cL_arranges 225 = .ok (.iconst 1, 1) := by decide +kernel
theorem dL_arranges_226 : decode cL_arranges 226 = .ok (.goto 4, 3) := by decide +kernel
theorem dL_arranges_229 : decode cL_arranges 229 = .ok (.iconst 0, 1) := by decide +kernel
theorem dL_arranges_230 : decode cL_arranges 230 = .ok (.ireturn, 1) := by decide +kernel
def wsL_chooses_xs : List Cond := wsX80 ++ (wsX70 ++ (wsX60 ++ (wsX30 ++ (wsX20 ++ (wsX40 ++ (wsX10 ++ (wsX50 ++ (wsX00))))))))
set_option maxRecDepth 20000 in
def wsL_chooses_f16 : List Cond := Cond.selects RX2 yX2_giveBack yX2_giveBack :: Cond.code yX2_giveBack cX2_giveBack 2 none :: wsL_chooses_xs
set_option maxRecDepth 20000 in
def wsL_chooses_f15 : List Cond := Cond.instanceMethod yX0_isBlock :: Cond.selects RX0 yX0_isBlock yX0_isBlock :: Cond.code yX0_isBlock cX0_isBlock 2 (some .boolean) :: Cond.methodLink RL 17 yX8_card :: Cond.instanceMethod yX8_card :: Cond.selects RX8 yX8_card yX8_card :: Cond.code yX8_card cX8_card 2 (some .int) :: Cond.methodLink RL 28 yX8_why :: Cond.instanceMethod yX8_why :: Cond.selects RX8 yX8_why yX8_why :: Cond.code yX8_why cX8_why 2 (some .int) :: Cond.methodLink RX8 270 yX3_isOffered :: Cond.methodLink RX8 273 yX3_isInSeason :: Cond.methodLink RX8 276 yX3_suits :: Cond.methodLink RX8 134 yX8_findPrinted :: Cond.instanceMethod yX8_findPrinted :: Cond.selects RX8 yX8_findPrinted yX8_findPrinted :: Cond.code yX8_findPrinted cX8_findPrinted 2 none :: Cond.methodLink RL 88 yX8_undo :: Cond.instanceMethod yX8_undo :: Cond.selects RX8 yX8_undo yX8_undo :: Cond.code yX8_undo cX8_undo 1 (some .int) :: Cond.methodLink RX8 177 yX2_giveBack :: Cond.instanceMethod yX2_giveBack :: wsL_chooses_f16
set_option maxRecDepth 20000 in
def wsL_chooses_f14 : List Cond := Cond.selects RX0 yX0_put yX0_put :: Cond.code yX0_put cX0_put 4 none :: Cond.fieldLink RX0 11 "FoldedMenu$Blocks" "kinds" "[I" :: Cond.fieldLink RX0 15 "FoldedMenu$Blocks" "numbers" "[I" :: Cond.fieldLink RX0 18 "FoldedMenu$Blocks" "starts" "[I" :: Cond.fieldLink RX0 21 "FoldedMenu$Blocks" "sizes" "[I" :: Cond.methodLink RX0 56 yX0_layDishes :: Cond.instanceMethod yX0_layDishes :: Cond.selects RX0 yX0_layDishes yX0_layDishes :: Cond.code yX0_layDishes cX0_layDishes 7 none :: Cond.methodLink RX0 76 yX3_size :: Cond.methodLink RX0 87 yX3_valueOf :: Cond.methodLink RX0 90 yX3_setting :: Cond.methodLink RX0 97 yX3_linesOf :: Cond.methodLink RX0 65 yX1_partOf :: Cond.methodLink RX8 298 yX0_blockOfDish :: Cond.instanceMethod yX0_blockOfDish :: Cond.selects RX0 yX0_blockOfDish yX0_blockOfDish :: Cond.code yX0_blockOfDish cX0_blockOfDish 3 (some .int) :: Cond.methodLink RX8 254 yX0_startOf :: Cond.instanceMethod yX0_startOf :: Cond.selects RX0 yX0_startOf yX0_startOf :: Cond.code yX0_startOf cX0_startOf 2 (some .int) :: Cond.methodLink RX0 72 yX0_isBlock :: wsL_chooses_f15
set_option maxRecDepth 20000 in
def wsL_chooses_f13 : List Cond := Cond.methodLink RX8 238 yX8_firstLineOf :: Cond.instanceMethod yX8_firstLineOf :: Cond.selects RX8 yX8_firstLineOf yX8_firstLineOf :: Cond.code yX8_firstLineOf cX8_firstLineOf 3 (some .int) :: Cond.fieldLink RX8 57 "FoldedMenu" "blocks" "LFoldedMenu$Blocks;" :: Cond.methodLink RX8 128 yX8_sideIn :: Cond.methodLink RX8 241 yX0_lay :: Cond.instanceMethod yX0_lay :: Cond.selects RX0 yX0_lay yX0_lay :: Cond.initialized RX0 :: Cond.code yX0_lay cX0_lay 6 none :: Cond.fieldLink RX0 24 "FoldedMenu$Blocks" "blockCount" "I" :: Cond.fieldLink RX0 28 "FoldedMenu$Blocks" "end" "I" :: Cond.fieldLink RX0 31 "FoldedMenu$Blocks" "place" "I" :: Cond.methodLink RX0 48 yX0_leaveFill :: Cond.instanceMethod yX0_leaveFill :: Cond.selects RX0 yX0_leaveFill yX0_leaveFill :: Cond.code yX0_leaveFill cX0_leaveFill 3 none :: Cond.methodLink RX0 100 yX1_fillAt :: Cond.instanceMethod yX1_fillAt :: Cond.selects RX1 yX1_fillAt yX1_fillAt :: Cond.code yX1_fillAt cX1_fillAt 5 (some .int) :: Cond.methodLink RX0 52 yX0_put :: Cond.instanceMethod yX0_put :: wsL_chooses_f14
set_option maxRecDepth 20000 in
def wsL_chooses_f12 : List Cond := Cond.code yX1_putFill cX1_putFill 3 none :: Cond.methodLink RX8 99 yX3_size :: Cond.methodLink RX8 196 yX1_linesOf :: Cond.methodLink RX8 199 yX1_weightOf :: Cond.instanceMethod yX1_weightOf :: Cond.selects RX1 yX1_weightOf yX1_weightOf :: Cond.code yX1_weightOf cX1_weightOf 2 (some .int) :: Cond.methodLink RX8 208 yJ6_bitCount_0f7a4 :: Cond.methodLink RX8 219 yX1_fill :: Cond.instanceMethod yX1_fill :: Cond.selects RX1 yX1_fill yX1_fill :: Cond.code yX1_fill cX1_fill 1 (some .int) :: Cond.methodLink RX8 222 yX1_isEven :: Cond.instanceMethod yX1_isEven :: Cond.selects RX1 yX1_isEven yX1_isEven :: Cond.code yX1_isEven cX1_isEven 1 (some .boolean) :: Cond.methodLink RL 24 yX8_dish :: Cond.instanceMethod yX8_dish :: Cond.selects RX8 yX8_dish yX8_dish :: Cond.code yX8_dish cX8_dish 4 (some .int) :: Cond.methodLink RX8 91 yX3_hasDish :: Cond.methodLink RX8 102 yX3_valueOf :: Cond.methodLink RX8 233 yX8_has :: Cond.methodLink RX8 236 yX3_linesOf :: wsL_chooses_f13
set_option maxRecDepth 20000 in
def wsL_chooses_f11 : List Cond := Cond.fieldLink RX1 16 "FoldedMenu$Fold" "weights" "[I" :: Cond.fieldLink RX1 20 "FoldedMenu$Fold" "places" "[I" :: Cond.fieldLink RX1 93 "FoldedMenu$Fold" "keySide" "I" :: Cond.methodLink RX1 35 yX3_setting :: Cond.methodLink RX1 41 yX1_putCourse :: Cond.instanceMethod yX1_putCourse :: Cond.selects RX1 yX1_putCourse yX1_putCourse :: Cond.code yX1_putCourse cX1_putCourse 6 none :: Cond.methodLink RX1 49 yJ6_bitCount_0f7a4 :: Cond.methodLink RX1 54 yX1_putKey :: Cond.instanceMethod yX1_putKey :: Cond.selects RX1 yX1_putKey yX1_putKey :: Cond.code yX1_putKey cX1_putKey 3 none :: Cond.methodLink RX1 58 yX1_linesOf :: Cond.instanceMethod yX1_linesOf :: Cond.selects RX1 yX1_linesOf yX1_linesOf :: Cond.code yX1_linesOf cX1_linesOf 4 (some .int) :: Cond.methodLink RX1 72 yX1_partOf :: Cond.instanceMethod yX1_partOf :: Cond.selects RX1 yX1_partOf yX1_partOf :: Cond.code yX1_partOf cX1_partOf 3 (some .int) :: Cond.methodLink RX1 69 yX1_putFill :: Cond.instanceMethod yX1_putFill :: Cond.selects RX1 yX1_putFill yX1_putFill :: wsL_chooses_f12
set_option maxRecDepth 20000 in
def wsL_chooses_f10 : List Cond := Cond.instanceMethod yX3_isOffered :: Cond.selects RX3 yX3_isOffered yX3_isOffered :: Cond.code yX3_isOffered cX3_isOffered 2 (some .boolean) :: Cond.methodLink RX4 38 yX3_mayBePrinted :: Cond.methodLink RX4 42 yX3_setting :: Cond.methodLink RX4 70 yX4_measure :: Cond.instanceMethod yX4_measure :: Cond.selects RX4 yX4_measure yX4_measure :: Cond.code yX4_measure cX4_measure 5 none :: Cond.methodLink RX4 78 yX3_linesOf :: Cond.methodLink RX8 285 yX1_lay :: Cond.instanceMethod yX1_lay :: Cond.selects RX1 yX1_lay yX1_lay :: Cond.initialized RX1 :: Cond.code yX1_lay cX1_lay 5 none :: Cond.methodLink RX1 61 Lib.Math.abs.name :: Cond.static Lib.Math.abs.name :: Cond.code Lib.Math.abs.name Lib.Math.abs.code 1 (some .int) :: Cond.fieldLink RX1 66 "FoldedMenu$Fold" "gap" "I" :: Cond.methodLink RX1 23 yX1_clear :: Cond.instanceMethod yX1_clear :: Cond.selects RX1 yX1_clear yX1_clear :: Cond.code yX1_clear cX1_clear 3 none :: Cond.fieldLink RX1 11 "FoldedMenu$Fold" "parts" "[[I" :: wsL_chooses_f11
set_option maxRecDepth 20000 in
def wsL_chooses_f9 : List Cond := Cond.methodLink RX8 109 yX3_setting :: Cond.methodLink RX8 282 yX4_find :: Cond.instanceMethod yX4_find :: Cond.selects RX4 yX4_find yX4_find :: Cond.initialized RX4 :: Cond.code yX4_find cX4_find 8 none :: Cond.fieldLink RX4 9 "FoldedMenu$Printing" "dishes" "[I" :: Cond.fieldLink RX4 46 "FoldedMenu$Printing" "set" "I" :: Cond.fieldLink RX4 50 "FoldedMenu$Printing" "number" "I" :: Cond.fieldLink RX4 53 "FoldedMenu$Printing" "prices" "I" :: Cond.fieldLink RX4 56 "FoldedMenu$Printing" "allergens" "I" :: Cond.methodLink RX4 59 Lib.Math.max.name :: Cond.static Lib.Math.max.name :: Cond.code Lib.Math.max.name Lib.Math.max.code 2 (some .int) :: Cond.fieldLink RX4 67 "FoldedMenu$Printing" "column" "I" :: Cond.methodLink RX4 21 yX4_clear :: Cond.instanceMethod yX4_clear :: Cond.selects RX4 yX4_clear yX4_clear :: Cond.code yX4_clear cX4_clear 2 none :: Cond.fieldLink RX4 15 "FoldedMenu$Printing" "lines" "[I" :: Cond.fieldLink RX4 18 "FoldedMenu$Printing" "weights" "[I" :: Cond.methodLink RX4 24 yX3_size :: Cond.methodLink RX4 30 yX3_valueOf :: Cond.methodLink RX4 34 yX3_isOffered :: wsL_chooses_f10
set_option maxRecDepth 20000 in
def wsL_chooses_f8 : List Cond := Cond.code yX6_offerFound cX6_offerFound 3 none :: Cond.methodLink RX6 60 yX3_change :: Cond.instanceMethod yX3_change :: Cond.selects RX3 yX3_change yX3_change :: Cond.code yX3_change cX3_change 4 none :: Cond.methodLink RX3 35 yX3_hasDish :: Cond.instanceMethod yX3_hasDish :: Cond.selects RX3 yX3_hasDish yX3_hasDish :: Cond.code yX3_hasDish cX3_hasDish 2 (some .boolean) :: Cond.static yX8_isDishValue :: Cond.code yX8_isDishValue cX8_isDishValue 2 (some .boolean) :: Cond.fieldLink RX8 315 "FoldedMenu" "DISH_LOW" "[I" :: Cond.fieldLink RX8 319 "FoldedMenu" "DISH_HIGH" "[I" :: Cond.methodLink RL 21 yX8_count :: Cond.instanceMethod yX8_count :: Cond.selects RX8 yX8_count yX8_count :: Cond.code yX8_count cX8_count 2 (some .int) :: Cond.fieldLink RX8 40 "FoldedMenu" "printing" "LFoldedMenu$Printing;" :: Cond.fieldLink RX8 47 "FoldedMenu" "fold" "LFoldedMenu$Fold;" :: Cond.fieldLink RX8 33 "FoldedMenu" "reader" "LFoldedMenu$Reader;" :: Cond.methodLink RX8 193 yX8_layCard :: Cond.instanceMethod yX8_layCard :: Cond.selects RX8 yX8_layCard yX8_layCard :: Cond.code yX8_layCard cX8_layCard 1 none :: wsL_chooses_f9
set_option maxRecDepth 20000 in
def wsL_chooses_f7 : List Cond := Cond.methodLink RX2 22 yX2_dropOldest :: Cond.instanceMethod yX2_dropOldest :: Cond.selects RX2 yX2_dropOldest yX2_dropOldest :: Cond.code yX2_dropOldest cX2_dropOldest 3 none :: Cond.methodLink RX2 25 yX7_copyFrom :: Cond.instanceMethod yX7_copyFrom :: Cond.selects RX7 yX7_copyFrom yX7_copyFrom :: Cond.initialized RX7 :: Cond.code yX7_copyFrom cX7_copyFrom 3 none :: Cond.fieldLink RX7 12 "FoldedMenu$State" "menu" "LFoldedMenu$Menu;" :: Cond.fieldLink RX7 18 "FoldedMenu$State" "snapshots" "[LFoldedMenu$Menu;" :: Cond.fieldLink RX7 22 "FoldedMenu$State" "kept" "I" :: Cond.methodLink RX7 26 yX3_copyFrom :: Cond.instanceMethod yX3_copyFrom :: Cond.selects RX3 yX3_copyFrom yX3_copyFrom :: Cond.code yX3_copyFrom cX3_copyFrom 2 none :: Cond.methodLink RX3 25 arraycopyName :: Cond.native arraycopyName :: Cond.static arraycopyName :: Cond.initialized "java/lang/System" :: Cond.fieldLink RX3 22 "FoldedMenu$Menu" "way" "I" :: Cond.methodLink RX8 154 yX6_offerFound :: Cond.instanceMethod yX6_offerFound :: Cond.selects RX6 yX6_offerFound yX6_offerFound :: wsL_chooses_f8
set_option maxRecDepth 20000 in
def wsL_chooses_f6 : List Cond := Cond.methodLink RX8 291 yX6_foundSet :: Cond.instanceMethod yX6_foundSet :: Cond.selects RX6 yX6_foundSet yX6_foundSet :: Cond.code yX6_foundSet cX6_foundSet 3 (some .int) :: Cond.methodLink RX6 56 yX6_isChosen :: Cond.instanceMethod yX6_isChosen :: Cond.selects RX6 yX6_isChosen yX6_isChosen :: Cond.code yX6_isChosen cX6_isChosen 2 (some .boolean) :: Cond.methodLink RX8 157 yX6_prices :: Cond.instanceMethod yX6_prices :: Cond.selects RX6 yX6_prices yX6_prices :: Cond.code yX6_prices cX6_prices 1 (some .int) :: Cond.methodLink RL 63 yX8_choose :: Cond.instanceMethod yX8_choose :: Cond.selects RX8 yX8_choose yX8_choose :: Cond.code yX8_choose cX8_choose 4 (some .int) :: Cond.fieldLink RX8 19 "FoldedMenu" "history" "LFoldedMenu$History;" :: Cond.methodLink RX8 79 yX2_record :: Cond.instanceMethod yX2_record :: Cond.selects RX2 yX2_record yX2_record :: Cond.initialized RX2 :: Cond.code yX2_record cX2_record 2 none :: Cond.fieldLink RX2 18 "FoldedMenu$History" "size" "I" :: Cond.fieldLink RX2 12 "FoldedMenu$History" "states" "[LFoldedMenu$State;" :: wsL_chooses_f7
set_option maxRecDepth 20000 in
def wsL_chooses_f5 : List Cond := Cond.constant RJ6 267 (252645135) :: Cond.methodLink RX3 72 yX3_setting :: Cond.static yX8_partsOfSize :: Cond.code yX8_partsOfSize cX8_partsOfSize 2 (some .int) :: Cond.methodLink RX6 82 yX6_tryCandidate :: Cond.instanceMethod yX6_tryCandidate :: Cond.selects RX6 yX6_tryCandidate yX6_tryCandidate :: Cond.code yX6_tryCandidate cX6_tryCandidate 9 none :: Cond.methodLink RX6 99 Lib.MathLoose.max_long.x :: Cond.static Lib.MathLoose.max_long.x :: Cond.code Lib.MathLoose.max_long.x Lib.MathLoose.max_long.code 4 (some .long) :: Cond.methodLink RX6 85 yX6_addCandidate :: Cond.instanceMethod yX6_addCandidate :: Cond.selects RX6 yX6_addCandidate yX6_addCandidate :: Cond.code yX6_addCandidate cX6_addCandidate 2 none :: Cond.fieldLink RX6 16 "FoldedMenu$SetFinder" "candidates" "[I" :: Cond.methodLink RX6 89 yX6_endCourse :: Cond.instanceMethod yX6_endCourse :: Cond.selects RX6 yX6_endCourse yX6_endCourse :: Cond.code yX6_endCourse cX6_endCourse 4 none :: Cond.methodLink RX8 151 yX6_hasFound :: Cond.instanceMethod yX6_hasFound :: Cond.selects RX6 yX6_hasFound yX6_hasFound :: Cond.code yX6_hasFound cX6_hasFound 1 (some .boolean) :: wsL_chooses_f6
set_option maxRecDepth 20000 in
def wsL_chooses_f4 : List Cond := Cond.code yX3_isInSeason cX3_isInSeason 3 (some .boolean) :: Cond.methodLink RX3 50 yX3_valueOf :: Cond.static yX8_has :: Cond.code yX8_has cX8_has 2 (some .boolean) :: Cond.methodLink RX3 60 yX3_suits :: Cond.instanceMethod yX3_suits :: Cond.selects RX3 yX3_suits yX3_suits :: Cond.code yX3_suits cX3_suits 3 (some .boolean) :: Cond.static yX8_digitsOf :: Cond.code yX8_digitsOf cX8_digitsOf 1 (some .int) :: Cond.methodLink RX6 79 yX3_linesOf :: Cond.instanceMethod yX3_linesOf :: Cond.selects RX3 yX3_linesOf yX3_linesOf :: Cond.code yX3_linesOf cX3_linesOf 3 (some .int) :: Cond.methodLink RX3 69 yX3_textOf :: Cond.instanceMethod yX3_textOf :: Cond.selects RX3 yX3_textOf yX3_textOf :: Cond.code yX3_textOf cX3_textOf 3 (some .int) :: Cond.methodLink RX3 63 yJ6_bitCount_0f7a4 :: Cond.static yJ6_bitCount_0f7a4 :: Cond.initialized RJ6 :: Cond.code yJ6_bitCount_0f7a4 cJ6_bitCount_0f7a4 1 (some .int) :: Cond.constant RJ6 265 (1431655765) :: Cond.constant RJ6 266 (858993459) :: wsL_chooses_f5
set_option maxRecDepth 20000 in
def wsL_chooses_f3 : List Cond := Cond.selects RX3 yX3_setting yX3_setting :: Cond.initialized RX3 :: Cond.code yX3_setting cX3_setting 2 (some .int) :: Cond.fieldLink RX3 15 "FoldedMenu$Menu" "settings" "[I" :: Cond.methodLink RX6 68 yX3_size :: Cond.instanceMethod yX3_size :: Cond.selects RX3 yX3_size yX3_size :: Cond.code yX3_size cX3_size 1 (some .int) :: Cond.fieldLink RX3 18 "FoldedMenu$Menu" "dishes" "I" :: Cond.methodLink RX6 72 yX3_valueOf :: Cond.instanceMethod yX3_valueOf :: Cond.selects RX3 yX3_valueOf yX3_valueOf :: Cond.code yX3_valueOf cX3_valueOf 4 (some .int) :: Cond.fieldLink RX3 9 "FoldedMenu$Menu" "values" "[I" :: Cond.methodLink RX6 75 yX6_isCandidate :: Cond.static yX6_isCandidate :: Cond.code yX6_isCandidate cX6_isCandidate 3 (some .boolean) :: Cond.methodLink RX6 92 yX3_mayBePrinted :: Cond.instanceMethod yX3_mayBePrinted :: Cond.selects RX3 yX3_mayBePrinted yX3_mayBePrinted :: Cond.code yX3_mayBePrinted cX3_mayBePrinted 4 (some .boolean) :: Cond.methodLink RX3 57 yX3_isInSeason :: Cond.instanceMethod yX3_isInSeason :: Cond.selects RX3 yX3_isInSeason yX3_isInSeason :: wsL_chooses_f4
set_option maxRecDepth 20000 in
def wsL_chooses_f2 : List Cond := Cond.initialized RX6 :: Cond.code yX6_find cX6_find 6 none :: Cond.fieldLink RX6 20 "FoldedMenu$SetFinder" "candidateCount" "I" :: Cond.methodLink RX6 24 Lib.Math.min.name :: Cond.static Lib.Math.min.name :: Cond.initialized "java/lang/Math" :: Cond.code Lib.Math.min.name Lib.Math.min.code 2 (some .int) :: Cond.fieldLink RX6 30 "FoldedMenu$SetFinder" "lineBound" "I" :: Cond.fieldLink RX6 13 "FoldedMenu$SetFinder" "best" "[[J" :: Cond.constantLong RX6 36 (1048575) :: Cond.constantLong RX6 50 (-1) :: Cond.fieldLink RX6 52 "FoldedMenu$SetFinder" "found" "J" :: Cond.methodLink RX6 33 yX6_forgetSets :: Cond.instanceMethod yX6_forgetSets :: Cond.selects RX6 yX6_forgetSets yX6_forgetSets :: Cond.code yX6_forgetSets cX6_forgetSets 3 none :: Cond.static yX8_sideIn :: Cond.code yX8_sideIn cX8_sideIn 2 (some .int) :: Cond.methodLink RX6 46 yX6_tryCourse :: Cond.instanceMethod yX6_tryCourse :: Cond.selects RX6 yX6_tryCourse yX6_tryCourse :: Cond.code yX6_tryCourse cX6_tryCourse 9 none :: Cond.methodLink RX6 64 yX3_setting :: Cond.instanceMethod yX3_setting :: wsL_chooses_f3
set_option maxRecDepth 20000 in
def wsL_chooses_f1 : List Cond := Cond.methodLink RL 85 yL_low :: Cond.static yL_low :: Cond.initialized RL :: Cond.code yL_low cL_low 2 (some .int) :: Cond.constant RL 8 (2147483647) :: Cond.methodLink RL 78 yX8_bestSet :: Cond.instanceMethod yX8_bestSet :: Cond.selects RX8 yX8_bestSet yX8_bestSet :: Cond.initialized RX8 :: Cond.code yX8_bestSet cX8_bestSet 5 (some .int) :: Cond.fieldLink RX8 64 "FoldedMenu" "finder" "LFoldedMenu$SetFinder;" :: Cond.fieldLink RX8 10 "FoldedMenu" "state" "LFoldedMenu$State;" :: Cond.methodLink RX8 144 yX8_areSetArguments :: Cond.static yX8_areSetArguments :: Cond.code yX8_areSetArguments cX8_areSetArguments 3 (some .boolean) :: Cond.methodLink RX8 121 yX8_isSide :: Cond.static yX8_isSide :: Cond.code yX8_isSide cX8_isSide 1 (some .boolean) :: Cond.methodLink RX8 117 yX8_inRange :: Cond.static yX8_inRange :: Cond.code yX8_inRange cX8_inRange 3 (some .boolean) :: Cond.methodLink RX8 147 yX6_find :: Cond.instanceMethod yX6_find :: Cond.selects RX6 yX6_find yX6_find :: wsL_chooses_f2
set_option maxRecDepth 20000 in
theorem wsL_chooses_e16 : wsL_chooses_f16 = wsL_chooses_r16 ++ wsL_chooses_xs := rfl
set_option maxRecDepth 20000 in
theorem wsL_chooses_e15 : wsL_chooses_f15 = wsL_chooses_r15 ++ wsL_chooses_f16 := rfl
set_option maxRecDepth 20000 in
theorem wsL_chooses_e14 : wsL_chooses_f14 = wsL_chooses_r14 ++ wsL_chooses_f15 := rfl
set_option maxRecDepth 20000 in
theorem wsL_chooses_e13 : wsL_chooses_f13 = wsL_chooses_r13 ++ wsL_chooses_f14 := rfl
set_option maxRecDepth 20000 in
theorem wsL_chooses_e12 : wsL_chooses_f12 = wsL_chooses_r12 ++ wsL_chooses_f13 := rfl
set_option maxRecDepth 20000 in
theorem wsL_chooses_e11 : wsL_chooses_f11 = wsL_chooses_r11 ++ wsL_chooses_f12 := rfl
set_option maxRecDepth 20000 in
theorem wsL_chooses_e10 : wsL_chooses_f10 = wsL_chooses_r10 ++ wsL_chooses_f11 := rfl
set_option maxRecDepth 20000 in
theorem wsL_chooses_e9 : wsL_chooses_f9 = wsL_chooses_r9 ++ wsL_chooses_f10 := rfl
set_option maxRecDepth 20000 in
theorem wsL_chooses_e8 : wsL_chooses_f8 = wsL_chooses_r8 ++ wsL_chooses_f9 := rfl
set_option maxRecDepth 20000 in
theorem wsL_chooses_e7 : wsL_chooses_f7 = wsL_chooses_r7 ++ wsL_chooses_f8 := rfl
set_option maxRecDepth 20000 in
theorem wsL_chooses_e6 : wsL_chooses_f6 = wsL_chooses_r6 ++ wsL_chooses_f7 := rfl
set_option maxRecDepth 20000 in
theorem wsL_chooses_e5 : wsL_chooses_f5 = wsL_chooses_r5 ++ wsL_chooses_f6 := rfl
set_option maxRecDepth 20000 in
theorem wsL_chooses_e4 : wsL_chooses_f4 = wsL_chooses_r4 ++ wsL_chooses_f5 := rfl
set_option maxRecDepth 20000 in
theorem wsL_chooses_e3 : wsL_chooses_f3 = wsL_chooses_r3 ++ wsL_chooses_f4 := rfl
set_option maxRecDepth 20000 in
theorem wsL_chooses_e2 : wsL_chooses_f2 = wsL_chooses_r2 ++ wsL_chooses_f3 := rfl
set_option maxRecDepth 20000 in
theorem wsL_chooses_e1 : wsL_chooses_f1 = wsL_chooses_r1 ++ wsL_chooses_f2 := rfl
def wsL_chooses_f0 : List Cond := .code yL_chooses cL_chooses 10 (some .boolean) :: wsL_chooses_f1
theorem wsL_chooses_eq : wsL_chooses = wsL_chooses_f0 := by
  unfold wsL_chooses wsL_chooses_f0
  rw [wsL_chooses_e1, wsL_chooses_e2, wsL_chooses_e3, wsL_chooses_e4, wsL_chooses_e5, wsL_chooses_e6, wsL_chooses_e7, wsL_chooses_e8, wsL_chooses_e9, wsL_chooses_e10, wsL_chooses_e11, wsL_chooses_e12, wsL_chooses_e13, wsL_chooses_e14, wsL_chooses_e15, wsL_chooses_e16]
  unfold wsL_chooses_xs
  simp only [List.append_assoc, List.append_nil]
theorem wsL_chooses_good {ws : List Cond} (h : GoodIn wsL_chooses_f0 ws) : GoodIn wsL_chooses ws := by
  rw [wsL_chooses_eq]
  exact h
set_option maxRecDepth 20000 in
theorem ggL_chooses_L_low : GoodIn wsL_chooses wsL_low := wsL_chooses_good (goodIn_r _ [4, 5] (by decide +kernel) (by decide +kernel))
set_option maxRecDepth 20000 in
theorem gL_chooses_L_low : GoodIn wsL_chooses (va_wsS RL 85 yL_low wsL_low) := goodIn_app (goodIn_of _ (by decide +kernel)) ggL_chooses_L_low
set_option maxRecDepth 20000 in
theorem ggL_chooses_X8_bestSet : GoodIn wsL_chooses wsX8_bestSet := wsL_chooses_good (goodIn_r _ [10, 11, 12, 13, 14, 9, 15, 16, 17, 18, 19, 20, 21, 22, 23, 24, 25, 26, 27, 28, 29, 30, 31, 32, 33, 34, 35, 36, 37, 38, 39, 40, 41, 42, 43, 44, 45, 46, 47, 48, 49, 50, 51, 52, 53, 54, 55, 56, 57, 58, 59, 60, 61, 62, 63, 64, 65, 66, 67, 68, 69, 70, 71, 72, 73, 74, 75, 76, 77, 78, 79, 80, 81, 82, 83, 84, 85, 86, 87, 88, 89, 90, 91, 92, 93, 94, 95, 96, 97, 98, 99, 100, 101, 102, 103, 104, 105, 106, 107, 108, 109, 110, 111, 112, 113, 114, 115, 116, 117, 118, 119, 120, 121, 122, 123, 124, 125, 126, 127, 128, 129, 130, 131, 132, 363, 364, 365, 366, 367, 368, 369, 370, 371, 372, 373, 374, 375, 376, 377, 378, 379, 380, 381, 382, 383] (by decide +kernel) (by decide +kernel))
set_option maxRecDepth 20000 in
theorem gL_chooses_X8_bestSet : GoodIn wsL_chooses (wsV RL 78 RX8 yX8_bestSet wsX8_bestSet) := goodIn_app (goodIn_of _ (by decide +kernel)) ggL_chooses_X8_bestSet
set_option maxRecDepth 20000 in
theorem ggL_chooses_X8_choose : GoodIn wsL_chooses wsX8_choose := wsL_chooses_good (goodIn_r _ [136, 11, 12, 137, 13, 14, 9, 15, 16, 17, 18, 19, 20, 21, 22, 23, 24, 25, 26, 27, 28, 29, 30, 31, 32, 33, 34, 35, 36, 37, 38, 39, 40, 41, 42, 43, 44, 45, 46, 47, 48, 49, 50, 51, 52, 53, 54, 55, 56, 57, 58, 59, 60, 61, 62, 63, 64, 65, 66, 67, 68, 69, 70, 71, 72, 73, 74, 75, 76, 77, 78, 79, 80, 81, 82, 83, 84, 85, 86, 87, 88, 89, 90, 91, 92, 93, 94, 95, 96, 97, 98, 99, 100, 101, 102, 103, 104, 105, 106, 107, 108, 109, 110, 111, 112, 113, 114, 115, 116, 117, 118, 119, 120, 138, 139, 140, 141, 142, 143, 144, 145, 146, 147, 148, 149, 150, 151, 152, 153, 154, 155, 156, 157, 158, 159, 160, 161, 162, 163, 164, 165, 166, 167, 168, 169, 125, 126, 127, 128, 170, 171, 172, 173, 174, 175, 176, 177, 178, 179, 180, 181, 129, 130, 131, 132, 363, 364, 365, 366, 367, 368, 369, 370, 371, 372, 373, 374, 375, 376, 377, 378, 379, 380, 381, 382, 383, 384, 385] (by decide +kernel) (by decide +kernel))
set_option maxRecDepth 20000 in
theorem gL_chooses_X8_choose : GoodIn wsL_chooses (wsV RL 63 RX8 yX8_choose wsX8_choose) := goodIn_app (goodIn_of _ (by decide +kernel)) ggL_chooses_X8_choose
set_option maxRecDepth 20000 in
theorem ggL_chooses_X8_count : GoodIn wsL_chooses wsX8_count := wsL_chooses_good (goodIn_r _ [185, 12, 186, 187, 137, 188, 189, 190, 191, 9, 192, 193, 48, 49, 50, 51, 52, 194, 195, 196, 197, 198, 199, 200, 201, 202, 203, 204, 205, 30, 206, 207, 208, 209, 210, 211, 212, 213, 214, 54, 55, 56, 57, 215, 59, 60, 61, 62, 216, 217, 218, 219, 74, 220, 67, 68, 69, 70, 71, 72, 73, 75, 76, 77, 78, 79, 80, 221, 81, 82, 222, 223, 224, 225, 226, 84, 85, 86, 87, 88, 89, 90, 91, 92, 93, 94, 95, 96, 97, 98, 99, 100, 227, 228, 229, 230, 231, 232, 233, 234, 235, 236, 237, 238, 239, 240, 241, 242, 243, 41, 42, 244, 245, 246, 247, 248, 249, 250, 251, 252, 253, 254, 255, 256, 257, 258, 259, 260, 261, 262, 263, 264, 265, 266, 267, 268, 269, 270, 271, 17, 18, 19, 20, 21, 272, 273, 274, 275, 276, 277, 278, 279, 280, 363, 364, 365, 366, 367, 368, 369, 370, 371, 372, 373, 374, 386, 387, 388, 389, 390, 391, 392, 393, 394, 395, 396, 397, 398, 384, 385, 399, 400, 401, 402, 403, 380, 381, 382, 383] (by decide +kernel) (by decide +kernel))
set_option maxRecDepth 20000 in
theorem gL_chooses_X8_count : GoodIn wsL_chooses (wsV RL 21 RX8 yX8_count wsX8_count) := goodIn_app (goodIn_of _ (by decide +kernel)) ggL_chooses_X8_count
set_option maxRecDepth 20000 in
theorem ggL_chooses_X8_dish : GoodIn wsL_chooses wsX8_dish := wsL_chooses_good (goodIn_r _ [284, 12, 186, 285, 175, 176, 50, 177, 57, 20, 9, 21, 19, 286, 59, 60, 61, 62, 189, 190, 191, 192, 187, 193, 48, 49, 51, 52, 194, 195, 196, 197, 198, 199, 200, 201, 202, 203, 204, 205, 30, 206, 207, 208, 209, 210, 211, 212, 213, 214, 54, 55, 56, 215, 216, 217, 218, 219, 74, 220, 67, 68, 69, 70, 71, 72, 73, 75, 76, 77, 78, 79, 80, 221, 81, 82, 222, 223, 224, 225, 226, 84, 85, 86, 87, 88, 89, 90, 91, 92, 93, 94, 95, 96, 97, 98, 99, 100, 227, 228, 229, 230, 231, 232, 233, 234, 235, 236, 237, 238, 239, 240, 241, 242, 243, 41, 42, 244, 245, 246, 247, 248, 249, 250, 251, 252, 253, 254, 255, 256, 257, 258, 259, 260, 261, 262, 263, 264, 265, 287, 288, 289, 290, 291, 292, 293, 294, 295, 296, 297, 298, 299, 300, 301, 302, 303, 304, 305, 306, 307, 308, 309, 310, 311, 312, 313, 314, 315, 316, 317, 318, 319, 320, 321, 322, 323, 324, 325, 326, 327, 328, 329, 330, 331, 332, 333, 334, 335, 336, 337, 338, 339, 363, 364, 365, 366, 367, 368, 369, 370, 371, 372, 373, 374, 386, 387, 388, 389, 390, 391, 392, 393, 380, 381, 382, 383, 394, 395, 396, 397, 398, 404, 405, 406, 407, 408, 409, 410] (by decide +kernel) (by decide +kernel))
set_option maxRecDepth 20000 in
theorem gL_chooses_X8_dish : GoodIn wsL_chooses (wsV RL 24 RX8 yX8_dish wsX8_dish) := goodIn_app (goodIn_of _ (by decide +kernel)) ggL_chooses_X8_dish
set_option maxRecDepth 20000 in
theorem ggL_chooses_X8_card : GoodIn wsL_chooses wsX8_card := wsL_chooses_good (goodIn_r _ [343, 12, 19, 20, 9, 21, 193, 48, 49, 50, 51, 52, 294, 41, 42, 363, 364, 365, 366, 367, 368, 369, 370, 371, 372, 373, 374, 380, 381, 382, 383] (by decide +kernel) (by decide +kernel))
set_option maxRecDepth 20000 in
theorem gL_chooses_X8_card : GoodIn wsL_chooses (wsV RL 17 RX8 yX8_card wsX8_card) := goodIn_app (goodIn_of _ (by decide +kernel)) ggL_chooses_X8_card
set_option maxRecDepth 20000 in
theorem ggL_chooses_X8_why : GoodIn wsL_chooses wsX8_why := wsL_chooses_good (goodIn_r _ [347, 12, 186, 285, 175, 176, 50, 177, 57, 20, 9, 21, 348, 217, 218, 219, 74, 59, 60, 61, 62, 193, 48, 49, 51, 52, 349, 71, 72, 73, 75, 76, 350, 78, 79, 80, 351, 352, 353, 354, 194, 195, 196, 197, 198, 199, 200, 201, 202, 203, 204, 205, 30, 206, 207, 208, 209, 210, 211, 212, 213, 214, 54, 55, 56, 215, 216, 220, 67, 68, 69, 70, 77, 221, 81, 82, 222, 223, 224, 225, 226, 84, 85, 86, 87, 88, 89, 90, 91, 92, 93, 94, 95, 96, 97, 98, 99, 100, 287, 363, 364, 365, 366, 367, 368, 369, 370, 371, 372, 373, 374, 386, 387, 388, 389, 390, 391, 392, 393, 380, 381, 382, 383] (by decide +kernel) (by decide +kernel))
set_option maxRecDepth 20000 in
theorem gL_chooses_X8_why : GoodIn wsL_chooses (wsV RL 28 RX8 yX8_why wsX8_why) := goodIn_app (goodIn_of _ (by decide +kernel)) ggL_chooses_X8_why
set_option maxRecDepth 20000 in
theorem ggL_chooses_X8_undo : GoodIn wsL_chooses wsX8_undo := wsL_chooses_good (goodIn_r _ [358, 137, 12, 359, 360, 361, 141, 362, 143, 144, 149, 150, 151, 152, 153, 154, 155, 156, 157, 158, 159, 50, 160, 62, 161, 162, 163, 164, 52, 57, 165, 363, 364, 365, 366, 367, 368, 369, 370, 371, 384, 385, 372, 373, 374, 380, 381, 382, 383] (by decide +kernel) (by decide +kernel))
set_option maxRecDepth 20000 in
theorem gL_chooses_X8_undo : GoodIn wsL_chooses (wsV RL 88 RX8 yX8_undo wsX8_undo) := goodIn_app (goodIn_of _ (by decide +kernel)) ggL_chooses_X8_undo
theorem dL_chooses_0 : decode cL_chooses 0 = .ok (.iload_n 1, 1) := by decide +kernel
theorem dL_chooses_1 : decode cL_chooses 1 = .ok (.iconst 2, 1) := by decide +kernel
theorem dL_chooses_2 : decode cL_chooses 2 = .ok (.invokestatic 85, 3) := by decide +kernel
theorem dL_chooses_5 : decode cL_chooses 5 = .ok (.istore_n 2, 1) := by decide +kernel
theorem dL_chooses_6 : decode cL_chooses 6 = .ok (.iload_n 1, 1) := by decide +kernel
theorem dL_chooses_7 : decode cL_chooses 7 = .ok (.iconst 2, 1) := by decide +kernel
theorem dL_chooses_8 : decode cL_chooses 8 = .ok (.ishr, 1) := by decide +kernel
theorem dL_chooses_9 : decode cL_chooses 9 = .ok (.bipush 30, 2) := by decide +kernel
theorem dL_chooses_11 : decode cL_chooses 11 = .ok (.invokestatic 85, 3) := by decide +kernel
theorem dL_chooses_14 : decode cL_chooses 14 = .ok (.istore_n 3, 1) := by decide +kernel
theorem dL_chooses_15 : decode cL_chooses 15 = .ok (.iconst 1, 1) := by decide +kernel
theorem dL_chooses_16 : decode cL_chooses 16 = .ok (.iload_n 1, 1) := by decide +kernel
theorem dL_chooses_17 : decode cL_chooses 17 = .ok (.bipush 6, 2) := by decide +kernel
theorem dL_chooses_19 : decode cL_chooses 19 = .ok (.ishr, 1) := by decide +kernel
theorem dL_chooses_20 : decode cL_chooses 20 = .ok (.iconst 4, 1) := by decide +kernel
theorem dL_chooses_21 : decode cL_chooses 21 = .ok (.invokestatic 85, 3) := by decide +kernel
theorem dL_chooses_24 : decode cL_chooses 24 = .ok (.iadd, 1) := by decide +kernel
theorem dL_chooses_25 : decode cL_chooses 25 = .ok (.istore 4, 2) := by decide +kernel
theorem dL_chooses_27 : decode cL_chooses 27 = .ok (.aload_n 0, 1) := by decide +kernel
theorem dL_chooses_28 : decode cL_chooses 28 = .ok (.iload_n 2, 1) := by decide +kernel
theorem dL_chooses_29 : decode cL_chooses 29 = .ok (.iload_n 3, 1) := by decide +kernel
theorem dL_chooses_30 : decode cL_chooses 30 = .ok (.iload 4, 2) := by decide +kernel
theorem dL_chooses_32 : decode cL_chooses 32 = .ok (.iconst 0, 1) := by decide +kernel
theorem dL_chooses_33 : decode cL_chooses 33 = .ok (.invokevirtual 78, 3) := by decide +kernel
theorem dL_chooses_36 : decode cL_chooses 36 = .ok (.istore 5, 2) := by decide +kernel
theorem dL_chooses_38 : decode cL_chooses 38 = .ok (.aload_n 0, 1) := by decide +kernel
theorem dL_chooses_39 : decode cL_chooses 39 = .ok (.iload_n 2, 1) := by decide +kernel
theorem dL_chooses_40 : decode cL_chooses 40 = .ok (.iload_n 3, 1) := by decide +kernel
theorem dL_chooses_41 : decode cL_chooses 41 = .ok (.iload 4, 2) := by decide +kernel
theorem dL_chooses_43 : decode cL_chooses 43 = .ok (.iconst 2, 1) := by decide +kernel
theorem dL_chooses_44 : decode cL_chooses 44 = .ok (.invokevirtual 78, 3) := by decide +kernel
theorem dL_chooses_47 : decode cL_chooses 47 = .ok (.istore 6, 2) := by decide +kernel
theorem dL_chooses_49 : decode cL_chooses 49 = .ok (.iload 5, 2) := by decide +kernel
theorem dL_chooses_51 : decode cL_chooses 51 = .ok (.bipush (-99), 2) := by decide +kernel
theorem dL_chooses_53 : decode cL_chooses 53 = .ok (.if_icmp .eq 10, 3) := by decide +kernel
theorem dL_chooses_56 : decode cL_chooses 56 = .ok (.iload 6, 2) := by decide +kernel
theorem dL_chooses_58 : decode cL_chooses 58 = .ok (.bipush (-99), 2) := by decide +kernel
theorem dL_chooses_60 : decode cL_chooses 60 = .ok (.if_icmp .ne 29, 3) := by decide +kernel
theorem dL_chooses_63 : decode cL_chooses 63 = .ok (.iload 5, 2) := by decide +kernel
theorem dL_chooses_65 : decode cL_chooses 65 = .ok (.iload 6, 2) := by decide +kernel
theorem dL_chooses_67 : decode cL_chooses 67 = .ok (.if_icmp .ne 20, 3) := by decide +kernel
theorem dL_chooses_70 : decode cL_chooses 70 = .ok (.aload_n 0, 1) := by decide +kernel
theorem dL_chooses_71 : decode cL_chooses 71 = .ok (.iload_n 2, 1) := by decide +kernel
theorem dL_chooses_72 : decode cL_chooses 72 = .ok (.iload_n 3, 1) := by decide +kernel
theorem dL_chooses_73 : decode cL_chooses 73 = .ok (.iload 4, 2) := by decide +kernel
theorem dL_chooses_75 : decode cL_chooses 75 = .ok (.invokevirtual 63, 3) := by decide +kernel
theorem dL_chooses_78 : decode cL_chooses 78 = .ok (.bipush (-2), 2) := by decide +kernel
theorem dL_chooses_80 : decode cL_chooses 80 = .ok (.if_icmp .ne 7, 3) := by decide +kernel
theorem dL_chooses_83 : decode cL_chooses 83 = .ok (.iconst 1, 1) := by decide +kernel
theorem dL_chooses_84 : decode cL_chooses 84 = .ok (.goto 4, 3) := by decide +kernel
theorem dL_chooses_87 : decode cL_chooses 87 = .ok (.iconst 0, 1) := by decide +kernel
theorem dL_chooses_88 : decode cL_chooses 88 = .ok (.ireturn, 1) := by decide +kernel
theorem dL_chooses_89 : decode cL_chooses 89 = .ok (.iconst 0, 1) := by decide +kernel
theorem dL_chooses_90 : decode cL_chooses 90 = .ok (.istore 7, 2) := by decide +kernel
theorem dL_chooses_92 : decode cL_chooses 92 = .ok (.iconst 0, 1) := by decide +kernel
theorem dL_chooses_93 : decode cL_chooses 93 = .ok (.istore 8, 2) := by decide +kernel
theorem dL_chooses_95 : decode cL_chooses 95 = .ok (.iload 8, 2) := by decide +kernel
theorem dL_chooses_97 : decode cL_chooses 97 = .ok (.aload_n 0, 1) := by decide +kernel
theorem dL_chooses_98 : decode cL_chooses 98 = .ok (.iconst 0, 1) := by decide +kernel
theorem dL_chooses_99 : decode cL_chooses 99 = .ok (.invokevirtual 21, 3) := by decide +kernel
theorem dL_chooses_102 : decode cL_chooses 102 = .ok (.if_icmp .ge 73, 3) := by decide +kernel
theorem dL_chooses_105 : decode cL_chooses 105 = .ok (.iload 6, 2) := by decide +kernel
theorem dL_chooses_107 : decode cL_chooses 107 = .ok (.iload 8, 2) := by decide +kernel
theorem dL_chooses_109 : decode cL_chooses 109 = .ok (.ishr, 1) := by decide +kernel
theorem dL_chooses_110 : decode cL_chooses 110 = .ok (.iconst 1, 1) := by decide +kernel

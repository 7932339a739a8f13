theorem dL_side_518 : decode cL_side 518 = .ok (.iload_n 1, 1) := by decide +kernel
theorem dL_side_519 : decode cL_side 519 = .ok (.iconst 3, 1) := by decide +kernel
theorem dL_side_520 : decode cL_side 520 = .ok (.invokevirtual 34, 3) := by decide +kernel
theorem dL_side_523 : decode cL_side 523 = .ok (.if_icmp .ne 7, 3) := by decide +kernel
theorem dL_side_526 : decode cL_side 526 = .ok (.iconst 1, 1) := by decide +kernel
theorem dL_side_527 : decode cL_side 527 = .ok (.goto 4, 3) := by decide +kernel
theorem dL_side_530 : decode cL_side 530 = .ok (.iconst 0, 1) := by decide +kernel
theorem dL_side_531 : decode cL_side 531 = .ok (.ireturn, 1) := by decide +kernel
def wsL_sound_xs : List Cond := wsX80 ++ (wsX70 ++ (wsX40 ++ (wsX10 ++ (wsX20 ++ (wsX50 ++ (wsX30 ++ (wsX00)))))))
set_option maxRecDepth 20000 in
def wsL_sound_f12 : List Cond := Cond.instanceMethod yX8_printedFor :: Cond.selects RX8 yX8_printedFor yX8_printedFor :: Cond.code yX8_printedFor cX8_printedFor 2 (some .int) :: Cond.methodLink RX8 106 yX8_isCardValue :: Cond.static yX8_isCardValue :: Cond.code yX8_isCardValue cX8_isCardValue 2 (some .boolean) :: Cond.fieldLink RX8 322 "FoldedMenu" "CARD_LOW" "[I" :: Cond.fieldLink RX8 325 "FoldedMenu" "CARD_HIGH" "[I" :: Cond.methodLink RL 34 yX8_account :: Cond.instanceMethod yX8_account :: Cond.selects RX8 yX8_account yX8_account :: Cond.code yX8_account cX8_account 3 (some .int) :: Cond.methodLink RX8 121 yX8_isSide :: Cond.methodLink RX8 267 yX1_partOf :: Cond.methodLink RL 43 yX8_evenSeasons :: Cond.instanceMethod yX8_evenSeasons :: Cond.selects RX8 yX8_evenSeasons yX8_evenSeasons :: Cond.code yX8_evenSeasons cX8_evenSeasons 3 (some .int) :: wsL_sound_xs
set_option maxRecDepth 20000 in
def wsL_sound_f11 : List Cond := Cond.selects RX0 yX0_layDishes yX0_layDishes :: Cond.code yX0_layDishes cX0_layDishes 7 none :: Cond.methodLink RX0 76 yX3_size :: Cond.methodLink RX0 87 yX3_valueOf :: Cond.methodLink RX0 90 yX3_setting :: Cond.methodLink RX0 97 yX3_linesOf :: Cond.methodLink RX0 65 yX1_partOf :: Cond.methodLink RX8 298 yX0_blockOfDish :: Cond.instanceMethod yX0_blockOfDish :: Cond.selects RX0 yX0_blockOfDish yX0_blockOfDish :: Cond.code yX0_blockOfDish cX0_blockOfDish 3 (some .int) :: Cond.methodLink RX8 254 yX0_startOf :: Cond.instanceMethod yX0_startOf :: Cond.selects RX0 yX0_startOf yX0_startOf :: Cond.code yX0_startOf cX0_startOf 2 (some .int) :: Cond.methodLink RX0 72 yX0_isBlock :: Cond.instanceMethod yX0_isBlock :: Cond.selects RX0 yX0_isBlock yX0_isBlock :: Cond.code yX0_isBlock cX0_isBlock 2 (some .boolean) :: Cond.methodLink RL 17 yX8_card :: Cond.instanceMethod yX8_card :: Cond.selects RX8 yX8_card yX8_card :: Cond.code yX8_card cX8_card 2 (some .int) :: Cond.methodLink RL 40 yX8_printedFor :: wsL_sound_f12
set_option maxRecDepth 20000 in
def wsL_sound_f10 : List Cond := Cond.selects RX0 yX0_lay yX0_lay :: Cond.initialized RX0 :: Cond.code yX0_lay cX0_lay 6 none :: Cond.fieldLink RX0 24 "FoldedMenu$Blocks" "blockCount" "I" :: Cond.fieldLink RX0 28 "FoldedMenu$Blocks" "end" "I" :: Cond.fieldLink RX0 31 "FoldedMenu$Blocks" "place" "I" :: Cond.methodLink RX0 48 yX0_leaveFill :: Cond.instanceMethod yX0_leaveFill :: Cond.selects RX0 yX0_leaveFill yX0_leaveFill :: Cond.code yX0_leaveFill cX0_leaveFill 3 none :: Cond.methodLink RX0 100 yX1_fillAt :: Cond.instanceMethod yX1_fillAt :: Cond.selects RX1 yX1_fillAt yX1_fillAt :: Cond.code yX1_fillAt cX1_fillAt 5 (some .int) :: Cond.methodLink RX0 52 yX0_put :: Cond.instanceMethod yX0_put :: Cond.selects RX0 yX0_put yX0_put :: Cond.code yX0_put cX0_put 4 none :: Cond.fieldLink RX0 11 "FoldedMenu$Blocks" "kinds" "[I" :: Cond.fieldLink RX0 15 "FoldedMenu$Blocks" "numbers" "[I" :: Cond.fieldLink RX0 18 "FoldedMenu$Blocks" "starts" "[I" :: Cond.fieldLink RX0 21 "FoldedMenu$Blocks" "sizes" "[I" :: Cond.methodLink RX0 56 yX0_layDishes :: Cond.instanceMethod yX0_layDishes :: wsL_sound_f11
set_option maxRecDepth 20000 in
def wsL_sound_f9 : List Cond := Cond.static yX8_isDishValue :: Cond.code yX8_isDishValue cX8_isDishValue 2 (some .boolean) :: Cond.fieldLink RX8 315 "FoldedMenu" "DISH_LOW" "[I" :: Cond.fieldLink RX8 319 "FoldedMenu" "DISH_HIGH" "[I" :: Cond.methodLink RX8 279 yX8_smallestIn :: Cond.static yX8_smallestIn :: Cond.code yX8_smallestIn cX8_smallestIn 1 (some .int) :: Cond.methodLink RX8 312 yX8_memberOf :: Cond.static yX8_memberOf :: Cond.code yX8_memberOf cX8_memberOf 4 (some .int) :: Cond.methodLink RL 24 yX8_dish :: Cond.instanceMethod yX8_dish :: Cond.selects RX8 yX8_dish yX8_dish :: Cond.code yX8_dish cX8_dish 4 (some .int) :: Cond.methodLink RX8 102 yX3_valueOf :: Cond.methodLink RX8 236 yX3_linesOf :: Cond.methodLink RX8 238 yX8_firstLineOf :: Cond.instanceMethod yX8_firstLineOf :: Cond.selects RX8 yX8_firstLineOf yX8_firstLineOf :: Cond.code yX8_firstLineOf cX8_firstLineOf 3 (some .int) :: Cond.fieldLink RX8 57 "FoldedMenu" "blocks" "LFoldedMenu$Blocks;" :: Cond.methodLink RX8 128 yX8_sideIn :: Cond.methodLink RX8 241 yX0_lay :: Cond.instanceMethod yX0_lay :: wsL_sound_f10
set_option maxRecDepth 20000 in
def wsL_sound_f8 : List Cond := Cond.methodLink RX8 134 yX8_findPrinted :: Cond.instanceMethod yX8_findPrinted :: Cond.selects RX8 yX8_findPrinted yX8_findPrinted :: Cond.code yX8_findPrinted cX8_findPrinted 2 none :: Cond.methodLink RX8 233 yX8_has :: Cond.methodLink RL 37 yX8_replacement :: Cond.instanceMethod yX8_replacement :: Cond.selects RX8 yX8_replacement yX8_replacement :: Cond.code yX8_replacement cX8_replacement 3 (some .int) :: Cond.fieldLink RX8 26 "FoldedMenu" "draft" "LFoldedMenu$Menu;" :: Cond.methodLink RX8 186 yX3_copyFrom :: Cond.instanceMethod yX3_copyFrom :: Cond.selects RX3 yX3_copyFrom yX3_copyFrom :: Cond.code yX3_copyFrom cX3_copyFrom 2 none :: Cond.methodLink RX3 25 arraycopyName :: Cond.native arraycopyName :: Cond.static arraycopyName :: Cond.initialized "java/lang/System" :: Cond.fieldLink RX3 22 "FoldedMenu$Menu" "way" "I" :: Cond.methodLink RX8 87 yX3_change :: Cond.instanceMethod yX3_change :: Cond.selects RX3 yX3_change yX3_change :: Cond.code yX3_change cX3_change 4 none :: Cond.methodLink RX3 35 yX3_hasDish :: wsL_sound_f9
set_option maxRecDepth 20000 in
def wsL_sound_f7 : List Cond := Cond.code yX8_isSide cX8_isSide 1 (some .boolean) :: Cond.methodLink RX8 117 yX8_inRange :: Cond.static yX8_inRange :: Cond.code yX8_inRange cX8_inRange 3 (some .boolean) :: Cond.methodLink RX8 208 yJ6_bitCount_0f7a4 :: Cond.methodLink RX8 219 yX1_fill :: Cond.instanceMethod yX1_fill :: Cond.selects RX1 yX1_fill yX1_fill :: Cond.code yX1_fill cX1_fill 1 (some .int) :: Cond.methodLink RX8 222 yX1_isEven :: Cond.instanceMethod yX1_isEven :: Cond.selects RX1 yX1_isEven yX1_isEven :: Cond.code yX1_isEven cX1_isEven 1 (some .boolean) :: Cond.methodLink RL 28 yX8_why :: Cond.instanceMethod yX8_why :: Cond.selects RX8 yX8_why yX8_why :: Cond.code yX8_why cX8_why 2 (some .int) :: Cond.methodLink RX8 91 yX3_hasDish :: Cond.instanceMethod yX3_hasDish :: Cond.selects RX3 yX3_hasDish yX3_hasDish :: Cond.code yX3_hasDish cX3_hasDish 2 (some .boolean) :: Cond.methodLink RX8 270 yX3_isOffered :: Cond.methodLink RX8 273 yX3_isInSeason :: Cond.methodLink RX8 276 yX3_suits :: wsL_sound_f8
set_option maxRecDepth 20000 in
def wsL_sound_f6 : List Cond := Cond.methodLink RX1 49 yJ6_bitCount_0f7a4 :: Cond.methodLink RX1 54 yX1_putKey :: Cond.instanceMethod yX1_putKey :: Cond.selects RX1 yX1_putKey yX1_putKey :: Cond.code yX1_putKey cX1_putKey 3 none :: Cond.methodLink RX1 58 yX1_linesOf :: Cond.instanceMethod yX1_linesOf :: Cond.selects RX1 yX1_linesOf yX1_linesOf :: Cond.code yX1_linesOf cX1_linesOf 4 (some .int) :: Cond.methodLink RX1 72 yX1_partOf :: Cond.instanceMethod yX1_partOf :: Cond.selects RX1 yX1_partOf yX1_partOf :: Cond.code yX1_partOf cX1_partOf 3 (some .int) :: Cond.methodLink RX1 69 yX1_putFill :: Cond.instanceMethod yX1_putFill :: Cond.selects RX1 yX1_putFill yX1_putFill :: Cond.code yX1_putFill cX1_putFill 3 none :: Cond.methodLink RX8 99 yX3_size :: Cond.methodLink RX8 196 yX1_linesOf :: Cond.methodLink RX8 199 yX1_weightOf :: Cond.instanceMethod yX1_weightOf :: Cond.selects RX1 yX1_weightOf yX1_weightOf :: Cond.code yX1_weightOf cX1_weightOf 2 (some .int) :: Cond.static yX8_isSide :: wsL_sound_f7
set_option maxRecDepth 20000 in
def wsL_sound_f5 : List Cond := Cond.methodLink RX8 285 yX1_lay :: Cond.instanceMethod yX1_lay :: Cond.selects RX1 yX1_lay yX1_lay :: Cond.initialized RX1 :: Cond.code yX1_lay cX1_lay 5 none :: Cond.methodLink RX1 61 Lib.Math.abs.name :: Cond.static Lib.Math.abs.name :: Cond.code Lib.Math.abs.name Lib.Math.abs.code 1 (some .int) :: Cond.fieldLink RX1 66 "FoldedMenu$Fold" "gap" "I" :: Cond.methodLink RX1 23 yX1_clear :: Cond.instanceMethod yX1_clear :: Cond.selects RX1 yX1_clear yX1_clear :: Cond.code yX1_clear cX1_clear 3 none :: Cond.fieldLink RX1 11 "FoldedMenu$Fold" "parts" "[[I" :: Cond.fieldLink RX1 16 "FoldedMenu$Fold" "weights" "[I" :: Cond.fieldLink RX1 20 "FoldedMenu$Fold" "places" "[I" :: Cond.fieldLink RX1 93 "FoldedMenu$Fold" "keySide" "I" :: Cond.static yX8_sideIn :: Cond.code yX8_sideIn cX8_sideIn 2 (some .int) :: Cond.methodLink RX1 35 yX3_setting :: Cond.methodLink RX1 41 yX1_putCourse :: Cond.instanceMethod yX1_putCourse :: Cond.selects RX1 yX1_putCourse yX1_putCourse :: Cond.code yX1_putCourse cX1_putCourse 6 none :: wsL_sound_f6
set_option maxRecDepth 20000 in
def wsL_sound_f4 : List Cond := Cond.static yX8_digitsOf :: Cond.code yX8_digitsOf cX8_digitsOf 1 (some .int) :: Cond.methodLink RX4 70 yX4_measure :: Cond.instanceMethod yX4_measure :: Cond.selects RX4 yX4_measure yX4_measure :: Cond.code yX4_measure cX4_measure 5 none :: Cond.methodLink RX4 78 yX3_linesOf :: Cond.instanceMethod yX3_linesOf :: Cond.selects RX3 yX3_linesOf yX3_linesOf :: Cond.code yX3_linesOf cX3_linesOf 3 (some .int) :: Cond.methodLink RX3 69 yX3_textOf :: Cond.instanceMethod yX3_textOf :: Cond.selects RX3 yX3_textOf yX3_textOf :: Cond.code yX3_textOf cX3_textOf 3 (some .int) :: Cond.methodLink RX3 63 yJ6_bitCount_0f7a4 :: Cond.static yJ6_bitCount_0f7a4 :: Cond.initialized RJ6 :: Cond.code yJ6_bitCount_0f7a4 cJ6_bitCount_0f7a4 1 (some .int) :: Cond.constant RJ6 265 (1431655765) :: Cond.constant RJ6 266 (858993459) :: Cond.constant RJ6 267 (252645135) :: Cond.methodLink RX3 72 yX3_setting :: Cond.static yX8_partsOfSize :: Cond.code yX8_partsOfSize cX8_partsOfSize 2 (some .int) :: wsL_sound_f5
set_option maxRecDepth 20000 in
def wsL_sound_f3 : List Cond := Cond.instanceMethod yX3_valueOf :: Cond.selects RX3 yX3_valueOf yX3_valueOf :: Cond.code yX3_valueOf cX3_valueOf 4 (some .int) :: Cond.fieldLink RX3 9 "FoldedMenu$Menu" "values" "[I" :: Cond.methodLink RX4 34 yX3_isOffered :: Cond.instanceMethod yX3_isOffered :: Cond.selects RX3 yX3_isOffered yX3_isOffered :: Cond.code yX3_isOffered cX3_isOffered 2 (some .boolean) :: Cond.methodLink RX3 50 yX3_valueOf :: Cond.methodLink RX4 38 yX3_mayBePrinted :: Cond.instanceMethod yX3_mayBePrinted :: Cond.selects RX3 yX3_mayBePrinted yX3_mayBePrinted :: Cond.code yX3_mayBePrinted cX3_mayBePrinted 4 (some .boolean) :: Cond.methodLink RX3 57 yX3_isInSeason :: Cond.instanceMethod yX3_isInSeason :: Cond.selects RX3 yX3_isInSeason yX3_isInSeason :: Cond.code yX3_isInSeason cX3_isInSeason 3 (some .boolean) :: Cond.static yX8_has :: Cond.code yX8_has cX8_has 2 (some .boolean) :: Cond.methodLink RX3 60 yX3_suits :: Cond.instanceMethod yX3_suits :: Cond.selects RX3 yX3_suits yX3_suits :: Cond.code yX3_suits cX3_suits 3 (some .boolean) :: Cond.methodLink RX4 42 yX3_setting :: wsL_sound_f4
set_option maxRecDepth 20000 in
def wsL_sound_f2 : List Cond := Cond.initialized RX4 :: Cond.code yX4_find cX4_find 8 none :: Cond.fieldLink RX4 9 "FoldedMenu$Printing" "dishes" "[I" :: Cond.fieldLink RX4 46 "FoldedMenu$Printing" "set" "I" :: Cond.fieldLink RX4 50 "FoldedMenu$Printing" "number" "I" :: Cond.fieldLink RX4 53 "FoldedMenu$Printing" "prices" "I" :: Cond.fieldLink RX4 56 "FoldedMenu$Printing" "allergens" "I" :: Cond.methodLink RX4 59 Lib.Math.max.name :: Cond.static Lib.Math.max.name :: Cond.initialized "java/lang/Math" :: Cond.code Lib.Math.max.name Lib.Math.max.code 2 (some .int) :: Cond.fieldLink RX4 67 "FoldedMenu$Printing" "column" "I" :: Cond.methodLink RX4 21 yX4_clear :: Cond.instanceMethod yX4_clear :: Cond.selects RX4 yX4_clear yX4_clear :: Cond.code yX4_clear cX4_clear 2 none :: Cond.fieldLink RX4 15 "FoldedMenu$Printing" "lines" "[I" :: Cond.fieldLink RX4 18 "FoldedMenu$Printing" "weights" "[I" :: Cond.methodLink RX4 24 yX3_size :: Cond.instanceMethod yX3_size :: Cond.selects RX3 yX3_size yX3_size :: Cond.code yX3_size cX3_size 1 (some .int) :: Cond.fieldLink RX3 18 "FoldedMenu$Menu" "dishes" "I" :: Cond.methodLink RX4 30 yX3_valueOf :: wsL_sound_f3
set_option maxRecDepth 20000 in
def wsL_sound_f1 : List Cond := Cond.arrayClass .int :: Cond.methodLink RL 21 yX8_count :: Cond.instanceMethod yX8_count :: Cond.selects RX8 yX8_count yX8_count :: Cond.initialized RX8 :: Cond.code yX8_count cX8_count 2 (some .int) :: Cond.fieldLink RX8 10 "FoldedMenu" "state" "LFoldedMenu$State;" :: Cond.fieldLink RX8 40 "FoldedMenu" "printing" "LFoldedMenu$Printing;" :: Cond.fieldLink RX8 47 "FoldedMenu" "fold" "LFoldedMenu$Fold;" :: Cond.fieldLink RX8 19 "FoldedMenu" "history" "LFoldedMenu$History;" :: Cond.fieldLink RX8 33 "FoldedMenu" "reader" "LFoldedMenu$Reader;" :: Cond.methodLink RX8 193 yX8_layCard :: Cond.instanceMethod yX8_layCard :: Cond.selects RX8 yX8_layCard yX8_layCard :: Cond.code yX8_layCard cX8_layCard 1 none :: Cond.methodLink RX8 109 yX3_setting :: Cond.instanceMethod yX3_setting :: Cond.selects RX3 yX3_setting yX3_setting :: Cond.initialized RX3 :: Cond.code yX3_setting cX3_setting 2 (some .int) :: Cond.fieldLink RX3 15 "FoldedMenu$Menu" "settings" "[I" :: Cond.methodLink RX8 282 yX4_find :: Cond.instanceMethod yX4_find :: Cond.selects RX4 yX4_find yX4_find :: wsL_sound_f2
set_option maxRecDepth 20000 in
theorem wsL_sound_e12 : wsL_sound_f12 = wsL_sound_r12 ++ wsL_sound_xs := rfl
set_option maxRecDepth 20000 in
theorem wsL_sound_e11 : wsL_sound_f11 = wsL_sound_r11 ++ wsL_sound_f12 := rfl
set_option maxRecDepth 20000 in
theorem wsL_sound_e10 : wsL_sound_f10 = wsL_sound_r10 ++ wsL_sound_f11 := rfl
set_option maxRecDepth 20000 in
theorem wsL_sound_e9 : wsL_sound_f9 = wsL_sound_r9 ++ wsL_sound_f10 := rfl
set_option maxRecDepth 20000 in
theorem wsL_sound_e8 : wsL_sound_f8 = wsL_sound_r8 ++ wsL_sound_f9 := rfl
set_option maxRecDepth 20000 in
theorem wsL_sound_e7 : wsL_sound_f7 = wsL_sound_r7 ++ wsL_sound_f8 := rfl
set_option maxRecDepth 20000 in
theorem wsL_sound_e6 : wsL_sound_f6 = wsL_sound_r6 ++ wsL_sound_f7 := rfl
set_option maxRecDepth 20000 in
theorem wsL_sound_e5 : wsL_sound_f5 = wsL_sound_r5 ++ wsL_sound_f6 := rfl
set_option maxRecDepth 20000 in
theorem wsL_sound_e4 : wsL_sound_f4 = wsL_sound_r4 ++ wsL_sound_f5 := rfl
set_option maxRecDepth 20000 in
theorem wsL_sound_e3 : wsL_sound_f3 = wsL_sound_r3 ++ wsL_sound_f4 := rfl
set_option maxRecDepth 20000 in
theorem wsL_sound_e2 : wsL_sound_f2 = wsL_sound_r2 ++ wsL_sound_f3 := rfl
set_option maxRecDepth 20000 in
theorem wsL_sound_e1 : wsL_sound_f1 = wsL_sound_r1 ++ wsL_sound_f2 := rfl
def wsL_sound_f0 : List Cond := .code yL_sound cL_sound 8 (some .boolean) :: wsL_sound_f1
theorem wsL_sound_eq : wsL_sound = wsL_sound_f0 := by
  unfold wsL_sound wsL_sound_f0
  rw [wsL_sound_e1, wsL_sound_e2, wsL_sound_e3, wsL_sound_e4, wsL_sound_e5, wsL_sound_e6, wsL_sound_e7, wsL_sound_e8, wsL_sound_e9, wsL_sound_e10, wsL_sound_e11, wsL_sound_e12]
  unfold wsL_sound_xs
  simp only [List.append_assoc, List.append_nil]
theorem wsL_sound_good {ws : List Cond} (h : GoodIn wsL_sound_f0 ws) : GoodIn wsL_sound ws := by
  rw [wsL_sound_eq]
  exact h
set_option maxRecDepth 20000 in
theorem ggL_sound_X8_count : GoodIn wsL_sound wsX8_count := wsL_sound_good (goodIn_r _ [6, 7, 8, 9, 10, 11, 12, 13, 14, 5, 15, 16, 17, 18, 19, 20, 21, 22, 23, 24, 25, 26, 27, 28, 29, 30, 31, 32, 33, 34, 35, 36, 37, 38, 39, 40, 41, 42, 43, 44, 45, 46, 47, 48, 49, 50, 51, 52, 53, 54, 55, 56, 57, 58, 59, 60, 61, 62, 63, 64, 65, 66, 67, 68, 69, 70, 71, 72, 73, 74, 75, 76, 77, 78, 79, 80, 81, 82, 83, 84, 85, 86, 87, 88, 89, 90, 91, 92, 93, 94, 95, 96, 97, 98, 99, 100, 101, 102, 103, 104, 105, 106, 107, 108, 109, 110, 111, 112, 113, 114, 115, 116, 117, 118, 119, 120, 121, 122, 123, 124, 125, 126, 127, 128, 129, 130, 131, 132, 133, 134, 135, 136, 137, 138, 139, 140, 141, 142, 143, 144, 145, 146, 147, 148, 149, 150, 151, 152, 153, 154, 155, 156, 157, 283, 284, 285, 286, 287, 288, 289, 290, 291, 292, 293, 294, 295, 296, 297, 298, 299, 300, 301, 302, 303, 304, 305, 306, 307, 308, 309, 310, 311, 312, 313, 314, 315, 316, 317, 318] (by decide +kernel) (by decide +kernel))
set_option maxRecDepth 20000 in
theorem gL_sound_X8_count : GoodIn wsL_sound (wsV RL 21 RX8 yX8_count wsX8_count) := goodIn_app (goodIn_of _ (by decide +kernel)) ggL_sound_X8_count
set_option maxRecDepth 20000 in
theorem ggL_sound_X8_why : GoodIn wsL_sound wsX8_why := wsL_sound_good (goodIn_r _ [161, 7, 8, 162, 163, 164, 19, 165, 47, 147, 5, 148, 166, 54, 55, 56, 57, 49, 50, 51, 52, 16, 17, 18, 20, 21, 167, 63, 64, 65, 66, 67, 168, 69, 70, 71, 169, 170, 171, 172, 22, 23, 24, 25, 26, 27, 28, 29, 30, 31, 32, 33, 34, 35, 36, 37, 38, 39, 40, 41, 42, 43, 44, 45, 46, 48, 53, 58, 59, 60, 61, 62, 68, 72, 73, 74, 75, 76, 77, 78, 79, 80, 81, 82, 83, 84, 85, 86, 87, 88, 89, 90, 91, 92, 93, 94, 95, 96, 173, 283, 284, 285, 286, 287, 288, 289, 290, 291, 292, 293, 294, 295, 296, 297, 298, 299, 300, 301, 302, 315, 316, 317, 318] (by decide +kernel) (by decide +kernel))
set_option maxRecDepth 20000 in
theorem gL_sound_X8_why : GoodIn wsL_sound (wsV RL 28 RX8 yX8_why wsX8_why) := goodIn_app (goodIn_of _ (by decide +kernel)) ggL_sound_X8_why
set_option maxRecDepth 20000 in
theorem ggL_sound_X8_replacement : GoodIn wsL_sound wsX8_replacement := wsL_sound_good (goodIn_r _ [177, 7, 8, 178, 162, 163, 164, 19, 165, 47, 147, 5, 148, 169, 170, 171, 172, 16, 17, 18, 20, 21, 22, 23, 24, 25, 26, 27, 28, 29, 30, 31, 32, 33, 34, 35, 36, 37, 38, 39, 40, 41, 42, 43, 44, 45, 46, 48, 49, 50, 51, 52, 53, 54, 55, 56, 57, 58, 59, 60, 61, 62, 63, 64, 65, 66, 67, 68, 69, 70, 71, 72, 73, 74, 75, 76, 77, 78, 79, 80, 81, 82, 83, 84, 85, 86, 87, 88, 89, 90, 91, 92, 93, 94, 95, 96, 173, 179, 180, 181, 182, 183, 184, 185, 186, 187, 188, 189, 190, 191, 192, 193, 194, 195, 196, 146, 197, 198, 199, 200, 201, 202, 283, 284, 285, 286, 287, 288, 289, 290, 291, 292, 293, 294, 295, 296, 297, 298, 299, 300, 301, 302, 315, 316, 317, 318] (by decide +kernel) (by decide +kernel))
set_option maxRecDepth 20000 in
theorem gL_sound_X8_replacement : GoodIn wsL_sound (wsV RL 37 RX8 yX8_replacement wsX8_replacement) := goodIn_app (goodIn_of _ (by decide +kernel)) ggL_sound_X8_replacement
set_option maxRecDepth 20000 in
theorem ggL_sound_X8_dish : GoodIn wsL_sound wsX8_dish := wsL_sound_good (goodIn_r _ [206, 7, 8, 162, 163, 164, 19, 165, 47, 147, 5, 148, 146, 207, 49, 50, 51, 52, 12, 13, 14, 15, 9, 16, 17, 18, 20, 21, 22, 23, 24, 25, 26, 27, 28, 29, 30, 31, 32, 33, 34, 35, 36, 37, 38, 39, 40, 41, 42, 43, 44, 45, 46, 48, 53, 54, 55, 56, 57, 58, 59, 60, 61, 62, 63, 64, 65, 66, 67, 68, 69, 70, 71, 72, 73, 74, 75, 76, 77, 78, 79, 80, 81, 82, 83, 84, 85, 86, 87, 88, 89, 90, 91, 92, 93, 94, 95, 96, 97, 98, 99, 100, 101, 102, 103, 104, 105, 106, 107, 108, 109, 110, 111, 112, 113, 114, 115, 116, 117, 118, 119, 120, 121, 122, 123, 124, 125, 126, 127, 128, 129, 130, 131, 132, 133, 134, 135, 136, 137, 173, 208, 209, 210, 211, 212, 213, 214, 215, 216, 217, 218, 219, 220, 221, 222, 223, 224, 225, 226, 227, 228, 229, 230, 231, 232, 233, 234, 235, 236, 237, 238, 239, 240, 241, 242, 243, 244, 245, 246, 247, 248, 249, 250, 251, 252, 253, 254, 255, 256, 257, 258, 259, 283, 284, 285, 286, 287, 288, 289, 290, 291, 292, 293, 294, 295, 296, 297, 298, 299, 300, 301, 302, 315, 316, 317, 318, 303, 304, 305, 306, 307, 319, 320, 321, 322, 323, 324, 325] (by decide +kernel) (by decide +kernel))
set_option maxRecDepth 20000 in
theorem gL_sound_X8_dish : GoodIn wsL_sound (wsV RL 24 RX8 yX8_dish wsX8_dish) := goodIn_app (goodIn_of _ (by decide +kernel)) ggL_sound_X8_dish
set_option maxRecDepth 20000 in
theorem ggL_sound_X8_card : GoodIn wsL_sound wsX8_card := wsL_sound_good (goodIn_r _ [263, 7, 146, 147, 5, 148, 16, 17, 18, 19, 20, 21, 214, 114, 115, 283, 284, 285, 286, 287, 288, 289, 290, 291, 292, 293, 294, 315, 316, 317, 318] (by decide +kernel) (by decide +kernel))
set_option maxRecDepth 20000 in
theorem gL_sound_X8_card : GoodIn wsL_sound (wsV RL 17 RX8 yX8_card wsX8_card) := goodIn_app (goodIn_of _ (by decide +kernel)) ggL_sound_X8_card
set_option maxRecDepth 20000 in
theorem ggL_sound_X8_printedFor : GoodIn wsL_sound wsX8_printedFor := wsL_sound_good (goodIn_r _ [267, 8, 7, 268, 269, 5, 270, 271, 272, 146, 147, 148, 16, 17, 18, 19, 20, 21, 22, 23, 24, 25, 26, 27, 28, 29, 30, 31, 32, 33, 34, 35, 36, 37, 38, 39, 40, 41, 42, 43, 44, 45, 46, 47, 48, 49, 50, 51, 52, 53, 54, 55, 56, 57, 58, 59, 60, 61, 62, 63, 64, 65, 66, 67, 68, 69, 70, 71, 72, 73, 74, 75, 76, 77, 78, 79, 80, 81, 82, 83, 84, 85, 86, 87, 88, 89, 90, 91, 92, 93, 94, 95, 96, 283, 284, 285, 286, 287, 288, 289, 290, 291, 292, 293, 294, 295, 296, 297, 298, 299, 300, 301, 302, 315, 316, 317, 318] (by decide +kernel) (by decide +kernel))
set_option maxRecDepth 20000 in
theorem gL_sound_X8_printedFor : GoodIn wsL_sound (wsV RL 40 RX8 yX8_printedFor wsX8_printedFor) := goodIn_app (goodIn_of _ (by decide +kernel)) ggL_sound_X8_printedFor
set_option maxRecDepth 20000 in
theorem ggL_sound_X8_account : GoodIn wsL_sound wsX8_account := wsL_sound_good (goodIn_r _ [276, 9, 277, 144, 5, 145, 146, 147, 148, 12, 13, 14, 15, 8, 7, 16, 17, 18, 19, 20, 21, 22, 23, 24, 25, 26, 27, 28, 29, 30, 31, 32, 33, 34, 35, 36, 37, 38, 39, 40, 41, 42, 43, 44, 45, 46, 47, 48, 49, 50, 51, 52, 53, 54, 55, 56, 57, 58, 59, 60, 61, 62, 63, 64, 65, 66, 67, 68, 69, 70, 71, 72, 73, 74, 75, 76, 77, 78, 79, 80, 81, 82, 83, 84, 85, 86, 87, 88, 89, 90, 91, 92, 93, 94, 95, 96, 97, 98, 99, 100, 101, 102, 103, 104, 105, 106, 107, 108, 109, 110, 111, 112, 113, 114, 115, 116, 117, 118, 119, 120, 121, 122, 123, 124, 125, 126, 127, 128, 129, 130, 131, 132, 133, 134, 135, 136, 137, 278, 283, 284, 285, 286, 287, 288, 289, 290, 291, 292, 293, 294, 315, 316, 317, 318, 295, 296, 297, 298, 299, 300, 301, 302, 303, 304, 305, 306, 307] (by decide +kernel) (by decide +kernel))
set_option maxRecDepth 20000 in
theorem gL_sound_X8_account : GoodIn wsL_sound (wsV RL 34 RX8 yX8_account wsX8_account) := goodIn_app (goodIn_of _ (by decide +kernel)) ggL_sound_X8_account
set_option maxRecDepth 20000 in
theorem ggL_sound_X8_evenSeasons : GoodIn wsL_sound wsX8_evenSeasons := wsL_sound_good (goodIn_r _ [282, 8, 7, 9, 16, 17, 18, 19, 20, 21, 22, 23, 24, 25, 26, 27, 28, 29, 30, 31, 32, 33, 34, 35, 36, 37, 38, 39, 40, 41, 42, 43, 44, 45, 46, 47, 48, 49, 50, 51, 52, 53, 54, 55, 56, 57, 58, 59, 60, 61, 62, 63, 64, 65, 66, 5, 67, 68, 69, 70, 71, 72, 73, 74, 75, 76, 77, 78, 79, 80, 81, 82, 83, 84, 85, 86, 87, 88, 89, 90, 91, 92, 93, 94, 95, 96, 97, 98, 99, 100, 101, 102, 103, 104, 105, 106, 107, 108, 109, 110, 111, 112, 113, 114, 115, 116, 117, 118, 119, 120, 121, 122, 123, 124, 125, 126, 127, 128, 129, 130, 131, 132, 133, 134, 135, 136, 137, 154, 155, 156, 157, 283, 284, 285, 286, 287, 288, 289, 290, 291, 292, 293, 294, 315, 316, 317, 318, 295, 296, 297, 298, 299, 300, 301, 302, 303, 304, 305, 306, 307] (by decide +kernel) (by decide +kernel))
set_option maxRecDepth 20000 in
theorem gL_sound_X8_evenSeasons : GoodIn wsL_sound (wsV RL 43 RX8 yX8_evenSeasons wsX8_evenSeasons) := goodIn_app (goodIn_of _ (by decide +kernel)) ggL_sound_X8_evenSeasons
theorem dL_sound_0 : decode cL_sound 0 = .ok (.iconst 0, 1) := by decide +kernel
theorem dL_sound_1 : decode cL_sound 1 = .ok (.istore_n 1, 1) := by decide +kernel
theorem dL_sound_2 : decode cL_sound 2 = .ok (.iconst 0, 1) := by decide +kernel
theorem dL_sound_3 : decode cL_sound 3 = .ok (.istore_n 2, 1) := by decide +kernel
theorem dL_sound_4 : decode cL_sound 4 = .ok (.iconst 0, 1) := by decide +kernel
theorem dL_sound_5 : decode cL_sound 5 = .ok (.istore_n 3, 1) := by decide +kernel
theorem dL_sound_6 : decode cL_sound 6 = .ok (.iconst 4, 1) := by decide +kernel
theorem dL_sound_7 : decode cL_sound 7 = .ok (.newarray .int, 2) := by decide +kernel
theorem dL_sound_9 : decode cL_sound 9 = .ok (.astore 4, 2) := by decide +kernel
theorem dL_sound_11 : decode cL_sound 11 = .ok (.iconst 0, 1) := by decide +kernel
theorem dL_sound_12 : decode cL_sound 12 = .ok (.istore 5, 2) := by decide +kernel
theorem dL_sound_14 : decode cL_sound 14 = .ok (.iload 5, 2) := by decide +kernel
theorem dL_sound_16 : decode cL_sound 16 = .ok (.aload_n 0, 1) := by decide +kernel
theorem dL_sound_17 : decode cL_sound 17 = .ok (.iconst 0, 1) := by decide +kernel
theorem dL_sound_18 : decode cL_sound 18 = .ok (.invokevirtual 21, 3) := by decide +kernel
theorem dL_sound_21 : decode cL_sound 21 = .ok (.if_icmp .ge 213, 3) := by decide +kernel
theorem dL_sound_24 : decode cL_sound 24 = .ok (.aload_n 0, 1) := by decide +kernel
theorem dL_sound_25 : decode cL_sound 25 = .ok (.iload 5, 2) := by decide +kernel
theorem dL_sound_27 : decode cL_sound 27 = .ok (.invokevirtual 28, 3) := by decide +kernel
theorem dL_sound_30 : decode cL_sound 30 = .ok (.istore 6, 2) := by decide +kernel
theorem dL_sound_32 : decode cL_sound 32 = .ok (.aload_n 0, 1) := by decide +kernel
theorem dL_sound_33 : decode cL_sound 33 = .ok (.iload 5, 2) := by decide +kernel
theorem dL_sound_35 : decode cL_sound 35 = .ok (.invokevirtual 37, 3) := by decide +kernel
theorem dL_sound_38 : decode cL_sound 38 = .ok (.istore 7, 2) := by decide +kernel
theorem dL_sound_40 : decode cL_sound 40 = .ok (.iload_n 1, 1) := by decide +kernel
theorem dL_sound_41 : decode cL_sound 41 = .ok (.iload 6, 2) := by decide +kernel
theorem dL_sound_43 : decode cL_sound 43 = .ok (.ifCond .ne 7, 3) := by decide +kernel
theorem dL_sound_46 : decode cL_sound 46 = .ok (.iconst 1, 1) := by decide +kernel
theorem dL_sound_47 : decode cL_sound 47 = .ok (.goto 4, 3) := by decide +kernel
theorem dL_sound_50 : decode cL_sound 50 = .ok (.iconst 0, 1) := by decide +kernel
theorem dL_sound_51 : decode cL_sound 51 = .ok (.iadd, 1) := by decide +kernel
theorem dL_sound_52 : decode cL_sound 52 = .ok (.istore_n 1, 1) := by decide +kernel
theorem dL_sound_53 : decode cL_sound 53 = .ok (.iload_n 3, 1) := by decide +kernel
theorem dL_sound_54 : decode cL_sound 54 = .ok (.iload 6, 2) := by decide +kernel
theorem dL_sound_56 : decode cL_sound 56 = .ok (.ifCond .ne 13, 3) := by decide +kernel
theorem dL_sound_59 : decode cL_sound 59 = .ok (.aload_n 0, 1) := by decide +kernel
theorem dL_sound_60 : decode cL_sound 60 = .ok (.iload 5, 2) := by decide +kernel
theorem dL_sound_62 : decode cL_sound 62 = .ok (.iconst 2, 1) := by decide +kernel
theorem dL_sound_63 : decode cL_sound 63 = .ok (.invokevirtual 24, 3) := by decide +kernel
theorem dL_sound_66 : decode cL_sound 66 = .ok (.goto 4, 3) := by decide +kernel
theorem dL_sound_69 : decode cL_sound 69 = .ok (.iconst 0, 1) := by decide +kernel
theorem dL_sound_70 : decode cL_sound 70 = .ok (.iadd, 1) := by decide +kernel
theorem dL_sound_71 : decode cL_sound 71 = .ok (.istore_n 3, 1) := by decide +kernel
theorem dL_sound_72 : decode cL_sound 72 = .ok (.iload_n 2, 1) := by decide +kernel
theorem dL_sound_73 : decode cL_sound 73 = .ok (.aload_n 0, 1) := by decide +kernel
theorem dL_sound_74 : decode cL_sound 74 = .ok (.iload 5, 2) := by decide +kernel
theorem dL_sound_76 : decode cL_sound 76 = .ok (.bipush 7, 2) := by decide +kernel
theorem dL_sound_78 : decode cL_sound 78 = .ok (.invokevirtual 24, 3) := by decide +kernel
theorem dL_sound_81 : decode cL_sound 81 = .ok (.iadd, 1) := by decide +kernel
theorem dL_sound_82 : decode cL_sound 82 = .ok (.istore_n 2, 1) := by decide +kernel
theorem dL_sound_83 : decode cL_sound 83 = .ok (.aload 4, 2) := by decide +kernel
theorem dL_sound_85 : decode cL_sound 85 = .ok (.aload_n 0, 1) := by decide +kernel
theorem dL_sound_86 : decode cL_sound 86 = .ok (.iload 5, 2) := by decide +kernel
theorem dL_sound_88 : decode cL_sound 88 = .ok (.iconst 0, 1) := by decide +kernel
theorem dL_sound_89 : decode cL_sound 89 = .ok (.invokevirtual 24, 3) := by decide +kernel
theorem dL_sound_92 : decode cL_sound 92 = .ok (.dup2, 1) := by decide +kernel
theorem dL_sound_93 : decode cL_sound 93 = .ok (.iaload, 1) := by decide +kernel
theorem dL_sound_94 : decode cL_sound 94 = .ok (.iload 6, 2) := by decide +kernel
theorem dL_sound_96 : decode cL_sound 96 = .ok (.ifCond .ne 7, 3) := by decide +kernel
theorem dL_sound_99 : decode cL_sound 99 = .ok (.iconst 1, 1) := by decide +kernel
theorem dL_sound_100 : decode cL_sound 100 = .ok (.goto 4, 3) := by decide +kernel
theorem dL_sound_103 : decode cL_sound 103 = .ok (.iconst 0, 1) := by decide +kernel
theorem dL_sound_104 : decode cL_sound 104 = .ok (.iadd, 1) := by decide +kernel
theorem dL_sound_105 : decode cL_sound 105 = .ok (.iastore, 1) := by decide +kernel
theorem dL_sound_106 : decode cL_sound 106 = .ok (.iload 6, 2) := by decide +kernel
theorem dL_sound_108 : decode cL_sound 108 = .ok (.ifCond .ne 7, 3) := by decide +kernel
theorem dL_sound_111 : decode cL_sound 111 = .ok (.iconst 1, 1) := by decide +kernel
theorem dL_sound_112 : decode cL_sound 112 = .ok (.goto 4, 3) := by decide +kernel
theorem dL_sound_115 : decode cL_sound 115 = .ok (.iconst 0, 1) := by decide +kernel
theorem dL_sound_116 : decode cL_sound 116 = .ok (.aload_n 0, 1) := by decide +kernel
theorem dL_sound_117 : decode cL_sound 117 = .ok (.iload 5, 2) := by decide +kernel
theorem dL_sound_119 : decode cL_sound 119 = .ok (.bipush 7, 2) := by decide +kernel
theorem dL_sound_121 : decode cL_sound 121 = .ok (.invokevirtual 24, 3) := by decide +kernel
theorem dL_sound_124 : decode cL_sound 124 = .ok (.ifCond .le 7, 3) := by decide +kernel
theorem dL_sound_127 : decode cL_sound 127 = .ok (.iconst 1, 1) := by decide +kernel
theorem dL_sound_128 : decode cL_sound 128 = .ok (.goto 4, 3) := by decide +kernel
theorem dL_sound_131 : decode cL_sound 131 = .ok (.iconst 0, 1) := by decide +kernel
theorem dL_sound_132 : decode cL_sound 132 = .ok (.if_icmp .ne 94, 3) := by decide +kernel
theorem dL_sound_135 : decode cL_sound 135 = .ok (.iload 6, 2) := by decide +kernel
theorem dL_sound_137 : decode cL_sound 137 = .ok (.ifCond .ne 7, 3) := by decide +kernel
theorem dL_sound_140 : decode cL_sound 140 = .ok (.iconst 1, 1) := by decide +kernel
theorem dL_sound_141 : decode cL_sound 141 = .ok (.goto 4, 3) := by decide +kernel
theorem dL_sound_144 : decode cL_sound 144 = .ok (.iconst 0, 1) := by decide +kernel
theorem dL_sound_145 : decode cL_sound 145 = .ok (.aload_n 0, 1) := by decide +kernel
theorem dL_sound_146 : decode cL_sound 146 = .ok (.iload 5, 2) := by decide +kernel
theorem dL_sound_148 : decode cL_sound 148 = .ok (.bipush 8, 2) := by decide +kernel
theorem dL_sound_150 : decode cL_sound 150 = .ok (.invokevirtual 24, 3) := by decide +kernel
theorem dL_sound_153 : decode cL_sound 153 = .ok (.ifCond .lt 7, 3) := by decide +kernel
theorem dL_sound_156 : decode cL_sound 156 = .ok (.iconst 1, 1) := by decide +kernel
theorem dL_sound_157 : decode cL_sound 157 = .ok (.goto 4, 3) := by decide +kernel
theorem dL_sound_160 : decode cL_sound 160 = .ok (.iconst 0, 1) := by decide +kernel
theorem dL_sound_161 : decode cL_sound 161 = .ok (.if_icmp .ne 65, 3) := by decide +kernel
theorem dL_sound_164 : decode cL_sound 164 = .ok (.iload 6, 2) := by decide +kernel
theorem dL_sound_166 : decode cL_sound 166 = .ok (.iconst 1, 1) := by decide +kernel
theorem dL_sound_167 : decode cL_sound 167 = .ok (.if_icmp .ne 7, 3) := by decide +kernel
theorem dL_sound_170 : decode cL_sound 170 = .ok (.iconst 1, 1) := by decide +kernel
theorem dL_sound_171 : decode cL_sound 171 = .ok (.goto 4, 3) := by decide +kernel
theorem dL_sound_174 : decode cL_sound 174 = .ok (.iconst 0, 1) := by decide +kernel
theorem dL_sound_175 : decode cL_sound 175 = .ok (.aload_n 0, 1) := by decide +kernel
theorem dL_sound_176 : decode cL_sound 176 = .ok (.iload 5, 2) := by decide +kernel
theorem dL_sound_178 : decode cL_sound 178 = .ok (.bipush 6, 2) := by decide +kernel
theorem dL_sound_180 : decode cL_sound 180 = .ok (.invokevirtual 24, 3) := by decide +kernel
theorem dL_sound_183 : decode cL_sound 183 = .ok (.ifCond .ne 7, 3) := by decide +kernel
theorem dL_sound_186 : decode cL_sound 186 = .ok (.iconst 1, 1) := by decide +kernel
theorem dL_sound_187 : decode cL_sound 187 = .ok (.goto 4, 3) := by decide +kernel
theorem dL_sound_190 : decode cL_sound 190 = .ok (.iconst 0, 1) := by decide +kernel
theorem dL_sound_191 : decode cL_sound 191 = .ok (.if_icmp .ne 35, 3) := by decide +kernel
theorem dL_sound_194 : decode cL_sound 194 = .ok (.iload 6, 2) := by decide +kernel
theorem dL_sound_196 : decode cL_sound 196 = .ok (.ifCond .le 13, 3) := by decide +kernel
theorem dL_sound_199 : decode cL_sound 199 = .ok (.iload 7, 2) := by decide +kernel
theorem dL_sound_201 : decode cL_sound 201 = .ok (.bipush (-2), 2) := by decide +kernel
theorem dL_sound_203 : decode cL_sound 203 = .ok (.if_icmp .eq 25, 3) := by decide +kernel
theorem dL_sound_206 : decode cL_sound 206 = .ok (.goto 20, 3) := by decide +kernel
theorem dL_sound_209 : decode cL_sound 209 = .ok (.iload 7, 2) := by decide +kernel
theorem dL_sound_211 : decode cL_sound 211 = .ok (.bipush (-99), 2) := by decide +kernel
theorem dL_sound_213 : decode cL_sound 213 = .ok (.if_icmp .eq 15, 3) := by decide +kernel
theorem dL_sound_216 : decode cL_sound 216 = .ok (.aload_n 0, 1) := by decide +kernel
theorem dL_sound_217 : decode cL_sound 217 = .ok (.iload 7, 2) := by decide +kernel
theorem dL_sound_219 : decode cL_sound 219 = .ok (.invokevirtual 28, 3) := by decide +kernel
theorem dL_sound_222 : decode cL_sound 222 = .ok (.iconst 4, 1) := by decide +kernel
theorem dL_sound_223 : decode cL_sound 223 = .ok (.if_icmp .eq 5, 3) := by decide +kernel
theorem dL_sound_226 : decode cL_sound 226 = .ok (.iconst 0, 1) := by decide +kernel
theorem dL_sound_227 : decode cL_sound 227 = .ok (.ireturn, 1) := by decide +kernel
theorem dL_sound_228 : decode cL_sound 228 = .ok (.iinc 5 1, 3) := by decide +kernel
theorem dL_sound_231 : decode cL_sound 231 = .ok (.goto (-217), 3) := by decide +kernel
theorem dL_sound_234 : decode cL_sound 234 = .ok (.iconst 0, 1) := by decide +kernel
theorem dL_sound_235 : decode cL_sound 235 = .ok (.istore 5, 2) := by decide +kernel
theorem dL_sound_237 : decode cL_sound 237 = .ok (.iload 5, 2) := by decide +kernel
theorem dL_sound_239 : decode cL_sound 239 = .ok (.iconst 4, 1) := by decide +kernel
theorem dL_sound_240 : decode cL_sound 240 = .ok (.if_icmp .ge 24, 3) := by decide +kernel
theorem dL_sound_243 : decode cL_sound 243 = .ok (.aload 4, 2) := by decide +kernel
theorem dL_sound_245 : decode cL_sound 245 = .ok (.iload 5, 2) := by decide +kernel
theorem dL_sound_247 : decode cL_sound 247 = .ok (.iaload, 1) := by decide +kernel
theorem dL_sound_248 : decode cL_sound 248 = .ok (.aload_n 0, 1) := by decide +kernel
theorem dL_sound_249 : decode cL_sound 249 = .ok (.iconst 2, 1) := by decide +kernel
theorem dL_sound_250 : decode cL_sound 250 = .ok (.invokevirtual 17, 3) := by decide +kernel
theorem dL_sound_253 : decode cL_sound 253 = .ok (.if_icmp .le 5, 3) := by decide +kernel

def RL : String := "FoldedMenuLaw"
abbrev cL_law : ByteArray := code
def yL_law : MethodName := ⟨RL, "law", "([I)Z"⟩
def wsL_law_r1 : List Cond := [Cond.classLink RL 7 RX8, Cond.instantiable RX8 9, Cond.initialized RX8, Cond.classLink RL 10 RX9, Cond.instantiable RX9 27, Cond.initialized RX9, Cond.methodLink RL 9 yX8_init, Cond.instanceMethod yX8_init, Cond.code yX8_init cX8_init 1 none, Cond.methodLink RX8 1 objectInit, Cond.instanceMethod objectInit, Cond.code objectInit ⟨#[0xb1]⟩ 1 none, Cond.classLink RX8 7 RX7, Cond.instantiable RX7 3, Cond.initialized RX7, Cond.fieldLink RX8 10 "FoldedMenu" "state" "LFoldedMenu$State;", Cond.classLink RX8 16 RX2, Cond.instantiable RX2 2, Cond.initialized RX2, Cond.fieldLink RX8 19 "FoldedMenu" "history" "LFoldedMenu$History;", Cond.classLink RX8 23 RX3, Cond.instantiable RX3 4, Cond.initialized RX3, Cond.fieldLink RX8 26 "FoldedMenu" "draft" "LFoldedMenu$Menu;"]
def wsL_law_r2 : List Cond := [Cond.classLink RX8 30 RX5, Cond.instantiable RX5 5, Cond.initialized RX5, Cond.fieldLink RX8 33 "FoldedMenu" "reader" "LFoldedMenu$Reader;", Cond.classLink RX8 37 RX4, Cond.instantiable RX4 8, Cond.initialized RX4, Cond.fieldLink RX8 40 "FoldedMenu" "printing" "LFoldedMenu$Printing;", Cond.classLink RX8 44 RX1, Cond.instantiable RX1 5, Cond.initialized RX1, Cond.fieldLink RX8 47 "FoldedMenu" "fold" "LFoldedMenu$Fold;", Cond.fieldLink RX8 51 "FoldedMenu" "otherFold" "LFoldedMenu$Fold;", Cond.classLink RX8 54 RX0, Cond.instantiable RX0 7, Cond.initialized RX0, Cond.fieldLink RX8 57 "FoldedMenu" "blocks" "LFoldedMenu$Blocks;", Cond.classLink RX8 61 RX6, Cond.instantiable RX6 5, Cond.initialized RX6, Cond.fieldLink RX8 64 "FoldedMenu" "finder" "LFoldedMenu$SetFinder;", Cond.instanceMethod yX7_init, Cond.code yX7_init cX7_init 1 none, Cond.methodLink RX7 3 objectInit]
def wsL_law_r3 : List Cond := [Cond.classLink RX7 9 RX3, Cond.fieldLink RX7 12 "FoldedMenu$State" "menu" "LFoldedMenu$Menu;", Cond.fieldLink RX7 18 "FoldedMenu$State" "snapshots" "[LFoldedMenu$Menu;", Cond.fieldLink RX7 22 "FoldedMenu$State" "kept" "I", Cond.instanceMethod yX3_init, Cond.code yX3_init cX3_init 1 none, Cond.methodLink RX3 3 objectInit, Cond.arrayClass .int, Cond.fieldLink RX3 9 "FoldedMenu$Menu" "values" "[I", Cond.fieldLink RX3 15 "FoldedMenu$Menu" "settings" "[I", Cond.fieldLink RX3 18 "FoldedMenu$Menu" "dishes" "I", Cond.fieldLink RX3 22 "FoldedMenu$Menu" "way" "I", Cond.instanceMethod yX2_init, Cond.code yX2_init cX2_init 1 none, Cond.methodLink RX2 3 objectInit, Cond.classLink RX2 9 RX7, Cond.fieldLink RX2 12 "FoldedMenu$History" "states" "[LFoldedMenu$State;", Cond.fieldLink RX2 18 "FoldedMenu$History" "size" "I", Cond.instanceMethod yX5_init, Cond.code yX5_init cX5_init 1 none, Cond.methodLink RX5 3 objectInit, Cond.fieldLink RX5 9 "FoldedMenu$Reader" "text" "[I", Cond.fieldLink RX5 15 "FoldedMenu$Reader" "item" "[I", Cond.fieldLink RX5 18 "FoldedMenu$Reader" "length" "I"]
def wsL_law_r4 : List Cond := [Cond.instanceMethod yX4_init, Cond.code yX4_init cX4_init 1 none, Cond.methodLink RX4 3 objectInit, Cond.fieldLink RX4 9 "FoldedMenu$Printing" "dishes" "[I", Cond.fieldLink RX4 15 "FoldedMenu$Printing" "lines" "[I", Cond.fieldLink RX4 18 "FoldedMenu$Printing" "weights" "[I", Cond.instanceMethod yX1_init, Cond.code yX1_init cX1_init 1 none, Cond.methodLink RX1 3 objectInit, Cond.classLink RX1 9 "[[I", Cond.fieldLink RX1 11 "FoldedMenu$Fold" "parts" "[[I", Cond.fieldLink RX1 16 "FoldedMenu$Fold" "weights" "[I", Cond.fieldLink RX1 20 "FoldedMenu$Fold" "places" "[I", Cond.instanceMethod yX0_init, Cond.code yX0_init cX0_init 1 none, Cond.methodLink RX0 3 objectInit, Cond.fieldLink RX0 11 "FoldedMenu$Blocks" "kinds" "[I", Cond.fieldLink RX0 15 "FoldedMenu$Blocks" "numbers" "[I", Cond.fieldLink RX0 18 "FoldedMenu$Blocks" "starts" "[I", Cond.fieldLink RX0 21 "FoldedMenu$Blocks" "sizes" "[I", Cond.instanceMethod yX6_init, Cond.code yX6_init cX6_init 1 none, Cond.methodLink RX6 3 objectInit, Cond.classLink RX6 11 "[[J"]
def wsL_law_r5 : List Cond := [Cond.arrayClass .long, Cond.fieldLink RX6 13 "FoldedMenu$SetFinder" "best" "[[J", Cond.fieldLink RX6 16 "FoldedMenu$SetFinder" "candidates" "[I", Cond.methodLink RL 12 yX9_init, Cond.instanceMethod yX9_init, Cond.code yX9_init cX9_init 1 none, Cond.methodLink RX9 1 objectInit, Cond.fieldLink RX9 7 "FoldedMenuModel" "page" "[I", Cond.fieldLink RX9 13 "FoldedMenuModel" "spare" "[I", Cond.fieldLink RX9 16 "FoldedMenuModel" "history" "[I", Cond.fieldLink RX9 19 "FoldedMenuModel" "text" "[I", Cond.fieldLink RX9 22 "FoldedMenuModel" "many" "[I", Cond.fieldLink RX9 25 "FoldedMenuModel" "kind" "[I", Cond.fieldLink RX9 28 "FoldedMenuModel" "number" "[I", Cond.fieldLink RX9 31 "FoldedMenuModel" "lines" "[I", Cond.fieldLink RX9 34 "FoldedMenuModel" "first" "[I", Cond.fieldLink RX9 37 "FoldedMenuModel" "spacing" "[I", Cond.fieldLink RX9 40 "FoldedMenuModel" "fill" "[I", Cond.fieldLink RX9 43 "FoldedMenuModel" "all" "[I", Cond.fieldLink RX9 46 "FoldedMenuModel" "heavy" "[I", Cond.fieldLink RX9 49 "FoldedMenuModel" "best" "[J", Cond.fieldLink RX9 53 "FoldedMenuModel" "candidate" "[I", Cond.methodLink RL 13 yX8_addDish, Cond.instanceMethod yX8_addDish]
def wsL_law_r6 : List Cond := [Cond.selects RX8 yX8_addDish yX8_addDish, Cond.code yX8_addDish cX8_addDish 8 (some .int), Cond.methodLink RX8 68 yX8_isDishValue, Cond.static yX8_isDishValue, Cond.code yX8_isDishValue cX8_isDishValue 2 (some .boolean), Cond.fieldLink RX8 315 "FoldedMenu" "DISH_LOW" "[I", Cond.fieldLink RX8 319 "FoldedMenu" "DISH_HIGH" "[I", Cond.methodLink RX8 117 yX8_inRange, Cond.static yX8_inRange, Cond.code yX8_inRange cX8_inRange 3 (some .boolean), Cond.methodLink RX8 75 yX3_isFull, Cond.instanceMethod yX3_isFull, Cond.selects RX3 yX3_isFull yX3_isFull, Cond.code yX3_isFull cX3_isFull 1 (some .boolean), Cond.methodLink RX8 79 yX2_record, Cond.instanceMethod yX2_record, Cond.selects RX2 yX2_record yX2_record, Cond.code yX2_record cX2_record 2 none, Cond.methodLink RX2 22 yX2_dropOldest, Cond.instanceMethod yX2_dropOldest, Cond.selects RX2 yX2_dropOldest yX2_dropOldest, Cond.code yX2_dropOldest cX2_dropOldest 3 none, Cond.methodLink RX2 25 yX7_copyFrom, Cond.instanceMethod yX7_copyFrom]
def wsL_law_r7 : List Cond := [Cond.selects RX7 yX7_copyFrom yX7_copyFrom, Cond.code yX7_copyFrom cX7_copyFrom 3 none, Cond.methodLink RX7 26 yX3_copyFrom, Cond.instanceMethod yX3_copyFrom, Cond.selects RX3 yX3_copyFrom yX3_copyFrom, Cond.code yX3_copyFrom cX3_copyFrom 2 none, Cond.methodLink RX3 25 arraycopyName, Cond.native arraycopyName, Cond.static arraycopyName, Cond.initialized "java/lang/System", Cond.methodLink RX8 83 yX3_addOffered, Cond.instanceMethod yX3_addOffered, Cond.selects RX3 yX3_addOffered yX3_addOffered, Cond.code yX3_addOffered cX3_addOffered 1 (some .int), Cond.methodLink RX3 43 yX3_isFull, Cond.methodLink RX8 87 yX3_change, Cond.instanceMethod yX3_change, Cond.selects RX3 yX3_change yX3_change, Cond.code yX3_change cX3_change 4 none, Cond.methodLink RX3 35 yX3_hasDish, Cond.instanceMethod yX3_hasDish, Cond.selects RX3 yX3_hasDish yX3_hasDish, Cond.code yX3_hasDish cX3_hasDish 2 (some .boolean), Cond.methodLink RL 17 yX9_addDish]
def wsL_law_r8 : List Cond := [Cond.instanceMethod yX9_addDish, Cond.selects RX9 yX9_addDish yX9_addDish, Cond.code yX9_addDish cX9_addDish 8 (some .int), Cond.methodLink RX9 150 yX9_isIn, Cond.static yX9_isIn, Cond.code yX9_isIn cX9_isIn 2 (some .boolean), Cond.methodLink RX9 64 yX9_in, Cond.static yX9_in, Cond.code yX9_in cX9_in 3 (some .boolean), Cond.methodLink RX9 153 yX9_keep, Cond.instanceMethod yX9_keep, Cond.selects RX9 yX9_keep yX9_keep, Cond.code yX9_keep cX9_keep 1 none, Cond.fieldLink RX9 56 "FoldedMenuModel" "states" "I", Cond.methodLink RX9 60 yX9_bring, Cond.static yX9_bring, Cond.code yX9_bring cX9_bring 6 none, Cond.methodLink RX9 156 yX9_adds, Cond.static yX9_adds, Cond.code yX9_adds cX9_adds 8 none, Cond.methodLink RL 18 yX8_removeDish, Cond.instanceMethod yX8_removeDish, Cond.selects RX8 yX8_removeDish yX8_removeDish, Cond.code yX8_removeDish cX8_removeDish 2 (some .int)]
def wsL_law_r9 : List Cond := [Cond.methodLink RX8 91 yX3_hasDish, Cond.methodLink RX8 95 yX3_drop, Cond.instanceMethod yX3_drop, Cond.selects RX3 yX3_drop yX3_drop, Cond.code yX3_drop cX3_drop 3 none, Cond.methodLink RX8 99 yX3_size, Cond.instanceMethod yX3_size, Cond.selects RX3 yX3_size yX3_size, Cond.code yX3_size cX3_size 1 (some .int), Cond.methodLink RL 22 yX9_removeDish, Cond.instanceMethod yX9_removeDish, Cond.selects RX9 yX9_removeDish yX9_removeDish, Cond.code yX9_removeDish cX9_removeDish 3 (some .int), Cond.methodLink RX9 160 yX9_isDish, Cond.instanceMethod yX9_isDish, Cond.selects RX9 yX9_isDish yX9_isDish, Cond.code yX9_isDish cX9_isDish 2 (some .boolean), Cond.methodLink RL 23 yX8_setDish, Cond.instanceMethod yX8_setDish, Cond.selects RX8 yX8_setDish yX8_setDish, Cond.code yX8_setDish cX8_setDish 5 (some .int), Cond.methodLink RX8 102 yX3_valueOf, Cond.instanceMethod yX3_valueOf, Cond.selects RX3 yX3_valueOf yX3_valueOf]
def wsL_law_r10 : List Cond := [Cond.code yX3_valueOf cX3_valueOf 4 (some .int), Cond.methodLink RL 27 yX9_setDish, Cond.instanceMethod yX9_setDish, Cond.selects RX9 yX9_setDish yX9_setDish, Cond.code yX9_setDish cX9_setDish 5 (some .int), Cond.methodLink RX9 68 yX9_of, Cond.instanceMethod yX9_of, Cond.selects RX9 yX9_of yX9_of, Cond.code yX9_of cX9_of 3 (some .int), Cond.methodLink RL 28 yX8_setCard, Cond.instanceMethod yX8_setCard, Cond.selects RX8 yX8_setCard yX8_setCard, Cond.code yX8_setCard cX8_setCard 4 (some .int), Cond.methodLink RX8 106 yX8_isCardValue, Cond.static yX8_isCardValue, Cond.code yX8_isCardValue cX8_isCardValue 2 (some .boolean), Cond.fieldLink RX8 322 "FoldedMenu" "CARD_LOW" "[I", Cond.fieldLink RX8 325 "FoldedMenu" "CARD_HIGH" "[I", Cond.methodLink RX8 109 yX3_setting, Cond.instanceMethod yX3_setting, Cond.selects RX3 yX3_setting yX3_setting, Cond.code yX3_setting cX3_setting 2 (some .int), Cond.methodLink RX8 113 yX3_changeSetting, Cond.instanceMethod yX3_changeSetting]
def wsL_law_r11 : List Cond := [Cond.selects RX3 yX3_changeSetting yX3_changeSetting, Cond.code yX3_changeSetting cX3_changeSetting 3 none, Cond.methodLink RL 32 yX9_setCard, Cond.instanceMethod yX9_setCard, Cond.selects RX9 yX9_setCard yX9_setCard, Cond.code yX9_setCard cX9_setCard 4 (some .int), Cond.methodLink RX9 163 yX9_isOnCard, Cond.static yX9_isOnCard, Cond.code yX9_isOnCard cX9_isOnCard 2 (some .boolean), Cond.methodLink RL 33 yX8_setSide, Cond.instanceMethod yX8_setSide, Cond.selects RX8 yX8_setSide yX8_setSide, Cond.code yX8_setSide cX8_setSide 4 (some .int), Cond.methodLink RX8 121 yX8_isSide, Cond.static yX8_isSide, Cond.code yX8_isSide cX8_isSide 1 (some .boolean), Cond.methodLink RX8 128 yX8_sideIn, Cond.static yX8_sideIn, Cond.code yX8_sideIn cX8_sideIn 2 (some .int), Cond.methodLink RX8 131 yX3_putCourse, Cond.instanceMethod yX3_putCourse, Cond.selects RX3 yX3_putCourse yX3_putCourse, Cond.code yX3_putCourse cX3_putCourse 3 none, Cond.methodLink RL 36 yX9_setSide]
def wsL_law_r12 : List Cond := [Cond.instanceMethod yX9_setSide, Cond.selects RX9 yX9_setSide yX9_setSide, Cond.code yX9_setSide cX9_setSide 4 (some .int), Cond.methodLink RL 37 yX8_arrange, Cond.instanceMethod yX8_arrange, Cond.selects RX8 yX8_arrange yX8_arrange, Cond.code yX8_arrange cX8_arrange 1 (some .int), Cond.methodLink RX8 134 yX8_findPrinted, Cond.instanceMethod yX8_findPrinted, Cond.selects RX8 yX8_findPrinted yX8_findPrinted, Cond.code yX8_findPrinted cX8_findPrinted 2 none, Cond.methodLink RX8 282 yX4_find, Cond.instanceMethod yX4_find, Cond.selects RX4 yX4_find yX4_find, Cond.code yX4_find cX4_find 8 none, Cond.fieldLink RX4 46 "FoldedMenu$Printing" "set" "I", Cond.fieldLink RX4 50 "FoldedMenu$Printing" "number" "I", Cond.fieldLink RX4 53 "FoldedMenu$Printing" "prices" "I", Cond.fieldLink RX4 56 "FoldedMenu$Printing" "allergens" "I", Cond.methodLink RX4 59 Lib.Math.max.name, Cond.static Lib.Math.max.name, Cond.initialized "java/lang/Math", Cond.code Lib.Math.max.name Lib.Math.max.code 2 (some .int), Cond.fieldLink RX4 67 "FoldedMenu$Printing" "column" "I"]
def wsL_law_r13 : List Cond := [Cond.methodLink RX4 21 yX4_clear, Cond.instanceMethod yX4_clear, Cond.selects RX4 yX4_clear yX4_clear, Cond.code yX4_clear cX4_clear 2 none, Cond.methodLink RX4 24 yX3_size, Cond.methodLink RX4 30 yX3_valueOf, Cond.methodLink RX4 34 yX3_isOffered, Cond.instanceMethod yX3_isOffered, Cond.selects RX3 yX3_isOffered yX3_isOffered, Cond.code yX3_isOffered cX3_isOffered 2 (some .boolean), Cond.methodLink RX3 50 yX3_valueOf, Cond.methodLink RX4 38 yX3_mayBePrinted, Cond.instanceMethod yX3_mayBePrinted, Cond.selects RX3 yX3_mayBePrinted yX3_mayBePrinted, Cond.code yX3_mayBePrinted cX3_mayBePrinted 4 (some .boolean), Cond.methodLink RX3 57 yX3_isInSeason, Cond.instanceMethod yX3_isInSeason, Cond.selects RX3 yX3_isInSeason yX3_isInSeason, Cond.code yX3_isInSeason cX3_isInSeason 3 (some .boolean), Cond.static yX8_has, Cond.code yX8_has cX8_has 2 (some .boolean), Cond.methodLink RX3 60 yX3_suits, Cond.instanceMethod yX3_suits, Cond.selects RX3 yX3_suits yX3_suits]
def wsL_law_r14 : List Cond := [Cond.code yX3_suits cX3_suits 3 (some .boolean), Cond.methodLink RX4 42 yX3_setting, Cond.static yX8_digitsOf, Cond.code yX8_digitsOf cX8_digitsOf 1 (some .int), Cond.methodLink RX4 70 yX4_measure, Cond.instanceMethod yX4_measure, Cond.selects RX4 yX4_measure yX4_measure, Cond.code yX4_measure cX4_measure 5 none, Cond.methodLink RX4 78 yX3_linesOf, Cond.instanceMethod yX3_linesOf, Cond.selects RX3 yX3_linesOf yX3_linesOf, Cond.code yX3_linesOf cX3_linesOf 3 (some .int), Cond.methodLink RX3 69 yX3_textOf, Cond.instanceMethod yX3_textOf, Cond.selects RX3 yX3_textOf yX3_textOf, Cond.code yX3_textOf cX3_textOf 3 (some .int), Cond.methodLink RX3 63 yJ6_bitCount_0f7a4, Cond.static yJ6_bitCount_0f7a4, Cond.initialized RJ6, Cond.code yJ6_bitCount_0f7a4 cJ6_bitCount_0f7a4 1 (some .int), Cond.constant RJ6 265 (1431655765), Cond.constant RJ6 266 (858993459), Cond.constant RJ6 267 (252645135), Cond.methodLink RX3 72 yX3_setting]
def wsL_law_r15 : List Cond := [Cond.static yX8_partsOfSize, Cond.code yX8_partsOfSize cX8_partsOfSize 2 (some .int), Cond.methodLink RX8 138 yX8_foldBestWay, Cond.instanceMethod yX8_foldBestWay, Cond.selects RX8 yX8_foldBestWay yX8_foldBestWay, Cond.code yX8_foldBestWay cX8_foldBestWay 3 (some .int), Cond.methodLink RX8 285 yX1_lay, Cond.instanceMethod yX1_lay, Cond.selects RX1 yX1_lay yX1_lay, Cond.code yX1_lay cX1_lay 5 none, Cond.methodLink RX1 61 Lib.Math.abs.name, Cond.static Lib.Math.abs.name, Cond.code Lib.Math.abs.name Lib.Math.abs.code 1 (some .int), Cond.fieldLink RX1 66 "FoldedMenu$Fold" "gap" "I", Cond.methodLink RX1 23 yX1_clear, Cond.instanceMethod yX1_clear, Cond.selects RX1 yX1_clear yX1_clear, Cond.code yX1_clear cX1_clear 3 none, Cond.fieldLink RX1 93 "FoldedMenu$Fold" "keySide" "I", Cond.methodLink RX1 35 yX3_setting, Cond.methodLink RX1 41 yX1_putCourse, Cond.instanceMethod yX1_putCourse, Cond.selects RX1 yX1_putCourse yX1_putCourse, Cond.code yX1_putCourse cX1_putCourse 6 none]
def wsL_law_r16 : List Cond := [Cond.methodLink RX1 49 yJ6_bitCount_0f7a4, Cond.methodLink RX1 54 yX1_putKey, Cond.instanceMethod yX1_putKey, Cond.selects RX1 yX1_putKey yX1_putKey, Cond.code yX1_putKey cX1_putKey 3 none, Cond.methodLink RX1 58 yX1_linesOf, Cond.instanceMethod yX1_linesOf, Cond.selects RX1 yX1_linesOf yX1_linesOf, Cond.code yX1_linesOf cX1_linesOf 4 (some .int), Cond.methodLink RX1 72 yX1_partOf, Cond.instanceMethod yX1_partOf, Cond.selects RX1 yX1_partOf yX1_partOf, Cond.code yX1_partOf cX1_partOf 3 (some .int), Cond.methodLink RX1 69 yX1_putFill, Cond.instanceMethod yX1_putFill, Cond.selects RX1 yX1_putFill yX1_putFill, Cond.code yX1_putFill cX1_putFill 3 none, Cond.methodLink RX8 294 yX1_isBetterThan, Cond.instanceMethod yX1_isBetterThan, Cond.selects RX1 yX1_isBetterThan yX1_isBetterThan, Cond.code yX1_isBetterThan cX1_isBetterThan 2 (some .boolean), Cond.methodLink RX1 82 yX1_isEven, Cond.instanceMethod yX1_isEven, Cond.selects RX1 yX1_isEven yX1_isEven]
def wsL_law_r17 : List Cond := [Cond.code yX1_isEven cX1_isEven 1 (some .boolean), Cond.methodLink RX1 86 yX1_difference, Cond.instanceMethod yX1_difference, Cond.selects RX1 yX1_difference yX1_difference, Cond.code yX1_difference cX1_difference 1 (some .int), Cond.methodLink RX1 90 yX1_longest, Cond.instanceMethod yX1_longest, Cond.selects RX1 yX1_longest yX1_longest, Cond.code yX1_longest cX1_longest 1 (some .int), Cond.methodLink RX1 79 Lib.Math.max.name, Cond.methodLink RX8 141 yX1_difference, Cond.methodLink RL 41 yX9_arrange, Cond.instanceMethod yX9_arrange, Cond.selects RX9 yX9_arrange yX9_arrange, Cond.code yX9_arrange cX9_arrange 2 (some .int), Cond.methodLink RX9 189 yX9_bestWay, Cond.instanceMethod yX9_bestWay, Cond.selects RX9 yX9_bestWay yX9_bestWay, Cond.code yX9_bestWay cX9_bestWay 6 (some .int), Cond.methodLink RX9 177 yX9_wayNow, Cond.instanceMethod yX9_wayNow, Cond.selects RX9 yX9_wayNow yX9_wayNow, Cond.code yX9_wayNow cX9_wayNow 1 (some .int), Cond.methodLink RX9 180 yX9_putSides]
def wsL_law_r18 : List Cond := [Cond.instanceMethod yX9_putSides, Cond.selects RX9 yX9_putSides yX9_putSides, Cond.code yX9_putSides cX9_putSides 3 none, Cond.methodLink RX9 183 yX9_lay, Cond.instanceMethod yX9_lay, Cond.selects RX9 yX9_lay yX9_lay, Cond.code yX9_lay cX9_lay 4 none, Cond.methodLink RX9 137 yX9_lookAtPrinted, Cond.instanceMethod yX9_lookAtPrinted, Cond.selects RX9 yX9_lookAtPrinted yX9_lookAtPrinted, Cond.code yX9_lookAtPrinted cX9_lookAtPrinted 3 none, Cond.fieldLink RX9 100 "FoldedMenuModel" "printed" "I", Cond.fieldLink RX9 116 "FoldedMenuModel" "inKey" "I", Cond.fieldLink RX9 107 "FoldedMenuModel" "column" "I", Cond.methodLink RX9 113 yX9_printedNow, Cond.instanceMethod yX9_printedNow, Cond.selects RX9 yX9_printedNow yX9_printedNow, Cond.code yX9_printedNow cX9_printedNow 3 (some .int), Cond.methodLink RX9 87 yX9_isPrinted, Cond.instanceMethod yX9_isPrinted, Cond.selects RX9 yX9_isPrinted yX9_isPrinted, Cond.code yX9_isPrinted cX9_isPrinted 2 (some .boolean), Cond.methodLink RX9 80 yX9_isEligible, Cond.instanceMethod yX9_isEligible]
def wsL_law_r19 : List Cond := [Cond.selects RX9 yX9_isEligible yX9_isEligible, Cond.code yX9_isEligible cX9_isEligible 2 (some .boolean), Cond.methodLink RX9 76 yX9_mayBe, Cond.instanceMethod yX9_mayBe, Cond.selects RX9 yX9_mayBe yX9_mayBe, Cond.code yX9_mayBe cX9_mayBe 2 (some .boolean), Cond.methodLink RX9 72 yX9_has, Cond.static yX9_has, Cond.code yX9_has cX9_has 2 (some .boolean), Cond.methodLink RX9 83 yX9_aheadOf, Cond.instanceMethod yX9_aheadOf, Cond.selects RX9 yX9_aheadOf yX9_aheadOf, Cond.code yX9_aheadOf cX9_aheadOf 4 (some .int), Cond.methodLink RX9 119 yX9_figures, Cond.static yX9_figures, Cond.code yX9_figures cX9_figures 1 (some .int), Cond.methodLink RX9 140 yX9_addCourse, Cond.instanceMethod yX9_addCourse, Cond.selects RX9 yX9_addCourse yX9_addCourse, Cond.code yX9_addCourse cX9_addCourse 6 none, Cond.methodLink RX9 103 yX9_add, Cond.instanceMethod yX9_add, Cond.selects RX9 yX9_add yX9_add, Cond.code yX9_add cX9_add 8 none]
def wsL_law_r20 : List Cond := [Cond.methodLink RX9 110 yX9_linesBy, Cond.instanceMethod yX9_linesBy, Cond.selects RX9 yX9_linesBy yX9_linesBy, Cond.code yX9_linesBy cX9_linesBy 3 (some .int), Cond.methodLink RX9 93 yX9_textOf, Cond.instanceMethod yX9_textOf, Cond.selects RX9 yX9_textOf yX9_textOf, Cond.code yX9_textOf cX9_textOf 3 (some .int), Cond.methodLink RX9 90 yX9_size, Cond.static yX9_size, Cond.code yX9_size cX9_size 3 (some .int), Cond.methodLink RX9 96 yX9_width, Cond.instanceMethod yX9_width, Cond.selects RX9 yX9_width yX9_width, Cond.code yX9_width cX9_width 1 (some .int), Cond.methodLink RX9 144 yX9_addKey, Cond.instanceMethod yX9_addKey, Cond.selects RX9 yX9_addKey yX9_addKey, Cond.code yX9_addKey cX9_addKey 2 none, Cond.fieldLink RX9 122 "FoldedMenuModel" "keySide" "I", Cond.methodLink RX9 147 yX9_addFill, Cond.instanceMethod yX9_addFill, Cond.selects RX9 yX9_addFill yX9_addFill, Cond.code yX9_addFill cX9_addFill 5 none]
def wsL_law_r21 : List Cond := [Cond.fieldLink RX9 125 "FoldedMenuModel" "apart" "I", Cond.fieldLink RX9 128 "FoldedMenuModel" "fillSide" "I", Cond.fieldLink RX9 131 "FoldedMenuModel" "filled" "I", Cond.methodLink RX9 134 yX9_isPlace, Cond.instanceMethod yX9_isPlace, Cond.selects RX9 yX9_isPlace yX9_isPlace, Cond.code yX9_isPlace cX9_isPlace 2 (some .boolean), Cond.methodLink RX9 186 yX9_rating, Cond.instanceMethod yX9_rating, Cond.selects RX9 yX9_rating yX9_rating, Cond.code yX9_rating cX9_rating 1 (some .int), Cond.constant RX9 170 (100000000), Cond.methodLink RX9 166 yX9_isEven, Cond.instanceMethod yX9_isEven, Cond.selects RX9 yX9_isEven yX9_isEven, Cond.code yX9_isEven cX9_isEven 1 (some .boolean), Cond.methodLink RX9 171 yX9_heavier, Cond.instanceMethod yX9_heavier, Cond.selects RX9 yX9_heavier yX9_heavier, Cond.code yX9_heavier cX9_heavier 1 (some .int), Cond.methodLink RX9 174 yX9_longer, Cond.instanceMethod yX9_longer, Cond.selects RX9 yX9_longer yX9_longer, Cond.code yX9_longer cX9_longer 1 (some .int)]
def wsL_law_r22 : List Cond := [Cond.methodLink RL 42 yX8_choose, Cond.instanceMethod yX8_choose, Cond.selects RX8 yX8_choose yX8_choose, Cond.code yX8_choose cX8_choose 4 (some .int), Cond.methodLink RX8 144 yX8_areSetArguments, Cond.static yX8_areSetArguments, Cond.code yX8_areSetArguments cX8_areSetArguments 3 (some .boolean), Cond.methodLink RX8 147 yX6_find, Cond.instanceMethod yX6_find, Cond.selects RX6 yX6_find yX6_find, Cond.code yX6_find cX6_find 6 none, Cond.fieldLink RX6 20 "FoldedMenu$SetFinder" "candidateCount" "I", Cond.methodLink RX6 24 Lib.Math.min.name, Cond.static Lib.Math.min.name, Cond.code Lib.Math.min.name Lib.Math.min.code 2 (some .int), Cond.fieldLink RX6 30 "FoldedMenu$SetFinder" "lineBound" "I", Cond.constantLong RX6 36 (1048575), Cond.constantLong RX6 50 (-1), Cond.fieldLink RX6 52 "FoldedMenu$SetFinder" "found" "J", Cond.methodLink RX6 33 yX6_forgetSets, Cond.instanceMethod yX6_forgetSets, Cond.selects RX6 yX6_forgetSets yX6_forgetSets, Cond.code yX6_forgetSets cX6_forgetSets 3 none, Cond.methodLink RX6 46 yX6_tryCourse]
def wsL_law_r23 : List Cond := [Cond.instanceMethod yX6_tryCourse, Cond.selects RX6 yX6_tryCourse yX6_tryCourse, Cond.code yX6_tryCourse cX6_tryCourse 9 none, Cond.methodLink RX6 64 yX3_setting, Cond.methodLink RX6 68 yX3_size, Cond.methodLink RX6 72 yX3_valueOf, Cond.methodLink RX6 75 yX6_isCandidate, Cond.static yX6_isCandidate, Cond.code yX6_isCandidate cX6_isCandidate 3 (some .boolean), Cond.methodLink RX6 92 yX3_mayBePrinted, Cond.methodLink RX6 79 yX3_linesOf, Cond.methodLink RX6 82 yX6_tryCandidate, Cond.instanceMethod yX6_tryCandidate, Cond.selects RX6 yX6_tryCandidate yX6_tryCandidate, Cond.code yX6_tryCandidate cX6_tryCandidate 9 none, Cond.methodLink RX6 99 Lib.MathLoose.max_long.x, Cond.static Lib.MathLoose.max_long.x, Cond.code Lib.MathLoose.max_long.x Lib.MathLoose.max_long.code 4 (some .long), Cond.methodLink RX6 85 yX6_addCandidate, Cond.instanceMethod yX6_addCandidate, Cond.selects RX6 yX6_addCandidate yX6_addCandidate, Cond.code yX6_addCandidate cX6_addCandidate 2 none, Cond.methodLink RX6 89 yX6_endCourse, Cond.instanceMethod yX6_endCourse]
def wsL_law_r24 : List Cond := [Cond.selects RX6 yX6_endCourse yX6_endCourse, Cond.code yX6_endCourse cX6_endCourse 4 none, Cond.methodLink RX8 151 yX6_hasFound, Cond.instanceMethod yX6_hasFound, Cond.selects RX6 yX6_hasFound yX6_hasFound, Cond.code yX6_hasFound cX6_hasFound 1 (some .boolean), Cond.methodLink RX8 154 yX6_offerFound, Cond.instanceMethod yX6_offerFound, Cond.selects RX6 yX6_offerFound yX6_offerFound, Cond.code yX6_offerFound cX6_offerFound 3 none, Cond.methodLink RX6 56 yX6_isChosen, Cond.instanceMethod yX6_isChosen, Cond.selects RX6 yX6_isChosen yX6_isChosen, Cond.code yX6_isChosen cX6_isChosen 2 (some .boolean), Cond.methodLink RX6 60 yX3_change, Cond.methodLink RX8 157 yX6_prices, Cond.instanceMethod yX6_prices, Cond.selects RX6 yX6_prices yX6_prices, Cond.code yX6_prices cX6_prices 1 (some .int), Cond.methodLink RL 45 yX9_choose, Cond.instanceMethod yX9_choose, Cond.selects RX9 yX9_choose yX9_choose, Cond.code yX9_choose cX9_choose 8 (some .int), Cond.fieldLink RX9 192 "FoldedMenuModel" "candidates" "I"]
def wsL_law_r25 : List Cond := [Cond.methodLink RX9 213 yX9_isAsked, Cond.static yX9_isAsked, Cond.code yX9_isAsked cX9_isAsked 3 (some .boolean), Cond.methodLink RX9 216 yX9_bestOf, Cond.instanceMethod yX9_bestOf, Cond.selects RX9 yX9_bestOf yX9_bestOf, Cond.code yX9_bestOf cX9_bestOf 5 (some .long), Cond.constantLong RX9 195 (-1), Cond.methodLink RX9 197 yX9_findCandidates, Cond.instanceMethod yX9_findCandidates, Cond.selects RX9 yX9_findCandidates yX9_findCandidates, Cond.code yX9_findCandidates cX9_findCandidates 5 none, Cond.methodLink RX9 201 yX9_beginsCourse, Cond.instanceMethod yX9_beginsCourse, Cond.selects RX9 yX9_beginsCourse yX9_beginsCourse, Cond.code yX9_beginsCourse cX9_beginsCourse 4 none, Cond.methodLink RX9 204 yX9_takes, Cond.instanceMethod yX9_takes, Cond.selects RX9 yX9_takes yX9_takes, Cond.code yX9_takes cX9_takes 13 none, Cond.methodLink RX9 220 yX9_setOf, Cond.instanceMethod yX9_setOf, Cond.selects RX9 yX9_setOf yX9_setOf, Cond.code yX9_setOf cX9_setOf 6 (some .int)]
def wsL_law_r26 : List Cond := [Cond.methodLink RX9 209 yX9_pricesOf, Cond.static yX9_pricesOf, Cond.code yX9_pricesOf cX9_pricesOf 2 (some .int), Cond.constantLong RX9 207 (1048575), Cond.methodLink RL 46 yX8_take, Cond.instanceMethod yX8_take, Cond.selects RX8 yX8_take yX8_take, Cond.code yX8_take cX8_take 2 (some .int), Cond.methodLink RX8 160 yX8_isSlot, Cond.static yX8_isSlot, Cond.code yX8_isSlot cX8_isSlot 1 (some .boolean), Cond.methodLink RX8 163 yX7_keep, Cond.instanceMethod yX7_keep, Cond.selects RX7 yX7_keep yX7_keep, Cond.code yX7_keep cX7_keep 2 none, Cond.methodLink RL 49 yX9_take, Cond.instanceMethod yX9_take, Cond.selects RX9 yX9_take yX9_take, Cond.code yX9_take cX9_take 3 (some .int), Cond.methodLink RL 50 yX8_restore, Cond.instanceMethod yX8_restore, Cond.selects RX8 yX8_restore yX8_restore, Cond.code yX8_restore cX8_restore 2 (some .int), Cond.methodLink RX8 169 yX7_isKept]
def wsL_law_r27 : List Cond := [Cond.instanceMethod yX7_isKept, Cond.selects RX7 yX7_isKept yX7_isKept, Cond.code yX7_isKept cX7_isKept 2 (some .boolean), Cond.methodLink RX8 172 yX7_bringBack, Cond.instanceMethod yX7_bringBack, Cond.selects RX7 yX7_bringBack yX7_bringBack, Cond.code yX7_bringBack cX7_bringBack 2 none, Cond.methodLink RX7 38 yX7_isKept, Cond.methodLink RL 53 yX9_restore, Cond.instanceMethod yX9_restore, Cond.selects RX9 yX9_restore yX9_restore, Cond.code yX9_restore cX9_restore 3 (some .int), Cond.methodLink RL 54 yX8_undo, Cond.instanceMethod yX8_undo, Cond.selects RX8 yX8_undo yX8_undo, Cond.code yX8_undo cX8_undo 1 (some .int), Cond.methodLink RX8 177 yX2_giveBack, Cond.instanceMethod yX2_giveBack, Cond.selects RX2 yX2_giveBack yX2_giveBack, Cond.code yX2_giveBack cX2_giveBack 2 none, Cond.methodLink RL 57 yX9_undo, Cond.instanceMethod yX9_undo, Cond.selects RX9 yX9_undo yX9_undo, Cond.code yX9_undo cX9_undo 1 (some .int)]
def wsL_law_r28 : List Cond := [Cond.methodLink RL 58 yX8_append, Cond.instanceMethod yX8_append, Cond.selects RX8 yX8_append yX8_append, Cond.code yX8_append cX8_append 2 (some .int), Cond.methodLink RX8 183 yX5_write, Cond.instanceMethod yX5_write, Cond.selects RX5 yX5_write yX5_write, Cond.code yX5_write cX5_write 2 none, Cond.methodLink RL 61 yX9_append, Cond.instanceMethod yX9_append, Cond.selects RX9 yX9_append yX9_append, Cond.code yX9_append cX9_append 2 (some .int), Cond.fieldLink RX9 223 "FoldedMenuModel" "textLength" "I", Cond.methodLink RL 62 yX8_clearText, Cond.instanceMethod yX8_clearText, Cond.selects RX8 yX8_clearText yX8_clearText, Cond.code yX8_clearText cX8_clearText 2 (some .int), Cond.methodLink RL 65 yX9_clearText, Cond.instanceMethod yX9_clearText, Cond.selects RX9 yX9_clearText yX9_clearText, Cond.code yX9_clearText cX9_clearText 2 (some .int), Cond.methodLink RL 66 yX8_load, Cond.instanceMethod yX8_load, Cond.selects RX8 yX8_load yX8_load]
def wsL_law_r29 : List Cond := [Cond.code yX8_load cX8_load 2 (some .int), Cond.methodLink RX8 186 yX3_copyFrom, Cond.methodLink RX8 189 yX5_readInto, Cond.instanceMethod yX5_readInto, Cond.selects RX5 yX5_readInto yX5_readInto, Cond.code yX5_readInto cX5_readInto 3 (some .int), Cond.fieldLink RX5 22 "FoldedMenu$Reader" "at" "I", Cond.fieldLink RX5 33 "FoldedMenu$Reader" "errorAt" "I", Cond.methodLink RX5 25 yX5_nextSign, Cond.instanceMethod yX5_nextSign, Cond.selects RX5 yX5_nextSign yX5_nextSign, Cond.code yX5_nextSign cX5_nextSign 1 (some .int), Cond.methodLink RX5 29 yX5_readItem, Cond.instanceMethod yX5_readItem, Cond.selects RX5 yX5_readItem yX5_readItem, Cond.code yX5_readItem cX5_readItem 3 (some .boolean), Cond.methodLink RX5 36 yX3_isFull, Cond.methodLink RX5 42 yX5_failAt, Cond.instanceMethod yX5_failAt, Cond.selects RX5 yX5_failAt yX5_failAt, Cond.code yX5_failAt cX5_failAt 2 (some .boolean), Cond.methodLink RX5 46 yX5_readNumber, Cond.instanceMethod yX5_readNumber, Cond.selects RX5 yX5_readNumber yX5_readNumber]
def wsL_law_r30 : List Cond := [Cond.code yX5_readNumber cX5_readNumber 5 (some .boolean), Cond.constant RX5 95 (100000), Cond.methodLink RX5 96 Lib.Math.min.name, Cond.methodLink RX5 49 yX5_readSign, Cond.instanceMethod yX5_readSign, Cond.selects RX5 yX5_readSign yX5_readSign, Cond.code yX5_readSign cX5_readSign 2 (some .boolean), Cond.methodLink RX5 53 yX5_readSeasons, Cond.instanceMethod yX5_readSeasons, Cond.selects RX5 yX5_readSeasons yX5_readSeasons, Cond.code yX5_readSeasons cX5_readSeasons 2 (some .boolean), Cond.methodLink RX5 75 yX5_readSet, Cond.instanceMethod yX5_readSet, Cond.selects RX5 yX5_readSet yX5_readSet, Cond.code yX5_readSet cX5_readSet 4 (some .int), Cond.methodLink RX5 81 yJ0_indexOf_0f7a4, Cond.instanceMethod yJ0_indexOf_0f7a4, Cond.selects RJ0 yJ0_indexOf_0f7a4 yJ0_indexOf_0f7a4, Cond.initialized RJ0, Cond.code yJ0_indexOf_0f7a4 cJ0_indexOf_0f7a4 2 (some .int), Cond.methodLink RJ0 633 yJ0_indexOf_7cf53, Cond.instanceMethod yJ0_indexOf_7cf53, Cond.selects RJ0 yJ0_indexOf_7cf53 yJ0_indexOf_7cf53, Cond.code yJ0_indexOf_7cf53 cJ0_indexOf_7cf53 3 (some .int)]
def wsL_law_r31 : List Cond := [Cond.fieldLink RJ0 9 "java/lang/String" "value" "[B", Cond.methodLink RJ0 492 yJ0_isLatin1_aae02, Cond.instanceMethod yJ0_isLatin1_aae02, Cond.selects RJ0 yJ0_isLatin1_aae02 yJ0_isLatin1_aae02, Cond.code yJ0_isLatin1_aae02 cJ0_isLatin1_aae02 1 (some .boolean), Cond.fieldLink RJ0 38 "java/lang/String" "COMPACT_STRINGS" "Z", Cond.fieldLink RJ0 15 "java/lang/String" "coder" "B", Cond.methodLink RJ0 505 yJ0_length_8abf5, Cond.instanceMethod yJ0_length_8abf5, Cond.selects RJ0 yJ0_length_8abf5 yJ0_length_8abf5, Cond.code yJ0_length_8abf5 cJ0_length_8abf5 1 (some .int), Cond.methodLink RJ0 335 yJ0_coder_7d493, Cond.instanceMethod yJ0_coder_7d493, Cond.selects RJ0 yJ0_coder_7d493 yJ0_coder_7d493, Cond.code yJ0_coder_7d493 cJ0_coder_7d493 1 (some .byte), Cond.methodLink RJ0 637 yJ1_indexOf_4cfef, Cond.static yJ1_indexOf_4cfef, Cond.initialized RJ1, Cond.code yJ1_indexOf_4cfef cJ1_indexOf_4cfef 4 (some .int), Cond.methodLink RJ1 92 Lib.Math.max.name, Cond.methodLink RJ1 38 Lib.Math.min.name, Cond.methodLink RJ1 88 yJ1_canEncode_9a6ad, Cond.static yJ1_canEncode_9a6ad, Cond.code yJ1_canEncode_9a6ad cJ1_canEncode_9a6ad 1 (some .boolean)]
def wsL_law_r32 : List Cond := [Cond.methodLink RJ1 95 yJ1_indexOfChar_4cfef, Cond.static yJ1_indexOfChar_4cfef, Cond.code yJ1_indexOfChar_4cfef cJ1_indexOfChar_4cfef 6 (some .int), Cond.methodLink RJ0 640 yJ2_indexOf_4cfef, Cond.static yJ2_indexOf_4cfef, Cond.initialized RJ2, Cond.code yJ2_indexOf_4cfef cJ2_indexOf_4cfef 4 (some .int), Cond.methodLink RJ2 224 Lib.Math.max.name, Cond.methodLink RJ2 183 Lib.Math.min.name, Cond.constant RJ2 227 (65536), Cond.methodLink RJ2 228 yJ2_indexOfChar_4cfef, Cond.static yJ2_indexOfChar_4cfef, Cond.code yJ2_indexOfChar_4cfef cJ2_indexOfChar_4cfef 4 (some .int), Cond.methodLink RJ2 96 yJ2_checkBoundsBeginEnd_d044e, Cond.static yJ2_checkBoundsBeginEnd_d044e, Cond.code yJ2_checkBoundsBeginEnd_d044e cJ2_checkBoundsBeginEnd_d044e 3 none, Cond.methodLink RJ2 48 yJ2_length_9d52b, Cond.static yJ2_length_9d52b, Cond.code yJ2_length_9d52b cJ2_length_9d52b 1 (some .int), Cond.methodLink RJ2 241 yJ0_checkBoundsBeginEnd_23922, Cond.static yJ0_checkBoundsBeginEnd_23922, Cond.code yJ0_checkBoundsBeginEnd_23922 cJ0_checkBoundsBeginEnd_23922 3 none, Cond.fieldLink RJ0 1053 "jdk/internal/util/Preconditions" "SIOOBE_FORMATTER" "Ljava/util/function/BiFunction;", Cond.methodLink RJ0 1062 yJ3_checkFromToIndex_8c36e]
def wsL_law_r33 : List Cond := [Cond.static yJ3_checkFromToIndex_8c36e, Cond.initialized RJ3, Cond.code yJ3_checkFromToIndex_8c36e cJ3_checkFromToIndex_8c36e 4 (some .int), Cond.methodLink RJ2 244 yJ2_indexOfCharUnsafe_4cfef, Cond.static yJ2_indexOfCharUnsafe_4cfef, Cond.code yJ2_indexOfCharUnsafe_4cfef cJ2_indexOfCharUnsafe_4cfef 5 (some .int), Cond.methodLink RJ2 71 yJ2_getChar_3b067, Cond.static yJ2_getChar_3b067, Cond.code yJ2_getChar_3b067 cJ2_getChar_3b067 2 (some .char), Cond.fieldLink RJ2 44 "java/lang/StringUTF16" "$assertionsDisabled" "Z", Cond.fieldLink RJ2 59 "java/lang/StringUTF16" "HI_BYTE_SHIFT" "I", Cond.fieldLink RJ2 63 "java/lang/StringUTF16" "LO_BYTE_SHIFT" "I", Cond.methodLink RJ2 232 yJ2_indexOfSupplementary_4cfef, Cond.static yJ2_indexOfSupplementary_4cfef, Cond.code yJ2_indexOfSupplementary_4cfef cJ2_indexOfSupplementary_4cfef 7 (some .int), Cond.methodLink RJ2 164 yJ11_isValidCodePoint_9a6ad, Cond.static yJ11_isValidCodePoint_9a6ad, Cond.initialized RJ11, Cond.code yJ11_isValidCodePoint_9a6ad cJ11_isValidCodePoint_9a6ad 2 (some .boolean), Cond.methodLink RJ2 157 yJ11_highSurrogate_5068e, Cond.static yJ11_highSurrogate_5068e, Cond.code yJ11_highSurrogate_5068e cJ11_highSurrogate_5068e 1 (some .char), Cond.constant RJ11 110 (55232), Cond.methodLink RJ2 161 yJ11_lowSurrogate_5068e]
def wsL_law_r34 : List Cond := [Cond.static yJ11_lowSurrogate_5068e, Cond.code yJ11_lowSurrogate_5068e cJ11_lowSurrogate_5068e 1 (some .char), Cond.constant RJ11 76 (56320), Cond.methodLink RX5 56 yX5_readAllergens, Cond.instanceMethod yX5_readAllergens, Cond.selects RX5 yX5_readAllergens yX5_readAllergens, Cond.code yX5_readAllergens cX5_readAllergens 2 (some .boolean), Cond.methodLink RX5 59 yX5_readWeight, Cond.instanceMethod yX5_readWeight, Cond.selects RX5 yX5_readWeight yX5_readWeight, Cond.code yX5_readWeight cX5_readWeight 1 (some .boolean), Cond.methodLink RX5 62 yX5_addItem, Cond.instanceMethod yX5_addItem, Cond.selects RX5 yX5_addItem yX5_addItem, Cond.code yX5_addItem cX5_addItem 4 none, Cond.methodLink RX5 66 yX3_addOffered, Cond.methodLink RX5 69 yX3_change, Cond.methodLink RL 69 yX9_load, Cond.instanceMethod yX9_load, Cond.selects RX9 yX9_load yX9_load, Cond.code yX9_load cX9_load 2 (some .int), Cond.fieldLink RX9 226 "FoldedMenuModel" "place" "I", Cond.methodLink RX9 232 yX9_overSpaces, Cond.instanceMethod yX9_overSpaces]
def wsL_law_r35 : List Cond := [Cond.selects RX9 yX9_overSpaces yX9_overSpaces, Cond.code yX9_overSpaces cX9_overSpaces 1 none, Cond.methodLink RX9 229 yX9_here, Cond.instanceMethod yX9_here, Cond.selects RX9 yX9_here yX9_here, Cond.code yX9_here cX9_here 1 (some .int), Cond.methodLink RX9 255 yX9_readItem, Cond.instanceMethod yX9_readItem, Cond.selects RX9 yX9_readItem yX9_readItem, Cond.code yX9_readItem cX9_readItem 7 (some .boolean), Cond.fieldLink RX9 235 "FoldedMenuModel" "value" "I", Cond.methodLink RX9 245 yX9_readNumber, Cond.instanceMethod yX9_readNumber, Cond.selects RX9 yX9_readNumber yX9_readNumber, Cond.code yX9_readNumber cX9_readNumber 5 (some .boolean), Cond.methodLink RX9 238 yX9_isFigure, Cond.instanceMethod yX9_isFigure, Cond.selects RX9 yX9_isFigure yX9_isFigure, Cond.code yX9_isFigure cX9_isFigure 1 (some .boolean), Cond.methodLink RX9 248 yX9_reads, Cond.instanceMethod yX9_reads, Cond.selects RX9 yX9_reads yX9_reads, Cond.code yX9_reads cX9_reads 3 (some .boolean), Cond.methodLink RX9 251 yX9_readLetters]
def wsL_law_r36 : List Cond := [Cond.instanceMethod yX9_readLetters, Cond.selects RX9 yX9_readLetters yX9_readLetters, Cond.code yX9_readLetters cX9_readLetters 3 (some .boolean), Cond.methodLink RX9 241 yX9_letterOf, Cond.static yX9_letterOf, Cond.code yX9_letterOf cX9_letterOf 2 (some .int), Cond.methodLink RL 70 yX8_count, Cond.instanceMethod yX8_count, Cond.selects RX8 yX8_count yX8_count, Cond.code yX8_count cX8_count 2 (some .int), Cond.methodLink RX8 193 yX8_layCard, Cond.instanceMethod yX8_layCard, Cond.selects RX8 yX8_layCard yX8_layCard, Cond.code yX8_layCard cX8_layCard 1 none, Cond.methodLink RX8 196 yX1_linesOf, Cond.methodLink RX8 199 yX1_weightOf, Cond.instanceMethod yX1_weightOf, Cond.selects RX1 yX1_weightOf yX1_weightOf, Cond.code yX1_weightOf cX1_weightOf 2 (some .int), Cond.methodLink RX8 208 yJ6_bitCount_0f7a4, Cond.methodLink RX8 219 yX1_fill, Cond.instanceMethod yX1_fill, Cond.selects RX1 yX1_fill yX1_fill, Cond.code yX1_fill cX1_fill 1 (some .int)]
def wsL_law_r37 : List Cond := [Cond.methodLink RX8 222 yX1_isEven, Cond.methodLink RL 73 yX9_count, Cond.instanceMethod yX9_count, Cond.selects RX9 yX9_count yX9_count, Cond.code yX9_count cX9_count 2 (some .int), Cond.methodLink RX9 258 yX9_pricesOfPrinted, Cond.instanceMethod yX9_pricesOfPrinted, Cond.selects RX9 yX9_pricesOfPrinted yX9_pricesOfPrinted, Cond.code yX9_pricesOfPrinted cX9_pricesOfPrinted 3 (some .int), Cond.methodLink RL 74 yX8_card, Cond.instanceMethod yX8_card, Cond.selects RX8 yX8_card yX8_card, Cond.code yX8_card cX8_card 2 (some .int), Cond.methodLink RL 77 yX9_card, Cond.instanceMethod yX9_card, Cond.selects RX9 yX9_card yX9_card, Cond.code yX9_card cX9_card 2 (some .int), Cond.methodLink RL 78 yX8_dish, Cond.instanceMethod yX8_dish, Cond.selects RX8 yX8_dish yX8_dish, Cond.code yX8_dish cX8_dish 4 (some .int), Cond.methodLink RX8 233 yX8_has, Cond.methodLink RX8 236 yX3_linesOf, Cond.methodLink RX8 238 yX8_firstLineOf]
def wsL_law_r38 : List Cond := [Cond.instanceMethod yX8_firstLineOf, Cond.selects RX8 yX8_firstLineOf yX8_firstLineOf, Cond.code yX8_firstLineOf cX8_firstLineOf 3 (some .int), Cond.methodLink RX8 241 yX0_lay, Cond.instanceMethod yX0_lay, Cond.selects RX0 yX0_lay yX0_lay, Cond.code yX0_lay cX0_lay 6 none, Cond.fieldLink RX0 24 "FoldedMenu$Blocks" "blockCount" "I", Cond.fieldLink RX0 28 "FoldedMenu$Blocks" "end" "I", Cond.fieldLink RX0 31 "FoldedMenu$Blocks" "place" "I", Cond.methodLink RX0 48 yX0_leaveFill, Cond.instanceMethod yX0_leaveFill, Cond.selects RX0 yX0_leaveFill yX0_leaveFill, Cond.code yX0_leaveFill cX0_leaveFill 3 none, Cond.methodLink RX0 100 yX1_fillAt, Cond.instanceMethod yX1_fillAt, Cond.selects RX1 yX1_fillAt yX1_fillAt, Cond.code yX1_fillAt cX1_fillAt 5 (some .int), Cond.methodLink RX0 52 yX0_put, Cond.instanceMethod yX0_put, Cond.selects RX0 yX0_put yX0_put, Cond.code yX0_put cX0_put 4 none, Cond.methodLink RX0 56 yX0_layDishes, Cond.instanceMethod yX0_layDishes]
def wsL_law_r39 : List Cond := [Cond.selects RX0 yX0_layDishes yX0_layDishes, Cond.code yX0_layDishes cX0_layDishes 7 none, Cond.methodLink RX0 76 yX3_size, Cond.methodLink RX0 87 yX3_valueOf, Cond.methodLink RX0 90 yX3_setting, Cond.methodLink RX0 97 yX3_linesOf, Cond.methodLink RX0 65 yX1_partOf, Cond.methodLink RX8 298 yX0_blockOfDish, Cond.instanceMethod yX0_blockOfDish, Cond.selects RX0 yX0_blockOfDish yX0_blockOfDish, Cond.code yX0_blockOfDish cX0_blockOfDish 3 (some .int), Cond.methodLink RX8 254 yX0_startOf, Cond.instanceMethod yX0_startOf, Cond.selects RX0 yX0_startOf yX0_startOf, Cond.code yX0_startOf cX0_startOf 2 (some .int), Cond.methodLink RX0 72 yX0_isBlock, Cond.instanceMethod yX0_isBlock, Cond.selects RX0 yX0_isBlock yX0_isBlock, Cond.code yX0_isBlock cX0_isBlock 2 (some .boolean), Cond.methodLink RL 81 yX9_dish, Cond.instanceMethod yX9_dish, Cond.selects RX9 yX9_dish yX9_dish, Cond.code yX9_dish cX9_dish 4 (some .int), Cond.methodLink RX9 261 yX9_placeOf]
def wsL_law_r40 : List Cond := [Cond.instanceMethod yX9_placeOf, Cond.selects RX9 yX9_placeOf yX9_placeOf, Cond.code yX9_placeOf cX9_placeOf 4 (some .int), Cond.methodLink RL 82 yX8_line, Cond.instanceMethod yX8_line, Cond.selects RX8 yX8_line yX8_line, Cond.code yX8_line cX8_line 8 (some .int), Cond.methodLink RX8 245 yX0_blockAt, Cond.instanceMethod yX0_blockAt, Cond.selects RX0 yX0_blockAt yX0_blockAt, Cond.code yX0_blockAt cX0_blockAt 3 (some .int), Cond.methodLink RX8 248 yX0_kindOf, Cond.instanceMethod yX0_kindOf, Cond.selects RX0 yX0_kindOf yX0_kindOf, Cond.code yX0_kindOf cX0_kindOf 2 (some .int), Cond.methodLink RX8 251 yX0_numberOf, Cond.instanceMethod yX0_numberOf, Cond.selects RX0 yX0_numberOf yX0_numberOf, Cond.code yX0_numberOf cX0_numberOf 2 (some .int), Cond.methodLink RX8 257 yX8_headingLine, Cond.instanceMethod yX8_headingLine, Cond.selects RX8 yX8_headingLine yX8_headingLine, Cond.code yX8_headingLine cX8_headingLine 4 (some .int), Cond.methodLink RX8 261 yX8_dishLine]
def wsL_law_r41 : List Cond := [Cond.instanceMethod yX8_dishLine, Cond.selects RX8 yX8_dishLine yX8_dishLine, Cond.code yX8_dishLine cX8_dishLine 7 (some .int), Cond.methodLink RX8 304 Lib.Math.min.name, Cond.methodLink RX8 309 Lib.Math.max.name, Cond.methodLink RX8 301 yX3_textOf, Cond.methodLink RX8 264 yX8_keyLine, Cond.instanceMethod yX8_keyLine, Cond.selects RX8 yX8_keyLine yX8_keyLine, Cond.code yX8_keyLine cX8_keyLine 4 (some .int), Cond.methodLink RX8 312 yX8_memberOf, Cond.static yX8_memberOf, Cond.code yX8_memberOf cX8_memberOf 4 (some .int), Cond.methodLink RL 85 yX9_line, Cond.instanceMethod yX9_line, Cond.selects RX9 yX9_line yX9_line, Cond.code yX9_line cX9_line 5 (some .int), Cond.methodLink RX9 274 yX9_tellLine, Cond.instanceMethod yX9_tellLine, Cond.selects RX9 yX9_tellLine yX9_tellLine, Cond.code yX9_tellLine cX9_tellLine 6 (some .int), Cond.methodLink RX9 264 yX9_allergenOf, Cond.instanceMethod yX9_allergenOf, Cond.selects RX9 yX9_allergenOf yX9_allergenOf]
def wsL_law_r42 : List Cond := [Cond.code yX9_allergenOf cX9_allergenOf 4 (some .int), Cond.methodLink RX9 267 yX9_weightOf, Cond.instanceMethod yX9_weightOf, Cond.selects RX9 yX9_weightOf yX9_weightOf, Cond.code yX9_weightOf cX9_weightOf 5 (some .int), Cond.methodLink RX9 271 yX9_lettersIn, Cond.instanceMethod yX9_lettersIn, Cond.selects RX9 yX9_lettersIn yX9_lettersIn, Cond.code yX9_lettersIn cX9_lettersIn 4 (some .int), Cond.methodLink RL 86 yX8_account, Cond.instanceMethod yX8_account, Cond.selects RX8 yX8_account yX8_account, Cond.code yX8_account cX8_account 3 (some .int), Cond.methodLink RX8 267 yX1_partOf, Cond.methodLink RL 89 yX9_account, Cond.instanceMethod yX9_account, Cond.selects RX9 yX9_account yX9_account, Cond.code yX9_account cX9_account 7 (some .int), Cond.methodLink RL 90 yX8_why, Cond.instanceMethod yX8_why, Cond.selects RX8 yX8_why yX8_why, Cond.code yX8_why cX8_why 2 (some .int), Cond.methodLink RX8 270 yX3_isOffered, Cond.methodLink RX8 273 yX3_isInSeason]
def wsL_law_r43 : List Cond := [Cond.methodLink RX8 276 yX3_suits, Cond.methodLink RL 93 yX9_why, Cond.instanceMethod yX9_why, Cond.selects RX9 yX9_why yX9_why, Cond.code yX9_why cX9_why 2 (some .int), Cond.methodLink RL 94 yX8_replacement, Cond.instanceMethod yX8_replacement, Cond.selects RX8 yX8_replacement yX8_replacement, Cond.code yX8_replacement cX8_replacement 3 (some .int), Cond.methodLink RX8 279 yX8_smallestIn, Cond.static yX8_smallestIn, Cond.code yX8_smallestIn cX8_smallestIn 1 (some .int), Cond.methodLink RL 97 yX9_replacement, Cond.instanceMethod yX9_replacement, Cond.selects RX9 yX9_replacement yX9_replacement, Cond.code yX9_replacement cX9_replacement 5 (some .int), Cond.methodLink RL 98 yX8_evenSeasons, Cond.instanceMethod yX8_evenSeasons, Cond.selects RX8 yX8_evenSeasons yX8_evenSeasons, Cond.code yX8_evenSeasons cX8_evenSeasons 3 (some .int), Cond.methodLink RL 101 yX9_evenSeasons, Cond.instanceMethod yX9_evenSeasons, Cond.selects RX9 yX9_evenSeasons yX9_evenSeasons, Cond.code yX9_evenSeasons cX9_evenSeasons 4 (some .int)]
def wsL_law_r44 : List Cond := [Cond.methodLink RL 102 yX8_printedFor, Cond.instanceMethod yX8_printedFor, Cond.selects RX8 yX8_printedFor yX8_printedFor, Cond.code yX8_printedFor cX8_printedFor 2 (some .int), Cond.methodLink RL 105 yX9_printedFor, Cond.instanceMethod yX9_printedFor, Cond.selects RX9 yX9_printedFor yX9_printedFor, Cond.code yX9_printedFor cX9_printedFor 4 (some .int), Cond.methodLink RL 106 yX8_bestSides, Cond.instanceMethod yX8_bestSides, Cond.selects RX8 yX8_bestSides yX8_bestSides, Cond.code yX8_bestSides cX8_bestSides 3 (some .int), Cond.methodLink RX8 288 yX1_longest, Cond.methodLink RL 109 yX9_bestSides, Cond.instanceMethod yX9_bestSides, Cond.selects RX9 yX9_bestSides yX9_bestSides, Cond.code yX9_bestSides cX9_bestSides 4 (some .int), Cond.methodLink RL 110 yX8_bestSet, Cond.instanceMethod yX8_bestSet, Cond.selects RX8 yX8_bestSet yX8_bestSet, Cond.code yX8_bestSet cX8_bestSet 5 (some .int), Cond.methodLink RX8 291 yX6_foundSet, Cond.instanceMethod yX6_foundSet, Cond.selects RX6 yX6_foundSet yX6_foundSet]
def wsL_law_r45 : List Cond := [Cond.code yX6_foundSet cX6_foundSet 3 (some .int), Cond.methodLink RL 114 yX9_bestSet, Cond.instanceMethod yX9_bestSet, Cond.selects RX9 yX9_bestSet yX9_bestSet, Cond.code yX9_bestSet cX9_bestSet 7 (some .int)]
def wsL_law : List Cond := (wsL_law_r1 ++ (wsL_law_r2 ++ (wsL_law_r3 ++ (wsL_law_r4 ++ (wsL_law_r5 ++ (wsL_law_r6 ++ (wsL_law_r7 ++ (wsL_law_r8 ++ (wsL_law_r9 ++ (wsL_law_r10 ++ (wsL_law_r11 ++ (wsL_law_r12 ++ (wsL_law_r13 ++ (wsL_law_r14 ++ (wsL_law_r15 ++ (wsL_law_r16 ++ (wsL_law_r17 ++ (wsL_law_r18 ++ (wsL_law_r19 ++ (wsL_law_r20 ++ (wsL_law_r21 ++ (wsL_law_r22 ++ (wsL_law_r23 ++ (wsL_law_r24 ++ (wsL_law_r25 ++ (wsL_law_r26 ++ (wsL_law_r27 ++ (wsL_law_r28 ++ (wsL_law_r29 ++ (wsL_law_r30 ++ (wsL_law_r31 ++ (wsL_law_r32 ++ (wsL_law_r33 ++ (wsL_law_r34 ++ (wsL_law_r35 ++ (wsL_law_r36 ++ (wsL_law_r37 ++ (wsL_law_r38 ++ (wsL_law_r39 ++ (wsL_law_r40 ++ (wsL_law_r41 ++ (wsL_law_r42 ++ (wsL_law_r43 ++ (wsL_law_r44 ++ wsL_law_r45)))))))))))))))))))))))))))))))))))))))))))) ++ wsX80 ++ wsX90 ++ wsX70 ++ wsX20 ++ wsX30 ++ wsX50 ++ wsX40 ++ wsX10 ++ wsX00 ++ wsX60 ++ ([] : List Cond)
set_option maxRecDepth 20000 in
theorem gL_wsL_law_r1 : GoodIn lw_tbl wsL_law_r1 := goodIn_r wsL_law_r1 [96, 97, 78, 973, 974, 87, 98, 99, 100, 101, 102, 103, 104, 105, 79, 311, 146, 147, 81, 312, 163, 111, 80, 313] (by decide +kernel) (by decide +kernel)
set_option maxRecDepth 20000 in
theorem gL_wsL_law_r2 : GoodIn lw_tbl wsL_law_r2 := goodIn_r wsL_law_r2 [165, 166, 82, 314, 188, 189, 83, 315, 231, 232, 84, 316, 317, 258, 259, 85, 318, 286, 287, 86, 319, 107, 108, 109] (by decide +kernel) (by decide +kernel)
set_option maxRecDepth 20000 in
theorem gL_wsL_law_r3 : GoodIn lw_tbl wsL_law_r3 := goodIn_r wsL_law_r3 [110, 134, 136, 137, 113, 114, 115, 132, 116, 117, 118, 119, 149, 150, 151, 152, 155, 156, 168, 169, 170, 171, 172, 173] (by decide +kernel) (by decide +kernel)
set_option maxRecDepth 20000 in
theorem gL_wsL_law_r4 : GoodIn lw_tbl wsL_law_r4 := goodIn_r wsL_law_r4 [191, 192, 193, 194, 197, 199, 234, 235, 236, 237, 239, 240, 241, 261, 262, 263, 264, 265, 266, 267, 289, 290, 291, 292] (by decide +kernel) (by decide +kernel)
set_option maxRecDepth 20000 in
theorem gL_wsL_law_r5 : GoodIn lw_tbl wsL_law_r5 := goodIn_r wsL_law_r5 [310, 294, 295, 975, 976, 977, 978, 979, 980, 981, 983, 992, 993, 994, 995, 996, 997, 998, 999, 1000, 1001, 1002, 339, 340] (by decide +kernel) (by decide +kernel)
set_option maxRecDepth 20000 in
theorem gL_wsL_law_r6 : GoodIn lw_tbl wsL_law_r6 := goodIn_r wsL_law_r6 [341, 342, 343, 344, 345, 349, 351, 346, 347, 348, 353, 354, 355, 356, 357, 358, 359, 360, 361, 363, 0, 364, 365, 366] (by decide +kernel) (by decide +kernel)
set_option maxRecDepth 20000 in
theorem gL_wsL_law_r7 : GoodIn lw_tbl wsL_law_r7 := goodIn_r wsL_law_r7 [367, 368, 369, 370, 371, 372, 373, 375, 374, 88, 376, 377, 378, 379, 380, 381, 382, 383, 384, 385, 386, 387, 388, 1061] (by decide +kernel) (by decide +kernel)
set_option maxRecDepth 20000 in
theorem gL_wsL_law_r8 : GoodIn lw_tbl wsL_law_r8 := goodIn_r wsL_law_r8 [1062, 1063, 1064, 1065, 1066, 1067, 1068, 1069, 1070, 1071, 1073, 34, 1074, 982, 1075, 1076, 1077, 1078, 1079, 1080, 391, 392, 393, 394] (by decide +kernel) (by decide +kernel)
set_option maxRecDepth 20000 in
theorem gL_wsL_law_r9 : GoodIn lw_tbl wsL_law_r9 := goodIn_r wsL_law_r9 [395, 396, 397, 398, 399, 400, 401, 402, 403, 1081, 1082, 1083, 1084, 1085, 1087, 35, 1088, 404, 405, 406, 407, 408, 409, 410] (by decide +kernel) (by decide +kernel)
set_option maxRecDepth 20000 in
theorem gL_wsL_law_r10 : GoodIn lw_tbl wsL_law_r10 := goodIn_r wsL_law_r10 [411, 1089, 1090, 1091, 1092, 1093, 1095, 36, 1096, 412, 413, 414, 415, 416, 417, 418, 419, 421, 423, 424, 425, 426, 427, 428] (by decide +kernel) (by decide +kernel)
set_option maxRecDepth 20000 in
theorem gL_wsL_law_r11 : GoodIn lw_tbl wsL_law_r11 := goodIn_r wsL_law_r11 [429, 430, 1097, 1098, 1099, 1100, 1101, 1102, 1103, 432, 433, 434, 435, 436, 437, 438, 439, 440, 441, 442, 443, 444, 445, 1104] (by decide +kernel) (by decide +kernel)
set_option maxRecDepth 20000 in
theorem gL_wsL_law_r12 : GoodIn lw_tbl wsL_law_r12 := goodIn_r wsL_law_r12 [1105, 1106, 1107, 446, 447, 448, 449, 450, 452, 1, 453, 454, 455, 456, 457, 201, 204, 206, 209, 485, 486, 89, 487, 211] (by decide +kernel) (by decide +kernel)
set_option maxRecDepth 20000 in
theorem gL_wsL_law_r13 : GoodIn lw_tbl wsL_law_r13 := goodIn_r wsL_law_r13 [458, 460, 2, 461, 462, 463, 464, 465, 466, 467, 468, 469, 470, 471, 472, 473, 474, 475, 476, 478, 479, 480, 481, 482] (by decide +kernel) (by decide +kernel)
set_option maxRecDepth 20000 in
theorem gL_wsL_law_r14 : GoodIn lw_tbl wsL_law_r14 := goodIn_r wsL_law_r14 [483, 484, 489, 490, 491, 493, 3, 494, 496, 497, 498, 499, 500, 501, 502, 503, 504, 505, 90, 506, 507, 508, 509, 510] (by decide +kernel) (by decide +kernel)
set_option maxRecDepth 20000 in
theorem gL_wsL_law_r15 : GoodIn lw_tbl wsL_law_r15 := goodIn_r wsL_law_r15 [512, 513, 514, 516, 4, 517, 518, 519, 520, 521, 546, 547, 548, 245, 522, 524, 5, 525, 243, 527, 528, 530, 6, 531] (by decide +kernel) (by decide +kernel)
set_option maxRecDepth 20000 in
theorem gL_wsL_law_r16 : GoodIn lw_tbl wsL_law_r16 := goodIn_r wsL_law_r16 [532, 533, 535, 7, 536, 537, 538, 539, 540, 541, 542, 543, 544, 549, 551, 8, 552, 553, 554, 555, 556, 557, 558, 559] (by decide +kernel) (by decide +kernel)
set_option maxRecDepth 20000 in
theorem gL_wsL_law_r17 : GoodIn lw_tbl wsL_law_r17 := goodIn_r wsL_law_r17 [560, 561, 562, 563, 564, 565, 566, 567, 568, 569, 570, 1108, 1109, 1110, 1111, 1112, 1114, 37, 1115, 1116, 1118, 38, 1119, 1120] (by decide +kernel) (by decide +kernel)
set_option maxRecDepth 20000 in
theorem gL_wsL_law_r18 : GoodIn lw_tbl wsL_law_r18 := goodIn_r wsL_law_r18 [1122, 39, 1123, 1124, 1126, 40, 1127, 1128, 1130, 41, 1131, 985, 987, 986, 1132, 1134, 42, 1135, 1136, 1138, 43, 1139, 1140, 1142] (by decide +kernel) (by decide +kernel)
set_option maxRecDepth 20000 in
theorem gL_wsL_law_r19 : GoodIn lw_tbl wsL_law_r19 := goodIn_r wsL_law_r19 [44, 1143, 1144, 1146, 45, 1147, 1148, 1149, 1150, 1151, 1153, 46, 1154, 1155, 1156, 1157, 1158, 1160, 47, 1161, 1162, 1164, 48, 1165] (by decide +kernel) (by decide +kernel)
set_option maxRecDepth 20000 in
theorem gL_wsL_law_r20 : GoodIn lw_tbl wsL_law_r20 := goodIn_r wsL_law_r20 [1166, 1168, 49, 1169, 1170, 1172, 50, 1173, 1174, 1175, 1176, 1177, 1179, 51, 1180, 1181, 1183, 52, 1184, 988, 1185, 1187, 53, 1188] (by decide +kernel) (by decide +kernel)
set_option maxRecDepth 20000 in
theorem gL_wsL_law_r21 : GoodIn lw_tbl wsL_law_r21 := goodIn_r wsL_law_r21 [989, 991, 990, 1189, 1191, 54, 1192, 1193, 1195, 55, 1196, 1201, 1197, 1199, 56, 1200, 1202, 1204, 57, 1205, 1206, 1208, 58, 1209] (by decide +kernel) (by decide +kernel)
set_option maxRecDepth 20000 in
theorem gL_wsL_law_r22 : GoodIn lw_tbl wsL_law_r22 := goodIn_r wsL_law_r22 [571, 572, 573, 574, 575, 576, 577, 578, 579, 580, 581, 296, 582, 583, 584, 297, 590, 589, 298, 585, 587, 9, 588, 592] (by decide +kernel) (by decide +kernel)
set_option maxRecDepth 20000 in
theorem gL_wsL_law_r23 : GoodIn lw_tbl wsL_law_r23 := goodIn_r wsL_law_r23 [594, 10, 595, 596, 597, 598, 599, 600, 601, 602, 604, 605, 607, 11, 608, 609, 610, 611, 612, 614, 12, 615, 616, 618] (by decide +kernel) (by decide +kernel)
set_option maxRecDepth 20000 in
theorem gL_wsL_law_r24 : GoodIn lw_tbl wsL_law_r24 := goodIn_r wsL_law_r24 [13, 619, 620, 621, 622, 623, 624, 625, 626, 627, 628, 630, 14, 631, 632, 633, 634, 635, 636, 1210, 1211, 1212, 1213, 1003] (by decide +kernel) (by decide +kernel)
set_option maxRecDepth 20000 in
theorem gL_wsL_law_r25 : GoodIn lw_tbl wsL_law_r25 := goodIn_r wsL_law_r25 [1214, 1215, 1216, 1217, 1219, 59, 1220, 1225, 1221, 1223, 60, 1224, 1226, 1228, 61, 1229, 1230, 1232, 62, 1233, 1234, 1236, 63, 1237] (by decide +kernel) (by decide +kernel)
set_option maxRecDepth 20000 in
theorem gL_wsL_law_r26 : GoodIn lw_tbl wsL_law_r26 := goodIn_r wsL_law_r26 [1238, 1239, 1240, 1241, 637, 638, 639, 640, 641, 642, 643, 644, 645, 646, 647, 1242, 1243, 1244, 1245, 649, 650, 651, 652, 653] (by decide +kernel) (by decide +kernel)
set_option maxRecDepth 20000 in
theorem gL_wsL_law_r27 : GoodIn lw_tbl wsL_law_r27 := goodIn_r wsL_law_r27 [654, 655, 656, 658, 659, 660, 661, 662, 1246, 1247, 1248, 1249, 663, 664, 665, 666, 667, 668, 669, 670, 1250, 1251, 1252, 1253] (by decide +kernel) (by decide +kernel)
set_option maxRecDepth 20000 in
theorem gL_wsL_law_r28 : GoodIn lw_tbl wsL_law_r28 := goodIn_r wsL_law_r28 [671, 672, 673, 674, 675, 676, 677, 678, 1254, 1255, 1256, 1257, 984, 679, 680, 681, 682, 1258, 1259, 1260, 1261, 683, 684, 685] (by decide +kernel) (by decide +kernel)
set_option maxRecDepth 20000 in
theorem gL_wsL_law_r29 : GoodIn lw_tbl wsL_law_r29 := goodIn_r wsL_law_r29 [686, 687, 688, 689, 690, 691, 175, 176, 692, 694, 15, 695, 696, 698, 16, 699, 700, 701, 703, 17, 704, 705, 707, 18] (by decide +kernel) (by decide +kernel)
set_option maxRecDepth 20000 in
theorem gL_wsL_law_r30 : GoodIn lw_tbl wsL_law_r30 := goodIn_r wsL_law_r30 [708, 710, 711, 713, 715, 19, 716, 717, 719, 20, 720, 722, 724, 21, 725, 726, 727, 728, 91, 729, 730, 731, 732, 733] (by decide +kernel) (by decide +kernel)
set_option maxRecDepth 20000 in
theorem gL_wsL_law_r31 : GoodIn lw_tbl wsL_law_r31 := goodIn_r wsL_law_r31 [1366, 734, 735, 736, 737, 738, 1365, 740, 741, 742, 743, 744, 745, 746, 747, 748, 749, 92, 750, 754, 755, 751, 752, 753] (by decide +kernel) (by decide +kernel)
set_option maxRecDepth 20000 in
theorem gL_wsL_law_r32 : GoodIn lw_tbl wsL_law_r32 := goodIn_r wsL_law_r32 [756, 757, 758, 759, 760, 93, 761, 762, 763, 764, 765, 766, 767, 768, 769, 770, 771, 772, 773, 774, 775, 776, 777, 779] (by decide +kernel) (by decide +kernel)
set_option maxRecDepth 20000 in
theorem gL_wsL_law_r33 : GoodIn lw_tbl wsL_law_r33 := goodIn_r wsL_law_r33 [780, 94, 781, 782, 783, 784, 785, 786, 787, 788, 790, 792, 794, 795, 796, 797, 798, 95, 799, 800, 801, 802, 803, 804] (by decide +kernel) (by decide +kernel)
set_option maxRecDepth 20000 in
theorem gL_wsL_law_r34 : GoodIn lw_tbl wsL_law_r34 := goodIn_r wsL_law_r34 [805, 806, 807, 809, 811, 22, 812, 814, 816, 23, 817, 818, 820, 24, 821, 822, 823, 1262, 1263, 1264, 1265, 1004, 1266, 1268] (by decide +kernel) (by decide +kernel)
set_option maxRecDepth 20000 in
theorem gL_wsL_law_r35 : GoodIn lw_tbl wsL_law_r35 := goodIn_r wsL_law_r35 [64, 1269, 1270, 1272, 65, 1273, 1274, 1276, 66, 1277, 1005, 1278, 1280, 67, 1281, 1282, 1284, 68, 1285, 1286, 1288, 69, 1289, 1290] (by decide +kernel) (by decide +kernel)
set_option maxRecDepth 20000 in
theorem gL_wsL_law_r36 : GoodIn lw_tbl wsL_law_r36 := goodIn_r wsL_law_r36 [1292, 70, 1293, 1294, 1295, 1296, 825, 826, 827, 828, 829, 831, 25, 832, 833, 834, 835, 836, 837, 839, 840, 841, 842, 843] (by decide +kernel) (by decide +kernel)
set_option maxRecDepth 20000 in
theorem gL_wsL_law_r37 : GoodIn lw_tbl wsL_law_r37 := goodIn_r wsL_law_r37 [844, 1297, 1298, 1299, 1300, 1301, 1303, 71, 1304, 845, 846, 847, 848, 1305, 1306, 1307, 1308, 849, 850, 851, 852, 853, 854, 855] (by decide +kernel) (by decide +kernel)
set_option maxRecDepth 20000 in
theorem gL_wsL_law_r38 : GoodIn lw_tbl wsL_law_r38 := goodIn_r wsL_law_r38 [857, 26, 858, 859, 860, 861, 862, 268, 269, 270, 864, 866, 27, 867, 868, 869, 870, 871, 872, 874, 28, 875, 876, 878] (by decide +kernel) (by decide +kernel)
set_option maxRecDepth 20000 in
theorem gL_wsL_law_r39 : GoodIn lw_tbl wsL_law_r39 := goodIn_r wsL_law_r39 [29, 879, 880, 882, 883, 884, 885, 886, 887, 888, 889, 890, 891, 892, 893, 894, 896, 30, 897, 1309, 1310, 1311, 1312, 1313] (by decide +kernel) (by decide +kernel)
set_option maxRecDepth 20000 in
theorem gL_wsL_law_r40 : GoodIn lw_tbl wsL_law_r40 := goodIn_r wsL_law_r40 [1315, 72, 1316, 899, 900, 901, 902, 903, 904, 905, 906, 907, 908, 909, 910, 911, 912, 913, 914, 915, 917, 31, 918, 919] (by decide +kernel) (by decide +kernel)
set_option maxRecDepth 20000 in
theorem gL_wsL_law_r41 : GoodIn lw_tbl wsL_law_r41 := goodIn_r wsL_law_r41 [921, 32, 922, 924, 925, 923, 926, 928, 33, 929, 930, 931, 932, 1317, 1318, 1319, 1320, 1321, 1323, 73, 1324, 1325, 1327, 74] (by decide +kernel) (by decide +kernel)
set_option maxRecDepth 20000 in
theorem gL_wsL_law_r42 : GoodIn lw_tbl wsL_law_r42 := goodIn_r wsL_law_r42 [1328, 1329, 1331, 75, 1332, 1333, 1335, 76, 1336, 933, 934, 935, 936, 937, 1337, 1338, 1339, 1340, 938, 939, 940, 941, 942, 943] (by decide +kernel) (by decide +kernel)
set_option maxRecDepth 20000 in
theorem gL_wsL_law_r43 : GoodIn lw_tbl wsL_law_r43 := goodIn_r wsL_law_r43 [944, 1341, 1342, 1343, 1344, 945, 946, 947, 948, 949, 950, 951, 1345, 1346, 1347, 1348, 952, 953, 954, 955, 1349, 1350, 1351, 1352] (by decide +kernel) (by decide +kernel)
set_option maxRecDepth 20000 in
theorem gL_wsL_law_r44 : GoodIn lw_tbl wsL_law_r44 := goodIn_r wsL_law_r44 [956, 957, 958, 959, 1353, 1354, 1355, 1356, 960, 961, 962, 963, 964, 1357, 1358, 1359, 1360, 965, 966, 967, 968, 969, 970, 971] (by decide +kernel) (by decide +kernel)
set_option maxRecDepth 20000 in
theorem gL_wsL_law_r45 : GoodIn lw_tbl wsL_law_r45 := goodIn_r wsL_law_r45 [972, 1361, 1362, 1363, 1364] (by decide +kernel) (by decide +kernel)
set_option maxRecDepth 20000 in
theorem gL_wsX80 : GoodIn lw_tbl wsX80 := goodIn_p wsX80 [] (by decide +kernel) (by decide +kernel)
set_option maxRecDepth 20000 in
theorem gL_wsX90 : GoodIn lw_tbl wsX90 := goodIn_p wsX90 [] (by decide +kernel) (by decide +kernel)
set_option maxRecDepth 20000 in
theorem gL_wsX70 : GoodIn lw_tbl wsX70 := goodIn_p wsX70 [] (by decide +kernel) (by decide +kernel)
set_option maxRecDepth 20000 in
theorem gL_wsX20 : GoodIn lw_tbl wsX20 := goodIn_p wsX20 [] (by decide +kernel) (by decide +kernel)
set_option maxRecDepth 20000 in
theorem gL_wsX30 : GoodIn lw_tbl wsX30 := goodIn_p wsX30 [] (by decide +kernel) (by decide +kernel)
set_option maxRecDepth 20000 in
theorem gL_wsX50 : GoodIn lw_tbl wsX50 := goodIn_p wsX50 [] (by decide +kernel) (by decide +kernel)
set_option maxRecDepth 20000 in
theorem gL_wsX40 : GoodIn lw_tbl wsX40 := goodIn_p wsX40 [] (by decide +kernel) (by decide +kernel)
set_option maxRecDepth 20000 in
theorem gL_wsX10 : GoodIn lw_tbl wsX10 := goodIn_p wsX10 [] (by decide +kernel) (by decide +kernel)
set_option maxRecDepth 20000 in
theorem gL_wsX00 : GoodIn lw_tbl wsX00 := goodIn_p wsX00 [] (by decide +kernel) (by decide +kernel)
set_option maxRecDepth 20000 in
theorem gL_wsX60 : GoodIn lw_tbl wsX60 := goodIn_p wsX60 [] (by decide +kernel) (by decide +kernel)
set_option maxRecDepth 20000 in
theorem wsL_law_in : ∀ w ∈ wsL_law, w ∈ lw_tbl := fun w h => ((show GoodIn lw_tbl wsL_law from (goodIn_app (goodIn_app (goodIn_app (goodIn_app (goodIn_app (goodIn_app (goodIn_app (goodIn_app (goodIn_app (goodIn_app (goodIn_app (goodIn_app gL_wsL_law_r1 (goodIn_app gL_wsL_law_r2 (goodIn_app gL_wsL_law_r3 (goodIn_app gL_wsL_law_r4 (goodIn_app gL_wsL_law_r5 (goodIn_app gL_wsL_law_r6 (goodIn_app gL_wsL_law_r7 (goodIn_app gL_wsL_law_r8 (goodIn_app gL_wsL_law_r9 (goodIn_app gL_wsL_law_r10 (goodIn_app gL_wsL_law_r11 (goodIn_app gL_wsL_law_r12 (goodIn_app gL_wsL_law_r13 (goodIn_app gL_wsL_law_r14 (goodIn_app gL_wsL_law_r15 (goodIn_app gL_wsL_law_r16 (goodIn_app gL_wsL_law_r17 (goodIn_app gL_wsL_law_r18 (goodIn_app gL_wsL_law_r19 (goodIn_app gL_wsL_law_r20 (goodIn_app gL_wsL_law_r21 (goodIn_app gL_wsL_law_r22 (goodIn_app gL_wsL_law_r23 (goodIn_app gL_wsL_law_r24 (goodIn_app gL_wsL_law_r25 (goodIn_app gL_wsL_law_r26 (goodIn_app gL_wsL_law_r27 (goodIn_app gL_wsL_law_r28 (goodIn_app gL_wsL_law_r29 (goodIn_app gL_wsL_law_r30 (goodIn_app gL_wsL_law_r31 (goodIn_app gL_wsL_law_r32 (goodIn_app gL_wsL_law_r33 (goodIn_app gL_wsL_law_r34 (goodIn_app gL_wsL_law_r35 (goodIn_app gL_wsL_law_r36 (goodIn_app gL_wsL_law_r37 (goodIn_app gL_wsL_law_r38 (goodIn_app gL_wsL_law_r39 (goodIn_app gL_wsL_law_r40 (goodIn_app gL_wsL_law_r41 (goodIn_app gL_wsL_law_r42 (goodIn_app gL_wsL_law_r43 (goodIn_app gL_wsL_law_r44 gL_wsL_law_r45)))))))))))))))))))))))))))))))))))))))))))) gL_wsX80) gL_wsX90) gL_wsX70) gL_wsX20) gL_wsX30) gL_wsX50) gL_wsX40) gL_wsX10) gL_wsX00) gL_wsX60) (fun _ h => absurd h List.not_mem_nil))) w h).1
theorem inlX0 : ∀ w ∈ wsX00, w ∈ wsL_law := fun _ h => List.mem_append_left _ (List.mem_append_left _ (List.mem_append_right _ h))
theorem inX0 : ∀ w ∈ wsX00, w ∈ lw_tbl := fun w h => wsL_law_in w (inlX0 w h)
theorem inlX1 : ∀ w ∈ wsX10, w ∈ wsL_law := fun _ h => List.mem_append_left _ (List.mem_append_left _ (List.mem_append_left _ (List.mem_append_right _ h)))
theorem inX1 : ∀ w ∈ wsX10, w ∈ lw_tbl := fun w h => wsL_law_in w (inlX1 w h)
theorem inlX2 : ∀ w ∈ wsX20, w ∈ wsL_law := fun _ h => List.mem_append_left _ (List.mem_append_left _ (List.mem_append_left _ (List.mem_append_left _ (List.mem_append_left _ (List.mem_append_left _ (List.mem_append_left _ (List.mem_append_right _ h)))))))
theorem inX2 : ∀ w ∈ wsX20, w ∈ lw_tbl := fun w h => wsL_law_in w (inlX2 w h)
theorem inlX3 : ∀ w ∈ wsX30, w ∈ wsL_law := fun _ h => List.mem_append_left _ (List.mem_append_left _ (List.mem_append_left _ (List.mem_append_left _ (List.mem_append_left _ (List.mem_append_left _ (List.mem_append_right _ h))))))
theorem inX3 : ∀ w ∈ wsX30, w ∈ lw_tbl := fun w h => wsL_law_in w (inlX3 w h)
theorem inlX4 : ∀ w ∈ wsX40, w ∈ wsL_law := fun _ h => List.mem_append_left _ (List.mem_append_left _ (List.mem_append_left _ (List.mem_append_left _ (List.mem_append_right _ h))))
theorem inX4 : ∀ w ∈ wsX40, w ∈ lw_tbl := fun w h => wsL_law_in w (inlX4 w h)
theorem inlX5 : ∀ w ∈ wsX50, w ∈ wsL_law := fun _ h => List.mem_append_left _ (List.mem_append_left _ (List.mem_append_left _ (List.mem_append_left _ (List.mem_append_left _ (List.mem_append_right _ h)))))
theorem inX5 : ∀ w ∈ wsX50, w ∈ lw_tbl := fun w h => wsL_law_in w (inlX5 w h)
theorem inlX6 : ∀ w ∈ wsX60, w ∈ wsL_law := fun _ h => List.mem_append_left _ (List.mem_append_right _ h)
theorem inX6 : ∀ w ∈ wsX60, w ∈ lw_tbl := fun w h => wsL_law_in w (inlX6 w h)
theorem inlX7 : ∀ w ∈ wsX70, w ∈ wsL_law := fun _ h => List.mem_append_left _ (List.mem_append_left _ (List.mem_append_left _ (List.mem_append_left _ (List.mem_append_left _ (List.mem_append_left _ (List.mem_append_left _ (List.mem_append_left _ (List.mem_append_right _ h))))))))
theorem inX7 : ∀ w ∈ wsX70, w ∈ lw_tbl := fun w h => wsL_law_in w (inlX7 w h)
theorem inlX8 : ∀ w ∈ wsX80, w ∈ wsL_law := fun _ h => List.mem_append_left _ (List.mem_append_left _ (List.mem_append_left _ (List.mem_append_left _ (List.mem_append_left _ (List.mem_append_left _ (List.mem_append_left _ (List.mem_append_left _ (List.mem_append_left _ (List.mem_append_left _ (List.mem_append_right _ h))))))))))
theorem inX8 : ∀ w ∈ wsX80, w ∈ lw_tbl := fun w h => wsL_law_in w (inlX8 w h)
theorem inlX9 : ∀ w ∈ wsX90, w ∈ wsL_law := fun _ h => List.mem_append_left _ (List.mem_append_left _ (List.mem_append_left _ (List.mem_append_left _ (List.mem_append_left _ (List.mem_append_left _ (List.mem_append_left _ (List.mem_append_left _ (List.mem_append_left _ (List.mem_append_right _ h)))))))))
theorem inX9 : ∀ w ∈ wsX90, w ∈ lw_tbl := fun w h => wsL_law_in w (inlX9 w h)
theorem inJ11 : ∀ w ∈ wsJ110, w ∈ lw_tbl := by decide +kernel
theorem inJ6 : ∀ w ∈ wsJ60, w ∈ lw_tbl := by decide +kernel
theorem inJ9 : ∀ w ∈ wsJ90, w ∈ lw_tbl := by decide +kernel
theorem inJ0 : ∀ w ∈ wsJ00, w ∈ lw_tbl := by decide +kernel
theorem inJ1 : ∀ w ∈ wsJ10, w ∈ lw_tbl := by decide +kernel
theorem inJ2 : ∀ w ∈ wsJ20, w ∈ lw_tbl := by decide +kernel
theorem inJ10 : ∀ w ∈ wsJ100, w ∈ lw_tbl := by decide +kernel
theorem inJ3 : ∀ w ∈ wsJ30, w ∈ lw_tbl := by decide +kernel
set_option maxRecDepth 20000 in
theorem ggL_law_X8_init : GoodIn wsL_law wsX8_init := goodIn_r _ [8, 9, 10, 11, 12, 13, 14, 15, 16, 17, 18, 19, 20, 21, 22, 23, 24, 25, 26, 27, 28, 29, 30, 31, 32, 33, 34, 35, 36, 37, 38, 39, 40, 41, 42, 43, 44, 45, 46, 47, 48, 49, 50, 51, 52, 53, 54, 55, 56, 57, 58, 59, 60, 61, 62, 63, 64, 65, 66, 67, 68, 69, 70, 71, 72, 73, 74, 75, 76, 77, 78, 79, 80, 81, 82, 83, 84, 85, 86, 87, 88, 89, 90, 91, 92, 93, 94, 95, 96, 97, 98, 1097, 1098, 1099, 1061, 1062, 1063, 1064, 1065, 1066, 1067, 1068, 1069, 1100, 1101, 1102, 1103, 1104, 1105, 1106, 1107, 1108, 1109, 1110, 1111, 1112, 1113, 1114, 1115, 1116, 1117, 1118, 1119, 1120, 1121, 1122, 1123, 1124, 1125, 1126, 1127, 1128, 1129, 1130, 1131, 1132, 1133, 1134, 1135] (by decide +kernel) (by decide +kernel)
set_option maxRecDepth 20000 in
theorem gL_law_X8_init : GoodIn wsL_law (wsX8_init) := ggL_law_X8_init
set_option maxRecDepth 20000 in
theorem ggL_law_X9_init : GoodIn wsL_law wsX9_init := goodIn_r _ [101, 102, 10, 11, 55, 103, 104, 105, 106, 107, 108, 109, 110, 111, 112, 113, 114, 115, 96, 116, 117, 1070, 1071, 1072, 1073, 1074, 1075, 1076, 1077, 1078, 1079, 1080, 1081, 1082, 1083, 1084, 1085, 1086, 1087, 1088, 1089, 1090, 1091, 1092, 1093, 1094, 1095, 1096] (by decide +kernel) (by decide +kernel)
set_option maxRecDepth 20000 in
theorem gL_law_X9_init : GoodIn wsL_law (wsX9_init) := ggL_law_X9_init
set_option maxRecDepth 20000 in
theorem ggL_law_X8_addDish : GoodIn wsL_law wsX8_addDish := goodIn_r _ [121, 15, 19, 122, 123, 2, 124, 125, 126, 127, 128, 129, 130, 131, 132, 22, 133, 58, 134, 135, 136, 18, 137, 65, 64, 138, 139, 140, 141, 142, 143, 144, 14, 145, 49, 50, 51, 146, 147, 148, 149, 56, 150, 151, 152, 153, 57, 59, 154, 155, 156, 157, 158, 159, 160, 161, 162, 163, 164, 165, 166, 1061, 1062, 1063, 1064, 1065, 1066, 1067, 1068, 1069, 1097, 1098, 1099, 1102, 1103, 1104, 1105, 1100, 1101] (by decide +kernel) (by decide +kernel)
set_option maxRecDepth 20000 in
theorem gL_law_X8_addDish : GoodIn wsL_law (wsV RL 13 RX8 yX8_addDish wsX8_addDish) := goodIn_app (goodIn_of _ (by decide +kernel)) ggL_law_X8_addDish
set_option maxRecDepth 20000 in
theorem ggL_law_X9_addDish : GoodIn wsL_law wsX9_addDish := goodIn_r _ [170, 103, 171, 172, 5, 173, 174, 175, 176, 177, 178, 179, 180, 181, 105, 182, 183, 184, 185, 186, 187, 1070, 1071, 1072, 1073, 1074, 1075, 1076, 1077, 1078, 1079, 1080, 1081, 1082, 1083, 1084, 1085, 1086, 1087, 1088, 1089, 1090, 1091, 1092, 1093, 1094, 1095, 1096] (by decide +kernel) (by decide +kernel)
set_option maxRecDepth 20000 in
theorem gL_law_X9_addDish : GoodIn wsL_law (wsV RL 17 RX9 yX9_addDish wsX9_addDish) := goodIn_app (goodIn_of _ (by decide +kernel)) ggL_law_X9_addDish
set_option maxRecDepth 20000 in
theorem ggL_law_X8_removeDish : GoodIn wsL_law wsX8_removeDish := goodIn_r _ [191, 15, 19, 192, 164, 165, 22, 166, 58, 128, 2, 129, 134, 135, 136, 18, 137, 65, 64, 138, 139, 140, 141, 142, 143, 144, 14, 145, 49, 50, 51, 146, 147, 148, 149, 56, 150, 151, 152, 153, 57, 59, 193, 194, 195, 196, 163, 197, 198, 199, 200, 1061, 1062, 1063, 1064, 1065, 1066, 1067, 1068, 1069, 1097, 1098, 1099, 1102, 1103, 1104, 1105, 1100, 1101] (by decide +kernel) (by decide +kernel)
set_option maxRecDepth 20000 in
theorem gL_law_X8_removeDish : GoodIn wsL_law (wsV RL 18 RX8 yX8_removeDish wsX8_removeDish) := goodIn_app (goodIn_of _ (by decide +kernel)) ggL_law_X8_removeDish
set_option maxRecDepth 20000 in
theorem ggL_law_X9_removeDish : GoodIn wsL_law wsX9_removeDish := goodIn_r _ [204, 103, 205, 206, 207, 5, 208, 174, 175, 176, 177, 178, 179, 180, 181, 105, 182, 183, 184, 1070, 1071, 1072, 1073, 1074, 1075, 1076, 1077, 1078, 1079, 1080, 1081, 1082, 1083, 1084, 1085, 1086, 1087, 1088, 1089, 1090, 1091, 1092, 1093, 1094, 1095, 1096] (by decide +kernel) (by decide +kernel)
set_option maxRecDepth 20000 in
theorem gL_law_X9_removeDish : GoodIn wsL_law (wsV RL 22 RX9 yX9_removeDish wsX9_removeDish) := goodIn_app (goodIn_of _ (by decide +kernel)) ggL_law_X9_removeDish
set_option maxRecDepth 20000 in
theorem ggL_law_X8_setDish : GoodIn wsL_law wsX8_setDish := goodIn_r _ [212, 15, 19, 192, 164, 165, 22, 166, 58, 128, 2, 129, 122, 123, 124, 125, 126, 127, 134, 135, 136, 18, 137, 65, 64, 138, 139, 140, 141, 142, 143, 144, 14, 145, 49, 50, 51, 146, 147, 148, 149, 56, 150, 151, 152, 153, 57, 59, 213, 214, 215, 216, 159, 160, 161, 162, 163, 1061, 1062, 1063, 1064, 1065, 1066, 1067, 1068, 1069, 1097, 1098, 1099, 1102, 1103, 1104, 1105, 1100, 1101] (by decide +kernel) (by decide +kernel)
set_option maxRecDepth 20000 in
theorem gL_law_X8_setDish : GoodIn wsL_law (wsV RL 23 RX8 yX8_setDish wsX8_setDish) := goodIn_app (goodIn_of _ (by decide +kernel)) ggL_law_X8_setDish
set_option maxRecDepth 20000 in
theorem ggL_law_X9_setDish : GoodIn wsL_law wsX9_setDish := goodIn_r _ [220, 103, 205, 206, 207, 5, 208, 174, 175, 176, 171, 172, 173, 177, 178, 179, 180, 181, 105, 182, 183, 184, 221, 222, 223, 224, 1070, 1071, 1072, 1073, 1074, 1075, 1076, 1077, 1078, 1079, 1080, 1081, 1082, 1083, 1084, 1085, 1086, 1087, 1088, 1089, 1090, 1091, 1092, 1093, 1094, 1095, 1096] (by decide +kernel) (by decide +kernel)
set_option maxRecDepth 20000 in
theorem gL_law_X9_setDish : GoodIn wsL_law (wsV RL 27 RX9 yX9_setDish wsX9_setDish) := goodIn_app (goodIn_of _ (by decide +kernel)) ggL_law_X9_setDish
set_option maxRecDepth 20000 in
theorem ggL_law_X8_setCard : GoodIn wsL_law wsX8_setCard := goodIn_r _ [228, 19, 15, 229, 230, 2, 231, 232, 233, 127, 128, 129, 134, 135, 136, 18, 137, 65, 64, 138, 139, 140, 141, 142, 143, 144, 14, 145, 49, 50, 51, 146, 147, 148, 22, 149, 56, 150, 151, 152, 153, 57, 58, 59, 234, 235, 236, 237, 238, 239, 240, 241, 1061, 1062, 1063, 1064, 1065, 1066, 1067, 1068, 1069, 1097, 1098, 1099, 1100, 1101, 1102, 1103, 1104, 1105] (by decide +kernel) (by decide +kernel)
set_option maxRecDepth 20000 in
theorem gL_law_X8_setCard : GoodIn wsL_law (wsV RL 28 RX8 yX8_setCard wsX8_setCard) := goodIn_app (goodIn_of _ (by decide +kernel)) ggL_law_X8_setCard
set_option maxRecDepth 20000 in
theorem ggL_law_X9_setCard : GoodIn wsL_law wsX9_setCard := goodIn_r _ [245, 103, 246, 247, 5, 248, 174, 175, 176, 177, 178, 179, 180, 181, 105, 182, 183, 184, 1070, 1071, 1072, 1073, 1074, 1075, 1076, 1077, 1078, 1079, 1080, 1081, 1082, 1083, 1084, 1085, 1086, 1087, 1088, 1089, 1090, 1091, 1092, 1093, 1094, 1095, 1096] (by decide +kernel) (by decide +kernel)
set_option maxRecDepth 20000 in
theorem gL_law_X9_setCard : GoodIn wsL_law (wsV RL 32 RX9 yX9_setCard wsX9_setCard) := goodIn_app (goodIn_of _ (by decide +kernel)) ggL_law_X9_setCard
set_option maxRecDepth 20000 in
theorem ggL_law_X8_setSide : GoodIn wsL_law wsX8_setSide := goodIn_r _ [252, 19, 15, 127, 128, 2, 129, 253, 254, 255, 134, 135, 136, 18, 137, 65, 64, 138, 139, 140, 141, 142, 143, 144, 14, 145, 49, 50, 51, 146, 147, 148, 22, 149, 56, 150, 151, 152, 153, 57, 58, 59, 256, 257, 258, 259, 260, 261, 262, 1061, 1062, 1063, 1064, 1065, 1066, 1067, 1068, 1069, 1097, 1098, 1099, 1102, 1103, 1104, 1105, 1100, 1101] (by decide +kernel) (by decide +kernel)
set_option maxRecDepth 20000 in
theorem gL_law_X8_setSide : GoodIn wsL_law (wsV RL 33 RX8 yX8_setSide wsX8_setSide) := goodIn_app (goodIn_of _ (by decide +kernel)) ggL_law_X8_setSide
set_option maxRecDepth 20000 in
theorem ggL_law_X9_setSide : GoodIn wsL_law wsX9_setSide := goodIn_r _ [266, 103, 174, 175, 5, 176, 177, 178, 179, 180, 181, 105, 182, 183, 184, 1070, 1071, 1072, 1073, 1074, 1075, 1076, 1077, 1078, 1079, 1080, 1081, 1082, 1083, 1084, 1085, 1086, 1087, 1088, 1089, 1090, 1091, 1092, 1093, 1094, 1095, 1096] (by decide +kernel) (by decide +kernel)
set_option maxRecDepth 20000 in
theorem gL_law_X9_setSide : GoodIn wsL_law (wsV RL 36 RX9 yX9_setSide wsX9_setSide) := goodIn_app (goodIn_of _ (by decide +kernel)) ggL_law_X9_setSide
set_option maxRecDepth 20000 in
theorem ggL_law_X8_arrange : GoodIn wsL_law wsX8_arrange := goodIn_r _ [270, 19, 15, 35, 134, 135, 136, 18, 137, 65, 64, 138, 139, 140, 141, 142, 143, 144, 14, 145, 49, 50, 51, 146, 147, 148, 22, 149, 56, 150, 151, 152, 153, 57, 58, 59, 271, 272, 273, 2, 274, 31, 234, 235, 236, 237, 275, 276, 277, 30, 278, 75, 279, 280, 281, 282, 283, 284, 285, 286, 287, 288, 289, 290, 291, 76, 77, 292, 198, 199, 200, 293, 214, 215, 216, 294, 295, 296, 297, 298, 299, 300, 301, 302, 303, 304, 305, 306, 307, 308, 309, 310, 311, 312, 313, 314, 315, 316, 317, 318, 319, 320, 321, 322, 323, 324, 325, 326, 327, 328, 329, 330, 331, 332, 333, 334, 335, 336, 337, 338, 339, 340, 341, 36, 342, 343, 344, 34, 345, 346, 347, 348, 349, 350, 351, 352, 353, 82, 83, 84, 354, 257, 258, 355, 356, 357, 358, 359, 360, 361, 362, 363, 364, 365, 366, 367, 368, 369, 370, 371, 372, 373, 374, 375, 376, 377, 378, 379, 380, 381, 382, 383, 384, 385, 386, 387, 388, 389, 390, 391, 392, 393, 394, 1061, 1062, 1063, 1064, 1065, 1066, 1067, 1068, 1069, 1097, 1098, 1099, 1102, 1103, 1104, 1105, 1100, 1101, 1111, 1112, 1113, 1114, 1115, 1116, 1117, 1118, 1119, 1120, 1121, 1122, 1123] (by decide +kernel) (by decide +kernel)
set_option maxRecDepth 20000 in
theorem gL_law_X8_arrange : GoodIn wsL_law (wsV RL 37 RX8 yX8_arrange wsX8_arrange) := goodIn_app (goodIn_of _ (by decide +kernel)) ggL_law_X8_arrange
set_option maxRecDepth 20000 in
theorem ggL_law_X9_arrange : GoodIn wsL_law wsX9_arrange := goodIn_r _ [398, 399, 400, 401, 5, 402, 403, 404, 405, 406, 103, 407, 408, 409, 410, 411, 412, 413, 414, 107, 114, 115, 113, 112, 111, 110, 415, 416, 417, 418, 419, 420, 421, 422, 423, 424, 425, 426, 427, 428, 429, 430, 431, 432, 433, 434, 435, 436, 437, 221, 222, 223, 224, 438, 439, 440, 441, 442, 443, 444, 445, 446, 447, 448, 449, 450, 451, 452, 453, 454, 455, 108, 109, 456, 457, 458, 459, 460, 461, 462, 463, 464, 465, 466, 467, 468, 469, 470, 471, 472, 473, 474, 475, 476, 477, 478, 479, 480, 481, 482, 483, 484, 485, 486, 487, 488, 489, 490, 491, 492, 493, 494, 495, 496, 497, 498, 499, 500, 501, 502, 503, 177, 178, 179, 180, 181, 105, 182, 183, 184, 1070, 1071, 1072, 1073, 1074, 1075, 1076, 1077, 1078, 1079, 1080, 1081, 1082, 1083, 1084, 1085, 1086, 1087, 1088, 1089, 1090, 1091, 1092, 1093, 1094, 1095, 1096] (by decide +kernel) (by decide +kernel)
set_option maxRecDepth 20000 in
theorem gL_law_X9_arrange : GoodIn wsL_law (wsV RL 41 RX9 yX9_arrange wsX9_arrange) := goodIn_app (goodIn_of _ (by decide +kernel)) ggL_law_X9_arrange
set_option maxRecDepth 20000 in
theorem ggL_law_X8_choose : GoodIn wsL_law wsX8_choose := goodIn_r _ [507, 44, 15, 19, 508, 509, 2, 510, 253, 254, 255, 127, 128, 129, 511, 512, 513, 43, 514, 515, 516, 517, 285, 518, 519, 97, 520, 521, 522, 523, 524, 525, 526, 257, 258, 527, 528, 529, 530, 531, 235, 236, 22, 237, 57, 532, 198, 199, 200, 58, 533, 214, 215, 216, 56, 534, 535, 536, 537, 300, 301, 302, 303, 304, 305, 306, 298, 307, 308, 309, 310, 311, 312, 314, 315, 538, 321, 322, 323, 324, 325, 326, 327, 328, 329, 330, 331, 332, 333, 334, 335, 336, 337, 539, 540, 541, 542, 543, 544, 545, 546, 547, 548, 549, 98, 550, 551, 552, 553, 554, 555, 556, 557, 134, 135, 136, 18, 137, 65, 64, 138, 139, 140, 141, 142, 143, 144, 14, 145, 49, 50, 51, 146, 147, 148, 149, 150, 151, 152, 153, 59, 558, 559, 560, 561, 562, 563, 564, 565, 566, 160, 161, 162, 163, 164, 165, 166, 123, 124, 125, 126, 567, 568, 569, 570, 1061, 1062, 1063, 1064, 1065, 1066, 1067, 1068, 1069, 1097, 1098, 1099, 1131, 1132, 1133, 1134, 1135, 1102, 1103, 1104, 1105, 1100, 1101] (by decide +kernel) (by decide +kernel)
set_option maxRecDepth 20000 in
theorem gL_law_X8_choose : GoodIn wsL_law (wsV RL 42 RX8 yX8_choose wsX8_choose) := goodIn_app (goodIn_of _ (by decide +kernel)) ggL_law_X8_choose
set_option maxRecDepth 20000 in
theorem ggL_law_X9_choose : GoodIn wsL_law wsX9_choose := goodIn_r _ [574, 575, 103, 117, 576, 577, 5, 578, 174, 175, 176, 579, 580, 581, 582, 116, 583, 584, 585, 586, 587, 221, 222, 223, 224, 434, 435, 436, 437, 438, 439, 440, 445, 446, 447, 588, 589, 590, 591, 592, 593, 594, 595, 456, 457, 458, 459, 460, 461, 462, 463, 464, 465, 466, 467, 468, 469, 470, 177, 178, 179, 180, 181, 105, 182, 183, 184, 596, 597, 598, 599, 600, 601, 602, 603, 1070, 1071, 1072, 1073, 1074, 1075, 1076, 1077, 1078, 1079, 1080, 1081, 1082, 1083, 1084, 1085, 1086, 1087, 1088, 1089, 1090, 1091, 1092, 1093, 1094, 1095, 1096] (by decide +kernel) (by decide +kernel)
set_option maxRecDepth 20000 in
theorem gL_law_X9_choose : GoodIn wsL_law (wsV RL 45 RX9 yX9_choose wsX9_choose) := goodIn_app (goodIn_of _ (by decide +kernel)) ggL_law_X9_choose
set_option maxRecDepth 20000 in
theorem ggL_law_X8_take : GoodIn wsL_law wsX8_take := goodIn_r _ [607, 19, 15, 31, 608, 609, 2, 610, 127, 128, 129, 134, 135, 136, 18, 137, 65, 64, 138, 139, 140, 141, 142, 143, 144, 14, 145, 49, 50, 51, 146, 147, 148, 22, 149, 56, 150, 151, 152, 153, 57, 58, 59, 611, 612, 613, 614, 271, 272, 273, 274, 234, 235, 236, 237, 275, 276, 277, 30, 278, 75, 279, 280, 281, 282, 283, 284, 285, 286, 287, 288, 289, 290, 291, 76, 77, 292, 198, 199, 200, 293, 214, 215, 216, 294, 295, 296, 297, 298, 299, 300, 301, 302, 303, 304, 305, 306, 307, 308, 309, 310, 311, 312, 313, 314, 315, 316, 317, 318, 319, 320, 321, 322, 323, 324, 325, 326, 327, 328, 329, 330, 331, 332, 333, 334, 335, 336, 337, 1061, 1062, 1063, 1064, 1065, 1066, 1067, 1068, 1069, 1097, 1098, 1099, 1111, 1112, 1113, 1114, 1115, 1116, 1117, 1118, 1100, 1101, 1102, 1103, 1104, 1105] (by decide +kernel) (by decide +kernel)
set_option maxRecDepth 20000 in
theorem gL_law_X8_take : GoodIn wsL_law (wsV RL 46 RX8 yX8_take wsX8_take) := goodIn_app (goodIn_of _ (by decide +kernel)) ggL_law_X8_take
set_option maxRecDepth 20000 in
theorem ggL_law_X9_take : GoodIn wsL_law wsX9_take := goodIn_r _ [618, 103, 174, 175, 5, 176, 177, 178, 179, 180, 181, 105, 182, 183, 184, 422, 423, 424, 425, 426, 427, 428, 429, 430, 431, 432, 433, 434, 435, 436, 437, 221, 222, 223, 224, 438, 439, 440, 441, 442, 443, 444, 464, 465, 466, 1070, 1071, 1072, 1073, 1074, 1075, 1076, 1077, 1078, 1079, 1080, 1081, 1082, 1083, 1084, 1085, 1086, 1087, 1088, 1089, 1090, 1091, 1092, 1093, 1094, 1095, 1096] (by decide +kernel) (by decide +kernel)
set_option maxRecDepth 20000 in
theorem gL_law_X9_take : GoodIn wsL_law (wsV RL 49 RX9 yX9_take wsX9_take) := goodIn_app (goodIn_of _ (by decide +kernel)) ggL_law_X9_take
set_option maxRecDepth 20000 in
theorem ggL_law_X8_restore : GoodIn wsL_law wsX8_restore := goodIn_r _ [622, 15, 19, 31, 608, 609, 2, 610, 127, 128, 129, 623, 624, 625, 14, 626, 51, 307, 308, 134, 135, 136, 18, 137, 65, 64, 138, 139, 140, 141, 142, 143, 144, 145, 49, 50, 146, 147, 148, 22, 149, 56, 150, 151, 152, 153, 57, 58, 59, 627, 628, 629, 630, 631, 271, 272, 273, 274, 234, 235, 236, 237, 275, 276, 277, 30, 278, 75, 279, 280, 281, 282, 283, 284, 285, 286, 287, 288, 289, 290, 291, 76, 77, 292, 198, 199, 200, 293, 214, 215, 216, 294, 295, 296, 297, 298, 299, 300, 301, 302, 303, 304, 305, 306, 309, 310, 311, 312, 313, 314, 315, 316, 317, 318, 319, 320, 321, 322, 323, 324, 325, 326, 327, 328, 329, 330, 331, 332, 333, 334, 335, 336, 337, 1061, 1062, 1063, 1064, 1065, 1066, 1067, 1068, 1069, 1097, 1098, 1099, 1111, 1112, 1113, 1114, 1115, 1116, 1117, 1118, 1100, 1101, 1102, 1103, 1104, 1105] (by decide +kernel) (by decide +kernel)
set_option maxRecDepth 20000 in
theorem gL_law_X8_restore : GoodIn wsL_law (wsV RL 50 RX8 yX8_restore wsX8_restore) := goodIn_app (goodIn_of _ (by decide +kernel)) ggL_law_X8_restore
set_option maxRecDepth 20000 in
theorem ggL_law_X9_restore : GoodIn wsL_law wsX9_restore := goodIn_r _ [635, 103, 174, 175, 5, 176, 177, 178, 179, 180, 181, 105, 182, 183, 184, 422, 423, 424, 425, 426, 427, 428, 429, 430, 431, 432, 433, 434, 435, 436, 437, 221, 222, 223, 224, 438, 439, 440, 441, 442, 443, 444, 464, 465, 466, 1070, 1071, 1072, 1073, 1074, 1075, 1076, 1077, 1078, 1079, 1080, 1081, 1082, 1083, 1084, 1085, 1086, 1087, 1088, 1089, 1090, 1091, 1092, 1093, 1094, 1095, 1096] (by decide +kernel) (by decide +kernel)
set_option maxRecDepth 20000 in
theorem gL_law_X9_restore : GoodIn wsL_law (wsV RL 53 RX9 yX9_restore wsX9_restore) := goodIn_app (goodIn_of _ (by decide +kernel)) ggL_law_X9_restore
set_option maxRecDepth 20000 in
theorem ggL_law_X8_undo : GoodIn wsL_law wsX8_undo := goodIn_r _ [639, 19, 15, 640, 641, 642, 18, 643, 65, 64, 142, 143, 144, 14, 145, 49, 50, 51, 146, 147, 148, 22, 149, 56, 150, 151, 152, 153, 57, 58, 59, 1061, 1062, 1063, 1064, 1065, 1066, 1067, 1068, 1069, 1100, 1101, 1097, 1098, 1099, 1102, 1103, 1104, 1105] (by decide +kernel) (by decide +kernel)
set_option maxRecDepth 20000 in
theorem gL_law_X8_undo : GoodIn wsL_law (wsV RL 54 RX8 yX8_undo wsX8_undo) := goodIn_app (goodIn_of _ (by decide +kernel)) ggL_law_X8_undo
set_option maxRecDepth 20000 in
theorem ggL_law_X9_undo : GoodIn wsL_law wsX9_undo := goodIn_r _ [647, 181, 105, 103, 182, 183, 5, 184, 1070, 1071, 1072, 1073, 1074, 1075, 1076, 1077, 1078, 1079, 1080, 1081, 1082, 1083, 1084, 1085, 1086, 1087, 1088, 1089, 1090, 1091, 1092, 1093, 1094, 1095, 1096] (by decide +kernel) (by decide +kernel)
set_option maxRecDepth 20000 in
theorem gL_law_X9_undo : GoodIn wsL_law (wsV RL 57 RX9 yX9_undo wsX9_undo) := goodIn_app (goodIn_of _ (by decide +kernel)) ggL_law_X9_undo
set_option maxRecDepth 20000 in
theorem ggL_law_X8_append : GoodIn wsL_law wsX8_append := goodIn_r _ [651, 27, 127, 128, 2, 129, 652, 653, 654, 26, 655, 71, 69, 1061, 1062, 1063, 1064, 1065, 1066, 1067, 1068, 1069, 1106, 1107, 1108, 1109, 1110] (by decide +kernel) (by decide +kernel)
set_option maxRecDepth 20000 in
theorem gL_law_X8_append : GoodIn wsL_law (wsV RL 58 RX8 yX8_append wsX8_append) := goodIn_app (goodIn_of _ (by decide +kernel)) ggL_law_X8_append
set_option maxRecDepth 20000 in
theorem ggL_law_X9_append : GoodIn wsL_law wsX9_append := goodIn_r _ [659, 660, 106, 174, 175, 5, 176, 1070, 1071, 1072, 1073, 1074, 1075, 1076, 1077, 1078, 1079, 1080, 1081, 1082, 1083, 1084, 1085, 1086, 1087, 1088, 1089, 1090, 1091, 1092, 1093, 1094, 1095, 1096] (by decide +kernel) (by decide +kernel)
set_option maxRecDepth 20000 in
theorem gL_law_X9_append : GoodIn wsL_law (wsV RL 61 RX9 yX9_append wsX9_append) := goodIn_app (goodIn_of _ (by decide +kernel)) ggL_law_X9_append
set_option maxRecDepth 20000 in
theorem ggL_law_X8_clearText : GoodIn wsL_law wsX8_clearText := goodIn_r _ [664, 27, 1061, 1062, 1063, 1064, 1065, 1066, 1067, 1068, 1069, 1106, 1107, 1108, 1109, 1110] (by decide +kernel) (by decide +kernel)
set_option maxRecDepth 20000 in
theorem gL_law_X8_clearText : GoodIn wsL_law (wsV RL 62 RX8 yX8_clearText wsX8_clearText) := goodIn_app (goodIn_of _ (by decide +kernel)) ggL_law_X8_clearText
set_option maxRecDepth 20000 in
theorem ggL_law_X9_clearText : GoodIn wsL_law wsX9_clearText := goodIn_r _ [668, 660, 1070, 1071, 1072, 1073, 1074, 1075, 1076, 1077, 1078, 1079, 1080, 1081, 1082, 1083, 1084, 1085, 1086, 1087, 1088, 1089, 1090, 1091, 1092, 1093, 1094, 1095, 1096] (by decide +kernel) (by decide +kernel)
set_option maxRecDepth 20000 in
theorem gL_law_X9_clearText : GoodIn wsL_law (wsV RL 65 RX9 yX9_clearText wsX9_clearText) := goodIn_app (goodIn_of _ (by decide +kernel)) ggL_law_X9_clearText
set_option maxRecDepth 20000 in
theorem ggL_law_X8_load : GoodIn wsL_law wsX8_load := goodIn_r _ [672, 23, 15, 27, 19, 673, 147, 148, 22, 149, 56, 150, 151, 152, 153, 57, 58, 59, 674, 675, 676, 26, 677, 678, 679, 680, 681, 682, 683, 71, 69, 684, 685, 686, 687, 688, 131, 132, 133, 689, 690, 691, 692, 693, 694, 695, 696, 697, 698, 517, 285, 518, 70, 128, 2, 129, 123, 124, 125, 126, 127, 699, 700, 701, 702, 703, 704, 705, 706, 707, 708, 709, 710, 711, 712, 713, 714, 715, 716, 717, 718, 719, 720, 721, 722, 723, 724, 725, 726, 727, 728, 729, 730, 731, 732, 733, 734, 735, 736, 737, 738, 739, 284, 286, 740, 741, 742, 743, 744, 745, 746, 747, 748, 749, 750, 751, 752, 753, 754, 755, 756, 757, 758, 759, 760, 761, 762, 763, 764, 765, 766, 767, 768, 769, 770, 771, 772, 773, 774, 775, 776, 777, 778, 779, 780, 781, 782, 783, 784, 785, 786, 787, 788, 789, 790, 791, 792, 793, 794, 307, 308, 795, 796, 797, 798, 799, 800, 801, 802, 803, 804, 805, 806, 807, 155, 156, 157, 158, 808, 160, 161, 162, 163, 164, 165, 166, 134, 135, 136, 18, 137, 65, 64, 138, 139, 140, 141, 142, 143, 144, 14, 145, 49, 50, 51, 146, 1061, 1062, 1063, 1064, 1065, 1066, 1067, 1068, 1069, 1097, 1098, 1099, 1106, 1107, 1108, 1109, 1110, 1102, 1103, 1104, 1105, 1100, 1101] (by decide +kernel) (by decide +kernel)
set_option maxRecDepth 20000 in
theorem gL_law_X8_load : GoodIn wsL_law (wsV RL 66 RX8 yX8_load wsX8_load) := goodIn_app (goodIn_of _ (by decide +kernel)) ggL_law_X8_load
set_option maxRecDepth 20000 in
theorem ggL_law_X9_load : GoodIn wsL_law wsX9_load := goodIn_r _ [812, 103, 104, 813, 660, 182, 183, 5, 184, 814, 815, 816, 817, 818, 819, 820, 821, 106, 822, 823, 824, 825, 826, 827, 828, 829, 830, 831, 832, 833, 834, 174, 175, 176, 835, 836, 837, 838, 839, 840, 841, 842, 843, 844, 845, 438, 439, 440, 185, 186, 187, 177, 178, 179, 180, 181, 105, 1070, 1071, 1072, 1073, 1074, 1075, 1076, 1077, 1078, 1079, 1080, 1081, 1082, 1083, 1084, 1085, 1086, 1087, 1088, 1089, 1090, 1091, 1092, 1093, 1094, 1095, 1096] (by decide +kernel) (by decide +kernel)
set_option maxRecDepth 20000 in
theorem gL_law_X9_load : GoodIn wsL_law (wsV RL 69 RX9 yX9_load wsX9_load) := goodIn_app (goodIn_of _ (by decide +kernel)) ggL_law_X9_load
set_option maxRecDepth 20000 in
theorem ggL_law_X8_count : GoodIn wsL_law wsX8_count := goodIn_r _ [849, 15, 31, 35, 19, 27, 850, 851, 852, 2, 853, 234, 235, 236, 22, 237, 57, 275, 276, 277, 30, 278, 75, 279, 280, 281, 282, 283, 284, 285, 286, 287, 288, 289, 290, 291, 76, 77, 292, 198, 199, 200, 58, 293, 214, 215, 216, 56, 294, 295, 296, 297, 298, 299, 300, 301, 302, 303, 304, 305, 306, 307, 308, 309, 310, 311, 312, 313, 314, 315, 316, 317, 318, 319, 320, 321, 322, 323, 324, 325, 326, 327, 328, 329, 330, 331, 332, 333, 334, 335, 336, 337, 342, 343, 344, 34, 345, 346, 347, 348, 349, 350, 351, 352, 353, 82, 83, 84, 354, 257, 258, 355, 356, 357, 358, 359, 360, 361, 362, 363, 364, 365, 366, 367, 368, 369, 370, 371, 372, 373, 374, 375, 376, 197, 854, 855, 856, 857, 858, 254, 255, 127, 128, 129, 859, 860, 861, 862, 863, 864, 382, 383, 384, 1061, 1062, 1063, 1064, 1065, 1066, 1067, 1068, 1069, 1097, 1098, 1099, 1111, 1112, 1113, 1114, 1115, 1116, 1117, 1118, 1119, 1120, 1121, 1122, 1123, 1100, 1101, 1106, 1107, 1108, 1109, 1110, 1102, 1103, 1104, 1105] (by decide +kernel) (by decide +kernel)
set_option maxRecDepth 20000 in
theorem gL_law_X8_count : GoodIn wsL_law (wsV RL 70 RX8 yX8_count wsX8_count) := goodIn_app (goodIn_of _ (by decide +kernel)) ggL_law_X8_count
set_option maxRecDepth 20000 in
theorem ggL_law_X9_count : GoodIn wsL_law wsX9_count := goodIn_r _ [868, 103, 419, 114, 115, 421, 420, 475, 480, 482, 181, 660, 411, 412, 413, 5, 414, 107, 113, 112, 111, 110, 415, 416, 417, 418, 422, 423, 424, 425, 426, 427, 428, 429, 430, 431, 432, 433, 434, 435, 436, 437, 221, 222, 223, 224, 438, 439, 440, 441, 442, 443, 444, 445, 446, 447, 448, 449, 450, 451, 452, 453, 454, 455, 108, 109, 456, 457, 458, 459, 460, 461, 462, 463, 464, 465, 466, 467, 468, 469, 470, 471, 472, 473, 474, 476, 477, 478, 479, 481, 483, 484, 485, 486, 492, 493, 494, 495, 869, 870, 871, 872, 1070, 1071, 1072, 1073, 1074, 1075, 1076, 1077, 1078, 1079, 1080, 1081, 1082, 1083, 1084, 1085, 1086, 1087, 1088, 1089, 1090, 1091, 1092, 1093, 1094, 1095, 1096] (by decide +kernel) (by decide +kernel)
set_option maxRecDepth 20000 in
theorem gL_law_X9_count : GoodIn wsL_law (wsV RL 73 RX9 yX9_count wsX9_count) := goodIn_app (goodIn_of _ (by decide +kernel)) ggL_law_X9_count
set_option maxRecDepth 20000 in
theorem ggL_law_X8_card : GoodIn wsL_law wsX8_card := goodIn_r _ [876, 15, 127, 128, 2, 129, 234, 235, 236, 22, 237, 57, 256, 257, 258, 1061, 1062, 1063, 1064, 1065, 1066, 1067, 1068, 1069, 1097, 1098, 1099, 1102, 1103, 1104, 1105] (by decide +kernel) (by decide +kernel)
set_option maxRecDepth 20000 in
theorem gL_law_X8_card : GoodIn wsL_law (wsV RL 74 RX8 yX8_card wsX8_card) := goodIn_app (goodIn_of _ (by decide +kernel)) ggL_law_X8_card
set_option maxRecDepth 20000 in
theorem ggL_law_X9_card : GoodIn wsL_law wsX9_card := goodIn_r _ [880, 103, 174, 175, 5, 176, 1070, 1071, 1072, 1073, 1074, 1075, 1076, 1077, 1078, 1079, 1080, 1081, 1082, 1083, 1084, 1085, 1086, 1087, 1088, 1089, 1090, 1091, 1092, 1093, 1094, 1095, 1096] (by decide +kernel) (by decide +kernel)
set_option maxRecDepth 20000 in
theorem gL_law_X9_card : GoodIn wsL_law (wsV RL 77 RX9 yX9_card wsX9_card) := goodIn_app (goodIn_of _ (by decide +kernel)) ggL_law_X9_card
set_option maxRecDepth 20000 in
theorem ggL_law_X8_dish : GoodIn wsL_law wsX8_dish := goodIn_r _ [884, 15, 31, 192, 164, 165, 22, 166, 58, 128, 2, 129, 127, 213, 214, 215, 216, 56, 850, 851, 852, 853, 35, 234, 235, 236, 237, 57, 275, 276, 277, 30, 278, 75, 279, 280, 281, 282, 283, 284, 285, 286, 287, 288, 289, 290, 291, 76, 77, 292, 198, 199, 200, 293, 294, 295, 296, 297, 298, 299, 300, 301, 302, 303, 304, 305, 306, 307, 308, 309, 310, 311, 312, 313, 314, 315, 316, 317, 318, 319, 320, 321, 322, 323, 324, 325, 326, 327, 328, 329, 330, 331, 332, 333, 334, 335, 336, 337, 342, 343, 344, 34, 345, 346, 347, 348, 349, 350, 351, 352, 353, 82, 83, 84, 354, 257, 258, 355, 356, 357, 358, 359, 360, 361, 362, 363, 364, 365, 366, 367, 368, 369, 370, 371, 372, 373, 374, 375, 376, 885, 886, 887, 888, 889, 890, 40, 256, 891, 892, 893, 39, 894, 895, 896, 897, 898, 899, 900, 901, 902, 903, 904, 905, 906, 907, 908, 909, 88, 89, 90, 91, 910, 911, 912, 913, 914, 915, 916, 917, 918, 919, 920, 921, 922, 923, 924, 925, 926, 927, 928, 929, 930, 1061, 1062, 1063, 1064, 1065, 1066, 1067, 1068, 1069, 1097, 1098, 1099, 1111, 1112, 1113, 1114, 1115, 1116, 1117, 1118, 1102, 1103, 1104, 1105, 1119, 1120, 1121, 1122, 1123, 1124, 1125, 1126, 1127, 1128, 1129, 1130] (by decide +kernel) (by decide +kernel)
set_option maxRecDepth 20000 in
theorem gL_law_X8_dish : GoodIn wsL_law (wsV RL 78 RX8 yX8_dish wsX8_dish) := goodIn_app (goodIn_of _ (by decide +kernel)) ggL_law_X8_dish
set_option maxRecDepth 20000 in
theorem ggL_law_X9_dish : GoodIn wsL_law wsX9_dish := goodIn_r _ [934, 110, 111, 205, 206, 207, 5, 208, 103, 174, 175, 176, 221, 222, 223, 224, 411, 412, 413, 414, 107, 114, 115, 113, 112, 415, 416, 417, 418, 419, 420, 421, 422, 423, 424, 425, 426, 427, 428, 429, 430, 431, 432, 433, 434, 435, 436, 437, 438, 439, 440, 441, 442, 443, 444, 445, 446, 447, 448, 449, 450, 451, 452, 453, 454, 455, 108, 109, 456, 457, 458, 459, 460, 461, 462, 463, 464, 465, 466, 467, 468, 469, 470, 471, 472, 473, 474, 475, 476, 477, 478, 479, 480, 481, 482, 483, 484, 485, 486, 935, 936, 937, 938, 1070, 1071, 1072, 1073, 1074, 1075, 1076, 1077, 1078, 1079, 1080, 1081, 1082, 1083, 1084, 1085, 1086, 1087, 1088, 1089, 1090, 1091, 1092, 1093, 1094, 1095, 1096] (by decide +kernel) (by decide +kernel)
set_option maxRecDepth 20000 in
theorem gL_law_X9_dish : GoodIn wsL_law (wsV RL 81 RX9 yX9_dish wsX9_dish) := goodIn_app (goodIn_of _ (by decide +kernel)) ggL_law_X9_dish
set_option maxRecDepth 20000 in
theorem ggL_law_X8_line : GoodIn wsL_law wsX8_line := goodIn_r _ [942, 35, 40, 15, 31, 253, 254, 2, 255, 127, 128, 129, 850, 851, 852, 853, 234, 235, 236, 22, 237, 57, 275, 276, 277, 30, 278, 75, 279, 280, 281, 282, 283, 284, 285, 286, 287, 288, 289, 290, 291, 76, 77, 292, 198, 199, 200, 58, 293, 214, 215, 216, 56, 294, 295, 296, 297, 298, 299, 300, 301, 302, 303, 304, 305, 306, 307, 308, 309, 310, 311, 312, 313, 314, 315, 316, 317, 318, 319, 320, 321, 322, 323, 324, 325, 326, 327, 328, 329, 330, 331, 332, 333, 334, 335, 336, 337, 342, 343, 344, 34, 345, 346, 347, 348, 349, 350, 351, 352, 353, 82, 83, 84, 354, 257, 258, 355, 356, 357, 358, 359, 360, 361, 362, 363, 364, 365, 366, 367, 368, 369, 370, 371, 372, 373, 374, 375, 376, 854, 891, 892, 893, 39, 894, 895, 896, 897, 898, 899, 900, 901, 902, 903, 904, 905, 906, 907, 908, 909, 88, 89, 90, 91, 910, 911, 912, 913, 914, 915, 916, 917, 918, 943, 944, 945, 946, 947, 948, 949, 950, 927, 928, 929, 930, 951, 952, 953, 954, 923, 924, 925, 926, 955, 956, 957, 958, 959, 960, 961, 962, 963, 517, 518, 964, 965, 886, 213, 966, 967, 968, 969, 970, 971, 972, 885, 859, 1061, 1062, 1063, 1064, 1065, 1066, 1067, 1068, 1069, 1097, 1098, 1099, 1102, 1103, 1104, 1105, 1111, 1112, 1113, 1114, 1115, 1116, 1117, 1118, 1119, 1120, 1121, 1122, 1123, 1124, 1125, 1126, 1127, 1128, 1129, 1130] (by decide +kernel) (by decide +kernel)
set_option maxRecDepth 20000 in
theorem gL_law_X8_line : GoodIn wsL_law (wsV RL 82 RX8 yX8_line wsX8_line) := goodIn_app (goodIn_of _ (by decide +kernel)) ggL_law_X8_line
set_option maxRecDepth 20000 in
theorem ggL_law_X9_line : GoodIn wsL_law wsX9_line := goodIn_r _ [976, 114, 107, 111, 110, 174, 175, 5, 176, 411, 412, 413, 414, 115, 113, 112, 415, 416, 417, 418, 419, 420, 103, 421, 422, 423, 424, 425, 426, 427, 428, 429, 430, 431, 432, 433, 434, 435, 436, 437, 221, 222, 223, 224, 438, 439, 440, 441, 442, 443, 444, 445, 446, 447, 448, 449, 450, 451, 452, 453, 454, 455, 108, 109, 456, 457, 458, 459, 460, 461, 462, 463, 464, 465, 466, 467, 468, 469, 470, 471, 472, 473, 474, 475, 476, 477, 478, 479, 480, 481, 482, 483, 484, 485, 486, 977, 978, 979, 980, 981, 982, 983, 984, 985, 986, 987, 988, 989, 990, 991, 992, 1070, 1071, 1072, 1073, 1074, 1075, 1076, 1077, 1078, 1079, 1080, 1081, 1082, 1083, 1084, 1085, 1086, 1087, 1088, 1089, 1090, 1091, 1092, 1093, 1094, 1095, 1096] (by decide +kernel) (by decide +kernel)
set_option maxRecDepth 20000 in
theorem gL_law_X9_line : GoodIn wsL_law (wsV RL 85 RX9 yX9_line wsX9_line) := goodIn_app (goodIn_of _ (by decide +kernel)) ggL_law_X9_line
set_option maxRecDepth 20000 in
theorem ggL_law_X8_account : GoodIn wsL_law wsX8_account := goodIn_r _ [996, 35, 253, 254, 2, 255, 127, 128, 129, 850, 851, 852, 853, 31, 15, 234, 235, 236, 22, 237, 57, 275, 276, 277, 30, 278, 75, 279, 280, 281, 282, 283, 284, 285, 286, 287, 288, 289, 290, 291, 76, 77, 292, 198, 199, 200, 58, 293, 214, 215, 216, 56, 294, 295, 296, 297, 298, 299, 300, 301, 302, 303, 304, 305, 306, 307, 308, 309, 310, 311, 312, 313, 314, 315, 316, 317, 318, 319, 320, 321, 322, 323, 324, 325, 326, 327, 328, 329, 330, 331, 332, 333, 334, 335, 336, 337, 342, 343, 344, 34, 345, 346, 347, 348, 349, 350, 351, 352, 353, 82, 83, 84, 354, 257, 258, 355, 356, 357, 358, 359, 360, 361, 362, 363, 364, 365, 366, 367, 368, 369, 370, 371, 372, 373, 374, 375, 376, 997, 1061, 1062, 1063, 1064, 1065, 1066, 1067, 1068, 1069, 1097, 1098, 1099, 1102, 1103, 1104, 1105, 1111, 1112, 1113, 1114, 1115, 1116, 1117, 1118, 1119, 1120, 1121, 1122, 1123] (by decide +kernel) (by decide +kernel)
set_option maxRecDepth 20000 in
theorem gL_law_X8_account : GoodIn wsL_law (wsV RL 86 RX8 yX8_account wsX8_account) := goodIn_app (goodIn_of _ (by decide +kernel)) ggL_law_X8_account
set_option maxRecDepth 20000 in
theorem ggL_law_X9_account : GoodIn wsL_law wsX9_account := goodIn_r _ [1001, 107, 108, 110, 112, 113, 174, 175, 5, 176, 411, 412, 413, 414, 114, 115, 111, 415, 416, 417, 418, 419, 420, 103, 421, 422, 423, 424, 425, 426, 427, 428, 429, 430, 431, 432, 433, 434, 435, 436, 437, 221, 222, 223, 224, 438, 439, 440, 441, 442, 443, 444, 445, 446, 447, 448, 449, 450, 451, 452, 453, 454, 455, 109, 456, 457, 458, 459, 460, 461, 462, 463, 464, 465, 466, 467, 468, 469, 470, 471, 472, 473, 474, 475, 476, 477, 478, 479, 480, 481, 482, 483, 484, 485, 486, 1070, 1071, 1072, 1073, 1074, 1075, 1076, 1077, 1078, 1079, 1080, 1081, 1082, 1083, 1084, 1085, 1086, 1087, 1088, 1089, 1090, 1091, 1092, 1093, 1094, 1095, 1096] (by decide +kernel) (by decide +kernel)
set_option maxRecDepth 20000 in
theorem gL_law_X9_account : GoodIn wsL_law (wsV RL 89 RX9 yX9_account wsX9_account) := goodIn_app (goodIn_of _ (by decide +kernel)) ggL_law_X9_account
set_option maxRecDepth 20000 in
theorem ggL_law_X8_why : GoodIn wsL_law wsX8_why := goodIn_r _ [1005, 15, 31, 192, 164, 165, 22, 166, 58, 128, 2, 129, 1006, 295, 296, 297, 298, 214, 215, 216, 56, 234, 235, 236, 237, 57, 1007, 304, 305, 306, 307, 308, 1008, 310, 311, 312, 271, 272, 273, 274, 275, 276, 277, 30, 278, 75, 279, 280, 281, 282, 283, 284, 285, 286, 287, 288, 289, 290, 291, 76, 77, 292, 198, 199, 200, 293, 294, 299, 300, 301, 302, 303, 309, 313, 314, 315, 316, 317, 318, 319, 320, 321, 322, 323, 324, 325, 326, 327, 328, 329, 330, 331, 332, 333, 334, 335, 336, 337, 885, 1061, 1062, 1063, 1064, 1065, 1066, 1067, 1068, 1069, 1097, 1098, 1099, 1111, 1112, 1113, 1114, 1115, 1116, 1117, 1118, 1102, 1103, 1104, 1105] (by decide +kernel) (by decide +kernel)
set_option maxRecDepth 20000 in
theorem gL_law_X8_why : GoodIn wsL_law (wsV RL 90 RX8 yX8_why wsX8_why) := goodIn_app (goodIn_of _ (by decide +kernel)) ggL_law_X8_why
set_option maxRecDepth 20000 in
theorem ggL_law_X9_why : GoodIn wsL_law wsX9_why := goodIn_r _ [1012, 103, 205, 206, 207, 5, 208, 174, 175, 176, 221, 222, 223, 224, 438, 439, 440, 434, 435, 436, 437, 426, 427, 428, 429, 430, 431, 432, 433, 441, 442, 443, 444, 1070, 1071, 1072, 1073, 1074, 1075, 1076, 1077, 1078, 1079, 1080, 1081, 1082, 1083, 1084, 1085, 1086, 1087, 1088, 1089, 1090, 1091, 1092, 1093, 1094, 1095, 1096] (by decide +kernel) (by decide +kernel)
set_option maxRecDepth 20000 in
theorem gL_law_X9_why : GoodIn wsL_law (wsV RL 93 RX9 yX9_why wsX9_why) := goodIn_app (goodIn_of _ (by decide +kernel)) ggL_law_X9_why
set_option maxRecDepth 20000 in
theorem ggL_law_X8_replacement : GoodIn wsL_law wsX8_replacement := goodIn_r _ [1016, 15, 31, 23, 192, 164, 165, 22, 166, 58, 128, 2, 129, 271, 272, 273, 274, 234, 235, 236, 237, 57, 275, 276, 277, 30, 278, 75, 279, 280, 281, 282, 283, 284, 285, 286, 287, 288, 289, 290, 291, 76, 77, 292, 198, 199, 200, 293, 214, 215, 216, 56, 294, 295, 296, 297, 298, 299, 300, 301, 302, 303, 304, 305, 306, 307, 308, 309, 310, 311, 312, 313, 314, 315, 316, 317, 318, 319, 320, 321, 322, 323, 324, 325, 326, 327, 328, 329, 330, 331, 332, 333, 334, 335, 336, 337, 885, 673, 147, 148, 149, 150, 151, 152, 153, 59, 159, 160, 161, 162, 163, 123, 124, 125, 126, 127, 1017, 1018, 1019, 970, 971, 972, 1061, 1062, 1063, 1064, 1065, 1066, 1067, 1068, 1069, 1097, 1098, 1099, 1111, 1112, 1113, 1114, 1115, 1116, 1117, 1118, 1102, 1103, 1104, 1105] (by decide +kernel) (by decide +kernel)
set_option maxRecDepth 20000 in
theorem gL_law_X8_replacement : GoodIn wsL_law (wsV RL 94 RX8 yX8_replacement wsX8_replacement) := goodIn_app (goodIn_of _ (by decide +kernel)) ggL_law_X8_replacement
set_option maxRecDepth 20000 in
theorem ggL_law_X9_replacement : GoodIn wsL_law wsX9_replacement := goodIn_r _ [1023, 103, 205, 206, 207, 5, 208, 174, 175, 176, 426, 427, 428, 429, 430, 431, 432, 433, 434, 435, 436, 437, 221, 222, 223, 224, 438, 439, 440, 441, 442, 443, 444, 422, 423, 424, 425, 1070, 1071, 1072, 1073, 1074, 1075, 1076, 1077, 1078, 1079, 1080, 1081, 1082, 1083, 1084, 1085, 1086, 1087, 1088, 1089, 1090, 1091, 1092, 1093, 1094, 1095, 1096] (by decide +kernel) (by decide +kernel)
set_option maxRecDepth 20000 in
theorem gL_law_X9_replacement : GoodIn wsL_law (wsV RL 97 RX9 yX9_replacement wsX9_replacement) := goodIn_app (goodIn_of _ (by decide +kernel)) ggL_law_X9_replacement
set_option maxRecDepth 20000 in
theorem ggL_law_X8_evenSeasons : GoodIn wsL_law wsX8_evenSeasons := goodIn_r _ [1027, 31, 15, 35, 234, 235, 236, 22, 237, 57, 275, 276, 277, 30, 278, 75, 279, 280, 281, 282, 283, 284, 285, 286, 287, 288, 289, 290, 291, 76, 77, 292, 198, 199, 200, 58, 293, 214, 215, 216, 56, 294, 295, 296, 297, 298, 299, 300, 301, 302, 303, 304, 305, 306, 307, 2, 308, 309, 310, 311, 312, 313, 314, 315, 316, 317, 318, 319, 320, 321, 322, 323, 324, 325, 326, 327, 328, 329, 330, 331, 332, 333, 334, 335, 336, 337, 342, 343, 344, 34, 345, 346, 347, 348, 349, 350, 351, 352, 353, 82, 83, 84, 354, 257, 258, 355, 356, 357, 358, 359, 360, 361, 362, 363, 364, 365, 366, 367, 368, 369, 370, 371, 372, 373, 374, 375, 376, 864, 382, 383, 384, 1061, 1062, 1063, 1064, 1065, 1066, 1067, 1068, 1069, 1097, 1098, 1099, 1102, 1103, 1104, 1105, 1111, 1112, 1113, 1114, 1115, 1116, 1117, 1118, 1119, 1120, 1121, 1122, 1123] (by decide +kernel) (by decide +kernel)
set_option maxRecDepth 20000 in
theorem gL_law_X8_evenSeasons : GoodIn wsL_law (wsV RL 98 RX8 yX8_evenSeasons wsX8_evenSeasons) := goodIn_app (goodIn_of _ (by decide +kernel)) ggL_law_X8_evenSeasons
set_option maxRecDepth 20000 in
theorem ggL_law_X9_evenSeasons : GoodIn wsL_law wsX9_evenSeasons := goodIn_r _ [1031, 103, 411, 412, 413, 5, 414, 107, 114, 115, 113, 112, 111, 110, 415, 416, 417, 418, 419, 420, 421, 422, 423, 424, 425, 426, 427, 428, 429, 430, 431, 432, 433, 434, 435, 436, 437, 221, 222, 223, 224, 438, 439, 440, 441, 442, 443, 444, 445, 446, 447, 448, 449, 450, 451, 452, 453, 454, 455, 108, 109, 456, 457, 458, 459, 460, 461, 462, 463, 464, 465, 466, 467, 468, 469, 470, 471, 472, 473, 474, 475, 476, 477, 478, 479, 480, 481, 482, 483, 484, 485, 486, 492, 493, 494, 495, 1070, 1071, 1072, 1073, 1074, 1075, 1076, 1077, 1078, 1079, 1080, 1081, 1082, 1083, 1084, 1085, 1086, 1087, 1088, 1089, 1090, 1091, 1092, 1093, 1094, 1095, 1096] (by decide +kernel) (by decide +kernel)
set_option maxRecDepth 20000 in
theorem gL_law_X9_evenSeasons : GoodIn wsL_law (wsV RL 101 RX9 yX9_evenSeasons wsX9_evenSeasons) := goodIn_app (goodIn_of _ (by decide +kernel)) ggL_law_X9_evenSeasons
set_option maxRecDepth 20000 in
theorem ggL_law_X8_printedFor : GoodIn wsL_law wsX8_printedFor := goodIn_r _ [1035, 31, 15, 229, 230, 2, 231, 232, 233, 127, 128, 129, 234, 235, 236, 22, 237, 57, 275, 276, 277, 30, 278, 75, 279, 280, 281, 282, 283, 284, 285, 286, 287, 288, 289, 290, 291, 76, 77, 292, 198, 199, 200, 58, 293, 214, 215, 216, 56, 294, 295, 296, 297, 298, 299, 300, 301, 302, 303, 304, 305, 306, 307, 308, 309, 310, 311, 312, 313, 314, 315, 316, 317, 318, 319, 320, 321, 322, 323, 324, 325, 326, 327, 328, 329, 330, 331, 332, 333, 334, 335, 336, 337, 1061, 1062, 1063, 1064, 1065, 1066, 1067, 1068, 1069, 1097, 1098, 1099, 1111, 1112, 1113, 1114, 1115, 1116, 1117, 1118, 1102, 1103, 1104, 1105] (by decide +kernel) (by decide +kernel)
set_option maxRecDepth 20000 in
theorem gL_law_X8_printedFor : GoodIn wsL_law (wsV RL 102 RX8 yX8_printedFor wsX8_printedFor) := goodIn_app (goodIn_of _ (by decide +kernel)) ggL_law_X8_printedFor
set_option maxRecDepth 20000 in
theorem ggL_law_X9_printedFor : GoodIn wsL_law wsX9_printedFor := goodIn_r _ [1039, 103, 174, 175, 5, 176, 422, 423, 424, 425, 426, 427, 428, 429, 430, 431, 432, 433, 434, 435, 436, 437, 221, 222, 223, 224, 438, 439, 440, 441, 442, 443, 444, 464, 465, 466, 1070, 1071, 1072, 1073, 1074, 1075, 1076, 1077, 1078, 1079, 1080, 1081, 1082, 1083, 1084, 1085, 1086, 1087, 1088, 1089, 1090, 1091, 1092, 1093, 1094, 1095, 1096] (by decide +kernel) (by decide +kernel)
set_option maxRecDepth 20000 in
theorem gL_law_X9_printedFor : GoodIn wsL_law (wsV RL 105 RX9 yX9_printedFor wsX9_printedFor) := goodIn_app (goodIn_of _ (by decide +kernel)) ggL_law_X9_printedFor
set_option maxRecDepth 20000 in
theorem ggL_law_X8_bestSides : GoodIn wsL_law wsX8_bestSides := goodIn_r _ [1043, 15, 35, 127, 128, 2, 129, 271, 272, 273, 274, 31, 234, 235, 236, 22, 237, 57, 275, 276, 277, 30, 278, 75, 279, 280, 281, 282, 283, 284, 285, 286, 287, 288, 289, 290, 291, 76, 77, 292, 198, 199, 200, 58, 293, 214, 215, 216, 56, 294, 295, 296, 297, 298, 299, 300, 301, 302, 303, 304, 305, 306, 307, 308, 309, 310, 311, 312, 313, 314, 315, 316, 317, 318, 319, 320, 321, 322, 323, 324, 325, 326, 327, 328, 329, 330, 331, 332, 333, 334, 335, 336, 337, 338, 339, 340, 341, 36, 342, 343, 344, 34, 345, 346, 347, 348, 349, 350, 351, 352, 353, 82, 83, 84, 354, 257, 258, 355, 356, 357, 358, 359, 360, 361, 362, 363, 364, 365, 366, 367, 368, 369, 370, 371, 372, 373, 374, 375, 376, 377, 378, 379, 380, 381, 382, 383, 384, 385, 386, 387, 388, 389, 390, 391, 392, 393, 394, 1044, 864, 1061, 1062, 1063, 1064, 1065, 1066, 1067, 1068, 1069, 1097, 1098, 1099, 1102, 1103, 1104, 1105, 1111, 1112, 1113, 1114, 1115, 1116, 1117, 1118, 1119, 1120, 1121, 1122, 1123] (by decide +kernel) (by decide +kernel)
set_option maxRecDepth 20000 in
theorem gL_law_X8_bestSides : GoodIn wsL_law (wsV RL 106 RX8 yX8_bestSides wsX8_bestSides) := goodIn_app (goodIn_of _ (by decide +kernel)) ggL_law_X8_bestSides
set_option maxRecDepth 20000 in
theorem ggL_law_X9_bestSides : GoodIn wsL_law wsX9_bestSides := goodIn_r _ [1048, 174, 175, 5, 176, 399, 400, 401, 402, 403, 404, 405, 406, 103, 407, 408, 409, 410, 411, 412, 413, 414, 107, 114, 115, 113, 112, 111, 110, 415, 416, 417, 418, 419, 420, 421, 422, 423, 424, 425, 426, 427, 428, 429, 430, 431, 432, 433, 434, 435, 436, 437, 221, 222, 223, 224, 438, 439, 440, 441, 442, 443, 444, 445, 446, 447, 448, 449, 450, 451, 452, 453, 454, 455, 108, 109, 456, 457, 458, 459, 460, 461, 462, 463, 464, 465, 466, 467, 468, 469, 470, 471, 472, 473, 474, 475, 476, 477, 478, 479, 480, 481, 482, 483, 484, 485, 486, 487, 488, 489, 490, 491, 492, 493, 494, 495, 496, 497, 498, 499, 500, 501, 502, 503, 1070, 1071, 1072, 1073, 1074, 1075, 1076, 1077, 1078, 1079, 1080, 1081, 1082, 1083, 1084, 1085, 1086, 1087, 1088, 1089, 1090, 1091, 1092, 1093, 1094, 1095, 1096] (by decide +kernel) (by decide +kernel)
set_option maxRecDepth 20000 in
theorem gL_law_X9_bestSides : GoodIn wsL_law (wsV RL 109 RX9 yX9_bestSides wsX9_bestSides) := goodIn_app (goodIn_of _ (by decide +kernel)) ggL_law_X9_bestSides
set_option maxRecDepth 20000 in
theorem ggL_law_X8_bestSet : GoodIn wsL_law wsX8_bestSet := goodIn_r _ [1052, 44, 15, 508, 509, 2, 510, 253, 254, 255, 127, 128, 129, 511, 512, 513, 43, 514, 515, 516, 517, 285, 518, 519, 97, 520, 521, 522, 523, 524, 525, 526, 257, 258, 527, 528, 529, 530, 531, 235, 236, 22, 237, 57, 532, 198, 199, 200, 58, 533, 214, 215, 216, 56, 534, 535, 536, 537, 300, 301, 302, 303, 304, 305, 306, 298, 307, 308, 309, 310, 311, 312, 314, 315, 538, 321, 322, 323, 324, 325, 326, 327, 328, 329, 330, 331, 332, 333, 334, 335, 336, 337, 539, 540, 541, 542, 543, 544, 545, 546, 547, 548, 549, 98, 550, 551, 552, 553, 554, 555, 556, 557, 1053, 1054, 1055, 1056, 562, 563, 564, 565, 567, 568, 569, 570, 1061, 1062, 1063, 1064, 1065, 1066, 1067, 1068, 1069, 1097, 1098, 1099, 1131, 1132, 1133, 1134, 1135, 1102, 1103, 1104, 1105] (by decide +kernel) (by decide +kernel)
set_option maxRecDepth 20000 in
theorem gL_law_X8_bestSet : GoodIn wsL_law (wsV RL 110 RX8 yX8_bestSet wsX8_bestSet) := goodIn_app (goodIn_of _ (by decide +kernel)) ggL_law_X8_bestSet
set_option maxRecDepth 20000 in
theorem ggL_law_X9_bestSet : GoodIn wsL_law wsX9_bestSet := goodIn_r _ [1060, 576, 577, 5, 578, 174, 175, 176, 579, 580, 581, 582, 116, 583, 575, 117, 584, 585, 586, 587, 103, 221, 222, 223, 224, 434, 435, 436, 437, 438, 439, 440, 445, 446, 447, 588, 589, 590, 591, 592, 593, 594, 595, 456, 457, 458, 459, 460, 461, 462, 463, 464, 465, 466, 467, 468, 469, 470, 596, 597, 598, 599, 600, 601, 602, 603, 1070, 1071, 1072, 1073, 1074, 1075, 1076, 1077, 1078, 1079, 1080, 1081, 1082, 1083, 1084, 1085, 1086, 1087, 1088, 1089, 1090, 1091, 1092, 1093, 1094, 1095, 1096] (by decide +kernel) (by decide +kernel)
set_option maxRecDepth 20000 in
theorem gL_law_X9_bestSet : GoodIn wsL_law (wsV RL 114 RX9 yX9_bestSet wsX9_bestSet) := goodIn_app (goodIn_of _ (by decide +kernel)) ggL_law_X9_bestSet
theorem dL_law_0 : decode cL_law 0 = .ok (.new 7, 3) := by decide +kernel
theorem dL_law_3 : decode cL_law 3 = .ok (.dup, 1) := by decide +kernel
theorem dL_law_4 : decode cL_law 4 = .ok (.invokespecial 9, 3) := by decide +kernel
theorem dL_law_7 : decode cL_law 7 = .ok (.astore_n 1, 1) := by decide +kernel
theorem dL_law_8 : decode cL_law 8 = .ok (.new 10, 3) := by decide +kernel
theorem dL_law_11 : decode cL_law 11 = .ok (.dup, 1) := by decide +kernel
theorem dL_law_12 : decode cL_law 12 = .ok (.invokespecial 12, 3) := by decide +kernel
theorem dL_law_15 : decode cL_law 15 = .ok (.astore_n 2, 1) := by decide +kernel
theorem dL_law_16 : decode cL_law 16 = .ok (.iconst 0, 1) := by decide +kernel
theorem dL_law_17 : decode cL_law 17 = .ok (.istore_n 3, 1) := by decide +kernel
theorem dL_law_18 : decode cL_law 18 = .ok (.iload_n 3, 1) := by decide +kernel
theorem dL_law_19 : decode cL_law 19 = .ok (.aload_n 0, 1) := by decide +kernel
theorem dL_law_20 : decode cL_law 20 = .ok (.arraylength, 1) := by decide +kernel
theorem dL_law_21 : decode cL_law 21 = .ok (.bipush 7, 2) := by decide +kernel
theorem dL_law_23 : decode cL_law 23 = .ok (.isub, 1) := by decide +kernel
theorem dL_law_24 : decode cL_law 24 = .ok (.if_icmp .gt 810, 3) := by decide +kernel
theorem dL_law_27 : decode cL_law 27 = .ok (.aload_n 0, 1) := by decide +kernel
theorem dL_law_28 : decode cL_law 28 = .ok (.iload_n 3, 1) := by decide +kernel
theorem dL_law_29 : decode cL_law 29 = .ok (.iaload, 1) := by decide +kernel
theorem dL_law_30 : decode cL_law 30 = .ok (.bipush 31, 2) := by decide +kernel
theorem dL_law_32 : decode cL_law 32 = .ok (.iand, 1) := by decide +kernel
theorem dL_law_33 : decode cL_law 33 = .ok (.tableswitch 795 0 23 #[111, 186, 209, 252, 285, 318, 331, 374, 397, 420, 433, 456, 469, 482, 505, 528, 561, 604, 637, 660, 683, 696, 719, 742], 111) := by decide +kernel
theorem dL_law_144 : decode cL_law 144 = .ok (.aload_n 1, 1) := by decide +kernel
theorem dL_law_145 : decode cL_law 145 = .ok (.aload_n 0, 1) := by decide +kernel
theorem dL_law_146 : decode cL_law 146 = .ok (.iload_n 3, 1) := by decide +kernel
theorem dL_law_147 : decode cL_law 147 = .ok (.iconst 1, 1) := by decide +kernel
theorem dL_law_148 : decode cL_law 148 = .ok (.iadd, 1) := by decide +kernel
theorem dL_law_149 : decode cL_law 149 = .ok (.iaload, 1) := by decide +kernel
theorem dL_law_150 : decode cL_law 150 = .ok (.aload_n 0, 1) := by decide +kernel
theorem dL_law_151 : decode cL_law 151 = .ok (.iload_n 3, 1) := by decide +kernel
theorem dL_law_152 : decode cL_law 152 = .ok (.iconst 2, 1) := by decide +kernel
theorem dL_law_153 : decode cL_law 153 = .ok (.iadd, 1) := by decide +kernel
theorem dL_law_154 : decode cL_law 154 = .ok (.iaload, 1) := by decide +kernel
theorem dL_law_155 : decode cL_law 155 = .ok (.aload_n 0, 1) := by decide +kernel
theorem dL_law_156 : decode cL_law 156 = .ok (.iload_n 3, 1) := by decide +kernel
theorem dL_law_157 : decode cL_law 157 = .ok (.iconst 3, 1) := by decide +kernel
theorem dL_law_158 : decode cL_law 158 = .ok (.iadd, 1) := by decide +kernel
theorem dL_law_159 : decode cL_law 159 = .ok (.iaload, 1) := by decide +kernel
theorem dL_law_160 : decode cL_law 160 = .ok (.aload_n 0, 1) := by decide +kernel
theorem dL_law_161 : decode cL_law 161 = .ok (.iload_n 3, 1) := by decide +kernel
theorem dL_law_162 : decode cL_law 162 = .ok (.iconst 4, 1) := by decide +kernel
theorem dL_law_163 : decode cL_law 163 = .ok (.iadd, 1) := by decide +kernel
theorem dL_law_164 : decode cL_law 164 = .ok (.iaload, 1) := by decide +kernel
theorem dL_law_165 : decode cL_law 165 = .ok (.aload_n 0, 1) := by decide +kernel
theorem dL_law_166 : decode cL_law 166 = .ok (.iload_n 3, 1) := by decide +kernel
theorem dL_law_167 : decode cL_law 167 = .ok (.iconst 5, 1) := by decide +kernel
theorem dL_law_168 : decode cL_law 168 = .ok (.iadd, 1) := by decide +kernel
theorem dL_law_169 : decode cL_law 169 = .ok (.iaload, 1) := by decide +kernel
theorem dL_law_170 : decode cL_law 170 = .ok (.aload_n 0, 1) := by decide +kernel
theorem dL_law_171 : decode cL_law 171 = .ok (.iload_n 3, 1) := by decide +kernel
theorem dL_law_172 : decode cL_law 172 = .ok (.bipush 6, 2) := by decide +kernel
theorem dL_law_174 : decode cL_law 174 = .ok (.iadd, 1) := by decide +kernel
theorem dL_law_175 : decode cL_law 175 = .ok (.iaload, 1) := by decide +kernel
theorem dL_law_176 : decode cL_law 176 = .ok (.invokevirtual 13, 3) := by decide +kernel
theorem dL_law_179 : decode cL_law 179 = .ok (.aload_n 2, 1) := by decide +kernel
theorem dL_law_180 : decode cL_law 180 = .ok (.aload_n 0, 1) := by decide +kernel
theorem dL_law_181 : decode cL_law 181 = .ok (.iload_n 3, 1) := by decide +kernel
theorem dL_law_182 : decode cL_law 182 = .ok (.iconst 1, 1) := by decide +kernel
theorem dL_law_183 : decode cL_law 183 = .ok (.iadd, 1) := by decide +kernel
theorem dL_law_184 : decode cL_law 184 = .ok (.iaload, 1) := by decide +kernel
theorem dL_law_185 : decode cL_law 185 = .ok (.aload_n 0, 1) := by decide +kernel
theorem dL_law_186 : decode cL_law 186 = .ok (.iload_n 3, 1) := by decide +kernel
theorem dL_law_187 : decode cL_law 187 = .ok (.iconst 2, 1) := by decide +kernel
theorem dL_law_188 : decode cL_law 188 = .ok (.iadd, 1) := by decide +kernel
theorem dL_law_189 : decode cL_law 189 = .ok (.iaload, 1) := by decide +kernel
theorem dL_law_190 : decode cL_law 190 = .ok (.aload_n 0, 1) := by decide +kernel
theorem dL_law_191 : decode cL_law 191 = .ok (.iload_n 3, 1) := by decide +kernel
theorem dL_law_192 : decode cL_law 192 = .ok (.iconst 3, 1) := by decide +kernel
theorem dL_law_193 : decode cL_law 193 = .ok (.iadd, 1) := by decide +kernel
theorem dL_law_194 : decode cL_law 194 = .ok (.iaload, 1) := by decide +kernel
theorem dL_law_195 : decode cL_law 195 = .ok (.aload_n 0, 1) := by decide +kernel
theorem dL_law_196 : decode cL_law 196 = .ok (.iload_n 3, 1) := by decide +kernel
theorem dL_law_197 : decode cL_law 197 = .ok (.iconst 4, 1) := by decide +kernel
theorem dL_law_198 : decode cL_law 198 = .ok (.iadd, 1) := by decide +kernel
theorem dL_law_199 : decode cL_law 199 = .ok (.iaload, 1) := by decide +kernel
theorem dL_law_200 : decode cL_law 200 = .ok (.aload_n 0, 1) := by decide +kernel
theorem dL_law_201 : decode cL_law 201 = .ok (.iload_n 3, 1) := by decide +kernel
theorem dL_law_202 : decode cL_law 202 = .ok (.iconst 5, 1) := by decide +kernel
theorem dL_law_203 : decode cL_law 203 = .ok (.iadd, 1) := by decide +kernel
theorem dL_law_204 : decode cL_law 204 = .ok (.iaload, 1) := by decide +kernel
theorem dL_law_205 : decode cL_law 205 = .ok (.aload_n 0, 1) := by decide +kernel
theorem dL_law_206 : decode cL_law 206 = .ok (.iload_n 3, 1) := by decide +kernel
theorem dL_law_207 : decode cL_law 207 = .ok (.bipush 6, 2) := by decide +kernel
theorem dL_law_209 : decode cL_law 209 = .ok (.iadd, 1) := by decide +kernel
theorem dL_law_210 : decode cL_law 210 = .ok (.iaload, 1) := by decide +kernel
theorem dL_law_211 : decode cL_law 211 = .ok (.invokevirtual 17, 3) := by decide +kernel
theorem dL_law_214 : decode cL_law 214 = .ok (.if_icmp .eq 614, 3) := by decide +kernel
theorem dL_law_217 : decode cL_law 217 = .ok (.iconst 0, 1) := by decide +kernel
theorem dL_law_218 : decode cL_law 218 = .ok (.ireturn, 1) := by decide +kernel
theorem dL_law_219 : decode cL_law 219 = .ok (.aload_n 1, 1) := by decide +kernel
theorem dL_law_220 : decode cL_law 220 = .ok (.aload_n 0, 1) := by decide +kernel
theorem dL_law_221 : decode cL_law 221 = .ok (.iload_n 3, 1) := by decide +kernel
theorem dL_law_222 : decode cL_law 222 = .ok (.iconst 1, 1) := by decide +kernel
theorem dL_law_223 : decode cL_law 223 = .ok (.iadd, 1) := by decide +kernel
theorem dL_law_224 : decode cL_law 224 = .ok (.iaload, 1) := by decide +kernel
theorem dL_law_225 : decode cL_law 225 = .ok (.invokevirtual 18, 3) := by decide +kernel
theorem dL_law_228 : decode cL_law 228 = .ok (.aload_n 2, 1) := by decide +kernel
theorem dL_law_229 : decode cL_law 229 = .ok (.aload_n 0, 1) := by decide +kernel
theorem dL_law_230 : decode cL_law 230 = .ok (.iload_n 3, 1) := by decide +kernel
theorem dL_law_231 : decode cL_law 231 = .ok (.iconst 1, 1) := by decide +kernel
theorem dL_law_232 : decode cL_law 232 = .ok (.iadd, 1) := by decide +kernel
theorem dL_law_233 : decode cL_law 233 = .ok (.iaload, 1) := by decide +kernel
theorem dL_law_234 : decode cL_law 234 = .ok (.invokevirtual 22, 3) := by decide +kernel
theorem dL_law_237 : decode cL_law 237 = .ok (.if_icmp .eq 591, 3) := by decide +kernel
theorem dL_law_240 : decode cL_law 240 = .ok (.iconst 0, 1) := by decide +kernel
theorem dL_law_241 : decode cL_law 241 = .ok (.ireturn, 1) := by decide +kernel
theorem dL_law_242 : decode cL_law 242 = .ok (.aload_n 1, 1) := by decide +kernel
theorem dL_law_243 : decode cL_law 243 = .ok (.aload_n 0, 1) := by decide +kernel
theorem dL_law_244 : decode cL_law 244 = .ok (.iload_n 3, 1) := by decide +kernel
theorem dL_law_245 : decode cL_law 245 = .ok (.iconst 1, 1) := by decide +kernel
theorem dL_law_246 : decode cL_law 246 = .ok (.iadd, 1) := by decide +kernel
theorem dL_law_247 : decode cL_law 247 = .ok (.iaload, 1) := by decide +kernel
theorem dL_law_248 : decode cL_law 248 = .ok (.aload_n 0, 1) := by decide +kernel
theorem dL_law_249 : decode cL_law 249 = .ok (.iload_n 3, 1) := by decide +kernel
theorem dL_law_250 : decode cL_law 250 = .ok (.iconst 2, 1) := by decide +kernel
theorem dL_law_251 : decode cL_law 251 = .ok (.iadd, 1) := by decide +kernel
theorem dL_law_252 : decode cL_law 252 = .ok (.iaload, 1) := by decide +kernel
theorem dL_law_253 : decode cL_law 253 = .ok (.aload_n 0, 1) := by decide +kernel
theorem dL_law_254 : decode cL_law 254 = .ok (.iload_n 3, 1) := by decide +kernel
theorem dL_law_255 : decode cL_law 255 = .ok (.iconst 3, 1) := by decide +kernel
theorem dL_law_256 : decode cL_law 256 = .ok (.iadd, 1) := by decide +kernel
theorem dL_law_257 : decode cL_law 257 = .ok (.iaload, 1) := by decide +kernel
theorem dL_law_258 : decode cL_law 258 = .ok (.invokevirtual 23, 3) := by decide +kernel
theorem dL_law_261 : decode cL_law 261 = .ok (.aload_n 2, 1) := by decide +kernel
theorem dL_law_262 : decode cL_law 262 = .ok (.aload_n 0, 1) := by decide +kernel
theorem dL_law_263 : decode cL_law 263 = .ok (.iload_n 3, 1) := by decide +kernel
theorem dL_law_264 : decode cL_law 264 = .ok (.iconst 1, 1) := by decide +kernel
theorem dL_law_265 : decode cL_law 265 = .ok (.iadd, 1) := by decide +kernel
theorem dL_law_266 : decode cL_law 266 = .ok (.iaload, 1) := by decide +kernel
theorem dL_law_267 : decode cL_law 267 = .ok (.aload_n 0, 1) := by decide +kernel
theorem dL_law_268 : decode cL_law 268 = .ok (.iload_n 3, 1) := by decide +kernel
theorem dL_law_269 : decode cL_law 269 = .ok (.iconst 2, 1) := by decide +kernel
theorem dL_law_270 : decode cL_law 270 = .ok (.iadd, 1) := by decide +kernel
theorem dL_law_271 : decode cL_law 271 = .ok (.iaload, 1) := by decide +kernel
theorem dL_law_272 : decode cL_law 272 = .ok (.aload_n 0, 1) := by decide +kernel
theorem dL_law_273 : decode cL_law 273 = .ok (.iload_n 3, 1) := by decide +kernel
theorem dL_law_274 : decode cL_law 274 = .ok (.iconst 3, 1) := by decide +kernel
theorem dL_law_275 : decode cL_law 275 = .ok (.iadd, 1) := by decide +kernel
theorem dL_law_276 : decode cL_law 276 = .ok (.iaload, 1) := by decide +kernel
theorem dL_law_277 : decode cL_law 277 = .ok (.invokevirtual 27, 3) := by decide +kernel
theorem dL_law_280 : decode cL_law 280 = .ok (.if_icmp .eq 548, 3) := by decide +kernel
theorem dL_law_283 : decode cL_law 283 = .ok (.iconst 0, 1) := by decide +kernel
theorem dL_law_284 : decode cL_law 284 = .ok (.ireturn, 1) := by decide +kernel
theorem dL_law_285 : decode cL_law 285 = .ok (.aload_n 1, 1) := by decide +kernel
theorem dL_law_286 : decode cL_law 286 = .ok (.aload_n 0, 1) := by decide +kernel
theorem dL_law_287 : decode cL_law 287 = .ok (.iload_n 3, 1) := by decide +kernel
theorem dL_law_288 : decode cL_law 288 = .ok (.iconst 1, 1) := by decide +kernel
theorem dL_law_289 : decode cL_law 289 = .ok (.iadd, 1) := by decide +kernel
theorem dL_law_290 : decode cL_law 290 = .ok (.iaload, 1) := by decide +kernel
theorem dL_law_291 : decode cL_law 291 = .ok (.aload_n 0, 1) := by decide +kernel
theorem dL_law_292 : decode cL_law 292 = .ok (.iload_n 3, 1) := by decide +kernel
theorem dL_law_293 : decode cL_law 293 = .ok (.iconst 2, 1) := by decide +kernel
theorem dL_law_294 : decode cL_law 294 = .ok (.iadd, 1) := by decide +kernel
theorem dL_law_295 : decode cL_law 295 = .ok (.iaload, 1) := by decide +kernel
theorem dL_law_296 : decode cL_law 296 = .ok (.invokevirtual 28, 3) := by decide +kernel
theorem dL_law_299 : decode cL_law 299 = .ok (.aload_n 2, 1) := by decide +kernel
theorem dL_law_300 : decode cL_law 300 = .ok (.aload_n 0, 1) := by decide +kernel
theorem dL_law_301 : decode cL_law 301 = .ok (.iload_n 3, 1) := by decide +kernel
theorem dL_law_302 : decode cL_law 302 = .ok (.iconst 1, 1) := by decide +kernel
theorem dL_law_303 : decode cL_law 303 = .ok (.iadd, 1) := by decide +kernel
theorem dL_law_304 : decode cL_law 304 = .ok (.iaload, 1) := by decide +kernel
theorem dL_law_305 : decode cL_law 305 = .ok (.aload_n 0, 1) := by decide +kernel
theorem dL_law_306 : decode cL_law 306 = .ok (.iload_n 3, 1) := by decide +kernel
theorem dL_law_307 : decode cL_law 307 = .ok (.iconst 2, 1) := by decide +kernel
theorem dL_law_308 : decode cL_law 308 = .ok (.iadd, 1) := by decide +kernel
theorem dL_law_309 : decode cL_law 309 = .ok (.iaload, 1) := by decide +kernel
theorem dL_law_310 : decode cL_law 310 = .ok (.invokevirtual 32, 3) := by decide +kernel
theorem dL_law_313 : decode cL_law 313 = .ok (.if_icmp .eq 515, 3) := by decide +kernel
theorem dL_law_316 : decode cL_law 316 = .ok (.iconst 0, 1) := by decide +kernel
theorem dL_law_317 : decode cL_law 317 = .ok (.ireturn, 1) := by decide +kernel
theorem dL_law_318 : decode cL_law 318 = .ok (.aload_n 1, 1) := by decide +kernel
theorem dL_law_319 : decode cL_law 319 = .ok (.aload_n 0, 1) := by decide +kernel
theorem dL_law_320 : decode cL_law 320 = .ok (.iload_n 3, 1) := by decide +kernel
theorem dL_law_321 : decode cL_law 321 = .ok (.iconst 1, 1) := by decide +kernel
theorem dL_law_322 : decode cL_law 322 = .ok (.iadd, 1) := by decide +kernel
theorem dL_law_323 : decode cL_law 323 = .ok (.iaload, 1) := by decide +kernel
theorem dL_law_324 : decode cL_law 324 = .ok (.aload_n 0, 1) := by decide +kernel
theorem dL_law_325 : decode cL_law 325 = .ok (.iload_n 3, 1) := by decide +kernel
theorem dL_law_326 : decode cL_law 326 = .ok (.iconst 2, 1) := by decide +kernel
theorem dL_law_327 : decode cL_law 327 = .ok (.iadd, 1) := by decide +kernel
theorem dL_law_328 : decode cL_law 328 = .ok (.iaload, 1) := by decide +kernel
theorem dL_law_329 : decode cL_law 329 = .ok (.invokevirtual 33, 3) := by decide +kernel
theorem dL_law_332 : decode cL_law 332 = .ok (.aload_n 2, 1) := by decide +kernel
theorem dL_law_333 : decode cL_law 333 = .ok (.aload_n 0, 1) := by decide +kernel
theorem dL_law_334 : decode cL_law 334 = .ok (.iload_n 3, 1) := by decide +kernel
theorem dL_law_335 : decode cL_law 335 = .ok (.iconst 1, 1) := by decide +kernel
theorem dL_law_336 : decode cL_law 336 = .ok (.iadd, 1) := by decide +kernel
theorem dL_law_337 : decode cL_law 337 = .ok (.iaload, 1) := by decide +kernel
theorem dL_law_338 : decode cL_law 338 = .ok (.aload_n 0, 1) := by decide +kernel
theorem dL_law_339 : decode cL_law 339 = .ok (.iload_n 3, 1) := by decide +kernel
theorem dL_law_340 : decode cL_law 340 = .ok (.iconst 2, 1) := by decide +kernel
theorem dL_law_341 : decode cL_law 341 = .ok (.iadd, 1) := by decide +kernel
theorem dL_law_342 : decode cL_law 342 = .ok (.iaload, 1) := by decide +kernel
theorem dL_law_343 : decode cL_law 343 = .ok (.invokevirtual 36, 3) := by decide +kernel
theorem dL_law_346 : decode cL_law 346 = .ok (.if_icmp .eq 482, 3) := by decide +kernel
theorem dL_law_349 : decode cL_law 349 = .ok (.iconst 0, 1) := by decide +kernel
theorem dL_law_350 : decode cL_law 350 = .ok (.ireturn, 1) := by decide +kernel
theorem dL_law_351 : decode cL_law 351 = .ok (.aload_n 1, 1) := by decide +kernel
theorem dL_law_352 : decode cL_law 352 = .ok (.invokevirtual 37, 3) := by decide +kernel
theorem dL_law_355 : decode cL_law 355 = .ok (.aload_n 2, 1) := by decide +kernel
theorem dL_law_356 : decode cL_law 356 = .ok (.invokevirtual 41, 3) := by decide +kernel
theorem dL_law_359 : decode cL_law 359 = .ok (.if_icmp .eq 469, 3) := by decide +kernel
theorem dL_law_362 : decode cL_law 362 = .ok (.iconst 0, 1) := by decide +kernel
theorem dL_law_363 : decode cL_law 363 = .ok (.ireturn, 1) := by decide +kernel
theorem dL_law_364 : decode cL_law 364 = .ok (.aload_n 1, 1) := by decide +kernel
theorem dL_law_365 : decode cL_law 365 = .ok (.aload_n 0, 1) := by decide +kernel
theorem dL_law_366 : decode cL_law 366 = .ok (.iload_n 3, 1) := by decide +kernel
theorem dL_law_367 : decode cL_law 367 = .ok (.iconst 1, 1) := by decide +kernel
theorem dL_law_368 : decode cL_law 368 = .ok (.iadd, 1) := by decide +kernel
theorem dL_law_369 : decode cL_law 369 = .ok (.iaload, 1) := by decide +kernel
theorem dL_law_370 : decode cL_law 370 = .ok (.aload_n 0, 1) := by decide +kernel
theorem dL_law_371 : decode cL_law 371 = .ok (.iload_n 3, 1) := by decide +kernel
theorem dL_law_372 : decode cL_law 372 = .ok (.iconst 2, 1) := by decide +kernel
theorem dL_law_373 : decode cL_law 373 = .ok (.iadd, 1) := by decide +kernel
theorem dL_law_374 : decode cL_law 374 = .ok (.iaload, 1) := by decide +kernel
theorem dL_law_375 : decode cL_law 375 = .ok (.aload_n 0, 1) := by decide +kernel
theorem dL_law_376 : decode cL_law 376 = .ok (.iload_n 3, 1) := by decide +kernel
theorem dL_law_377 : decode cL_law 377 = .ok (.iconst 3, 1) := by decide +kernel
theorem dL_law_378 : decode cL_law 378 = .ok (.iadd, 1) := by decide +kernel
theorem dL_law_379 : decode cL_law 379 = .ok (.iaload, 1) := by decide +kernel
theorem dL_law_380 : decode cL_law 380 = .ok (.invokevirtual 42, 3) := by decide +kernel
theorem dL_law_383 : decode cL_law 383 = .ok (.aload_n 2, 1) := by decide +kernel
theorem dL_law_384 : decode cL_law 384 = .ok (.aload_n 0, 1) := by decide +kernel
theorem dL_law_385 : decode cL_law 385 = .ok (.iload_n 3, 1) := by decide +kernel
theorem dL_law_386 : decode cL_law 386 = .ok (.iconst 1, 1) := by decide +kernel
theorem dL_law_387 : decode cL_law 387 = .ok (.iadd, 1) := by decide +kernel
theorem dL_law_388 : decode cL_law 388 = .ok (.iaload, 1) := by decide +kernel
theorem dL_law_389 : decode cL_law 389 = .ok (.aload_n 0, 1) := by decide +kernel
theorem dL_law_390 : decode cL_law 390 = .ok (.iload_n 3, 1) := by decide +kernel
theorem dL_law_391 : decode cL_law 391 = .ok (.iconst 2, 1) := by decide +kernel
theorem dL_law_392 : decode cL_law 392 = .ok (.iadd, 1) := by decide +kernel
theorem dL_law_393 : decode cL_law 393 = .ok (.iaload, 1) := by decide +kernel
theorem dL_law_394 : decode cL_law 394 = .ok (.aload_n 0, 1) := by decide +kernel
theorem dL_law_395 : decode cL_law 395 = .ok (.iload_n 3, 1) := by decide +kernel
theorem dL_law_396 : decode cL_law 396 = .ok (.iconst 3, 1) := by decide +kernel
theorem dL_law_397 : decode cL_law 397 = .ok (.iadd, 1) := by decide +kernel
theorem dL_law_398 : decode cL_law 398 = .ok (.iaload, 1) := by decide +kernel
theorem dL_law_399 : decode cL_law 399 = .ok (.invokevirtual 45, 3) := by decide +kernel
theorem dL_law_402 : decode cL_law 402 = .ok (.if_icmp .eq 426, 3) := by decide +kernel
theorem dL_law_405 : decode cL_law 405 = .ok (.iconst 0, 1) := by decide +kernel
theorem dL_law_406 : decode cL_law 406 = .ok (.ireturn, 1) := by decide +kernel
theorem dL_law_407 : decode cL_law 407 = .ok (.aload_n 1, 1) := by decide +kernel
theorem dL_law_408 : decode cL_law 408 = .ok (.aload_n 0, 1) := by decide +kernel
theorem dL_law_409 : decode cL_law 409 = .ok (.iload_n 3, 1) := by decide +kernel
theorem dL_law_410 : decode cL_law 410 = .ok (.iconst 1, 1) := by decide +kernel
theorem dL_law_411 : decode cL_law 411 = .ok (.iadd, 1) := by decide +kernel
theorem dL_law_412 : decode cL_law 412 = .ok (.iaload, 1) := by decide +kernel
theorem dL_law_413 : decode cL_law 413 = .ok (.invokevirtual 46, 3) := by decide +kernel
theorem dL_law_416 : decode cL_law 416 = .ok (.aload_n 2, 1) := by decide +kernel
theorem dL_law_417 : decode cL_law 417 = .ok (.aload_n 0, 1) := by decide +kernel
theorem dL_law_418 : decode cL_law 418 = .ok (.iload_n 3, 1) := by decide +kernel
theorem dL_law_419 : decode cL_law 419 = .ok (.iconst 1, 1) := by decide +kernel
theorem dL_law_420 : decode cL_law 420 = .ok (.iadd, 1) := by decide +kernel
theorem dL_law_421 : decode cL_law 421 = .ok (.iaload, 1) := by decide +kernel
theorem dL_law_422 : decode cL_law 422 = .ok (.invokevirtual 49, 3) := by decide +kernel
theorem dL_law_425 : decode cL_law 425 = .ok (.if_icmp .eq 403, 3) := by decide +kernel
theorem dL_law_428 : decode cL_law 428 = .ok (.iconst 0, 1) := by decide +kernel
theorem dL_law_429 : decode cL_law 429 = .ok (.ireturn, 1) := by decide +kernel
theorem dL_law_430 : decode cL_law 430 = .ok (.aload_n 1, 1) := by decide +kernel
theorem dL_law_431 : decode cL_law 431 = .ok (.aload_n 0, 1) := by decide +kernel
theorem dL_law_432 : decode cL_law 432 = .ok (.iload_n 3, 1) := by decide +kernel
theorem dL_law_433 : decode cL_law 433 = .ok (.iconst 1, 1) := by decide +kernel
theorem dL_law_434 : decode cL_law 434 = .ok (.iadd, 1) := by decide +kernel
theorem dL_law_435 : decode cL_law 435 = .ok (.iaload, 1) := by decide +kernel
theorem dL_law_436 : decode cL_law 436 = .ok (.invokevirtual 50, 3) := by decide +kernel
theorem dL_law_439 : decode cL_law 439 = .ok (.aload_n 2, 1) := by decide +kernel
theorem dL_law_440 : decode cL_law 440 = .ok (.aload_n 0, 1) := by decide +kernel
theorem dL_law_441 : decode cL_law 441 = .ok (.iload_n 3, 1) := by decide +kernel
theorem dL_law_442 : decode cL_law 442 = .ok (.iconst 1, 1) := by decide +kernel
theorem dL_law_443 : decode cL_law 443 = .ok (.iadd, 1) := by decide +kernel
theorem dL_law_444 : decode cL_law 444 = .ok (.iaload, 1) := by decide +kernel
theorem dL_law_445 : decode cL_law 445 = .ok (.invokevirtual 53, 3) := by decide +kernel
theorem dL_law_448 : decode cL_law 448 = .ok (.if_icmp .eq 380, 3) := by decide +kernel
theorem dL_law_451 : decode cL_law 451 = .ok (.iconst 0, 1) := by decide +kernel
theorem dL_law_452 : decode cL_law 452 = .ok (.ireturn, 1) := by decide +kernel
theorem dL_law_453 : decode cL_law 453 = .ok (.aload_n 1, 1) := by decide +kernel
theorem dL_law_454 : decode cL_law 454 = .ok (.invokevirtual 54, 3) := by decide +kernel
theorem dL_law_457 : decode cL_law 457 = .ok (.aload_n 2, 1) := by decide +kernel
theorem dL_law_458 : decode cL_law 458 = .ok (.invokevirtual 57, 3) := by decide +kernel
theorem dL_law_461 : decode cL_law 461 = .ok (.if_icmp .eq 367, 3) := by decide +kernel
theorem dL_law_464 : decode cL_law 464 = .ok (.iconst 0, 1) := by decide +kernel
theorem dL_law_465 : decode cL_law 465 = .ok (.ireturn, 1) := by decide +kernel
theorem dL_law_466 : decode cL_law 466 = .ok (.aload_n 1, 1) := by decide +kernel
theorem dL_law_467 : decode cL_law 467 = .ok (.aload_n 0, 1) := by decide +kernel
theorem dL_law_468 : decode cL_law 468 = .ok (.iload_n 3, 1) := by decide +kernel
theorem dL_law_469 : decode cL_law 469 = .ok (.iconst 1, 1) := by decide +kernel
theorem dL_law_470 : decode cL_law 470 = .ok (.iadd, 1) := by decide +kernel
theorem dL_law_471 : decode cL_law 471 = .ok (.iaload, 1) := by decide +kernel
theorem dL_law_472 : decode cL_law 472 = .ok (.invokevirtual 58, 3) := by decide +kernel
theorem dL_law_475 : decode cL_law 475 = .ok (.aload_n 2, 1) := by decide +kernel
theorem dL_law_476 : decode cL_law 476 = .ok (.aload_n 0, 1) := by decide +kernel
theorem dL_law_477 : decode cL_law 477 = .ok (.iload_n 3, 1) := by decide +kernel
theorem dL_law_478 : decode cL_law 478 = .ok (.iconst 1, 1) := by decide +kernel
theorem dL_law_479 : decode cL_law 479 = .ok (.iadd, 1) := by decide +kernel
theorem dL_law_480 : decode cL_law 480 = .ok (.iaload, 1) := by decide +kernel
theorem dL_law_481 : decode cL_law 481 = .ok (.invokevirtual 61, 3) := by decide +kernel
theorem dL_law_484 : decode cL_law 484 = .ok (.if_icmp .eq 344, 3) := by decide +kernel
theorem dL_law_487 : decode cL_law 487 = .ok (.iconst 0, 1) := by decide +kernel
theorem dL_law_488 : decode cL_law 488 = .ok (.ireturn, 1) := by decide +kernel
theorem dL_law_489 : decode cL_law 489 = .ok (.aload_n 1, 1) := by decide +kernel
theorem dL_law_490 : decode cL_law 490 = .ok (.invokevirtual 62, 3) := by decide +kernel
theorem dL_law_493 : decode cL_law 493 = .ok (.aload_n 2, 1) := by decide +kernel
theorem dL_law_494 : decode cL_law 494 = .ok (.invokevirtual 65, 3) := by decide +kernel
theorem dL_law_497 : decode cL_law 497 = .ok (.if_icmp .eq 331, 3) := by decide +kernel
theorem dL_law_500 : decode cL_law 500 = .ok (.iconst 0, 1) := by decide +kernel
theorem dL_law_501 : decode cL_law 501 = .ok (.ireturn, 1) := by decide +kernel
theorem dL_law_502 : decode cL_law 502 = .ok (.aload_n 1, 1) := by decide +kernel
theorem dL_law_503 : decode cL_law 503 = .ok (.invokevirtual 66, 3) := by decide +kernel
theorem dL_law_506 : decode cL_law 506 = .ok (.aload_n 2, 1) := by decide +kernel
theorem dL_law_507 : decode cL_law 507 = .ok (.invokevirtual 69, 3) := by decide +kernel
theorem dL_law_510 : decode cL_law 510 = .ok (.if_icmp .eq 318, 3) := by decide +kernel
theorem dL_law_513 : decode cL_law 513 = .ok (.iconst 0, 1) := by decide +kernel
theorem dL_law_514 : decode cL_law 514 = .ok (.ireturn, 1) := by decide +kernel
theorem dL_law_515 : decode cL_law 515 = .ok (.aload_n 1, 1) := by decide +kernel
theorem dL_law_516 : decode cL_law 516 = .ok (.aload_n 0, 1) := by decide +kernel
theorem dL_law_517 : decode cL_law 517 = .ok (.iload_n 3, 1) := by decide +kernel
theorem dL_law_518 : decode cL_law 518 = .ok (.iconst 1, 1) := by decide +kernel
theorem dL_law_519 : decode cL_law 519 = .ok (.iadd, 1) := by decide +kernel
theorem dL_law_520 : decode cL_law 520 = .ok (.iaload, 1) := by decide +kernel
theorem dL_law_521 : decode cL_law 521 = .ok (.invokevirtual 70, 3) := by decide +kernel
theorem dL_law_524 : decode cL_law 524 = .ok (.aload_n 2, 1) := by decide +kernel
theorem dL_law_525 : decode cL_law 525 = .ok (.aload_n 0, 1) := by decide +kernel
theorem dL_law_526 : decode cL_law 526 = .ok (.iload_n 3, 1) := by decide +kernel
theorem dL_law_527 : decode cL_law 527 = .ok (.iconst 1, 1) := by decide +kernel
theorem dL_law_528 : decode cL_law 528 = .ok (.iadd, 1) := by decide +kernel
theorem dL_law_529 : decode cL_law 529 = .ok (.iaload, 1) := by decide +kernel
theorem dL_law_530 : decode cL_law 530 = .ok (.invokevirtual 73, 3) := by decide +kernel
theorem dL_law_533 : decode cL_law 533 = .ok (.if_icmp .eq 295, 3) := by decide +kernel
theorem dL_law_536 : decode cL_law 536 = .ok (.iconst 0, 1) := by decide +kernel
theorem dL_law_537 : decode cL_law 537 = .ok (.ireturn, 1) := by decide +kernel
theorem dL_law_538 : decode cL_law 538 = .ok (.aload_n 1, 1) := by decide +kernel
theorem dL_law_539 : decode cL_law 539 = .ok (.aload_n 0, 1) := by decide +kernel
theorem dL_law_540 : decode cL_law 540 = .ok (.iload_n 3, 1) := by decide +kernel
theorem dL_law_541 : decode cL_law 541 = .ok (.iconst 1, 1) := by decide +kernel
theorem dL_law_542 : decode cL_law 542 = .ok (.iadd, 1) := by decide +kernel
theorem dL_law_543 : decode cL_law 543 = .ok (.iaload, 1) := by decide +kernel
theorem dL_law_544 : decode cL_law 544 = .ok (.invokevirtual 74, 3) := by decide +kernel
theorem dL_law_547 : decode cL_law 547 = .ok (.aload_n 2, 1) := by decide +kernel
theorem dL_law_548 : decode cL_law 548 = .ok (.aload_n 0, 1) := by decide +kernel
theorem dL_law_549 : decode cL_law 549 = .ok (.iload_n 3, 1) := by decide +kernel
theorem dL_law_550 : decode cL_law 550 = .ok (.iconst 1, 1) := by decide +kernel
theorem dL_law_551 : decode cL_law 551 = .ok (.iadd, 1) := by decide +kernel
theorem dL_law_552 : decode cL_law 552 = .ok (.iaload, 1) := by decide +kernel
theorem dL_law_553 : decode cL_law 553 = .ok (.invokevirtual 77, 3) := by decide +kernel
theorem dL_law_556 : decode cL_law 556 = .ok (.if_icmp .eq 272, 3) := by decide +kernel
theorem dL_law_559 : decode cL_law 559 = .ok (.iconst 0, 1) := by decide +kernel
theorem dL_law_560 : decode cL_law 560 = .ok (.ireturn, 1) := by decide +kernel
theorem dL_law_561 : decode cL_law 561 = .ok (.aload_n 1, 1) := by decide +kernel
theorem dL_law_562 : decode cL_law 562 = .ok (.aload_n 0, 1) := by decide +kernel
theorem dL_law_563 : decode cL_law 563 = .ok (.iload_n 3, 1) := by decide +kernel
theorem dL_law_564 : decode cL_law 564 = .ok (.iconst 1, 1) := by decide +kernel
theorem dL_law_565 : decode cL_law 565 = .ok (.iadd, 1) := by decide +kernel
theorem dL_law_566 : decode cL_law 566 = .ok (.iaload, 1) := by decide +kernel
theorem dL_law_567 : decode cL_law 567 = .ok (.aload_n 0, 1) := by decide +kernel
theorem dL_law_568 : decode cL_law 568 = .ok (.iload_n 3, 1) := by decide +kernel
theorem dL_law_569 : decode cL_law 569 = .ok (.iconst 2, 1) := by decide +kernel
theorem dL_law_570 : decode cL_law 570 = .ok (.iadd, 1) := by decide +kernel
theorem dL_law_571 : decode cL_law 571 = .ok (.iaload, 1) := by decide +kernel
theorem dL_law_572 : decode cL_law 572 = .ok (.invokevirtual 78, 3) := by decide +kernel
theorem dL_law_575 : decode cL_law 575 = .ok (.aload_n 2, 1) := by decide +kernel
theorem dL_law_576 : decode cL_law 576 = .ok (.aload_n 0, 1) := by decide +kernel
theorem dL_law_577 : decode cL_law 577 = .ok (.iload_n 3, 1) := by decide +kernel
theorem dL_law_578 : decode cL_law 578 = .ok (.iconst 1, 1) := by decide +kernel
theorem dL_law_579 : decode cL_law 579 = .ok (.iadd, 1) := by decide +kernel
theorem dL_law_580 : decode cL_law 580 = .ok (.iaload, 1) := by decide +kernel
theorem dL_law_581 : decode cL_law 581 = .ok (.aload_n 0, 1) := by decide +kernel
theorem dL_law_582 : decode cL_law 582 = .ok (.iload_n 3, 1) := by decide +kernel
theorem dL_law_583 : decode cL_law 583 = .ok (.iconst 2, 1) := by decide +kernel
theorem dL_law_584 : decode cL_law 584 = .ok (.iadd, 1) := by decide +kernel
theorem dL_law_585 : decode cL_law 585 = .ok (.iaload, 1) := by decide +kernel
theorem dL_law_586 : decode cL_law 586 = .ok (.invokevirtual 81, 3) := by decide +kernel
theorem dL_law_589 : decode cL_law 589 = .ok (.if_icmp .eq 239, 3) := by decide +kernel
theorem dL_law_592 : decode cL_law 592 = .ok (.iconst 0, 1) := by decide +kernel
theorem dL_law_593 : decode cL_law 593 = .ok (.ireturn, 1) := by decide +kernel
theorem dL_law_594 : decode cL_law 594 = .ok (.aload_n 1, 1) := by decide +kernel
theorem dL_law_595 : decode cL_law 595 = .ok (.aload_n 0, 1) := by decide +kernel
theorem dL_law_596 : decode cL_law 596 = .ok (.iload_n 3, 1) := by decide +kernel
theorem dL_law_597 : decode cL_law 597 = .ok (.iconst 1, 1) := by decide +kernel
theorem dL_law_598 : decode cL_law 598 = .ok (.iadd, 1) := by decide +kernel
theorem dL_law_599 : decode cL_law 599 = .ok (.iaload, 1) := by decide +kernel
theorem dL_law_600 : decode cL_law 600 = .ok (.aload_n 0, 1) := by decide +kernel
theorem dL_law_601 : decode cL_law 601 = .ok (.iload_n 3, 1) := by decide +kernel
theorem dL_law_602 : decode cL_law 602 = .ok (.iconst 2, 1) := by decide +kernel
theorem dL_law_603 : decode cL_law 603 = .ok (.iadd, 1) := by decide +kernel
theorem dL_law_604 : decode cL_law 604 = .ok (.iaload, 1) := by decide +kernel
theorem dL_law_605 : decode cL_law 605 = .ok (.aload_n 0, 1) := by decide +kernel
theorem dL_law_606 : decode cL_law 606 = .ok (.iload_n 3, 1) := by decide +kernel
theorem dL_law_607 : decode cL_law 607 = .ok (.iconst 3, 1) := by decide +kernel
theorem dL_law_608 : decode cL_law 608 = .ok (.iadd, 1) := by decide +kernel
theorem dL_law_609 : decode cL_law 609 = .ok (.iaload, 1) := by decide +kernel
theorem dL_law_610 : decode cL_law 610 = .ok (.invokevirtual 82, 3) := by decide +kernel
theorem dL_law_613 : decode cL_law 613 = .ok (.aload_n 2, 1) := by decide +kernel
theorem dL_law_614 : decode cL_law 614 = .ok (.aload_n 0, 1) := by decide +kernel
theorem dL_law_615 : decode cL_law 615 = .ok (.iload_n 3, 1) := by decide +kernel
theorem dL_law_616 : decode cL_law 616 = .ok (.iconst 1, 1) := by decide +kernel
theorem dL_law_617 : decode cL_law 617 = .ok (.iadd, 1) := by decide +kernel
theorem dL_law_618 : decode cL_law 618 = .ok (.iaload, 1) := by decide +kernel
theorem dL_law_619 : decode cL_law 619 = .ok (.aload_n 0, 1) := by decide +kernel
theorem dL_law_620 : decode cL_law 620 = .ok (.iload_n 3, 1) := by decide +kernel
theorem dL_law_621 : decode cL_law 621 = .ok (.iconst 2, 1) := by decide +kernel
theorem dL_law_622 : decode cL_law 622 = .ok (.iadd, 1) := by decide +kernel
theorem dL_law_623 : decode cL_law 623 = .ok (.iaload, 1) := by decide +kernel
theorem dL_law_624 : decode cL_law 624 = .ok (.aload_n 0, 1) := by decide +kernel
theorem dL_law_625 : decode cL_law 625 = .ok (.iload_n 3, 1) := by decide +kernel
theorem dL_law_626 : decode cL_law 626 = .ok (.iconst 3, 1) := by decide +kernel
theorem dL_law_627 : decode cL_law 627 = .ok (.iadd, 1) := by decide +kernel
theorem dL_law_628 : decode cL_law 628 = .ok (.iaload, 1) := by decide +kernel
theorem dL_law_629 : decode cL_law 629 = .ok (.invokevirtual 85, 3) := by decide +kernel
theorem dL_law_632 : decode cL_law 632 = .ok (.if_icmp .eq 196, 3) := by decide +kernel
theorem dL_law_635 : decode cL_law 635 = .ok (.iconst 0, 1) := by decide +kernel
theorem dL_law_636 : decode cL_law 636 = .ok (.ireturn, 1) := by decide +kernel
theorem dL_law_637 : decode cL_law 637 = .ok (.aload_n 1, 1) := by decide +kernel
theorem dL_law_638 : decode cL_law 638 = .ok (.aload_n 0, 1) := by decide +kernel
theorem dL_law_639 : decode cL_law 639 = .ok (.iload_n 3, 1) := by decide +kernel
theorem dL_law_640 : decode cL_law 640 = .ok (.iconst 1, 1) := by decide +kernel
theorem dL_law_641 : decode cL_law 641 = .ok (.iadd, 1) := by decide +kernel
theorem dL_law_642 : decode cL_law 642 = .ok (.iaload, 1) := by decide +kernel
theorem dL_law_643 : decode cL_law 643 = .ok (.aload_n 0, 1) := by decide +kernel
theorem dL_law_644 : decode cL_law 644 = .ok (.iload_n 3, 1) := by decide +kernel
theorem dL_law_645 : decode cL_law 645 = .ok (.iconst 2, 1) := by decide +kernel
theorem dL_law_646 : decode cL_law 646 = .ok (.iadd, 1) := by decide +kernel
theorem dL_law_647 : decode cL_law 647 = .ok (.iaload, 1) := by decide +kernel
theorem dL_law_648 : decode cL_law 648 = .ok (.invokevirtual 86, 3) := by decide +kernel
theorem dL_law_651 : decode cL_law 651 = .ok (.aload_n 2, 1) := by decide +kernel
theorem dL_law_652 : decode cL_law 652 = .ok (.aload_n 0, 1) := by decide +kernel
theorem dL_law_653 : decode cL_law 653 = .ok (.iload_n 3, 1) := by decide +kernel
theorem dL_law_654 : decode cL_law 654 = .ok (.iconst 1, 1) := by decide +kernel
theorem dL_law_655 : decode cL_law 655 = .ok (.iadd, 1) := by decide +kernel
theorem dL_law_656 : decode cL_law 656 = .ok (.iaload, 1) := by decide +kernel
theorem dL_law_657 : decode cL_law 657 = .ok (.aload_n 0, 1) := by decide +kernel
theorem dL_law_658 : decode cL_law 658 = .ok (.iload_n 3, 1) := by decide +kernel
theorem dL_law_659 : decode cL_law 659 = .ok (.iconst 2, 1) := by decide +kernel
theorem dL_law_660 : decode cL_law 660 = .ok (.iadd, 1) := by decide +kernel
theorem dL_law_661 : decode cL_law 661 = .ok (.iaload, 1) := by decide +kernel
theorem dL_law_662 : decode cL_law 662 = .ok (.invokevirtual 89, 3) := by decide +kernel
theorem dL_law_665 : decode cL_law 665 = .ok (.if_icmp .eq 163, 3) := by decide +kernel
theorem dL_law_668 : decode cL_law 668 = .ok (.iconst 0, 1) := by decide +kernel
theorem dL_law_669 : decode cL_law 669 = .ok (.ireturn, 1) := by decide +kernel
theorem dL_law_670 : decode cL_law 670 = .ok (.aload_n 1, 1) := by decide +kernel
theorem dL_law_671 : decode cL_law 671 = .ok (.aload_n 0, 1) := by decide +kernel
theorem dL_law_672 : decode cL_law 672 = .ok (.iload_n 3, 1) := by decide +kernel
theorem dL_law_673 : decode cL_law 673 = .ok (.iconst 1, 1) := by decide +kernel
theorem dL_law_674 : decode cL_law 674 = .ok (.iadd, 1) := by decide +kernel
theorem dL_law_675 : decode cL_law 675 = .ok (.iaload, 1) := by decide +kernel
theorem dL_law_676 : decode cL_law 676 = .ok (.invokevirtual 90, 3) := by decide +kernel
theorem dL_law_679 : decode cL_law 679 = .ok (.aload_n 2, 1) := by decide +kernel
theorem dL_law_680 : decode cL_law 680 = .ok (.aload_n 0, 1) := by decide +kernel
theorem dL_law_681 : decode cL_law 681 = .ok (.iload_n 3, 1) := by decide +kernel
theorem dL_law_682 : decode cL_law 682 = .ok (.iconst 1, 1) := by decide +kernel
theorem dL_law_683 : decode cL_law 683 = .ok (.iadd, 1) := by decide +kernel
theorem dL_law_684 : decode cL_law 684 = .ok (.iaload, 1) := by decide +kernel
theorem dL_law_685 : decode cL_law 685 = .ok (.invokevirtual 93, 3) := by decide +kernel
theorem dL_law_688 : decode cL_law 688 = .ok (.if_icmp .eq 140, 3) := by decide +kernel
theorem dL_law_691 : decode cL_law 691 = .ok (.iconst 0, 1) := by decide +kernel
theorem dL_law_692 : decode cL_law 692 = .ok (.ireturn, 1) := by decide +kernel
theorem dL_law_693 : decode cL_law 693 = .ok (.aload_n 1, 1) := by decide +kernel
theorem dL_law_694 : decode cL_law 694 = .ok (.aload_n 0, 1) := by decide +kernel
theorem dL_law_695 : decode cL_law 695 = .ok (.iload_n 3, 1) := by decide +kernel
theorem dL_law_696 : decode cL_law 696 = .ok (.iconst 1, 1) := by decide +kernel
theorem dL_law_697 : decode cL_law 697 = .ok (.iadd, 1) := by decide +kernel
theorem dL_law_698 : decode cL_law 698 = .ok (.iaload, 1) := by decide +kernel
theorem dL_law_699 : decode cL_law 699 = .ok (.invokevirtual 94, 3) := by decide +kernel
theorem dL_law_702 : decode cL_law 702 = .ok (.aload_n 2, 1) := by decide +kernel
theorem dL_law_703 : decode cL_law 703 = .ok (.aload_n 0, 1) := by decide +kernel
theorem dL_law_704 : decode cL_law 704 = .ok (.iload_n 3, 1) := by decide +kernel
theorem dL_law_705 : decode cL_law 705 = .ok (.iconst 1, 1) := by decide +kernel
theorem dL_law_706 : decode cL_law 706 = .ok (.iadd, 1) := by decide +kernel
theorem dL_law_707 : decode cL_law 707 = .ok (.iaload, 1) := by decide +kernel
theorem dL_law_708 : decode cL_law 708 = .ok (.invokevirtual 97, 3) := by decide +kernel
theorem dL_law_711 : decode cL_law 711 = .ok (.if_icmp .eq 117, 3) := by decide +kernel
theorem dL_law_714 : decode cL_law 714 = .ok (.iconst 0, 1) := by decide +kernel
theorem dL_law_715 : decode cL_law 715 = .ok (.ireturn, 1) := by decide +kernel
theorem dL_law_716 : decode cL_law 716 = .ok (.aload_n 1, 1) := by decide +kernel
theorem dL_law_717 : decode cL_law 717 = .ok (.invokevirtual 98, 3) := by decide +kernel
theorem dL_law_720 : decode cL_law 720 = .ok (.aload_n 2, 1) := by decide +kernel
theorem dL_law_721 : decode cL_law 721 = .ok (.invokevirtual 101, 3) := by decide +kernel
theorem dL_law_724 : decode cL_law 724 = .ok (.if_icmp .eq 104, 3) := by decide +kernel
theorem dL_law_727 : decode cL_law 727 = .ok (.iconst 0, 1) := by decide +kernel
theorem dL_law_728 : decode cL_law 728 = .ok (.ireturn, 1) := by decide +kernel
theorem dL_law_729 : decode cL_law 729 = .ok (.aload_n 1, 1) := by decide +kernel
theorem dL_law_730 : decode cL_law 730 = .ok (.aload_n 0, 1) := by decide +kernel
theorem dL_law_731 : decode cL_law 731 = .ok (.iload_n 3, 1) := by decide +kernel
theorem dL_law_732 : decode cL_law 732 = .ok (.iconst 1, 1) := by decide +kernel
theorem dL_law_733 : decode cL_law 733 = .ok (.iadd, 1) := by decide +kernel
theorem dL_law_734 : decode cL_law 734 = .ok (.iaload, 1) := by decide +kernel
theorem dL_law_735 : decode cL_law 735 = .ok (.invokevirtual 102, 3) := by decide +kernel
theorem dL_law_738 : decode cL_law 738 = .ok (.aload_n 2, 1) := by decide +kernel
theorem dL_law_739 : decode cL_law 739 = .ok (.aload_n 0, 1) := by decide +kernel
theorem dL_law_740 : decode cL_law 740 = .ok (.iload_n 3, 1) := by decide +kernel
theorem dL_law_741 : decode cL_law 741 = .ok (.iconst 1, 1) := by decide +kernel
theorem dL_law_742 : decode cL_law 742 = .ok (.iadd, 1) := by decide +kernel
theorem dL_law_743 : decode cL_law 743 = .ok (.iaload, 1) := by decide +kernel
theorem dL_law_744 : decode cL_law 744 = .ok (.invokevirtual 105, 3) := by decide +kernel
theorem dL_law_747 : decode cL_law 747 = .ok (.if_icmp .eq 81, 3) := by decide +kernel
theorem dL_law_750 : decode cL_law 750 = .ok (.iconst 0, 1) := by decide +kernel
theorem dL_law_751 : decode cL_law 751 = .ok (.ireturn, 1) := by decide +kernel
theorem dL_law_752 : decode cL_law 752 = .ok (.aload_n 1, 1) := by decide +kernel
theorem dL_law_753 : decode cL_law 753 = .ok (.aload_n 0, 1) := by decide +kernel
theorem dL_law_754 : decode cL_law 754 = .ok (.iload_n 3, 1) := by decide +kernel
theorem dL_law_755 : decode cL_law 755 = .ok (.iconst 1, 1) := by decide +kernel
theorem dL_law_756 : decode cL_law 756 = .ok (.iadd, 1) := by decide +kernel
theorem dL_law_757 : decode cL_law 757 = .ok (.iaload, 1) := by decide +kernel
theorem dL_law_758 : decode cL_law 758 = .ok (.invokevirtual 106, 3) := by decide +kernel
theorem dL_law_761 : decode cL_law 761 = .ok (.aload_n 2, 1) := by decide +kernel
theorem dL_law_762 : decode cL_law 762 = .ok (.aload_n 0, 1) := by decide +kernel
theorem dL_law_763 : decode cL_law 763 = .ok (.iload_n 3, 1) := by decide +kernel
theorem dL_law_764 : decode cL_law 764 = .ok (.iconst 1, 1) := by decide +kernel
theorem dL_law_765 : decode cL_law 765 = .ok (.iadd, 1) := by decide +kernel
theorem dL_law_766 : decode cL_law 766 = .ok (.iaload, 1) := by decide +kernel
theorem dL_law_767 : decode cL_law 767 = .ok (.invokevirtual 109, 3) := by decide +kernel
theorem dL_law_770 : decode cL_law 770 = .ok (.if_icmp .eq 58, 3) := by decide +kernel
theorem dL_law_773 : decode cL_law 773 = .ok (.iconst 0, 1) := by decide +kernel
theorem dL_law_774 : decode cL_law 774 = .ok (.ireturn, 1) := by decide +kernel
theorem dL_law_775 : decode cL_law 775 = .ok (.aload_n 1, 1) := by decide +kernel
theorem dL_law_776 : decode cL_law 776 = .ok (.aload_n 0, 1) := by decide +kernel
theorem dL_law_777 : decode cL_law 777 = .ok (.iload_n 3, 1) := by decide +kernel
theorem dL_law_778 : decode cL_law 778 = .ok (.iconst 1, 1) := by decide +kernel
theorem dL_law_779 : decode cL_law 779 = .ok (.iadd, 1) := by decide +kernel
theorem dL_law_780 : decode cL_law 780 = .ok (.iaload, 1) := by decide +kernel
theorem dL_law_781 : decode cL_law 781 = .ok (.aload_n 0, 1) := by decide +kernel
theorem dL_law_782 : decode cL_law 782 = .ok (.iload_n 3, 1) := by decide +kernel
theorem dL_law_783 : decode cL_law 783 = .ok (.iconst 2, 1) := by decide +kernel
theorem dL_law_784 : decode cL_law 784 = .ok (.iadd, 1) := by decide +kernel
theorem dL_law_785 : decode cL_law 785 = .ok (.iaload, 1) := by decide +kernel
theorem dL_law_786 : decode cL_law 786 = .ok (.aload_n 0, 1) := by decide +kernel
theorem dL_law_787 : decode cL_law 787 = .ok (.iload_n 3, 1) := by decide +kernel
theorem dL_law_788 : decode cL_law 788 = .ok (.iconst 3, 1) := by decide +kernel
theorem dL_law_789 : decode cL_law 789 = .ok (.iadd, 1) := by decide +kernel
theorem dL_law_790 : decode cL_law 790 = .ok (.iaload, 1) := by decide +kernel
theorem dL_law_791 : decode cL_law 791 = .ok (.aload_n 0, 1) := by decide +kernel
theorem dL_law_792 : decode cL_law 792 = .ok (.iload_n 3, 1) := by decide +kernel
theorem dL_law_793 : decode cL_law 793 = .ok (.iconst 4, 1) := by decide +kernel
theorem dL_law_794 : decode cL_law 794 = .ok (.iadd, 1) := by decide +kernel
theorem dL_law_795 : decode cL_law 795 = .ok (.iaload, 1) := by decide +kernel
theorem dL_law_796 : decode cL_law 796 = .ok (.invokevirtual 110, 3) := by decide +kernel
theorem dL_law_799 : decode cL_law 799 = .ok (.aload_n 2, 1) := by decide +kernel
theorem dL_law_800 : decode cL_law 800 = .ok (.aload_n 0, 1) := by decide +kernel
theorem dL_law_801 : decode cL_law 801 = .ok (.iload_n 3, 1) := by decide +kernel
theorem dL_law_802 : decode cL_law 802 = .ok (.iconst 1, 1) := by decide +kernel
theorem dL_law_803 : decode cL_law 803 = .ok (.iadd, 1) := by decide +kernel
theorem dL_law_804 : decode cL_law 804 = .ok (.iaload, 1) := by decide +kernel
theorem dL_law_805 : decode cL_law 805 = .ok (.aload_n 0, 1) := by decide +kernel
theorem dL_law_806 : decode cL_law 806 = .ok (.iload_n 3, 1) := by decide +kernel
theorem dL_law_807 : decode cL_law 807 = .ok (.iconst 2, 1) := by decide +kernel
theorem dL_law_808 : decode cL_law 808 = .ok (.iadd, 1) := by decide +kernel
theorem dL_law_809 : decode cL_law 809 = .ok (.iaload, 1) := by decide +kernel
theorem dL_law_810 : decode cL_law 810 = .ok (.aload_n 0, 1) := by decide +kernel
theorem dL_law_811 : decode cL_law 811 = .ok (.iload_n 3, 1) := by decide +kernel
theorem dL_law_812 : decode cL_law 812 = .ok (.iconst 3, 1) := by decide +kernel
theorem dL_law_813 : decode cL_law 813 = .ok (.iadd, 1) := by decide +kernel
theorem dL_law_814 : decode cL_law 814 = .ok (.iaload, 1) := by decide +kernel
theorem dL_law_815 : decode cL_law 815 = .ok (.aload_n 0, 1) := by decide +kernel
theorem dL_law_816 : decode cL_law 816 = .ok (.iload_n 3, 1) := by decide +kernel
theorem dL_law_817 : decode cL_law 817 = .ok (.iconst 4, 1) := by decide +kernel
theorem dL_law_818 : decode cL_law 818 = .ok (.iadd, 1) := by decide +kernel
theorem dL_law_819 : decode cL_law 819 = .ok (.iaload, 1) := by decide +kernel
theorem dL_law_820 : decode cL_law 820 = .ok (.invokevirtual 114, 3) := by decide +kernel
theorem dL_law_823 : decode cL_law 823 = .ok (.if_icmp .eq 5, 3) := by decide +kernel
theorem dL_law_826 : decode cL_law 826 = .ok (.iconst 0, 1) := by decide +kernel
theorem dL_law_827 : decode cL_law 827 = .ok (.ireturn, 1) := by decide +kernel
theorem dL_law_828 : decode cL_law 828 = .ok (.iinc 3 7, 3) := by decide +kernel
theorem dL_law_831 : decode cL_law 831 = .ok (.goto (-813), 3) := by decide +kernel
theorem dL_law_834 : decode cL_law 834 = .ok (.iconst 1, 1) := by decide +kernel
theorem dL_law_835 : decode cL_law 835 = .ok (.ireturn, 1) := by decide +kernel

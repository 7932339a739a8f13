/-- the classes of arrays that the worlds hold: int[], long[], Menu[], State[], int[][], long[][] -/
abbrev wTy (cy : Nat → ClassId) : List (ClassId × FieldType) := [(cy 0, .int), (cy 1, .long), (cy 2, .object "FoldedMenu$Menu"), (cy 3, .object "FoldedMenu$State"), (cy 4, .array .int), (cy 5, .array .long)]
def wNf : List (String × Nat × String × String × String × String) := [("FoldedMenu$Blocks", 34, "FoldedMenu$Menu", "way", "I", "FoldedMenu"), ("FoldedMenu$SetFinder", 38, "FoldedMenu$Menu", "way", "I", "FoldedMenu"), ("FoldedMenu", 124, "FoldedMenu$Menu", "way", "I", "FoldedMenu"), ("FoldedMenu", 72, "FoldedMenu$State", "menu", "LFoldedMenu$Menu;", "FoldedMenu"), ("FoldedMenu", 227, "FoldedMenu$State", "kept", "I", "FoldedMenu"), ("FoldedMenu", 175, "FoldedMenu$History", "size", "I", "FoldedMenu"), ("FoldedMenu", 180, "FoldedMenu$Reader", "length", "I", "FoldedMenu"), ("FoldedMenu$Fold", 26, "FoldedMenu$Printing", "dishes", "[I", "FoldedMenu"), ("FoldedMenu$Blocks", 43, "FoldedMenu$Printing", "dishes", "[I", "FoldedMenu"), ("FoldedMenu$Fold", 96, "FoldedMenu$Printing", "lines", "[I", "FoldedMenu"), ("FoldedMenu$Fold", 99, "FoldedMenu$Printing", "weights", "[I", "FoldedMenu"), ("FoldedMenu$Blocks", 80, "FoldedMenu$Printing", "set", "I", "FoldedMenu"), ("FoldedMenu", 230, "FoldedMenu$Printing", "set", "I", "FoldedMenu"), ("FoldedMenu", 166, "FoldedMenu$Printing", "number", "I", "FoldedMenu"), ("FoldedMenu", 225, "FoldedMenu$Printing", "prices", "I", "FoldedMenu"), ("FoldedMenu$Fold", 45, "FoldedMenu$Printing", "allergens", "I", "FoldedMenu"), ("FoldedMenu", 205, "FoldedMenu$Printing", "allergens", "I", "FoldedMenu"), ("FoldedMenu$Blocks", 94, "FoldedMenu$Printing", "column", "I", "FoldedMenu"), ("FoldedMenu", 202, "FoldedMenu$Printing", "column", "I", "FoldedMenu"), ("FoldedMenu$Blocks", 60, "FoldedMenu$Fold", "keySide", "I", "FoldedMenu"), ("FoldedMenu", 213, "FoldedMenu$Fold", "keySide", "I", "FoldedMenu"), ("FoldedMenu", 216, "FoldedMenu$Fold", "gap", "I", "FoldedMenu")]
def wNm : List (String × Nat × MethodName × String) := [("FoldedMenu", 9, ⟨"FoldedMenu$State", "<init>", "()V"⟩, "FoldedMenu"), ("FoldedMenu$State", 11, ⟨"FoldedMenu$Menu", "<init>", "()V"⟩, "FoldedMenu"), ("FoldedMenu", 18, ⟨"FoldedMenu$History", "<init>", "()V"⟩, "FoldedMenu"), ("FoldedMenu$History", 11, ⟨"FoldedMenu$State", "<init>", "()V"⟩, "FoldedMenu"), ("FoldedMenu", 25, ⟨"FoldedMenu$Menu", "<init>", "()V"⟩, "FoldedMenu"), ("FoldedMenu", 32, ⟨"FoldedMenu$Reader", "<init>", "()V"⟩, "FoldedMenu"), ("FoldedMenu", 39, ⟨"FoldedMenu$Printing", "<init>", "()V"⟩, "FoldedMenu"), ("FoldedMenu", 46, ⟨"FoldedMenu$Fold", "<init>", "()V"⟩, "FoldedMenu"), ("FoldedMenu", 56, ⟨"FoldedMenu$Blocks", "<init>", "()V"⟩, "FoldedMenu"), ("FoldedMenu", 63, ⟨"FoldedMenu$SetFinder", "<init>", "()V"⟩, "FoldedMenu"), ("FoldedMenu$State", 30, ⟨"FoldedMenu", "has", "(II)Z"⟩, "FoldedMenu"), ("FoldedMenu$State", 34, ⟨"FoldedMenu", "isSlot", "(I)Z"⟩, "FoldedMenu"), ("FoldedMenu$Menu", 54, ⟨"FoldedMenu", "has", "(II)Z"⟩, "FoldedMenu"), ("FoldedMenu$Printing", 64, ⟨"FoldedMenu", "digitsOf", "(I)I"⟩, "FoldedMenu"), ("FoldedMenu$Printing", 74, ⟨"FoldedMenu", "has", "(II)Z"⟩, "FoldedMenu"), ("FoldedMenu$Menu", 75, ⟨"FoldedMenu", "partsOfSize", "(II)I"⟩, "FoldedMenu"), ("FoldedMenu$Reader", 91, ⟨"FoldedMenu", "inRange", "(III)Z"⟩, "FoldedMenu"), ("FoldedMenu$Reader", 102, ⟨"FoldedMenu", "isDishValue", "(II)Z"⟩, "FoldedMenu"), ("FoldedMenu$Reader", 87, ⟨"FoldedMenu", "has", "(II)Z"⟩, "FoldedMenu"), ("FoldedMenu$Menu", 31, ⟨"FoldedMenu", "inRange", "(III)Z"⟩, "FoldedMenu"), ("FoldedMenu$Menu", 39, ⟨"FoldedMenu", "isDishValue", "(II)Z"⟩, "FoldedMenu"), ("FoldedMenu$Fold", 31, ⟨"FoldedMenu", "sideIn", "(II)I"⟩, "FoldedMenu"), ("FoldedMenu$Fold", 100, ⟨"FoldedMenu", "partsOfSize", "(II)I"⟩, "FoldedMenu"), ("FoldedMenu$Blocks", 39, ⟨"FoldedMenu", "sideIn", "(II)I"⟩, "FoldedMenu"), ("FoldedMenu$Blocks", 83, ⟨"FoldedMenu", "has", "(II)Z"⟩, "FoldedMenu"), ("FoldedMenu$Blocks", 68, ⟨"FoldedMenu", "inRange", "(III)Z"⟩, "FoldedMenu"), ("FoldedMenu$Fold", 75, ⟨"FoldedMenu", "isSide", "(I)Z"⟩, "FoldedMenu"), ("FoldedMenu$Menu", 47, ⟨"FoldedMenu", "isCardValue", "(II)Z"⟩, "FoldedMenu"), ("FoldedMenu$SetFinder", 43, ⟨"FoldedMenu", "sideIn", "(II)I"⟩, "FoldedMenu"), ("FoldedMenu$SetFinder", 96, ⟨"FoldedMenu", "digitsOf", "(I)I"⟩, "FoldedMenu")]
/-- the words of the nest mates -/
def wNW (U : State) : Prop := (∀ q ∈ wNf, va_Nw (.fieldLinkNest q.1 q.2.1 q.2.2.1 q.2.2.2.1 q.2.2.2.2.1 q.2.2.2.2.2) U) ∧ (∀ q ∈ wNm, va_Nw (.methodLinkNest q.1 q.2.1 q.2.2.1 q.2.2.2) U)
theorem wNW.warm {s U : State} (hW : s.WarmedH U.vm) (h : wNW s) : wNW U := ⟨fun q hq => va_Nw.warmF hW (h.1 q hq), fun q hq => va_Nw.warmM hW (h.2 q hq)⟩
theorem wNW.same {u U : State} (e : u.vm = U.vm) (h : wNW u) : wNW U := ⟨fun q hq => va_Nw.same rfl e (h.1 q hq), fun q hq => va_Nw.same rfl e (h.2 q hq)⟩
theorem nF_X0_34 {U : State} (h : wNW U) : va_Nw (.fieldLinkNest "FoldedMenu$Blocks" 34 "FoldedMenu$Menu" "way" "I" "FoldedMenu") U := h.1 ("FoldedMenu$Blocks", 34, "FoldedMenu$Menu", "way", "I", "FoldedMenu") (List.mem_of_getElem? (i := 0) rfl)
theorem nF_X6_38 {U : State} (h : wNW U) : va_Nw (.fieldLinkNest "FoldedMenu$SetFinder" 38 "FoldedMenu$Menu" "way" "I" "FoldedMenu") U := h.1 ("FoldedMenu$SetFinder", 38, "FoldedMenu$Menu", "way", "I", "FoldedMenu") (List.mem_of_getElem? (i := 1) rfl)
theorem nF_X8_124 {U : State} (h : wNW U) : va_Nw (.fieldLinkNest "FoldedMenu" 124 "FoldedMenu$Menu" "way" "I" "FoldedMenu") U := h.1 ("FoldedMenu", 124, "FoldedMenu$Menu", "way", "I", "FoldedMenu") (List.mem_of_getElem? (i := 2) rfl)
theorem nF_X8_72 {U : State} (h : wNW U) : va_Nw (.fieldLinkNest "FoldedMenu" 72 "FoldedMenu$State" "menu" "LFoldedMenu$Menu;" "FoldedMenu") U := h.1 ("FoldedMenu", 72, "FoldedMenu$State", "menu", "LFoldedMenu$Menu;", "FoldedMenu") (List.mem_of_getElem? (i := 3) rfl)
theorem nF_X8_227 {U : State} (h : wNW U) : va_Nw (.fieldLinkNest "FoldedMenu" 227 "FoldedMenu$State" "kept" "I" "FoldedMenu") U := h.1 ("FoldedMenu", 227, "FoldedMenu$State", "kept", "I", "FoldedMenu") (List.mem_of_getElem? (i := 4) rfl)
theorem nF_X8_175 {U : State} (h : wNW U) : va_Nw (.fieldLinkNest "FoldedMenu" 175 "FoldedMenu$History" "size" "I" "FoldedMenu") U := h.1 ("FoldedMenu", 175, "FoldedMenu$History", "size", "I", "FoldedMenu") (List.mem_of_getElem? (i := 5) rfl)
theorem nF_X8_180 {U : State} (h : wNW U) : va_Nw (.fieldLinkNest "FoldedMenu" 180 "FoldedMenu$Reader" "length" "I" "FoldedMenu") U := h.1 ("FoldedMenu", 180, "FoldedMenu$Reader", "length", "I", "FoldedMenu") (List.mem_of_getElem? (i := 6) rfl)
theorem nF_X1_26 {U : State} (h : wNW U) : va_Nw (.fieldLinkNest "FoldedMenu$Fold" 26 "FoldedMenu$Printing" "dishes" "[I" "FoldedMenu") U := h.1 ("FoldedMenu$Fold", 26, "FoldedMenu$Printing", "dishes", "[I", "FoldedMenu") (List.mem_of_getElem? (i := 7) rfl)
theorem nF_X0_43 {U : State} (h : wNW U) : va_Nw (.fieldLinkNest "FoldedMenu$Blocks" 43 "FoldedMenu$Printing" "dishes" "[I" "FoldedMenu") U := h.1 ("FoldedMenu$Blocks", 43, "FoldedMenu$Printing", "dishes", "[I", "FoldedMenu") (List.mem_of_getElem? (i := 8) rfl)
theorem nF_X1_96 {U : State} (h : wNW U) : va_Nw (.fieldLinkNest "FoldedMenu$Fold" 96 "FoldedMenu$Printing" "lines" "[I" "FoldedMenu") U := h.1 ("FoldedMenu$Fold", 96, "FoldedMenu$Printing", "lines", "[I", "FoldedMenu") (List.mem_of_getElem? (i := 9) rfl)
theorem nF_X1_99 {U : State} (h : wNW U) : va_Nw (.fieldLinkNest "FoldedMenu$Fold" 99 "FoldedMenu$Printing" "weights" "[I" "FoldedMenu") U := h.1 ("FoldedMenu$Fold", 99, "FoldedMenu$Printing", "weights", "[I", "FoldedMenu") (List.mem_of_getElem? (i := 10) rfl)
theorem nF_X0_80 {U : State} (h : wNW U) : va_Nw (.fieldLinkNest "FoldedMenu$Blocks" 80 "FoldedMenu$Printing" "set" "I" "FoldedMenu") U := h.1 ("FoldedMenu$Blocks", 80, "FoldedMenu$Printing", "set", "I", "FoldedMenu") (List.mem_of_getElem? (i := 11) rfl)
theorem nF_X8_230 {U : State} (h : wNW U) : va_Nw (.fieldLinkNest "FoldedMenu" 230 "FoldedMenu$Printing" "set" "I" "FoldedMenu") U := h.1 ("FoldedMenu", 230, "FoldedMenu$Printing", "set", "I", "FoldedMenu") (List.mem_of_getElem? (i := 12) rfl)
theorem nF_X8_166 {U : State} (h : wNW U) : va_Nw (.fieldLinkNest "FoldedMenu" 166 "FoldedMenu$Printing" "number" "I" "FoldedMenu") U := h.1 ("FoldedMenu", 166, "FoldedMenu$Printing", "number", "I", "FoldedMenu") (List.mem_of_getElem? (i := 13) rfl)
theorem nF_X8_225 {U : State} (h : wNW U) : va_Nw (.fieldLinkNest "FoldedMenu" 225 "FoldedMenu$Printing" "prices" "I" "FoldedMenu") U := h.1 ("FoldedMenu", 225, "FoldedMenu$Printing", "prices", "I", "FoldedMenu") (List.mem_of_getElem? (i := 14) rfl)
theorem nF_X1_45 {U : State} (h : wNW U) : va_Nw (.fieldLinkNest "FoldedMenu$Fold" 45 "FoldedMenu$Printing" "allergens" "I" "FoldedMenu") U := h.1 ("FoldedMenu$Fold", 45, "FoldedMenu$Printing", "allergens", "I", "FoldedMenu") (List.mem_of_getElem? (i := 15) rfl)
theorem nF_X8_205 {U : State} (h : wNW U) : va_Nw (.fieldLinkNest "FoldedMenu" 205 "FoldedMenu$Printing" "allergens" "I" "FoldedMenu") U := h.1 ("FoldedMenu", 205, "FoldedMenu$Printing", "allergens", "I", "FoldedMenu") (List.mem_of_getElem? (i := 16) rfl)
theorem nF_X0_94 {U : State} (h : wNW U) : va_Nw (.fieldLinkNest "FoldedMenu$Blocks" 94 "FoldedMenu$Printing" "column" "I" "FoldedMenu") U := h.1 ("FoldedMenu$Blocks", 94, "FoldedMenu$Printing", "column", "I", "FoldedMenu") (List.mem_of_getElem? (i := 17) rfl)
theorem nF_X8_202 {U : State} (h : wNW U) : va_Nw (.fieldLinkNest "FoldedMenu" 202 "FoldedMenu$Printing" "column" "I" "FoldedMenu") U := h.1 ("FoldedMenu", 202, "FoldedMenu$Printing", "column", "I", "FoldedMenu") (List.mem_of_getElem? (i := 18) rfl)
theorem nF_X0_60 {U : State} (h : wNW U) : va_Nw (.fieldLinkNest "FoldedMenu$Blocks" 60 "FoldedMenu$Fold" "keySide" "I" "FoldedMenu") U := h.1 ("FoldedMenu$Blocks", 60, "FoldedMenu$Fold", "keySide", "I", "FoldedMenu") (List.mem_of_getElem? (i := 19) rfl)
theorem nF_X8_213 {U : State} (h : wNW U) : va_Nw (.fieldLinkNest "FoldedMenu" 213 "FoldedMenu$Fold" "keySide" "I" "FoldedMenu") U := h.1 ("FoldedMenu", 213, "FoldedMenu$Fold", "keySide", "I", "FoldedMenu") (List.mem_of_getElem? (i := 20) rfl)
theorem nF_X8_216 {U : State} (h : wNW U) : va_Nw (.fieldLinkNest "FoldedMenu" 216 "FoldedMenu$Fold" "gap" "I" "FoldedMenu") U := h.1 ("FoldedMenu", 216, "FoldedMenu$Fold", "gap", "I", "FoldedMenu") (List.mem_of_getElem? (i := 21) rfl)
theorem nM_X8_9 {U : State} (h : wNW U) : va_Nw (.methodLinkNest "FoldedMenu" 9 ⟨"FoldedMenu$State", "<init>", "()V"⟩ "FoldedMenu") U := h.2 ("FoldedMenu", 9, ⟨"FoldedMenu$State", "<init>", "()V"⟩, "FoldedMenu") (List.mem_of_getElem? (i := 0) rfl)
theorem nM_X7_11 {U : State} (h : wNW U) : va_Nw (.methodLinkNest "FoldedMenu$State" 11 ⟨"FoldedMenu$Menu", "<init>", "()V"⟩ "FoldedMenu") U := h.2 ("FoldedMenu$State", 11, ⟨"FoldedMenu$Menu", "<init>", "()V"⟩, "FoldedMenu") (List.mem_of_getElem? (i := 1) rfl)
theorem nM_X8_18 {U : State} (h : wNW U) : va_Nw (.methodLinkNest "FoldedMenu" 18 ⟨"FoldedMenu$History", "<init>", "()V"⟩ "FoldedMenu") U := h.2 ("FoldedMenu", 18, ⟨"FoldedMenu$History", "<init>", "()V"⟩, "FoldedMenu") (List.mem_of_getElem? (i := 2) rfl)
theorem nM_X2_11 {U : State} (h : wNW U) : va_Nw (.methodLinkNest "FoldedMenu$History" 11 ⟨"FoldedMenu$State", "<init>", "()V"⟩ "FoldedMenu") U := h.2 ("FoldedMenu$History", 11, ⟨"FoldedMenu$State", "<init>", "()V"⟩, "FoldedMenu") (List.mem_of_getElem? (i := 3) rfl)
theorem nM_X8_25 {U : State} (h : wNW U) : va_Nw (.methodLinkNest "FoldedMenu" 25 ⟨"FoldedMenu$Menu", "<init>", "()V"⟩ "FoldedMenu") U := h.2 ("FoldedMenu", 25, ⟨"FoldedMenu$Menu", "<init>", "()V"⟩, "FoldedMenu") (List.mem_of_getElem? (i := 4) rfl)
theorem nM_X8_32 {U : State} (h : wNW U) : va_Nw (.methodLinkNest "FoldedMenu" 32 ⟨"FoldedMenu$Reader", "<init>", "()V"⟩ "FoldedMenu") U := h.2 ("FoldedMenu", 32, ⟨"FoldedMenu$Reader", "<init>", "()V"⟩, "FoldedMenu") (List.mem_of_getElem? (i := 5) rfl)
theorem nM_X8_39 {U : State} (h : wNW U) : va_Nw (.methodLinkNest "FoldedMenu" 39 ⟨"FoldedMenu$Printing", "<init>", "()V"⟩ "FoldedMenu") U := h.2 ("FoldedMenu", 39, ⟨"FoldedMenu$Printing", "<init>", "()V"⟩, "FoldedMenu") (List.mem_of_getElem? (i := 6) rfl)
theorem nM_X8_46 {U : State} (h : wNW U) : va_Nw (.methodLinkNest "FoldedMenu" 46 ⟨"FoldedMenu$Fold", "<init>", "()V"⟩ "FoldedMenu") U := h.2 ("FoldedMenu", 46, ⟨"FoldedMenu$Fold", "<init>", "()V"⟩, "FoldedMenu") (List.mem_of_getElem? (i := 7) rfl)
theorem nM_X8_56 {U : State} (h : wNW U) : va_Nw (.methodLinkNest "FoldedMenu" 56 ⟨"FoldedMenu$Blocks", "<init>", "()V"⟩ "FoldedMenu") U := h.2 ("FoldedMenu", 56, ⟨"FoldedMenu$Blocks", "<init>", "()V"⟩, "FoldedMenu") (List.mem_of_getElem? (i := 8) rfl)
theorem nM_X8_63 {U : State} (h : wNW U) : va_Nw (.methodLinkNest "FoldedMenu" 63 ⟨"FoldedMenu$SetFinder", "<init>", "()V"⟩ "FoldedMenu") U := h.2 ("FoldedMenu", 63, ⟨"FoldedMenu$SetFinder", "<init>", "()V"⟩, "FoldedMenu") (List.mem_of_getElem? (i := 9) rfl)
theorem nM_X7_30 {U : State} (h : wNW U) : va_Nw (.methodLinkNest "FoldedMenu$State" 30 ⟨"FoldedMenu", "has", "(II)Z"⟩ "FoldedMenu") U := h.2 ("FoldedMenu$State", 30, ⟨"FoldedMenu", "has", "(II)Z"⟩, "FoldedMenu") (List.mem_of_getElem? (i := 10) rfl)
theorem nM_X7_34 {U : State} (h : wNW U) : va_Nw (.methodLinkNest "FoldedMenu$State" 34 ⟨"FoldedMenu", "isSlot", "(I)Z"⟩ "FoldedMenu") U := h.2 ("FoldedMenu$State", 34, ⟨"FoldedMenu", "isSlot", "(I)Z"⟩, "FoldedMenu") (List.mem_of_getElem? (i := 11) rfl)
theorem nM_X3_54 {U : State} (h : wNW U) : va_Nw (.methodLinkNest "FoldedMenu$Menu" 54 ⟨"FoldedMenu", "has", "(II)Z"⟩ "FoldedMenu") U := h.2 ("FoldedMenu$Menu", 54, ⟨"FoldedMenu", "has", "(II)Z"⟩, "FoldedMenu") (List.mem_of_getElem? (i := 12) rfl)
theorem nM_X4_64 {U : State} (h : wNW U) : va_Nw (.methodLinkNest "FoldedMenu$Printing" 64 ⟨"FoldedMenu", "digitsOf", "(I)I"⟩ "FoldedMenu") U := h.2 ("FoldedMenu$Printing", 64, ⟨"FoldedMenu", "digitsOf", "(I)I"⟩, "FoldedMenu") (List.mem_of_getElem? (i := 13) rfl)
theorem nM_X4_74 {U : State} (h : wNW U) : va_Nw (.methodLinkNest "FoldedMenu$Printing" 74 ⟨"FoldedMenu", "has", "(II)Z"⟩ "FoldedMenu") U := h.2 ("FoldedMenu$Printing", 74, ⟨"FoldedMenu", "has", "(II)Z"⟩, "FoldedMenu") (List.mem_of_getElem? (i := 14) rfl)
theorem nM_X3_75 {U : State} (h : wNW U) : va_Nw (.methodLinkNest "FoldedMenu$Menu" 75 ⟨"FoldedMenu", "partsOfSize", "(II)I"⟩ "FoldedMenu") U := h.2 ("FoldedMenu$Menu", 75, ⟨"FoldedMenu", "partsOfSize", "(II)I"⟩, "FoldedMenu") (List.mem_of_getElem? (i := 15) rfl)
theorem nM_X5_91 {U : State} (h : wNW U) : va_Nw (.methodLinkNest "FoldedMenu$Reader" 91 ⟨"FoldedMenu", "inRange", "(III)Z"⟩ "FoldedMenu") U := h.2 ("FoldedMenu$Reader", 91, ⟨"FoldedMenu", "inRange", "(III)Z"⟩, "FoldedMenu") (List.mem_of_getElem? (i := 16) rfl)
theorem nM_X5_102 {U : State} (h : wNW U) : va_Nw (.methodLinkNest "FoldedMenu$Reader" 102 ⟨"FoldedMenu", "isDishValue", "(II)Z"⟩ "FoldedMenu") U := h.2 ("FoldedMenu$Reader", 102, ⟨"FoldedMenu", "isDishValue", "(II)Z"⟩, "FoldedMenu") (List.mem_of_getElem? (i := 17) rfl)
theorem nM_X5_87 {U : State} (h : wNW U) : va_Nw (.methodLinkNest "FoldedMenu$Reader" 87 ⟨"FoldedMenu", "has", "(II)Z"⟩ "FoldedMenu") U := h.2 ("FoldedMenu$Reader", 87, ⟨"FoldedMenu", "has", "(II)Z"⟩, "FoldedMenu") (List.mem_of_getElem? (i := 18) rfl)
theorem nM_X3_31 {U : State} (h : wNW U) : va_Nw (.methodLinkNest "FoldedMenu$Menu" 31 ⟨"FoldedMenu", "inRange", "(III)Z"⟩ "FoldedMenu") U := h.2 ("FoldedMenu$Menu", 31, ⟨"FoldedMenu", "inRange", "(III)Z"⟩, "FoldedMenu") (List.mem_of_getElem? (i := 19) rfl)
theorem nM_X3_39 {U : State} (h : wNW U) : va_Nw (.methodLinkNest "FoldedMenu$Menu" 39 ⟨"FoldedMenu", "isDishValue", "(II)Z"⟩ "FoldedMenu") U := h.2 ("FoldedMenu$Menu", 39, ⟨"FoldedMenu", "isDishValue", "(II)Z"⟩, "FoldedMenu") (List.mem_of_getElem? (i := 20) rfl)
theorem nM_X1_31 {U : State} (h : wNW U) : va_Nw (.methodLinkNest "FoldedMenu$Fold" 31 ⟨"FoldedMenu", "sideIn", "(II)I"⟩ "FoldedMenu") U := h.2 ("FoldedMenu$Fold", 31, ⟨"FoldedMenu", "sideIn", "(II)I"⟩, "FoldedMenu") (List.mem_of_getElem? (i := 21) rfl)
theorem nM_X1_100 {U : State} (h : wNW U) : va_Nw (.methodLinkNest "FoldedMenu$Fold" 100 ⟨"FoldedMenu", "partsOfSize", "(II)I"⟩ "FoldedMenu") U := h.2 ("FoldedMenu$Fold", 100, ⟨"FoldedMenu", "partsOfSize", "(II)I"⟩, "FoldedMenu") (List.mem_of_getElem? (i := 22) rfl)
theorem nM_X0_39 {U : State} (h : wNW U) : va_Nw (.methodLinkNest "FoldedMenu$Blocks" 39 ⟨"FoldedMenu", "sideIn", "(II)I"⟩ "FoldedMenu") U := h.2 ("FoldedMenu$Blocks", 39, ⟨"FoldedMenu", "sideIn", "(II)I"⟩, "FoldedMenu") (List.mem_of_getElem? (i := 23) rfl)
theorem nM_X0_83 {U : State} (h : wNW U) : va_Nw (.methodLinkNest "FoldedMenu$Blocks" 83 ⟨"FoldedMenu", "has", "(II)Z"⟩ "FoldedMenu") U := h.2 ("FoldedMenu$Blocks", 83, ⟨"FoldedMenu", "has", "(II)Z"⟩, "FoldedMenu") (List.mem_of_getElem? (i := 24) rfl)
theorem nM_X0_68 {U : State} (h : wNW U) : va_Nw (.methodLinkNest "FoldedMenu$Blocks" 68 ⟨"FoldedMenu", "inRange", "(III)Z"⟩ "FoldedMenu") U := h.2 ("FoldedMenu$Blocks", 68, ⟨"FoldedMenu", "inRange", "(III)Z"⟩, "FoldedMenu") (List.mem_of_getElem? (i := 25) rfl)
theorem nM_X1_75 {U : State} (h : wNW U) : va_Nw (.methodLinkNest "FoldedMenu$Fold" 75 ⟨"FoldedMenu", "isSide", "(I)Z"⟩ "FoldedMenu") U := h.2 ("FoldedMenu$Fold", 75, ⟨"FoldedMenu", "isSide", "(I)Z"⟩, "FoldedMenu") (List.mem_of_getElem? (i := 26) rfl)
theorem nM_X3_47 {U : State} (h : wNW U) : va_Nw (.methodLinkNest "FoldedMenu$Menu" 47 ⟨"FoldedMenu", "isCardValue", "(II)Z"⟩ "FoldedMenu") U := h.2 ("FoldedMenu$Menu", 47, ⟨"FoldedMenu", "isCardValue", "(II)Z"⟩, "FoldedMenu") (List.mem_of_getElem? (i := 27) rfl)
theorem nM_X6_43 {U : State} (h : wNW U) : va_Nw (.methodLinkNest "FoldedMenu$SetFinder" 43 ⟨"FoldedMenu", "sideIn", "(II)I"⟩ "FoldedMenu") U := h.2 ("FoldedMenu$SetFinder", 43, ⟨"FoldedMenu", "sideIn", "(II)I"⟩, "FoldedMenu") (List.mem_of_getElem? (i := 28) rfl)
theorem nM_X6_96 {U : State} (h : wNW U) : va_Nw (.methodLinkNest "FoldedMenu$SetFinder" 96 ⟨"FoldedMenu", "digitsOf", "(I)I"⟩ "FoldedMenu") U := h.2 ("FoldedMenu$SetFinder", 96, ⟨"FoldedMenu", "digitsOf", "(I)I"⟩, "FoldedMenu") (List.mem_of_getElem? (i := 29) rfl)
/-- one static table: the field's cell and the array, neither of them in A -/
def wTab (n : String) (N : Nat) (f : Nat → Int32) (A : Nat → Prop) (U : State) (H : Heap) : Prop := ∃ t : Nat, va_Z "FoldedMenu" n "[I" (.ref t) A U H ∧ va_T .int t N (fun j => .int (f j)) A U H
theorem wTab.pass {n : String} {N : Nat} {f : Nat → Int32} {A B : Nat → Prop} {u U : State} {H H1 : Heap} (h : wTab n N f A u H) (hvm : u.vm.Alike U.vm) (hk : ∀ a : Nat, a < H.size → ¬ A a → H1[a]? = H[a]?) (hAB : ∀ q, B q → A q) : wTab n N f B U H1 := by
  obtain ⟨t, h1, h2⟩ := h
  exact ⟨t, ((h1.kept hk).narrow hAB).moved hvm, ((h2.kept hk).narrow hAB).moved hvm⟩
/-- what String's methods need of the start: the strings, where they are, and that they are compact -/
def wSE (sk sv : Nat → Nat) (A : Nat → Prop) (U : State) (H : Heap) : Prop := va_Z "java/lang/String" "COMPACT_STRINGS" "Z" (.int 1) A U H ∧ vk_S 2 [4, 8] sBytes sk sv A U H ∧ vk_R "FoldedMenu$Reader" 73 "psaw" (sk 0) U ∧ vk_R "FoldedMenu$Reader" 79 "abcdefgh" (sk 1) U
theorem wSE.pass {sk sv : Nat → Nat} {A B : Nat → Prop} {s U : State} {H0 H : Heap} {locs : List Loc} (h : wSE sk sv A s H0) (hS : va_S A H0 H locs) (hW : s.WarmedH U.vm) (hAB : ∀ q, B q → A q) : wSE sk sv B U H :=
  ⟨((h.1.kept hS.2.1).narrow hAB).moved hW.alike, ((h.2.1.kept hS.2.1).narrow hAB).moved hW.alike, h.2.2.1.warm hW, h.2.2.2.warm hW⟩
theorem wSE.same {sk sv : Nat → Nat} {A : Nat → Prop} {u U : State} {H : Heap} (h : wSE sk sv A u H) (e : u.vm = U.vm) : wSE sk sv A U H := by
  have hv : u.vm.Alike U.vm := by rw [e]; exact Vm.Alike.refl _
  exact ⟨h.1.moved hv, h.2.1.moved hv, h.2.2.1.same e.symm, h.2.2.2.same e.symm⟩
/-- what the class's methods need of the start, beside their worlds: nest mates' words, four tables, two texts -/
def wEnv (A : Nat → Prop) (U : State) (H : Heap) : Prop := wNW U ∧ wTab "DISH_LOW" 7 tDL A U H ∧ wTab "DISH_HIGH" 7 tDH A U H ∧ wTab "CARD_LOW" 6 tCL A U H ∧ wTab "CARD_HIGH" 6 tCH A U H ∧ ∃ sk sv : Nat → Nat, wSE sk sv A U H
theorem wEnv.pass {A B : Nat → Prop} {s U : State} {H0 H : Heap} {locs : List Loc} (h : wEnv A s H0) (hS : va_S A H0 H locs) (hW : s.WarmedH U.vm) (hAB : ∀ q, B q → A q) : wEnv B U H :=
  ⟨h.1.warm hW, h.2.1.pass hW.alike hS.2.1 hAB, h.2.2.1.pass hW.alike hS.2.1 hAB, h.2.2.2.1.pass hW.alike hS.2.1 hAB, h.2.2.2.2.1.pass hW.alike hS.2.1 hAB, h.2.2.2.2.2.elim fun sk h => h.elim fun sv h => ⟨sk, sv, h.pass hS hW hAB⟩⟩
theorem wEnv.same {A : Nat → Prop} {u U : State} {H : Heap} (h : wEnv A u H) (e : u.vm = U.vm) : wEnv A U H := by
  have hv : u.vm.Alike U.vm := by rw [e]; exact Vm.Alike.refl _
  exact ⟨h.1.same e, h.2.1.pass hv (fun _ _ _ => rfl) (fun _ z => z), h.2.2.1.pass hv (fun _ _ _ => rfl) (fun _ z => z), h.2.2.2.1.pass hv (fun _ _ _ => rfl) (fun _ z => z), h.2.2.2.2.1.pass hv (fun _ _ _ => rfl) (fun _ z => z), h.2.2.2.2.2.elim fun sk h => h.elim fun sv h => ⟨sk, sv, h.same e⟩⟩
/-- a reading method's start: its heap is H0, where its world lies -/
def wPR (av : List Value) (H0 : Heap) (D : va_G) (cy : Nat → ClassId) (ws : va_W) : Array Value → State → Prop := fun v U => v = av.toArray ∧ U.heap = H0 ∧ wEnv (fun _ => False) U H0 ∧ va_P D vwCl ws H0 ∧ va_K D vwCl (wTy cy) U
/-- the same without the class's own words (for static methods of numbers alone, and for the reference) -/
def wPN (av : List Value) (H0 : Heap) (D : va_G) (cy : Nat → ClassId) (ws : va_W) : Array Value → State → Prop := fun v U => v = av.toArray ∧ U.heap = H0 ∧ va_P D vwCl ws H0 ∧ va_K D vwCl (wTy cy) U
theorem wPR.blind {av : List Value} {H0 : Heap} {D : va_G} {cy : Nat → ClassId} {ws : va_W} : FrameBlind (wPR av H0 D cy ws) := fun _ U g mk q => ⟨q.1, q.2.1, q.2.2.1.same rfl, q.2.2.2.1, va_K.moved (u := U) (U := U.calling g mk _) (Vm.Alike.refl U.vm) q.2.2.2.2⟩
theorem wPN.blind {av : List Value} {H0 : Heap} {D : va_G} {cy : Nat → ClassId} {ws : va_W} : FrameBlind (wPN av H0 D cy ws) := fun _ U g mk q => ⟨q.1, q.2.1, q.2.2.1, va_K.moved (u := U) (U := U.calling g mk _) (Vm.Alike.refl U.vm) q.2.2.2⟩
/-- a start of String's own methods -/
def wPS (av : List Value) (H0 : Heap) (sk sv : Nat → Nat) : Array Value → State → Prop := fun v U => v = av.toArray ∧ U.heap = H0 ∧ wSE sk sv (fun _ => False) U H0
theorem wPS.blind {av : List Value} {H0 : Heap} {sk sv : Nat → Nat} : FrameBlind (wPS av H0 sk sv) := fun _ _ _ _ q => ⟨q.1, q.2.1, q.2.2.same rfl⟩
/-- no cell is free to change -/
abbrev wNo : Nat → Prop := fun _ => False
/-- a reading method's end: the heap is the same -/
abbrev wQR (Q : Int32 → Prop) (H0 : Heap) : Array Value → State → Outcome → State → Prop := va_Qi (fun r (_ : Unit) => Q r) (fun _ t => t.heap = H0) wNo
abbrev wQZ (Q : Int32 → Prop) (H0 : Heap) : Array Value → State → Outcome → State → Prop := va_Qi (fun r (_ : Unit) => (r = 0 ∨ r = 1) ∧ Q r) (fun _ t => t.heap = H0) wNo
abbrev wQL (Q : Int64 → Prop) (H0 : Heap) : Array Value → State → Outcome → State → Prop := va_Ql (fun r (_ : Unit) => Q r) (fun _ t => t.heap = H0) wNo
/-- a writing method's start -/
def wPM (av : List Value) (sz : Nat) (D : va_G) (cy : Nat → ClassId) (ws : va_W) : Array Value → State → Prop := fun v U => v = av.toArray ∧ U.heap.size = sz ∧ wEnv (va_A ws sz) U U.heap ∧ va_P D vwCl ws U.heap ∧ va_K D vwCl (wTy cy) U ∧ va_D (fun _ => True) ws
def wPO (av : List Value) (sz : Nat) (D : va_G) (cy : Nat → ClassId) (ws : va_W) : Array Value → State → Prop := fun v U => v = av.toArray ∧ U.heap.size = sz ∧ va_P D vwCl ws U.heap ∧ va_K D vwCl (wTy cy) U ∧ va_D (fun _ => True) ws
/-- a writing method's start that has a text in its hands -/
def wPT (av : List Value) (sz : Nat) (sk sv : Nat → Nat) (D : va_G) (cy : Nat → ClassId) (ws : va_W) : Array Value → State → Prop := fun v U => wPM av sz D cy ws v U ∧ wSE sk sv (va_A ws sz) U U.heap
theorem wPM.blind {av : List Value} {sz : Nat} {D : va_G} {cy : Nat → ClassId} {ws : va_W} : FrameBlind (wPM av sz D cy ws) := fun _ U g mk q => ⟨q.1, q.2.1, q.2.2.1.same rfl, q.2.2.2.1, va_K.moved (u := U) (U := U.calling g mk _) (Vm.Alike.refl U.vm) q.2.2.2.2.1, q.2.2.2.2.2⟩
theorem wPT.blind {av : List Value} {sz : Nat} {sk sv : Nat → Nat} {D : va_G} {cy : Nat → ClassId} {ws : va_W} : FrameBlind (wPT av sz sk sv D cy ws) := fun a U g mk q => ⟨wPM.blind a U g mk q.1, q.2.same rfl⟩
theorem wPO.blind {av : List Value} {sz : Nat} {D : va_G} {cy : Nat → ClassId} {ws : va_W} : FrameBlind (wPO av sz D cy ws) := fun _ U g mk q => ⟨q.1, q.2.1, q.2.2.1, va_K.moved (u := U) (U := U.calling g mk _) (Vm.Alike.refl U.vm) q.2.2.2.1, q.2.2.2.2⟩
/-- a writing method's end: u is the world that it leaves -/
abbrev wQM (post : Int32 → va_W → Prop) (sz : Nat) (D : va_G) (ws : va_W) : Array Value → State → Outcome → State → Prop := va_Qi post (fun u t => va_P D vwCl u t.heap ∧ va_D (va_A ws sz) u) (va_A ws sz)
abbrev wQV (post : va_W → Prop) (sz : Nat) (D : va_G) (ws : va_W) : Array Value → State → Outcome → State → Prop := va_Qv post (fun u t => va_P D vwCl u t.heap ∧ va_D (va_A ws sz) u) (va_A ws sz)
abbrev wQJ (post : Int64 → va_W → Prop) (sz : Nat) (D : va_G) (ws : va_W) : Array Value → State → Outcome → State → Prop := va_Ql post (fun u t => va_P D vwCl u t.heap ∧ va_D (va_A ws sz) u) (va_A ws sz)
section WCALLS
variable {p : Program} {l : Launch} {e : Env} {R : Room} {s : State} {m : MethodId} {args : Array Value} {below : List Frame} {meth : Method} {c : Code} {H : Heap} {locs : List Loc} {cells slots : Nat} {Q : State → Prop}
variable {pc : Nat} {ls : Array Slot} {rest st0 : List Value} {a : Array Value} {A0 : Nat → Prop} {H0 : Heap} {D : va_G} {cy : Nat → ClassId}
/-- a reading call -/
theorem w_callR {Qp : Int32 → Prop} (hr : va_Run p l e R s m args below meth c H locs cells slots 0 0 (F0 m pc ls st0) rest (wQR Qp H a) wNo) (hS : va_S A0 H0 H locs)
    (kk : ∀ (r : Int32) (locs1 : List Loc), Qp r → va_S A0 H0 H locs1 → W p l e R s m args below meth c H locs1 cells slots Q (F0 m (pc + 3) ls (.int r :: rest))) : W p l e R s m args below meth c H locs cells slots Q (F0 m pc ls st0) :=
  va_calli hr hS (fun _ _ z => z.elim) (fun _ z => z.elim) (fun r _ t H1 locs1 ht _ hp hB _ _ hS1 => by
    obtain rfl : H1 = H := ht.symm.trans hB
    exact kk r locs1 hp hS1)
theorem w_callZ {Qp : Int32 → Prop} (hr : va_Run p l e R s m args below meth c H locs cells slots 0 0 (F0 m pc ls st0) rest (wQZ Qp H a) wNo) (hS : va_S A0 H0 H locs)
    (kk : ∀ (r : Int32) (locs1 : List Loc), (r = 0 ∨ r = 1) → Qp r → va_S A0 H0 H locs1 → W p l e R s m args below meth c H locs1 cells slots Q (F0 m (pc + 3) ls (.int r :: rest))) : W p l e R s m args below meth c H locs cells slots Q (F0 m pc ls st0) :=
  va_calli hr hS (fun _ _ z => z.elim) (fun _ z => z.elim) (fun r _ t H1 locs1 ht _ hp hB _ _ hS1 => by
    obtain rfl : H1 = H := ht.symm.trans hB
    exact kk r locs1 hp.1 hp.2 hS1)
theorem w_callL {Qp : Int64 → Prop} (hr : va_Run p l e R s m args below meth c H locs cells slots 0 0 (F0 m pc ls st0) rest (wQL Qp H a) wNo) (hS : va_S A0 H0 H locs)
    (kk : ∀ (r : Int64) (locs1 : List Loc), Qp r → va_S A0 H0 H locs1 → W p l e R s m args below meth c H locs1 cells slots Q (F0 m (pc + 3) ls (.long r :: rest))) : W p l e R s m args below meth c H locs cells slots Q (F0 m pc ls st0) :=
  va_calll hr hS (fun _ _ z => z.elim) (fun _ z => z.elim) (fun r _ t H1 locs1 ht _ hp hB _ _ hS1 => by
    obtain rfl : H1 = H := ht.symm.trans hB
    exact kk r locs1 hp hS1)
variable {ws wc wr : va_W}
/-- a writing call: wc is the callee's world before it (at the places isC), wr the rest, which stays -/
theorem w_callM {post : Int32 → va_W → Prop} (hP : va_P D vwCl ws H) (hD : va_D A0 ws) (hS : va_S A0 H0 H locs) (hA : ∀ q, H0.size ≤ q → A0 q) (isC isR : List Nat) (hC : isC.map (fun i => ws[i]?) = wc.map some) (hR : isR.map (fun i => ws[i]?) = wr.map some) (hn : va_nd isR = true) (hdis : ∀ i ∈ isR, i ∉ isC)
    (hr : va_Run p l e R s m args below meth c H locs cells slots 0 0 (F0 m pc ls st0) rest (wQM post H.size D wc a) (va_A wc H.size))
    (kk : ∀ (r : Int32) (u : va_W) (H1 : Heap) (locs1 : List Loc), post r u → va_P D vwCl (wr ++ u) H1 → va_D A0 (wr ++ u) → va_S A0 H0 H1 locs1 → W p l e R s m args below meth c H1 locs1 cells slots Q (F0 m (pc + 3) ls (.int r :: rest))) : W p l e R s m args below meth c H locs cells slots Q (F0 m pc ls st0) := by
  have hF := va_free (wc := wc) hD hS hA isC hC
  refine va_calli hr hS (fun q _ z => hF q z) hF (fun r u t H1 locs1 ht _ hp hB _ hk hS1 => ?_)
  obtain ⟨hP1, hD1⟩ := hB
  rw [ht] at hP1
  obtain ⟨hP2, hD2⟩ := va_join (wr := wr) (w1 := u) hP hD isC isR hC hR hn hdis hk hF hP1 hD1
  exact kk r u H1 locs1 hp hP2 hD2 hS1
theorem w_callV {post : va_W → Prop} (hP : va_P D vwCl ws H) (hD : va_D A0 ws) (hS : va_S A0 H0 H locs) (hA : ∀ q, H0.size ≤ q → A0 q) (isC isR : List Nat) (hC : isC.map (fun i => ws[i]?) = wc.map some) (hR : isR.map (fun i => ws[i]?) = wr.map some) (hn : va_nd isR = true) (hdis : ∀ i ∈ isR, i ∉ isC)
    (hr : va_Run p l e R s m args below meth c H locs cells slots 0 0 (F0 m pc ls st0) rest (wQV post H.size D wc a) (va_A wc H.size))
    (kk : ∀ (u : va_W) (H1 : Heap) (locs1 : List Loc), post u → va_P D vwCl (wr ++ u) H1 → va_D A0 (wr ++ u) → va_S A0 H0 H1 locs1 → W p l e R s m args below meth c H1 locs1 cells slots Q (F0 m (pc + 3) ls rest)) : W p l e R s m args below meth c H locs cells slots Q (F0 m pc ls st0) := by
  have hF := va_free (wc := wc) hD hS hA isC hC
  refine va_callv hr hS (fun q _ z => hF q z) hF (fun u t H1 locs1 ht _ hp hB _ hk hS1 => ?_)
  obtain ⟨hP1, hD1⟩ := hB
  rw [ht] at hP1
  obtain ⟨hP2, hD2⟩ := va_join (wr := wr) (w1 := u) hP hD isC isR hC hR hn hdis hk hF hP1 hD1
  exact kk u H1 locs1 hp hP2 hD2 hS1
theorem w_callJ {post : Int64 → va_W → Prop} (hP : va_P D vwCl ws H) (hD : va_D A0 ws) (hS : va_S A0 H0 H locs) (hA : ∀ q, H0.size ≤ q → A0 q) (isC isR : List Nat) (hC : isC.map (fun i => ws[i]?) = wc.map some) (hR : isR.map (fun i => ws[i]?) = wr.map some) (hn : va_nd isR = true) (hdis : ∀ i ∈ isR, i ∉ isC)
    (hr : va_Run p l e R s m args below meth c H locs cells slots 0 0 (F0 m pc ls st0) rest (wQJ post H.size D wc a) (va_A wc H.size))
    (kk : ∀ (r : Int64) (u : va_W) (H1 : Heap) (locs1 : List Loc), post r u → va_P D vwCl (wr ++ u) H1 → va_D A0 (wr ++ u) → va_S A0 H0 H1 locs1 → W p l e R s m args below meth c H1 locs1 cells slots Q (F0 m (pc + 3) ls (.long r :: rest))) : W p l e R s m args below meth c H locs cells slots Q (F0 m pc ls st0) := by
  have hF := va_free (wc := wc) hD hS hA isC hC
  refine va_calll hr hS (fun q _ z => hF q z) hF (fun r u t H1 locs1 ht _ hp hB _ hk hS1 => ?_)
  obtain ⟨hP1, hD1⟩ := hB
  rw [ht] at hP1
  obtain ⟨hP2, hD2⟩ := va_join (wr := wr) (w1 := u) hP hD isC isR hC hR hn hdis hk hF hP1 hD1
  exact kk r u H1 locs1 hp hP2 hD2 hS1
variable {A : Nat → Prop} {b ci : Nat} {C : String} {T : u_T} {N : Nat} {fs : List Value} {As : List Value}
theorem w_preVR (hE : wEnv A s s.heap) (hS : va_S A s.heap H locs) (hK : va_K D vwCl (wTy cy) s) (hPc : va_P D vwCl wc H) (hc : vwCl[ci]? = some (C, T, N)) (he : wc[0]? = some (b, .inr (ci, fs))) : PreV s H C b (wPR (.ref b :: As) H D cy wc) As :=
  ⟨wPR.blind, va_recv hK hPc hc he, fun _ hU hW => ⟨rfl, hU, hE.pass hS hW (fun _ z => z.elim), hPc, va_K.moved hW.alike hK⟩⟩
theorem w_preSR (hE : wEnv A s s.heap) (hS : va_S A s.heap H locs) (hK : va_K D vwCl (wTy cy) s) (hPc : va_P D vwCl wc H) : PreS s H (wPR As H D cy wc) As :=
  ⟨wPR.blind, fun _ hU hW => ⟨rfl, hU, hE.pass hS hW (fun _ z => z.elim), hPc, va_K.moved hW.alike hK⟩⟩
theorem w_preVN (hK : va_K D vwCl (wTy cy) s) (hPc : va_P D vwCl wc H) (hc : vwCl[ci]? = some (C, T, N)) (he : wc[0]? = some (b, .inr (ci, fs))) : PreV s H C b (wPN (.ref b :: As) H D cy wc) As :=
  ⟨wPN.blind, va_recv hK hPc hc he, fun _ hU hW => ⟨rfl, hU, hPc, va_K.moved hW.alike hK⟩⟩
theorem w_preSN (hK : va_K D vwCl (wTy cy) s) (hPc : va_P D vwCl wc H) : PreS s H (wPN As H D cy wc) As :=
  ⟨wPN.blind, fun _ hU hW => ⟨rfl, hU, hPc, va_K.moved hW.alike hK⟩⟩
theorem w_preVM (hE : wEnv A s s.heap) (hS : va_S A s.heap H locs) (hA : ∀ q, s.heap.size ≤ q → A q) (hK : va_K D vwCl (wTy cy) s) (hP : va_P D vwCl ws H) (hD : va_D A ws) (isC : List Nat) (hC : isC.map (fun i => ws[i]?) = wc.map some) (hCf : isC.filterMap (fun i => ws[i]?) = wc) (hnd : va_nd isC = true) (hc : vwCl[ci]? = some (C, T, N)) (he : wc[0]? = some (b, .inr (ci, fs))) : PreV s H C b (wPM (.ref b :: As) H.size D cy wc) As :=
  ⟨wPM.blind, va_recv hK (hP.sub isC hCf) hc he, fun _ hU hW => ⟨rfl, by rw [hU], by rw [hU]; exact hE.pass hS hW (va_free hD hS hA isC hC), by rw [hU]; exact hP.sub isC hCf, va_K.moved hW.alike hK, (hD.sub isC hnd hC).weaken (fun _ _ _ _ => trivial)⟩⟩
theorem w_preVT {sk sv : Nat → Nat} (hT : wSE sk sv A s s.heap) (hE : wEnv A s s.heap) (hS : va_S A s.heap H locs) (hA : ∀ q, s.heap.size ≤ q → A q) (hK : va_K D vwCl (wTy cy) s) (hP : va_P D vwCl ws H) (hD : va_D A ws) (isC : List Nat) (hC : isC.map (fun i => ws[i]?) = wc.map some) (hCf : isC.filterMap (fun i => ws[i]?) = wc) (hnd : va_nd isC = true) (hc : vwCl[ci]? = some (C, T, N)) (he : wc[0]? = some (b, .inr (ci, fs))) : PreV s H C b (wPT (.ref b :: As) H.size sk sv D cy wc) As :=
  ⟨wPT.blind, va_recv hK (hP.sub isC hCf) hc he, fun U hU hW => ⟨(w_preVM hE hS hA hK hP hD isC hC hCf hnd hc he).2.2 U hU hW, by rw [hU]; exact hT.pass hS hW (va_free hD hS hA isC hC)⟩⟩
theorem w_preVS {sk sv : Nat → Nat} {i : Nat} (hT : wSE sk sv A s s.heap) (hS : va_S A s.heap H locs) (hi : i < 2) : PreV s H "java/lang/String" (sk i) (wPS (.ref (sk i) :: As) H sk sv) As :=
  ⟨wPS.blind, vk_recv hT.2.1 hi hS, fun _ hU hW => ⟨rfl, hU, hT.pass hS hW (fun _ z => z.elim)⟩⟩
theorem w_preSS {sk sv : Nat → Nat} (hT : wSE sk sv A s s.heap) (hS : va_S A s.heap H locs) : PreS s H (wPS As H sk sv) As :=
  ⟨wPS.blind, fun _ hU hW => ⟨rfl, hU, hT.pass hS hW (fun _ z => z.elim)⟩⟩
theorem w_preVO (hK : va_K D vwCl (wTy cy) s) (hP : va_P D vwCl ws H) (hD : va_D A ws) (isC : List Nat) (hC : isC.map (fun i => ws[i]?) = wc.map some) (hCf : isC.filterMap (fun i => ws[i]?) = wc) (hnd : va_nd isC = true) (hc : vwCl[ci]? = some (C, T, N)) (he : wc[0]? = some (b, .inr (ci, fs))) : PreV s H C b (wPO (.ref b :: As) H.size D cy wc) As :=
  ⟨wPO.blind, va_recv hK (hP.sub isC hCf) hc he, fun _ hU hW => ⟨rfl, by rw [hU], by rw [hU]; exact hP.sub isC hCf, va_K.moved hW.alike hK, (hD.sub isC hnd hC).weaken (fun _ _ _ _ => trivial)⟩⟩
theorem w_preSO (hK : va_K D vwCl (wTy cy) s) (hP : va_P D vwCl ws H) (hD : va_D A ws) (isC : List Nat) (hC : isC.map (fun i => ws[i]?) = wc.map some) (hCf : isC.filterMap (fun i => ws[i]?) = wc) (hnd : va_nd isC = true) : PreS s H (wPO As H.size D cy wc) As :=
  ⟨wPO.blind, fun _ hU hW => ⟨rfl, by rw [hU], by rw [hU]; exact hP.sub isC hCf, va_K.moved hW.alike hK, (hD.sub isC hnd hC).weaken (fun _ _ _ _ => trivial)⟩⟩
end WCALLS
theorem w_nat2 {P : Nat → Prop} (h0 : P 0) (h1 : P 1) : ∀ k, k < 2 → P k
  | 0, _ => h0
  | 1, _ => h1
  | k + 2, h => absurd h (by omega)
theorem w_nat5 {P : Nat → Prop} (h0 : P 0) (h1 : P 1) (h2 : P 2) (h3 : P 3) (h4 : P 4) : ∀ k, k < 5 → P k
  | 0, _ => h0
  | 1, _ => h1
  | 2, _ => h2
  | 3, _ => h3
  | 4, _ => h4
  | k + 5, h => absurd h (by omega)
theorem w_nat10 {P : Nat → Prop} (h0 : P 0) (h1 : P 1) (h2 : P 2) (h3 : P 3) (h4 : P 4) (h5 : P 5) (h6 : P 6) (h7 : P 7) (h8 : P 8) (h9 : P 9) : ∀ k, k < 10 → P k
  | 0, _ => h0
  | 1, _ => h1
  | 2, _ => h2
  | 3, _ => h3
  | 4, _ => h4
  | 5, _ => h5
  | 6, _ => h6
  | 7, _ => h7
  | 8, _ => h8
  | 9, _ => h9
  | k + 10, h => absurd h (by omega)
section WROWS
variable {p : Program} {l : Launch} {e : Env} {R : Room} {s : State} {m : MethodId} {args : Array Value} {below : List Frame} {meth : Method} {c : Code} {H : Heap} {locs : List Loc} {cells slots : Nat} {Q : State → Prop}
variable {cc : ByteArray} {pc : Nat} {ls : Array Slot} {rest : List Value} {D : va_G} {cl : List vw_C} {a : Nat} {tys : List (ClassId × FieldType)} {ws : va_W}
/-- a reference out of an array of references, of any kind: the place is known to hold y -/
theorem w_aldg (hexec : p.tables.exec = Jvm.exec) (hb : c.code = cc) (hK : va_K D cl tys s) (hP : va_P D cl ws H) (q0 t0 : Nat) {cA : ClassId} {ty : FieldType} {n y : Nat} {f : Nat → Option Nat} (ha : ws[q0]? = some (a, .inl (cA, n, .inr (.inr (.inr (.inr f)))))) (ht : tys[t0]? = some (cA, ty)) (href : ty.isReference = true) {i : Int32} (hin : vp_in i n) (hy : f i.toNatClampNeg = some y) (hdg : decode cc pc = .ok (.aaload, 1))
    (kk : W p l e R s m args below meth c H locs cells slots Q (F0 m (pc + 1) ls (.ref y :: rest))) : W p l e R s m args below meth c H locs cells slots Q (F0 m pc ls (.int i :: .ref a :: rest)) := by
  have hlt : i.toNatClampNeg < n := Nat.not_le.mp fun q => hin (Or.inr q)
  exact W.aald (v := .ref y) (ty := ty) hexec hb (hP q0 _ ha) ((hK.2 t0 _ ht).1 n (fun j => va_rf (f j))) href (fun q => by cases q) (by show ¬ (i < 0 ∨ (arrV _ _ _).slots.size ≤ _); rw [arrV_size]; exact hin) (by show (arrV _ _ _).slots[_]? = _; rw [arrV_read _ _ hlt, hy]; rfl) rfl rfl hdg kk
end WROWS
theorem w_bool {v : Int32} (h : v = 0 ∨ v = 1) : narrow .boolean (.int v) = .int v := by
  rcases h with rfl | rfl <;> rfl

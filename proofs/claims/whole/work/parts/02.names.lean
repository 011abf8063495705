/-! names: classes, fields, methods; the words; the shapes of the cells (printed by wip/whole/gen.py) -/
abbrev RP : String := "PatternColumns"
def TP : u_T := fun k => match k with
  | 0 => ("PatternColumns", "slabs", "LPatternColumns$Slabs;", true)
  | 1 => ("PatternColumns", "dearest", "LPatternColumns$DearestPattern;", true)
  | 2 => ("PatternColumns", "designing", "LPatternColumns$Designing;", true)
  | _ => ("PatternColumns", "store", "LPatternColumns$Store;", true)
def tyP : Nat → FieldType := fun k => match k with
  | 0 => .object "PatternColumns$Slabs"
  | 1 => .object "PatternColumns$DearestPattern"
  | 2 => .object "PatternColumns$Designing"
  | _ => .object "PatternColumns$Store"
theorem nmP : ∀ a, a < 4 → ∀ b, b < 4 → a ≠ b → (TP a).2.1 ≠ (TP b).2.1 := by decide +kernel
theorem tyP_ok : ∀ k, k < 4 → parseFieldDescriptor (TP k).2.2.1 = some (tyP k) := by decide +kernel
abbrev RS : String := "PatternColumns$Slabs"
def TS : u_T := fun k => match k with
  | 0 => ("PatternColumns$Slabs", "sheetWidth", "I", false)
  | 1 => ("PatternColumns$Slabs", "count", "I", false)
  | 2 => ("PatternColumns$Slabs", "widths", "[I", true)
  | 3 => ("PatternColumns$Slabs", "numbers", "[I", true)
  | _ => ("PatternColumns$Slabs", "prices", "[I", true)
def tyS : Nat → FieldType := fun k => match k with
  | 0 => .int
  | 1 => .int
  | 2 => .array .int
  | 3 => .array .int
  | _ => .array .int
theorem nmS : ∀ a, a < 5 → ∀ b, b < 5 → a ≠ b → (TS a).2.1 ≠ (TS b).2.1 := by decide +kernel
theorem tyS_ok : ∀ k, k < 5 → parseFieldDescriptor (TS k).2.2.1 = some (tyS k) := by decide +kernel
abbrev RD : String := "PatternColumns$DearestPattern"
def TD : u_T := fun k => match k with
  | 0 => ("PatternColumns$DearestPattern", "slabs", "LPatternColumns$Slabs;", true)
  | 1 => ("PatternColumns$DearestPattern", "pattern", "[I", true)
  | 2 => ("PatternColumns$DearestPattern", "tried", "[I", true)
  | 3 => ("PatternColumns$DearestPattern", "sum", "I", false)
  | _ => ("PatternColumns$DearestPattern", "known", "Z", false)
def tyD : Nat → FieldType := fun k => match k with
  | 0 => .object "PatternColumns$Slabs"
  | 1 => .array .int
  | 2 => .array .int
  | 3 => .int
  | _ => .boolean
theorem nmD : ∀ a, a < 5 → ∀ b, b < 5 → a ≠ b → (TD a).2.1 ≠ (TD b).2.1 := by decide +kernel
theorem tyD_ok : ∀ k, k < 5 → parseFieldDescriptor (TD k).2.2.1 = some (tyD k) := by decide +kernel
abbrev RG : String := "PatternColumns$Designing"
def TG : u_T := fun k => match k with
  | 0 => ("PatternColumns$Designing", "slabs", "LPatternColumns$Slabs;", true)
  | 1 => ("PatternColumns$Designing", "left", "[I", true)
  | 2 => ("PatternColumns$Designing", "leftWidth", "I", false)
  | 3 => ("PatternColumns$Designing", "tried", "[[I", true)
  | 4 => ("PatternColumns$Designing", "best", "[[I", true)
  | 5 => ("PatternColumns$Designing", "bestSheets", "I", false)
  | 6 => ("PatternColumns$Designing", "hasRun", "Z", false)
  | 7 => ("PatternColumns$Designing", "spent", "Z", false)
  | _ => ("PatternColumns$Designing", "steps", "I", false)
def tyG : Nat → FieldType := fun k => match k with
  | 0 => .object "PatternColumns$Slabs"
  | 1 => .array .int
  | 2 => .int
  | 3 => .array (.array .int)
  | 4 => .array (.array .int)
  | 5 => .int
  | 6 => .boolean
  | 7 => .boolean
  | _ => .int
theorem nmG : ∀ a, a < 9 → ∀ b, b < 9 → a ≠ b → (TG a).2.1 ≠ (TG b).2.1 := by decide +kernel
theorem tyG_ok : ∀ k, k < 9 → parseFieldDescriptor (TG k).2.2.1 = some (tyG k) := by decide +kernel
abbrev RT : String := "PatternColumns$Store"
def TT : u_T := fun k => match k with
  | 0 => ("PatternColumns$Store", "count", "I", false)
  | 1 => ("PatternColumns$Store", "patterns", "[[I", true)
  | 2 => ("PatternColumns$Store", "times", "[I", true)
  | _ => ("PatternColumns$Store", "days", "[I", true)
def tyT : Nat → FieldType := fun k => match k with
  | 0 => .int
  | 1 => .array (.array .int)
  | 2 => .array .int
  | _ => .array .int
theorem nmT : ∀ a, a < 4 → ∀ b, b < 4 → a ≠ b → (TT a).2.1 ≠ (TT b).2.1 := by decide +kernel
theorem tyT_ok : ∀ k, k < 4 → parseFieldDescriptor (TT k).2.2.1 = some (tyT k) := by decide +kernel
abbrev RM : String := "PatternColumnsModel"
def TM : u_T := fun k => match k with
  | 0 => ("PatternColumnsModel", "thrown", "I", false)
  | 1 => ("PatternColumnsModel", "sheet", "I", false)
  | 2 => ("PatternColumnsModel", "orders", "I", false)
  | 3 => ("PatternColumnsModel", "width", "[I", true)
  | 4 => ("PatternColumnsModel", "pieces", "[I", true)
  | 5 => ("PatternColumnsModel", "price", "[I", true)
  | 6 => ("PatternColumnsModel", "left", "[I", true)
  | 7 => ("PatternColumnsModel", "now", "[I", true)
  | 8 => ("PatternColumnsModel", "sheets", "I", false)
  | 9 => ("PatternColumnsModel", "best", "[I", true)
  | 10 => ("PatternColumnsModel", "asked", "Z", false)
  | 11 => ("PatternColumnsModel", "spent", "Z", false)
  | 12 => ("PatternColumnsModel", "steps", "I", false)
  | 13 => ("PatternColumnsModel", "keptMany", "I", false)
  | _ => ("PatternColumnsModel", "kept", "[I", true)
def tyM : Nat → FieldType := fun k => match k with
  | 0 => .int
  | 1 => .int
  | 2 => .int
  | 3 => .array .int
  | 4 => .array .int
  | 5 => .array .int
  | 6 => .array .int
  | 7 => .array .int
  | 8 => .int
  | 9 => .array .int
  | 10 => .boolean
  | 11 => .boolean
  | 12 => .int
  | 13 => .int
  | _ => .array .int
theorem nmM : ∀ a, a < 15 → ∀ b, b < 15 → a ≠ b → (TM a).2.1 ≠ (TM b).2.1 := by decide +kernel
theorem tyM_ok : ∀ k, k < 15 → parseFieldDescriptor (TM k).2.2.1 = some (tyM k) := by decide +kernel
abbrev RL : String := "PatternColumnsLaw"
abbrev vwCl : List vw_C := [(RP, TP, 4), (RS, TS, 5), (RD, TD, 5), (RG, TG, 9), (RT, TT, 4), (RM, TM, 15)]
abbrev cP_init : ByteArray := prog_1_method_1_code
abbrev yP_init : MethodName := ⟨"PatternColumns", "<init>", "()V"⟩
abbrev cS_init : ByteArray := prog_4_method_1_code
abbrev yS_init : MethodName := ⟨"PatternColumns$Slabs", "<init>", "()V"⟩
abbrev cD_init : ByteArray := prog_2_method_1_code
abbrev yD_init : MethodName := ⟨"PatternColumns$DearestPattern", "<init>", "(LPatternColumns$Slabs;)V"⟩
abbrev cG_init : ByteArray := prog_3_method_1_code
abbrev yG_init : MethodName := ⟨"PatternColumns$Designing", "<init>", "(LPatternColumns$Slabs;)V"⟩
abbrev cT_init : ByteArray := prog_5_method_1_code
abbrev yT_init : MethodName := ⟨"PatternColumns$Store", "<init>", "()V"⟩
abbrev cP_column : ByteArray := prog_1_method_6_code
abbrev yP_column : MethodName := ⟨"PatternColumns", "column", "()I"⟩
abbrev cD_priceSum : ByteArray := prog_2_method_3_code
abbrev yD_priceSum : MethodName := ⟨"PatternColumns$DearestPattern", "priceSum", "()I"⟩
abbrev cD_seek : ByteArray := prog_2_method_5_code
abbrev yD_seek : MethodName := ⟨"PatternColumns$DearestPattern", "seek", "()V"⟩
abbrev cS_firstPattern : ByteArray := prog_4_method_11_code
abbrev yS_firstPattern : MethodName := ⟨"PatternColumns$Slabs", "firstPattern", "([I[I)V"⟩
abbrev cS_fillFrom : ByteArray := prog_4_method_13_code
abbrev yS_fillFrom : MethodName := ⟨"PatternColumns$Slabs", "fillFrom", "(I[I[I)V"⟩
abbrev cS_widthOfFirst : ByteArray := prog_4_method_14_code
abbrev yS_widthOfFirst : MethodName := ⟨"PatternColumns$Slabs", "widthOfFirst", "([II)I"⟩
abbrev cS_priceOf : ByteArray := prog_4_method_6_code
abbrev yS_priceOf : MethodName := ⟨"PatternColumns$Slabs", "priceOf", "([I)I"⟩
abbrev cD_take : ByteArray := prog_2_method_6_code
abbrev yD_take : MethodName := ⟨"PatternColumns$DearestPattern", "take", "(I)V"⟩
abbrev cS_nextPattern : ByteArray := prog_4_method_12_code
abbrev yS_nextPattern : MethodName := ⟨"PatternColumns$Slabs", "nextPattern", "([I[III)Z"⟩
abbrev cP_bound : ByteArray := prog_1_method_8_code
abbrev yP_bound : MethodName := ⟨"PatternColumns", "bound", "()I"⟩
abbrev cP_boundByPrices : ByteArray := prog_1_method_18_code
abbrev yP_boundByPrices : MethodName := ⟨"PatternColumns", "boundByPrices", "()I"⟩
abbrev cS_priceOfAll : ByteArray := prog_4_method_7_code
abbrev yS_priceOfAll : MethodName := ⟨"PatternColumns$Slabs", "priceOfAll", "()I"⟩
abbrev cP_roundedUp : ByteArray := prog_1_method_21_code
abbrev yP_roundedUp : MethodName := ⟨"PatternColumns", "roundedUp", "(II)I"⟩
abbrev cL_sheet : ByteArray := method_3_code
abbrev yL_sheet : MethodName := ⟨"PatternColumnsLaw", "sheet", "(LPatternColumns;I)I"⟩
abbrev cP_sheet : ByteArray := prog_1_method_2_code
abbrev yP_sheet : MethodName := ⟨"PatternColumns", "sheet", "(I)V"⟩
abbrev cP_forgetAnswers : ByteArray := prog_1_method_17_code
abbrev yP_forgetAnswers : MethodName := ⟨"PatternColumns", "forgetAnswers", "()V"⟩
abbrev cD_forget : ByteArray := prog_2_method_2_code
abbrev yD_forget : MethodName := ⟨"PatternColumns$DearestPattern", "forget", "()V"⟩
abbrev cG_forget : ByteArray := prog_3_method_2_code
abbrev yG_forget : MethodName := ⟨"PatternColumns$Designing", "forget", "()V"⟩
abbrev cL_order : ByteArray := method_4_code
abbrev yL_order : MethodName := ⟨"PatternColumnsLaw", "order", "(LPatternColumns;II[J)I"⟩
abbrev cP_order : ByteArray := prog_1_method_3_code
abbrev yP_order : MethodName := ⟨"PatternColumns", "order", "(II)I"⟩
abbrev cS_add : ByteArray := prog_4_method_3_code
abbrev yS_add : MethodName := ⟨"PatternColumns$Slabs", "add", "(II)I"⟩
abbrev cL_pieces : ByteArray := method_5_code
abbrev yL_pieces : MethodName := ⟨"PatternColumnsLaw", "pieces", "(LPatternColumns;II)I"⟩
abbrev cP_pieces : ByteArray := prog_1_method_4_code
abbrev yP_pieces : MethodName := ⟨"PatternColumns", "pieces", "(II)V"⟩
abbrev cS_has : ByteArray := prog_4_method_2_code
abbrev yS_has : MethodName := ⟨"PatternColumns$Slabs", "has", "(I)Z"⟩
abbrev cL_price : ByteArray := method_6_code
abbrev yL_price : MethodName := ⟨"PatternColumnsLaw", "price", "(LPatternColumns;II)I"⟩
abbrev cP_price : ByteArray := prog_1_method_5_code
abbrev yP_price : MethodName := ⟨"PatternColumns", "price", "(II)V"⟩
abbrev cL_columnOf : ByteArray := method_7_code
abbrev yL_columnOf : MethodName := ⟨"PatternColumnsLaw", "columnOf", "(LPatternColumns;I[J)I"⟩
abbrev cP_columnOf : ByteArray := prog_1_method_7_code
abbrev yP_columnOf : MethodName := ⟨"PatternColumns", "columnOf", "(I)I"⟩
abbrev cD_piecesOf : ByteArray := prog_2_method_4_code
abbrev yD_piecesOf : MethodName := ⟨"PatternColumns$DearestPattern", "piecesOf", "(I)I"⟩
abbrev cL_design : ByteArray := method_8_code
abbrev yL_design : MethodName := ⟨"PatternColumnsLaw", "design", "(LPatternColumns;I[J)I"⟩
abbrev cP_design : ByteArray := prog_1_method_9_code
abbrev yP_design : MethodName := ⟨"PatternColumns", "design", "(I)I"⟩
abbrev cS_somePieceIsTooWide : ByteArray := prog_4_method_9_code
abbrev yS_somePieceIsTooWide : MethodName := ⟨"PatternColumns$Slabs", "somePieceIsTooWide", "()Z"⟩
abbrev cG_run : ByteArray := prog_3_method_3_code
abbrev yG_run : MethodName := ⟨"PatternColumns$Designing", "run", "(I)V"⟩
abbrev cS_widthOfAll : ByteArray := prog_4_method_5_code
abbrev yS_widthOfAll : MethodName := ⟨"PatternColumns$Slabs", "widthOfAll", "()I"⟩
abbrev cG_opens : ByteArray := prog_3_method_4_code
abbrev yG_opens : MethodName := ⟨"PatternColumns$Designing", "opens", "(I)Z"⟩
abbrev cS_sheetsFor : ByteArray := prog_4_method_8_code
abbrev yS_sheetsFor : MethodName := ⟨"PatternColumns$Slabs", "sheetsFor", "(I)I"⟩
abbrev cG_takeAsBest : ByteArray := prog_3_method_9_code
abbrev yG_takeAsBest : MethodName := ⟨"PatternColumns$Designing", "takeAsBest", "(I)V"⟩
abbrev cG_lay : ByteArray := prog_3_method_7_code
abbrev yG_lay : MethodName := ⟨"PatternColumns$Designing", "lay", "([I)V"⟩
abbrev cS_widthOf : ByteArray := prog_4_method_4_code
abbrev yS_widthOf : MethodName := ⟨"PatternColumns$Slabs", "widthOf", "([I)I"⟩
abbrev cG_takeBack : ByteArray := prog_3_method_8_code
abbrev yG_takeBack : MethodName := ⟨"PatternColumns$Designing", "takeBack", "([I)V"⟩
abbrev cG_goesOn : ByteArray := prog_3_method_5_code
abbrev yG_goesOn : MethodName := ⟨"PatternColumns$Designing", "goesOn", "([I)Z"⟩
abbrev cG_lowestLeft : ByteArray := prog_3_method_6_code
abbrev yG_lowestLeft : MethodName := ⟨"PatternColumns$Designing", "lowestLeft", "()I"⟩
abbrev cL_designed : ByteArray := method_9_code
abbrev yL_designed : MethodName := ⟨"PatternColumnsLaw", "designed", "(LPatternColumns;I[J)I"⟩
abbrev cP_designed : ByteArray := prog_1_method_10_code
abbrev yP_designed : MethodName := ⟨"PatternColumns", "designed", "(I)I"⟩
abbrev cL_gap : ByteArray := method_10_code
abbrev yL_gap : MethodName := ⟨"PatternColumnsLaw", "gap", "(LPatternColumns;[J)I"⟩
abbrev cP_gap : ByteArray := prog_1_method_11_code
abbrev yP_gap : MethodName := ⟨"PatternColumns", "gap", "()I"⟩
abbrev cP_requireDesign : ByteArray := prog_1_method_19_code
abbrev yP_requireDesign : MethodName := ⟨"PatternColumns", "requireDesign", "()V"⟩
abbrev cL_cut : ByteArray := method_11_code
abbrev yL_cut : MethodName := ⟨"PatternColumnsLaw", "cut", "(LPatternColumns;II[J)I"⟩
abbrev cP_cut : ByteArray := prog_1_method_12_code
abbrev yP_cut : MethodName := ⟨"PatternColumns", "cut", "(II)I"⟩
abbrev cP_requireSheet : ByteArray := prog_1_method_20_code
abbrev yP_requireSheet : MethodName := ⟨"PatternColumns", "requireSheet", "(I)V"⟩
abbrev cL_over : ByteArray := method_12_code
abbrev yL_over : MethodName := ⟨"PatternColumnsLaw", "over", "(LPatternColumns;I[J)I"⟩
abbrev cP_over : ByteArray := prog_1_method_13_code
abbrev yP_over : MethodName := ⟨"PatternColumns", "over", "(I)I"⟩
abbrev cL_keep : ByteArray := method_13_code
abbrev yL_keep : MethodName := ⟨"PatternColumnsLaw", "keep", "(LPatternColumns;II[J)I"⟩
abbrev cP_keep : ByteArray := prog_1_method_14_code
abbrev yP_keep : MethodName := ⟨"PatternColumns", "keep", "(II)I"⟩
abbrev cT_find : ByteArray := prog_5_method_2_code
abbrev yT_find : MethodName := ⟨"PatternColumns$Store", "find", "([I)I"⟩
abbrev cT_same : ByteArray := prog_5_method_5_code
abbrev yT_same : MethodName := ⟨"PatternColumns$Store", "same", "([I[I)Z"⟩
abbrev cT_countAgain : ByteArray := prog_5_method_3_code
abbrev yT_countAgain : MethodName := ⟨"PatternColumns$Store", "countAgain", "(II)V"⟩
abbrev cT_add : ByteArray := prog_5_method_4_code
abbrev yT_add : MethodName := ⟨"PatternColumns$Store", "add", "([II)I"⟩
abbrev cL_kept : ByteArray := method_14_code
abbrev yL_kept : MethodName := ⟨"PatternColumnsLaw", "kept", "(LPatternColumns;II[J)I"⟩
abbrev cP_kept : ByteArray := prog_1_method_15_code
abbrev yP_kept : MethodName := ⟨"PatternColumns", "kept", "(II)I"⟩
abbrev cL_fitting : ByteArray := method_15_code
abbrev yL_fitting : MethodName := ⟨"PatternColumnsLaw", "fitting", "(LPatternColumns;I[J)I"⟩
abbrev cP_fitting : ByteArray := prog_1_method_16_code
abbrev yP_fitting : MethodName := ⟨"PatternColumns", "fitting", "(I)I"⟩
abbrev cS_isPattern : ByteArray := prog_4_method_10_code
abbrev yS_isPattern : MethodName := ⟨"PatternColumns$Slabs", "isPattern", "([I)Z"⟩
abbrev cM_init : ByteArray := prog_7_method_1_code
abbrev yM_init : MethodName := ⟨"PatternColumnsModel", "<init>", "()V"⟩
abbrev cM_thrown : ByteArray := prog_7_method_2_code
abbrev yM_thrown : MethodName := ⟨"PatternColumnsModel", "thrown", "()I"⟩
abbrev cM_sheet : ByteArray := prog_7_method_7_code
abbrev yM_sheet : MethodName := ⟨"PatternColumnsModel", "sheet", "(I)V"⟩
abbrev cM_in : ByteArray := prog_7_method_4_code
abbrev yM_in : MethodName := ⟨"PatternColumnsModel", "in", "(III)Z"⟩
abbrev cM_throwing : ByteArray := prog_7_method_3_code
abbrev yM_throwing : MethodName := ⟨"PatternColumnsModel", "throwing", "(ZZZZ)Z"⟩
abbrev cM_forget : ByteArray := prog_7_method_6_code
abbrev yM_forget : MethodName := ⟨"PatternColumnsModel", "forget", "()V"⟩
abbrev cM_order : ByteArray := prog_7_method_8_code
abbrev yM_order : MethodName := ⟨"PatternColumnsModel", "order", "(II)I"⟩
abbrev cM_pieces : ByteArray := prog_7_method_9_code
abbrev yM_pieces : MethodName := ⟨"PatternColumnsModel", "pieces", "(II)V"⟩
abbrev cM_isOrder : ByteArray := prog_7_method_5_code
abbrev yM_isOrder : MethodName := ⟨"PatternColumnsModel", "isOrder", "(I)Z"⟩
abbrev cM_price : ByteArray := prog_7_method_10_code
abbrev yM_price : MethodName := ⟨"PatternColumnsModel", "price", "(II)V"⟩
abbrev cM_column : ByteArray := prog_7_method_16_code
abbrev yM_column : MethodName := ⟨"PatternColumnsModel", "column", "()I"⟩
abbrev cM_findColumn : ByteArray := prog_7_method_15_code
abbrev yM_findColumn : MethodName := ⟨"PatternColumnsModel", "findColumn", "()I"⟩
abbrev cM_fill : ByteArray := prog_7_method_12_code
abbrev yM_fill : MethodName := ⟨"PatternColumnsModel", "fill", "(II)V"⟩
abbrev cM_roomAt : ByteArray := prog_7_method_11_code
abbrev yM_roomAt : MethodName := ⟨"PatternColumnsModel", "roomAt", "(II)I"⟩
abbrev cM_sumAt : ByteArray := prog_7_method_14_code
abbrev yM_sumAt : MethodName := ⟨"PatternColumnsModel", "sumAt", "(I)I"⟩
abbrev cM_goesDown : ByteArray := prog_7_method_13_code
abbrev yM_goesDown : MethodName := ⟨"PatternColumnsModel", "goesDown", "(I)Z"⟩
abbrev cM_columnOf : ByteArray := prog_7_method_17_code
abbrev yM_columnOf : MethodName := ⟨"PatternColumnsModel", "columnOf", "(I)I"⟩
abbrev cM_bound : ByteArray := prog_7_method_19_code
abbrev yM_bound : MethodName := ⟨"PatternColumnsModel", "bound", "()I"⟩
abbrev cM_boundNow : ByteArray := prog_7_method_18_code
abbrev yM_boundNow : MethodName := ⟨"PatternColumnsModel", "boundNow", "()I"⟩
abbrev cM_design : ByteArray := prog_7_method_25_code
abbrev yM_design : MethodName := ⟨"PatternColumnsModel", "design", "(I)I"⟩
abbrev cM_search : ByteArray := prog_7_method_24_code
abbrev yM_search : MethodName := ⟨"PatternColumnsModel", "search", "(I)V"⟩
abbrev cM_goesOn : ByteArray := prog_7_method_23_code
abbrev yM_goesOn : MethodName := ⟨"PatternColumnsModel", "goesOn", "(I)Z"⟩
abbrev cM_sheetsFor : ByteArray := prog_7_method_20_code
abbrev yM_sheetsFor : MethodName := ⟨"PatternColumnsModel", "sheetsFor", "(I)I"⟩
abbrev cM_isNothingLeft : ByteArray := prog_7_method_21_code
abbrev yM_isNothingLeft : MethodName := ⟨"PatternColumnsModel", "isNothingLeft", "(I)Z"⟩
abbrev cM_lowestLeft : ByteArray := prog_7_method_22_code
abbrev yM_lowestLeft : MethodName := ⟨"PatternColumnsModel", "lowestLeft", "(I)I"⟩
abbrev cM_designed : ByteArray := prog_7_method_26_code
abbrev yM_designed : MethodName := ⟨"PatternColumnsModel", "designed", "(I)I"⟩
abbrev cM_gap : ByteArray := prog_7_method_27_code
abbrev yM_gap : MethodName := ⟨"PatternColumnsModel", "gap", "()I"⟩
abbrev cM_cut : ByteArray := prog_7_method_29_code
abbrev yM_cut : MethodName := ⟨"PatternColumnsModel", "cut", "(II)I"⟩
abbrev cM_refuses : ByteArray := prog_7_method_28_code
abbrev yM_refuses : MethodName := ⟨"PatternColumnsModel", "refuses", "(IZ)Z"⟩
abbrev cM_over : ByteArray := prog_7_method_30_code
abbrev yM_over : MethodName := ⟨"PatternColumnsModel", "over", "(I)I"⟩
abbrev cM_keep : ByteArray := prog_7_method_32_code
abbrev yM_keep : MethodName := ⟨"PatternColumnsModel", "keep", "(II)I"⟩
abbrev cM_keptAs : ByteArray := prog_7_method_31_code
abbrev yM_keptAs : MethodName := ⟨"PatternColumnsModel", "keptAs", "(I)I"⟩
abbrev cM_kept : ByteArray := prog_7_method_33_code
abbrev yM_kept : MethodName := ⟨"PatternColumnsModel", "kept", "(II)I"⟩
abbrev cM_fitting : ByteArray := prog_7_method_34_code
abbrev yM_fitting : MethodName := ⟨"PatternColumnsModel", "fitting", "(I)I"⟩
abbrev cL_law : ByteArray := code
abbrev yL_law : MethodName := ⟨"PatternColumnsLaw", "law", "([I)Z"⟩
/-! the words -/
def pq_W : List Cond := lw_tbl.filter goodWord
theorem pq_in {w : Cond} (i : Nat) (h : tables_1[i]? = some w) (hg : goodWord w = true) : w ∈ pq_W := List.mem_filter.mpr ⟨List.mem_append_right _ (List.mem_of_getElem? h), hg⟩
theorem pq_sel {w : Cond} (i : Nat) (h : (k2_sels lw_privs)[i]? = some w) (hg : goodWord w = true) : w ∈ pq_W := List.mem_filter.mpr ⟨List.mem_append_left _ (List.mem_of_getElem? h), hg⟩
theorem pq_Wtbl {w : Cond} (h : w ∈ pq_W) : w ∈ lw_tbl := (List.mem_filter.mp h).1
theorem pq_Wgood {w : Cond} (h : w ∈ pq_W) : goodWord w = true := (List.mem_filter.mp h).2
theorem ws_0 : Cond.selects "PatternColumns$DearestPattern" ⟨"PatternColumns$DearestPattern", "seek", "()V"⟩ ⟨"PatternColumns$DearestPattern", "seek", "()V"⟩ ∈ pq_W := pq_sel 0 (by decide +kernel) (by decide +kernel)
theorem ws_1 : Cond.selects "PatternColumns$Slabs" ⟨"PatternColumns$Slabs", "fillFrom", "(I[I[I)V"⟩ ⟨"PatternColumns$Slabs", "fillFrom", "(I[I[I)V"⟩ ∈ pq_W := pq_sel 1 (by decide +kernel) (by decide +kernel)
theorem ws_2 : Cond.selects "PatternColumns$Slabs" ⟨"PatternColumns$Slabs", "widthOfFirst", "([II)I"⟩ ⟨"PatternColumns$Slabs", "widthOfFirst", "([II)I"⟩ ∈ pq_W := pq_sel 2 (by decide +kernel) (by decide +kernel)
theorem ws_3 : Cond.selects "PatternColumns$DearestPattern" ⟨"PatternColumns$DearestPattern", "take", "(I)V"⟩ ⟨"PatternColumns$DearestPattern", "take", "(I)V"⟩ ∈ pq_W := pq_sel 3 (by decide +kernel) (by decide +kernel)
theorem ws_4 : Cond.selects "PatternColumns" ⟨"PatternColumns", "boundByPrices", "()I"⟩ ⟨"PatternColumns", "boundByPrices", "()I"⟩ ∈ pq_W := pq_sel 4 (by decide +kernel) (by decide +kernel)
theorem ws_5 : Cond.selects "java/lang/Throwable" ⟨"java/lang/Throwable", "fillInStackTrace", "(I)Ljava/lang/Throwable;"⟩ ⟨"java/lang/Throwable", "fillInStackTrace", "(I)Ljava/lang/Throwable;"⟩ ∈ pq_W := pq_sel 5 (by decide +kernel) (by decide +kernel)
theorem ws_6 : Cond.selects "PatternColumns" ⟨"PatternColumns", "forgetAnswers", "()V"⟩ ⟨"PatternColumns", "forgetAnswers", "()V"⟩ ∈ pq_W := pq_sel 6 (by decide +kernel) (by decide +kernel)
theorem ws_7 : Cond.selects "PatternColumns$Designing" ⟨"PatternColumns$Designing", "opens", "(I)Z"⟩ ⟨"PatternColumns$Designing", "opens", "(I)Z"⟩ ∈ pq_W := pq_sel 7 (by decide +kernel) (by decide +kernel)
theorem ws_8 : Cond.selects "PatternColumns$Designing" ⟨"PatternColumns$Designing", "takeAsBest", "(I)V"⟩ ⟨"PatternColumns$Designing", "takeAsBest", "(I)V"⟩ ∈ pq_W := pq_sel 8 (by decide +kernel) (by decide +kernel)
theorem ws_9 : Cond.selects "PatternColumns$Designing" ⟨"PatternColumns$Designing", "lay", "([I)V"⟩ ⟨"PatternColumns$Designing", "lay", "([I)V"⟩ ∈ pq_W := pq_sel 9 (by decide +kernel) (by decide +kernel)
theorem ws_10 : Cond.selects "PatternColumns$Designing" ⟨"PatternColumns$Designing", "takeBack", "([I)V"⟩ ⟨"PatternColumns$Designing", "takeBack", "([I)V"⟩ ∈ pq_W := pq_sel 10 (by decide +kernel) (by decide +kernel)
theorem ws_11 : Cond.selects "PatternColumns$Designing" ⟨"PatternColumns$Designing", "goesOn", "([I)Z"⟩ ⟨"PatternColumns$Designing", "goesOn", "([I)Z"⟩ ∈ pq_W := pq_sel 11 (by decide +kernel) (by decide +kernel)
theorem ws_12 : Cond.selects "PatternColumns$Designing" ⟨"PatternColumns$Designing", "lowestLeft", "()I"⟩ ⟨"PatternColumns$Designing", "lowestLeft", "()I"⟩ ∈ pq_W := pq_sel 12 (by decide +kernel) (by decide +kernel)
theorem ws_13 : Cond.selects "PatternColumns" ⟨"PatternColumns", "requireDesign", "()V"⟩ ⟨"PatternColumns", "requireDesign", "()V"⟩ ∈ pq_W := pq_sel 13 (by decide +kernel) (by decide +kernel)
theorem ws_14 : Cond.selects "PatternColumns" ⟨"PatternColumns", "requireSheet", "(I)V"⟩ ⟨"PatternColumns", "requireSheet", "(I)V"⟩ ∈ pq_W := pq_sel 14 (by decide +kernel) (by decide +kernel)
theorem ws_15 : Cond.selects "PatternColumnsModel" ⟨"PatternColumnsModel", "throwing", "(ZZZZ)Z"⟩ ⟨"PatternColumnsModel", "throwing", "(ZZZZ)Z"⟩ ∈ pq_W := pq_sel 15 (by decide +kernel) (by decide +kernel)
theorem ws_16 : Cond.selects "PatternColumnsModel" ⟨"PatternColumnsModel", "forget", "()V"⟩ ⟨"PatternColumnsModel", "forget", "()V"⟩ ∈ pq_W := pq_sel 16 (by decide +kernel) (by decide +kernel)
theorem ws_17 : Cond.selects "PatternColumnsModel" ⟨"PatternColumnsModel", "isOrder", "(I)Z"⟩ ⟨"PatternColumnsModel", "isOrder", "(I)Z"⟩ ∈ pq_W := pq_sel 17 (by decide +kernel) (by decide +kernel)
theorem ws_18 : Cond.selects "PatternColumnsModel" ⟨"PatternColumnsModel", "findColumn", "()I"⟩ ⟨"PatternColumnsModel", "findColumn", "()I"⟩ ∈ pq_W := pq_sel 18 (by decide +kernel) (by decide +kernel)
theorem ws_19 : Cond.selects "PatternColumnsModel" ⟨"PatternColumnsModel", "fill", "(II)V"⟩ ⟨"PatternColumnsModel", "fill", "(II)V"⟩ ∈ pq_W := pq_sel 19 (by decide +kernel) (by decide +kernel)
theorem ws_20 : Cond.selects "PatternColumnsModel" ⟨"PatternColumnsModel", "roomAt", "(II)I"⟩ ⟨"PatternColumnsModel", "roomAt", "(II)I"⟩ ∈ pq_W := pq_sel 20 (by decide +kernel) (by decide +kernel)
theorem ws_21 : Cond.selects "PatternColumnsModel" ⟨"PatternColumnsModel", "sumAt", "(I)I"⟩ ⟨"PatternColumnsModel", "sumAt", "(I)I"⟩ ∈ pq_W := pq_sel 21 (by decide +kernel) (by decide +kernel)
theorem ws_22 : Cond.selects "PatternColumnsModel" ⟨"PatternColumnsModel", "goesDown", "(I)Z"⟩ ⟨"PatternColumnsModel", "goesDown", "(I)Z"⟩ ∈ pq_W := pq_sel 22 (by decide +kernel) (by decide +kernel)
theorem ws_23 : Cond.selects "PatternColumnsModel" ⟨"PatternColumnsModel", "boundNow", "()I"⟩ ⟨"PatternColumnsModel", "boundNow", "()I"⟩ ∈ pq_W := pq_sel 23 (by decide +kernel) (by decide +kernel)
theorem ws_24 : Cond.selects "PatternColumnsModel" ⟨"PatternColumnsModel", "search", "(I)V"⟩ ⟨"PatternColumnsModel", "search", "(I)V"⟩ ∈ pq_W := pq_sel 24 (by decide +kernel) (by decide +kernel)
theorem ws_25 : Cond.selects "PatternColumnsModel" ⟨"PatternColumnsModel", "goesOn", "(I)Z"⟩ ⟨"PatternColumnsModel", "goesOn", "(I)Z"⟩ ∈ pq_W := pq_sel 25 (by decide +kernel) (by decide +kernel)
theorem ws_26 : Cond.selects "PatternColumnsModel" ⟨"PatternColumnsModel", "sheetsFor", "(I)I"⟩ ⟨"PatternColumnsModel", "sheetsFor", "(I)I"⟩ ∈ pq_W := pq_sel 26 (by decide +kernel) (by decide +kernel)
theorem ws_27 : Cond.selects "PatternColumnsModel" ⟨"PatternColumnsModel", "isNothingLeft", "(I)Z"⟩ ⟨"PatternColumnsModel", "isNothingLeft", "(I)Z"⟩ ∈ pq_W := pq_sel 27 (by decide +kernel) (by decide +kernel)
theorem ws_28 : Cond.selects "PatternColumnsModel" ⟨"PatternColumnsModel", "lowestLeft", "(I)I"⟩ ⟨"PatternColumnsModel", "lowestLeft", "(I)I"⟩ ∈ pq_W := pq_sel 28 (by decide +kernel) (by decide +kernel)
theorem ws_29 : Cond.selects "PatternColumnsModel" ⟨"PatternColumnsModel", "refuses", "(IZ)Z"⟩ ⟨"PatternColumnsModel", "refuses", "(IZ)Z"⟩ ∈ pq_W := pq_sel 29 (by decide +kernel) (by decide +kernel)
theorem ws_30 : Cond.selects "PatternColumnsModel" ⟨"PatternColumnsModel", "keptAs", "(I)I"⟩ ⟨"PatternColumnsModel", "keptAs", "(I)I"⟩ ∈ pq_W := pq_sel 30 (by decide +kernel) (by decide +kernel)
theorem ww_0 : (Jvm.Cond.initialized "PatternColumnsLaw") ∈ pq_W := pq_in 0 (by decide +kernel) (by decide +kernel)
theorem ww_1 : (Jvm.Cond.initialized "PatternColumns") ∈ pq_W := pq_in 1 (by decide +kernel) (by decide +kernel)
theorem ww_2 : (Jvm.Cond.initialized "PatternColumns$Slabs") ∈ pq_W := pq_in 2 (by decide +kernel) (by decide +kernel)
theorem ww_3 : (Jvm.Cond.initialized "PatternColumns$DearestPattern") ∈ pq_W := pq_in 3 (by decide +kernel) (by decide +kernel)
theorem ww_4 : (Jvm.Cond.initialized "PatternColumns$Designing") ∈ pq_W := pq_in 4 (by decide +kernel) (by decide +kernel)
theorem ww_5 : (Jvm.Cond.initialized "PatternColumns$Store") ∈ pq_W := pq_in 5 (by decide +kernel) (by decide +kernel)
theorem ww_6 : (Jvm.Cond.initialized "PatternColumnsModel") ∈ pq_W := pq_in 6 (by decide +kernel) (by decide +kernel)
theorem ww_7 : (Jvm.Cond.initialized "java/lang/Throwable") ∈ pq_W := pq_in 7 (by decide +kernel) (by decide +kernel)
theorem ww_8 : (Jvm.Cond.initialized "java/lang/Exception") ∈ pq_W := pq_in 8 (by decide +kernel) (by decide +kernel)
theorem ww_9 : (Jvm.Cond.initialized "java/lang/RuntimeException") ∈ pq_W := pq_in 9 (by decide +kernel) (by decide +kernel)
theorem ww_10 : (Jvm.Cond.initialized "java/lang/IllegalArgumentException") ∈ pq_W := pq_in 10 (by decide +kernel) (by decide +kernel)
theorem ww_11 : (Jvm.Cond.initialized "java/lang/IllegalStateException") ∈ pq_W := pq_in 11 (by decide +kernel) (by decide +kernel)
theorem ww_12 : (Jvm.Cond.initialized "java/lang/IndexOutOfBoundsException") ∈ pq_W := pq_in 12 (by decide +kernel) (by decide +kernel)
theorem ww_13 : (Jvm.Cond.initialized "java/lang/Math") ∈ pq_W := pq_in 13 (by decide +kernel) (by decide +kernel)
theorem ww_14 : (Jvm.Cond.initialized "java/lang/System") ∈ pq_W := pq_in 14 (by decide +kernel) (by decide +kernel)
theorem ww_15 : (Jvm.Cond.initialized "java/lang/UnsupportedOperationException") ∈ pq_W := pq_in 15 (by decide +kernel) (by decide +kernel)
theorem ww_16 : (Jvm.Cond.classLink "PatternColumnsLaw" (8 : Nat) "PatternColumns") ∈ pq_W := pq_in 16 (by decide +kernel) (by decide +kernel)
theorem ww_17 : (Jvm.Cond.instantiable "PatternColumns" (4 : Nat)) ∈ pq_W := pq_in 17 (by decide +kernel) (by decide +kernel)
theorem ww_18 : (Jvm.Cond.methodLink "PatternColumnsLaw" (61 : Nat) ({ cls := "PatternColumns", name := "<init>", desc := "()V" } : Jvm.MethodName)) ∈ pq_W := pq_in 18 (by decide +kernel) (by decide +kernel)
theorem ww_19 : (Jvm.Cond.instanceMethod ({ cls := "PatternColumns", name := "<init>", desc := "()V" } : Jvm.MethodName)) ∈ pq_W := pq_in 19 (by decide +kernel) (by decide +kernel)
theorem ww_20 : (Jvm.Cond.code ({ cls := "PatternColumns", name := "<init>", desc := "()V" } : Jvm.MethodName) prog_1_method_1_code (1 : Nat) (Option.none : Option Jvm.ClassFile.FieldType)) ∈ pq_W := pq_in 20 (by decide +kernel) (by decide +kernel)
theorem ww_21 : (Jvm.Cond.methodLink "PatternColumns" (3 : Nat) ({ cls := "java/lang/Object", name := "<init>", desc := "()V" } : Jvm.MethodName)) ∈ pq_W := pq_in 21 (by decide +kernel) (by decide +kernel)
theorem ww_22 : (Jvm.Cond.instanceMethod ({ cls := "java/lang/Object", name := "<init>", desc := "()V" } : Jvm.MethodName)) ∈ pq_W := pq_in 22 (by decide +kernel) (by decide +kernel)
theorem ww_23 : (Jvm.Cond.code ({ cls := "java/lang/Object", name := "<init>", desc := "()V" } : Jvm.MethodName) object_method_1_code (1 : Nat) (Option.none : Option Jvm.ClassFile.FieldType)) ∈ pq_W := pq_in 23 (by decide +kernel) (by decide +kernel)
theorem ww_24 : (Jvm.Cond.classLink "PatternColumns" (9 : Nat) "PatternColumns$Slabs") ∈ pq_W := pq_in 24 (by decide +kernel) (by decide +kernel)
theorem ww_25 : (Jvm.Cond.instantiable "PatternColumns$Slabs" (5 : Nat)) ∈ pq_W := pq_in 25 (by decide +kernel) (by decide +kernel)
theorem ww_26 : (Jvm.Cond.methodLink "PatternColumns" (11 : Nat) ({ cls := "PatternColumns$Slabs", name := "<init>", desc := "()V" } : Jvm.MethodName)) ∈ pq_W := pq_in 26 (by decide +kernel) (by decide +kernel)
theorem ww_27 : (Jvm.Cond.instanceMethod ({ cls := "PatternColumns$Slabs", name := "<init>", desc := "()V" } : Jvm.MethodName)) ∈ pq_W := pq_in 27 (by decide +kernel) (by decide +kernel)
theorem ww_28 : (Jvm.Cond.code ({ cls := "PatternColumns$Slabs", name := "<init>", desc := "()V" } : Jvm.MethodName) prog_4_method_1_code (1 : Nat) (Option.none : Option Jvm.ClassFile.FieldType)) ∈ pq_W := pq_in 28 (by decide +kernel) (by decide +kernel)
theorem ww_29 : (Jvm.Cond.methodLink "PatternColumns$Slabs" (3 : Nat) ({ cls := "java/lang/Object", name := "<init>", desc := "()V" } : Jvm.MethodName)) ∈ pq_W := pq_in 29 (by decide +kernel) (by decide +kernel)
theorem ww_30 : (Jvm.Cond.fieldLink "PatternColumns$Slabs" (9 : Nat) "PatternColumns$Slabs" "sheetWidth" "I") ∈ pq_W := pq_in 30 (by decide +kernel) (by decide +kernel)
theorem ww_31 : (Jvm.Cond.fieldLink "PatternColumns" (46 : Nat) "PatternColumns$Slabs" "sheetWidth" "I") ∈ pq_W := pq_in 31 (by decide +kernel) (by decide +kernel)
theorem ww_32 : (Jvm.Cond.fieldLink "PatternColumns$Slabs" (25 : Nat) "PatternColumns$Slabs" "count" "I") ∈ pq_W := pq_in 32 (by decide +kernel) (by decide +kernel)
theorem ww_33 : (Jvm.Cond.fieldLink "PatternColumns" (53 : Nat) "PatternColumns$Slabs" "count" "I") ∈ pq_W := pq_in 33 (by decide +kernel) (by decide +kernel)
theorem ww_34 : (Jvm.Cond.fieldLink "PatternColumns$Designing" (90 : Nat) "PatternColumns$Slabs" "count" "I") ∈ pq_W := pq_in 34 (by decide +kernel) (by decide +kernel)
theorem ww_35 : (Jvm.Cond.fieldLink "PatternColumns$DearestPattern" (50 : Nat) "PatternColumns$Slabs" "count" "I") ∈ pq_W := pq_in 35 (by decide +kernel) (by decide +kernel)
theorem ww_36 : (Jvm.Cond.fieldLink "PatternColumns$Slabs" (15 : Nat) "PatternColumns$Slabs" "widths" "[I") ∈ pq_W := pq_in 36 (by decide +kernel) (by decide +kernel)
theorem ww_37 : (Jvm.Cond.fieldLink "PatternColumns$Slabs" (19 : Nat) "PatternColumns$Slabs" "numbers" "[I") ∈ pq_W := pq_in 37 (by decide +kernel) (by decide +kernel)
theorem ww_38 : (Jvm.Cond.fieldLink "PatternColumns$Designing" (44 : Nat) "PatternColumns$Slabs" "numbers" "[I") ∈ pq_W := pq_in 38 (by decide +kernel) (by decide +kernel)
theorem ww_39 : (Jvm.Cond.fieldLink "PatternColumns" (78 : Nat) "PatternColumns$Slabs" "numbers" "[I") ∈ pq_W := pq_in 39 (by decide +kernel) (by decide +kernel)
theorem ww_40 : (Jvm.Cond.fieldLink "PatternColumns$DearestPattern" (33 : Nat) "PatternColumns$Slabs" "numbers" "[I") ∈ pq_W := pq_in 40 (by decide +kernel) (by decide +kernel)
theorem ww_41 : (Jvm.Cond.fieldLink "PatternColumns$Slabs" (22 : Nat) "PatternColumns$Slabs" "prices" "[I") ∈ pq_W := pq_in 41 (by decide +kernel) (by decide +kernel)
theorem ww_42 : (Jvm.Cond.fieldLink "PatternColumns" (84 : Nat) "PatternColumns$Slabs" "prices" "[I") ∈ pq_W := pq_in 42 (by decide +kernel) (by decide +kernel)
theorem ww_43 : (Jvm.Cond.lays "PatternColumns$Slabs" "PatternColumns$Slabs" "sheetWidth" "I") ∈ pq_W := pq_in 43 (by decide +kernel) (by decide +kernel)
theorem ww_45 : (Jvm.Cond.lays "PatternColumns$Slabs" "PatternColumns$Slabs" "count" "I") ∈ pq_W := pq_in 45 (by decide +kernel) (by decide +kernel)
theorem ww_47 : (Jvm.Cond.laysFinal "PatternColumns$Slabs" "PatternColumns$Slabs" "widths" "[I") ∈ pq_W := pq_in 47 (by decide +kernel) (by decide +kernel)
theorem ww_49 : (Jvm.Cond.laysFinal "PatternColumns$Slabs" "PatternColumns$Slabs" "numbers" "[I") ∈ pq_W := pq_in 49 (by decide +kernel) (by decide +kernel)
theorem ww_51 : (Jvm.Cond.laysFinal "PatternColumns$Slabs" "PatternColumns$Slabs" "prices" "[I") ∈ pq_W := pq_in 51 (by decide +kernel) (by decide +kernel)
theorem ww_54 : (Jvm.Cond.arrayClass Jvm.ClassFile.FieldType.int) ∈ pq_W := pq_in 54 (by decide +kernel) (by decide +kernel)
theorem ww_55 : (Jvm.Cond.classLink "PatternColumns" (16 : Nat) "PatternColumns$DearestPattern") ∈ pq_W := pq_in 55 (by decide +kernel) (by decide +kernel)
theorem ww_56 : (Jvm.Cond.instantiable "PatternColumns$DearestPattern" (5 : Nat)) ∈ pq_W := pq_in 56 (by decide +kernel) (by decide +kernel)
theorem ww_57 : (Jvm.Cond.methodLink "PatternColumns" (18 : Nat) ({ cls := "PatternColumns$DearestPattern", name := "<init>", desc := "(LPatternColumns$Slabs;)V" } : Jvm.MethodName)) ∈ pq_W := pq_in 57 (by decide +kernel) (by decide +kernel)
theorem ww_58 : (Jvm.Cond.instanceMethod ({ cls := "PatternColumns$DearestPattern", name := "<init>", desc := "(LPatternColumns$Slabs;)V" } : Jvm.MethodName)) ∈ pq_W := pq_in 58 (by decide +kernel) (by decide +kernel)
theorem ww_59 : (Jvm.Cond.code ({ cls := "PatternColumns$DearestPattern", name := "<init>", desc := "(LPatternColumns$Slabs;)V" } : Jvm.MethodName) prog_2_method_1_code (2 : Nat) (Option.none : Option Jvm.ClassFile.FieldType)) ∈ pq_W := pq_in 59 (by decide +kernel) (by decide +kernel)
theorem ww_60 : (Jvm.Cond.methodLink "PatternColumns$DearestPattern" (3 : Nat) ({ cls := "java/lang/Object", name := "<init>", desc := "()V" } : Jvm.MethodName)) ∈ pq_W := pq_in 60 (by decide +kernel) (by decide +kernel)
theorem ww_61 : (Jvm.Cond.fieldLink "PatternColumns$DearestPattern" (9 : Nat) "PatternColumns$DearestPattern" "slabs" "LPatternColumns$Slabs;") ∈ pq_W := pq_in 61 (by decide +kernel) (by decide +kernel)
theorem ww_62 : (Jvm.Cond.fieldLink "PatternColumns$DearestPattern" (15 : Nat) "PatternColumns$DearestPattern" "pattern" "[I") ∈ pq_W := pq_in 62 (by decide +kernel) (by decide +kernel)
theorem ww_63 : (Jvm.Cond.fieldLink "PatternColumns$DearestPattern" (19 : Nat) "PatternColumns$DearestPattern" "tried" "[I") ∈ pq_W := pq_in 63 (by decide +kernel) (by decide +kernel)
theorem ww_64 : (Jvm.Cond.fieldLink "PatternColumns$DearestPattern" (29 : Nat) "PatternColumns$DearestPattern" "sum" "I") ∈ pq_W := pq_in 64 (by decide +kernel) (by decide +kernel)
theorem ww_65 : (Jvm.Cond.fieldLink "PatternColumns$DearestPattern" (22 : Nat) "PatternColumns$DearestPattern" "known" "Z") ∈ pq_W := pq_in 65 (by decide +kernel) (by decide +kernel)
theorem ww_66 : (Jvm.Cond.laysFinal "PatternColumns$DearestPattern" "PatternColumns$DearestPattern" "slabs" "LPatternColumns$Slabs;") ∈ pq_W := pq_in 66 (by decide +kernel) (by decide +kernel)
theorem ww_68 : (Jvm.Cond.laysFinal "PatternColumns$DearestPattern" "PatternColumns$DearestPattern" "pattern" "[I") ∈ pq_W := pq_in 68 (by decide +kernel) (by decide +kernel)
theorem ww_70 : (Jvm.Cond.laysFinal "PatternColumns$DearestPattern" "PatternColumns$DearestPattern" "tried" "[I") ∈ pq_W := pq_in 70 (by decide +kernel) (by decide +kernel)
theorem ww_72 : (Jvm.Cond.lays "PatternColumns$DearestPattern" "PatternColumns$DearestPattern" "sum" "I") ∈ pq_W := pq_in 72 (by decide +kernel) (by decide +kernel)
theorem ww_74 : (Jvm.Cond.lays "PatternColumns$DearestPattern" "PatternColumns$DearestPattern" "known" "Z") ∈ pq_W := pq_in 74 (by decide +kernel) (by decide +kernel)
theorem ww_77 : (Jvm.Cond.classLink "PatternColumns" (25 : Nat) "PatternColumns$Designing") ∈ pq_W := pq_in 77 (by decide +kernel) (by decide +kernel)
theorem ww_78 : (Jvm.Cond.instantiable "PatternColumns$Designing" (9 : Nat)) ∈ pq_W := pq_in 78 (by decide +kernel) (by decide +kernel)
theorem ww_79 : (Jvm.Cond.methodLink "PatternColumns" (27 : Nat) ({ cls := "PatternColumns$Designing", name := "<init>", desc := "(LPatternColumns$Slabs;)V" } : Jvm.MethodName)) ∈ pq_W := pq_in 79 (by decide +kernel) (by decide +kernel)
theorem ww_80 : (Jvm.Cond.instanceMethod ({ cls := "PatternColumns$Designing", name := "<init>", desc := "(LPatternColumns$Slabs;)V" } : Jvm.MethodName)) ∈ pq_W := pq_in 80 (by decide +kernel) (by decide +kernel)
theorem ww_81 : (Jvm.Cond.code ({ cls := "PatternColumns$Designing", name := "<init>", desc := "(LPatternColumns$Slabs;)V" } : Jvm.MethodName) prog_3_method_1_code (2 : Nat) (Option.none : Option Jvm.ClassFile.FieldType)) ∈ pq_W := pq_in 81 (by decide +kernel) (by decide +kernel)
theorem ww_82 : (Jvm.Cond.methodLink "PatternColumns$Designing" (3 : Nat) ({ cls := "java/lang/Object", name := "<init>", desc := "()V" } : Jvm.MethodName)) ∈ pq_W := pq_in 82 (by decide +kernel) (by decide +kernel)
theorem ww_83 : (Jvm.Cond.classLink "PatternColumns$Designing" (19 : Nat) "[[I") ∈ pq_W := pq_in 83 (by decide +kernel) (by decide +kernel)
theorem ww_85 : (Jvm.Cond.fieldLink "PatternColumns$Designing" (9 : Nat) "PatternColumns$Designing" "slabs" "LPatternColumns$Slabs;") ∈ pq_W := pq_in 85 (by decide +kernel) (by decide +kernel)
theorem ww_86 : (Jvm.Cond.fieldLink "PatternColumns$Designing" (15 : Nat) "PatternColumns$Designing" "left" "[I") ∈ pq_W := pq_in 86 (by decide +kernel) (by decide +kernel)
theorem ww_87 : (Jvm.Cond.fieldLink "PatternColumns$Designing" (59 : Nat) "PatternColumns$Designing" "leftWidth" "I") ∈ pq_W := pq_in 87 (by decide +kernel) (by decide +kernel)
theorem ww_88 : (Jvm.Cond.fieldLink "PatternColumns$Designing" (21 : Nat) "PatternColumns$Designing" "tried" "[[I") ∈ pq_W := pq_in 88 (by decide +kernel) (by decide +kernel)
theorem ww_89 : (Jvm.Cond.fieldLink "PatternColumns$Designing" (24 : Nat) "PatternColumns$Designing" "best" "[[I") ∈ pq_W := pq_in 89 (by decide +kernel) (by decide +kernel)
theorem ww_90 : (Jvm.Cond.fieldLink "PatternColumns" (151 : Nat) "PatternColumns$Designing" "best" "[[I") ∈ pq_W := pq_in 90 (by decide +kernel) (by decide +kernel)
theorem ww_91 : (Jvm.Cond.fieldLink "PatternColumns$Designing" (27 : Nat) "PatternColumns$Designing" "bestSheets" "I") ∈ pq_W := pq_in 91 (by decide +kernel) (by decide +kernel)
theorem ww_92 : (Jvm.Cond.fieldLink "PatternColumns" (117 : Nat) "PatternColumns$Designing" "bestSheets" "I") ∈ pq_W := pq_in 92 (by decide +kernel) (by decide +kernel)
theorem ww_93 : (Jvm.Cond.fieldLink "PatternColumns$Designing" (31 : Nat) "PatternColumns$Designing" "hasRun" "Z") ∈ pq_W := pq_in 93 (by decide +kernel) (by decide +kernel)
theorem ww_94 : (Jvm.Cond.fieldLink "PatternColumns" (122 : Nat) "PatternColumns$Designing" "hasRun" "Z") ∈ pq_W := pq_in 94 (by decide +kernel) (by decide +kernel)
theorem ww_95 : (Jvm.Cond.fieldLink "PatternColumns$Designing" (35 : Nat) "PatternColumns$Designing" "spent" "Z") ∈ pq_W := pq_in 95 (by decide +kernel) (by decide +kernel)
theorem ww_96 : (Jvm.Cond.fieldLink "PatternColumns" (128 : Nat) "PatternColumns$Designing" "spent" "Z") ∈ pq_W := pq_in 96 (by decide +kernel) (by decide +kernel)
theorem ww_97 : (Jvm.Cond.fieldLink "PatternColumns$Designing" (38 : Nat) "PatternColumns$Designing" "steps" "I") ∈ pq_W := pq_in 97 (by decide +kernel) (by decide +kernel)
theorem ww_98 : (Jvm.Cond.fieldLink "PatternColumns" (131 : Nat) "PatternColumns$Designing" "steps" "I") ∈ pq_W := pq_in 98 (by decide +kernel) (by decide +kernel)
theorem ww_99 : (Jvm.Cond.laysFinal "PatternColumns$Designing" "PatternColumns$Designing" "slabs" "LPatternColumns$Slabs;") ∈ pq_W := pq_in 99 (by decide +kernel) (by decide +kernel)
theorem ww_101 : (Jvm.Cond.laysFinal "PatternColumns$Designing" "PatternColumns$Designing" "left" "[I") ∈ pq_W := pq_in 101 (by decide +kernel) (by decide +kernel)
theorem ww_103 : (Jvm.Cond.lays "PatternColumns$Designing" "PatternColumns$Designing" "leftWidth" "I") ∈ pq_W := pq_in 103 (by decide +kernel) (by decide +kernel)
theorem ww_105 : (Jvm.Cond.laysFinal "PatternColumns$Designing" "PatternColumns$Designing" "tried" "[[I") ∈ pq_W := pq_in 105 (by decide +kernel) (by decide +kernel)
theorem ww_107 : (Jvm.Cond.laysFinal "PatternColumns$Designing" "PatternColumns$Designing" "best" "[[I") ∈ pq_W := pq_in 107 (by decide +kernel) (by decide +kernel)
theorem ww_109 : (Jvm.Cond.lays "PatternColumns$Designing" "PatternColumns$Designing" "bestSheets" "I") ∈ pq_W := pq_in 109 (by decide +kernel) (by decide +kernel)
theorem ww_111 : (Jvm.Cond.lays "PatternColumns$Designing" "PatternColumns$Designing" "hasRun" "Z") ∈ pq_W := pq_in 111 (by decide +kernel) (by decide +kernel)
theorem ww_113 : (Jvm.Cond.lays "PatternColumns$Designing" "PatternColumns$Designing" "spent" "Z") ∈ pq_W := pq_in 113 (by decide +kernel) (by decide +kernel)
theorem ww_115 : (Jvm.Cond.lays "PatternColumns$Designing" "PatternColumns$Designing" "steps" "I") ∈ pq_W := pq_in 115 (by decide +kernel) (by decide +kernel)
theorem ww_118 : (Jvm.Cond.classLink "PatternColumns" (32 : Nat) "PatternColumns$Store") ∈ pq_W := pq_in 118 (by decide +kernel) (by decide +kernel)
theorem ww_119 : (Jvm.Cond.instantiable "PatternColumns$Store" (4 : Nat)) ∈ pq_W := pq_in 119 (by decide +kernel) (by decide +kernel)
theorem ww_120 : (Jvm.Cond.methodLink "PatternColumns" (34 : Nat) ({ cls := "PatternColumns$Store", name := "<init>", desc := "()V" } : Jvm.MethodName)) ∈ pq_W := pq_in 120 (by decide +kernel) (by decide +kernel)
theorem ww_121 : (Jvm.Cond.instanceMethod ({ cls := "PatternColumns$Store", name := "<init>", desc := "()V" } : Jvm.MethodName)) ∈ pq_W := pq_in 121 (by decide +kernel) (by decide +kernel)
theorem ww_122 : (Jvm.Cond.code ({ cls := "PatternColumns$Store", name := "<init>", desc := "()V" } : Jvm.MethodName) prog_5_method_1_code (1 : Nat) (Option.none : Option Jvm.ClassFile.FieldType)) ∈ pq_W := pq_in 122 (by decide +kernel) (by decide +kernel)
theorem ww_123 : (Jvm.Cond.methodLink "PatternColumns$Store" (3 : Nat) ({ cls := "java/lang/Object", name := "<init>", desc := "()V" } : Jvm.MethodName)) ∈ pq_W := pq_in 123 (by decide +kernel) (by decide +kernel)
theorem ww_124 : (Jvm.Cond.classLink "PatternColumns$Store" (9 : Nat) "[[I") ∈ pq_W := pq_in 124 (by decide +kernel) (by decide +kernel)
theorem ww_125 : (Jvm.Cond.fieldLink "PatternColumns$Store" (23 : Nat) "PatternColumns$Store" "count" "I") ∈ pq_W := pq_in 125 (by decide +kernel) (by decide +kernel)
theorem ww_126 : (Jvm.Cond.fieldLink "PatternColumns" (168 : Nat) "PatternColumns$Store" "count" "I") ∈ pq_W := pq_in 126 (by decide +kernel) (by decide +kernel)
theorem ww_127 : (Jvm.Cond.fieldLink "PatternColumns$Store" (11 : Nat) "PatternColumns$Store" "patterns" "[[I") ∈ pq_W := pq_in 127 (by decide +kernel) (by decide +kernel)
theorem ww_128 : (Jvm.Cond.fieldLink "PatternColumns" (182 : Nat) "PatternColumns$Store" "patterns" "[[I") ∈ pq_W := pq_in 128 (by decide +kernel) (by decide +kernel)
theorem ww_129 : (Jvm.Cond.fieldLink "PatternColumns$Store" (16 : Nat) "PatternColumns$Store" "times" "[I") ∈ pq_W := pq_in 129 (by decide +kernel) (by decide +kernel)
theorem ww_130 : (Jvm.Cond.fieldLink "PatternColumns" (179 : Nat) "PatternColumns$Store" "times" "[I") ∈ pq_W := pq_in 130 (by decide +kernel) (by decide +kernel)
theorem ww_131 : (Jvm.Cond.fieldLink "PatternColumns$Store" (20 : Nat) "PatternColumns$Store" "days" "[I") ∈ pq_W := pq_in 131 (by decide +kernel) (by decide +kernel)
theorem ww_132 : (Jvm.Cond.fieldLink "PatternColumns" (176 : Nat) "PatternColumns$Store" "days" "[I") ∈ pq_W := pq_in 132 (by decide +kernel) (by decide +kernel)
theorem ww_133 : (Jvm.Cond.lays "PatternColumns$Store" "PatternColumns$Store" "count" "I") ∈ pq_W := pq_in 133 (by decide +kernel) (by decide +kernel)
theorem ww_135 : (Jvm.Cond.laysFinal "PatternColumns$Store" "PatternColumns$Store" "patterns" "[[I") ∈ pq_W := pq_in 135 (by decide +kernel) (by decide +kernel)
theorem ww_137 : (Jvm.Cond.laysFinal "PatternColumns$Store" "PatternColumns$Store" "times" "[I") ∈ pq_W := pq_in 137 (by decide +kernel) (by decide +kernel)
theorem ww_139 : (Jvm.Cond.laysFinal "PatternColumns$Store" "PatternColumns$Store" "days" "[I") ∈ pq_W := pq_in 139 (by decide +kernel) (by decide +kernel)
theorem ww_142 : (Jvm.Cond.fieldLink "PatternColumns" (12 : Nat) "PatternColumns" "slabs" "LPatternColumns$Slabs;") ∈ pq_W := pq_in 142 (by decide +kernel) (by decide +kernel)
theorem ww_143 : (Jvm.Cond.fieldLink "PatternColumns" (21 : Nat) "PatternColumns" "dearest" "LPatternColumns$DearestPattern;") ∈ pq_W := pq_in 143 (by decide +kernel) (by decide +kernel)
theorem ww_144 : (Jvm.Cond.fieldLink "PatternColumns" (28 : Nat) "PatternColumns" "designing" "LPatternColumns$Designing;") ∈ pq_W := pq_in 144 (by decide +kernel) (by decide +kernel)
theorem ww_145 : (Jvm.Cond.fieldLink "PatternColumns" (35 : Nat) "PatternColumns" "store" "LPatternColumns$Store;") ∈ pq_W := pq_in 145 (by decide +kernel) (by decide +kernel)
theorem ww_146 : (Jvm.Cond.laysFinal "PatternColumns" "PatternColumns" "slabs" "LPatternColumns$Slabs;") ∈ pq_W := pq_in 146 (by decide +kernel) (by decide +kernel)
theorem ww_148 : (Jvm.Cond.laysFinal "PatternColumns" "PatternColumns" "dearest" "LPatternColumns$DearestPattern;") ∈ pq_W := pq_in 148 (by decide +kernel) (by decide +kernel)
theorem ww_150 : (Jvm.Cond.laysFinal "PatternColumns" "PatternColumns" "designing" "LPatternColumns$Designing;") ∈ pq_W := pq_in 150 (by decide +kernel) (by decide +kernel)
theorem ww_152 : (Jvm.Cond.laysFinal "PatternColumns" "PatternColumns" "store" "LPatternColumns$Store;") ∈ pq_W := pq_in 152 (by decide +kernel) (by decide +kernel)
theorem ww_155 : (Jvm.Cond.methodLink "PatternColumnsLaw" (85 : Nat) ({ cls := "PatternColumns", name := "column", desc := "()I" } : Jvm.MethodName)) ∈ pq_W := pq_in 155 (by decide +kernel) (by decide +kernel)
theorem ww_156 : (Jvm.Cond.instanceMethod ({ cls := "PatternColumns", name := "column", desc := "()I" } : Jvm.MethodName)) ∈ pq_W := pq_in 156 (by decide +kernel) (by decide +kernel)
theorem ww_157 : (Jvm.Cond.selects "PatternColumns" ({ cls := "PatternColumns", name := "column", desc := "()I" } : Jvm.MethodName) ({ cls := "PatternColumns", name := "column", desc := "()I" } : Jvm.MethodName)) ∈ pq_W := pq_in 157 (by decide +kernel) (by decide +kernel)
theorem ww_158 : (Jvm.Cond.code ({ cls := "PatternColumns", name := "column", desc := "()I" } : Jvm.MethodName) prog_1_method_6_code (1 : Nat) (Option.some Jvm.ClassFile.FieldType.int)) ∈ pq_W := pq_in 158 (by decide +kernel) (by decide +kernel)
theorem ww_159 : (Jvm.Cond.methodLink "PatternColumns" (90 : Nat) ({ cls := "PatternColumns$DearestPattern", name := "priceSum", desc := "()I" } : Jvm.MethodName)) ∈ pq_W := pq_in 159 (by decide +kernel) (by decide +kernel)
theorem ww_160 : (Jvm.Cond.instanceMethod ({ cls := "PatternColumns$DearestPattern", name := "priceSum", desc := "()I" } : Jvm.MethodName)) ∈ pq_W := pq_in 160 (by decide +kernel) (by decide +kernel)
theorem ww_161 : (Jvm.Cond.selects "PatternColumns$DearestPattern" ({ cls := "PatternColumns$DearestPattern", name := "priceSum", desc := "()I" } : Jvm.MethodName) ({ cls := "PatternColumns$DearestPattern", name := "priceSum", desc := "()I" } : Jvm.MethodName)) ∈ pq_W := pq_in 161 (by decide +kernel) (by decide +kernel)
theorem ww_162 : (Jvm.Cond.code ({ cls := "PatternColumns$DearestPattern", name := "priceSum", desc := "()I" } : Jvm.MethodName) prog_2_method_3_code (1 : Nat) (Option.some Jvm.ClassFile.FieldType.int)) ∈ pq_W := pq_in 162 (by decide +kernel) (by decide +kernel)
theorem ww_163 : (Jvm.Cond.methodLink "PatternColumns$DearestPattern" (26 : Nat) ({ cls := "PatternColumns$DearestPattern", name := "seek", desc := "()V" } : Jvm.MethodName)) ∈ pq_W := pq_in 163 (by decide +kernel) (by decide +kernel)
theorem ww_165 : (Jvm.Cond.instanceMethod ({ cls := "PatternColumns$DearestPattern", name := "seek", desc := "()V" } : Jvm.MethodName)) ∈ pq_W := pq_in 165 (by decide +kernel) (by decide +kernel)
theorem ww_166 : (Jvm.Cond.code ({ cls := "PatternColumns$DearestPattern", name := "seek", desc := "()V" } : Jvm.MethodName) prog_2_method_5_code (5 : Nat) (Option.none : Option Jvm.ClassFile.FieldType)) ∈ pq_W := pq_in 166 (by decide +kernel) (by decide +kernel)
theorem ww_167 : (Jvm.Cond.methodLink "PatternColumns$DearestPattern" (38 : Nat) ({ cls := "PatternColumns$Slabs", name := "firstPattern", desc := "([I[I)V" } : Jvm.MethodName)) ∈ pq_W := pq_in 167 (by decide +kernel) (by decide +kernel)
theorem ww_168 : (Jvm.Cond.instanceMethod ({ cls := "PatternColumns$Slabs", name := "firstPattern", desc := "([I[I)V" } : Jvm.MethodName)) ∈ pq_W := pq_in 168 (by decide +kernel) (by decide +kernel)
theorem ww_169 : (Jvm.Cond.selects "PatternColumns$Slabs" ({ cls := "PatternColumns$Slabs", name := "firstPattern", desc := "([I[I)V" } : Jvm.MethodName) ({ cls := "PatternColumns$Slabs", name := "firstPattern", desc := "([I[I)V" } : Jvm.MethodName)) ∈ pq_W := pq_in 169 (by decide +kernel) (by decide +kernel)
theorem ww_170 : (Jvm.Cond.code ({ cls := "PatternColumns$Slabs", name := "firstPattern", desc := "([I[I)V" } : Jvm.MethodName) prog_4_method_11_code (3 : Nat) (Option.none : Option Jvm.ClassFile.FieldType)) ∈ pq_W := pq_in 170 (by decide +kernel) (by decide +kernel)
theorem ww_171 : (Jvm.Cond.methodLink "PatternColumns$Slabs" (43 : Nat) ({ cls := "PatternColumns$Slabs", name := "fillFrom", desc := "(I[I[I)V" } : Jvm.MethodName)) ∈ pq_W := pq_in 171 (by decide +kernel) (by decide +kernel)
theorem ww_173 : (Jvm.Cond.instanceMethod ({ cls := "PatternColumns$Slabs", name := "fillFrom", desc := "(I[I[I)V" } : Jvm.MethodName)) ∈ pq_W := pq_in 173 (by decide +kernel) (by decide +kernel)
theorem ww_174 : (Jvm.Cond.code ({ cls := "PatternColumns$Slabs", name := "fillFrom", desc := "(I[I[I)V" } : Jvm.MethodName) prog_4_method_13_code (8 : Nat) (Option.none : Option Jvm.ClassFile.FieldType)) ∈ pq_W := pq_in 174 (by decide +kernel) (by decide +kernel)
theorem ww_175 : (Jvm.Cond.methodLink "PatternColumns$Slabs" (28 : Nat) ({ cls := "PatternColumns$Slabs", name := "widthOfFirst", desc := "([II)I" } : Jvm.MethodName)) ∈ pq_W := pq_in 175 (by decide +kernel) (by decide +kernel)
theorem ww_177 : (Jvm.Cond.instanceMethod ({ cls := "PatternColumns$Slabs", name := "widthOfFirst", desc := "([II)I" } : Jvm.MethodName)) ∈ pq_W := pq_in 177 (by decide +kernel) (by decide +kernel)
theorem ww_178 : (Jvm.Cond.code ({ cls := "PatternColumns$Slabs", name := "widthOfFirst", desc := "([II)I" } : Jvm.MethodName) prog_4_method_14_code (5 : Nat) (Option.some Jvm.ClassFile.FieldType.int)) ∈ pq_W := pq_in 178 (by decide +kernel) (by decide +kernel)
theorem ww_179 : (Jvm.Cond.methodLink "PatternColumns$Slabs" (47 : Nat) ({ cls := "java/lang/Math", name := "min", desc := "(II)I" } : Jvm.MethodName)) ∈ pq_W := pq_in 179 (by decide +kernel) (by decide +kernel)
theorem ww_180 : (Jvm.Cond.static ({ cls := "java/lang/Math", name := "min", desc := "(II)I" } : Jvm.MethodName)) ∈ pq_W := pq_in 180 (by decide +kernel) (by decide +kernel)
theorem ww_181 : (Jvm.Cond.code ({ cls := "java/lang/Math", name := "min", desc := "(II)I" } : Jvm.MethodName) prog_12_method_69_code (2 : Nat) (Option.some Jvm.ClassFile.FieldType.int)) ∈ pq_W := pq_in 181 (by decide +kernel) (by decide +kernel)
theorem ww_182 : (Jvm.Cond.methodLink "PatternColumns$DearestPattern" (42 : Nat) ({ cls := "PatternColumns$Slabs", name := "priceOf", desc := "([I)I" } : Jvm.MethodName)) ∈ pq_W := pq_in 182 (by decide +kernel) (by decide +kernel)
theorem ww_183 : (Jvm.Cond.instanceMethod ({ cls := "PatternColumns$Slabs", name := "priceOf", desc := "([I)I" } : Jvm.MethodName)) ∈ pq_W := pq_in 183 (by decide +kernel) (by decide +kernel)
theorem ww_184 : (Jvm.Cond.selects "PatternColumns$Slabs" ({ cls := "PatternColumns$Slabs", name := "priceOf", desc := "([I)I" } : Jvm.MethodName) ({ cls := "PatternColumns$Slabs", name := "priceOf", desc := "([I)I" } : Jvm.MethodName)) ∈ pq_W := pq_in 184 (by decide +kernel) (by decide +kernel)
theorem ww_185 : (Jvm.Cond.code ({ cls := "PatternColumns$Slabs", name := "priceOf", desc := "([I)I" } : Jvm.MethodName) prog_4_method_6_code (4 : Nat) (Option.some Jvm.ClassFile.FieldType.int)) ∈ pq_W := pq_in 185 (by decide +kernel) (by decide +kernel)
theorem ww_186 : (Jvm.Cond.methodLink "PatternColumns$DearestPattern" (46 : Nat) ({ cls := "PatternColumns$DearestPattern", name := "take", desc := "(I)V" } : Jvm.MethodName)) ∈ pq_W := pq_in 186 (by decide +kernel) (by decide +kernel)
theorem ww_188 : (Jvm.Cond.instanceMethod ({ cls := "PatternColumns$DearestPattern", name := "take", desc := "(I)V" } : Jvm.MethodName)) ∈ pq_W := pq_in 188 (by decide +kernel) (by decide +kernel)
theorem ww_189 : (Jvm.Cond.code ({ cls := "PatternColumns$DearestPattern", name := "take", desc := "(I)V" } : Jvm.MethodName) prog_2_method_6_code (2 : Nat) (Option.none : Option Jvm.ClassFile.FieldType)) ∈ pq_W := pq_in 189 (by decide +kernel) (by decide +kernel)
theorem ww_190 : (Jvm.Cond.methodLink "PatternColumns$DearestPattern" (57 : Nat) ({ cls := "java/lang/System", name := "arraycopy", desc := "(Ljava/lang/Object;ILjava/lang/Object;II)V" } : Jvm.MethodName)) ∈ pq_W := pq_in 190 (by decide +kernel) (by decide +kernel)
theorem ww_191 : (Jvm.Cond.static ({ cls := "java/lang/System", name := "arraycopy", desc := "(Ljava/lang/Object;ILjava/lang/Object;II)V" } : Jvm.MethodName)) ∈ pq_W := pq_in 191 (by decide +kernel) (by decide +kernel)
theorem ww_192 : (Jvm.Cond.native ({ cls := "java/lang/System", name := "arraycopy", desc := "(Ljava/lang/Object;ILjava/lang/Object;II)V" } : Jvm.MethodName)) ∈ pq_W := pq_in 192 (by decide +kernel) (by decide +kernel)
theorem ww_193 : (Jvm.Cond.methodLink "PatternColumns$DearestPattern" (53 : Nat) ({ cls := "PatternColumns$Slabs", name := "nextPattern", desc := "([I[III)Z" } : Jvm.MethodName)) ∈ pq_W := pq_in 193 (by decide +kernel) (by decide +kernel)
theorem ww_194 : (Jvm.Cond.instanceMethod ({ cls := "PatternColumns$Slabs", name := "nextPattern", desc := "([I[III)Z" } : Jvm.MethodName)) ∈ pq_W := pq_in 194 (by decide +kernel) (by decide +kernel)
theorem ww_195 : (Jvm.Cond.selects "PatternColumns$Slabs" ({ cls := "PatternColumns$Slabs", name := "nextPattern", desc := "([I[III)Z" } : Jvm.MethodName) ({ cls := "PatternColumns$Slabs", name := "nextPattern", desc := "([I[III)Z" } : Jvm.MethodName)) ∈ pq_W := pq_in 195 (by decide +kernel) (by decide +kernel)
theorem ww_196 : (Jvm.Cond.code ({ cls := "PatternColumns$Slabs", name := "nextPattern", desc := "([I[III)Z" } : Jvm.MethodName) prog_4_method_12_code (7 : Nat) (Option.some Jvm.ClassFile.FieldType.boolean)) ∈ pq_W := pq_in 196 (by decide +kernel) (by decide +kernel)
theorem ww_197 : (Jvm.Cond.methodLink "PatternColumnsLaw" (93 : Nat) ({ cls := "PatternColumns", name := "bound", desc := "()I" } : Jvm.MethodName)) ∈ pq_W := pq_in 197 (by decide +kernel) (by decide +kernel)
theorem ww_198 : (Jvm.Cond.instanceMethod ({ cls := "PatternColumns", name := "bound", desc := "()I" } : Jvm.MethodName)) ∈ pq_W := pq_in 198 (by decide +kernel) (by decide +kernel)
theorem ww_199 : (Jvm.Cond.selects "PatternColumns" ({ cls := "PatternColumns", name := "bound", desc := "()I" } : Jvm.MethodName) ({ cls := "PatternColumns", name := "bound", desc := "()I" } : Jvm.MethodName)) ∈ pq_W := pq_in 199 (by decide +kernel) (by decide +kernel)
theorem ww_200 : (Jvm.Cond.code ({ cls := "PatternColumns", name := "bound", desc := "()I" } : Jvm.MethodName) prog_1_method_8_code (1 : Nat) (Option.some Jvm.ClassFile.FieldType.int)) ∈ pq_W := pq_in 200 (by decide +kernel) (by decide +kernel)
theorem ww_201 : (Jvm.Cond.methodLink "PatternColumns" (98 : Nat) ({ cls := "PatternColumns", name := "boundByPrices", desc := "()I" } : Jvm.MethodName)) ∈ pq_W := pq_in 201 (by decide +kernel) (by decide +kernel)
theorem ww_203 : (Jvm.Cond.instanceMethod ({ cls := "PatternColumns", name := "boundByPrices", desc := "()I" } : Jvm.MethodName)) ∈ pq_W := pq_in 203 (by decide +kernel) (by decide +kernel)
theorem ww_204 : (Jvm.Cond.code ({ cls := "PatternColumns", name := "boundByPrices", desc := "()I" } : Jvm.MethodName) prog_1_method_18_code (1 : Nat) (Option.some Jvm.ClassFile.FieldType.int)) ∈ pq_W := pq_in 204 (by decide +kernel) (by decide +kernel)
theorem ww_205 : (Jvm.Cond.methodLink "PatternColumns" (192 : Nat) ({ cls := "PatternColumns$Slabs", name := "priceOfAll", desc := "()I" } : Jvm.MethodName)) ∈ pq_W := pq_in 205 (by decide +kernel) (by decide +kernel)
theorem ww_206 : (Jvm.Cond.instanceMethod ({ cls := "PatternColumns$Slabs", name := "priceOfAll", desc := "()I" } : Jvm.MethodName)) ∈ pq_W := pq_in 206 (by decide +kernel) (by decide +kernel)
theorem ww_207 : (Jvm.Cond.selects "PatternColumns$Slabs" ({ cls := "PatternColumns$Slabs", name := "priceOfAll", desc := "()I" } : Jvm.MethodName) ({ cls := "PatternColumns$Slabs", name := "priceOfAll", desc := "()I" } : Jvm.MethodName)) ∈ pq_W := pq_in 207 (by decide +kernel) (by decide +kernel)
theorem ww_208 : (Jvm.Cond.code ({ cls := "PatternColumns$Slabs", name := "priceOfAll", desc := "()I" } : Jvm.MethodName) prog_4_method_7_code (1 : Nat) (Option.some Jvm.ClassFile.FieldType.int)) ∈ pq_W := pq_in 208 (by decide +kernel) (by decide +kernel)
theorem ww_209 : (Jvm.Cond.methodLink "PatternColumns$Slabs" (32 : Nat) ({ cls := "PatternColumns$Slabs", name := "priceOf", desc := "([I)I" } : Jvm.MethodName)) ∈ pq_W := pq_in 209 (by decide +kernel) (by decide +kernel)
theorem ww_210 : (Jvm.Cond.methodLink "PatternColumns" (195 : Nat) ({ cls := "PatternColumns", name := "roundedUp", desc := "(II)I" } : Jvm.MethodName)) ∈ pq_W := pq_in 210 (by decide +kernel) (by decide +kernel)
theorem ww_211 : (Jvm.Cond.static ({ cls := "PatternColumns", name := "roundedUp", desc := "(II)I" } : Jvm.MethodName)) ∈ pq_W := pq_in 211 (by decide +kernel) (by decide +kernel)
theorem ww_212 : (Jvm.Cond.code ({ cls := "PatternColumns", name := "roundedUp", desc := "(II)I" } : Jvm.MethodName) prog_1_method_21_code (2 : Nat) (Option.some Jvm.ClassFile.FieldType.int)) ∈ pq_W := pq_in 212 (by decide +kernel) (by decide +kernel)
theorem ww_213 : (Jvm.Cond.methodLink "PatternColumnsLaw" (65 : Nat) ({ cls := "PatternColumnsLaw", name := "sheet", desc := "(LPatternColumns;I)I" } : Jvm.MethodName)) ∈ pq_W := pq_in 213 (by decide +kernel) (by decide +kernel)
theorem ww_214 : (Jvm.Cond.static ({ cls := "PatternColumnsLaw", name := "sheet", desc := "(LPatternColumns;I)I" } : Jvm.MethodName)) ∈ pq_W := pq_in 214 (by decide +kernel) (by decide +kernel)
theorem ww_215 : (Jvm.Cond.codeWith ({ cls := "PatternColumnsLaw", name := "sheet", desc := "(LPatternColumns;I)I" } : Jvm.MethodName) method_3_code (3 : Nat) (Option.some Jvm.ClassFile.FieldType.int) [((0 : Nat), (5 : Nat), (8 : Nat), (13 : Nat))]) ∈ pq_W := pq_in 215 (by decide +kernel) (by decide +kernel)
theorem ww_216 : (Jvm.Cond.classLink "PatternColumnsLaw" (13 : Nat) "java/lang/IllegalArgumentException") ∈ pq_W := pq_in 216 (by decide +kernel) (by decide +kernel)
theorem ww_217 : (Jvm.Cond.methodLink "PatternColumnsLaw" (7 : Nat) ({ cls := "PatternColumns", name := "sheet", desc := "(I)V" } : Jvm.MethodName)) ∈ pq_W := pq_in 217 (by decide +kernel) (by decide +kernel)
theorem ww_218 : (Jvm.Cond.instanceMethod ({ cls := "PatternColumns", name := "sheet", desc := "(I)V" } : Jvm.MethodName)) ∈ pq_W := pq_in 218 (by decide +kernel) (by decide +kernel)
theorem ww_219 : (Jvm.Cond.selects "PatternColumns" ({ cls := "PatternColumns", name := "sheet", desc := "(I)V" } : Jvm.MethodName) ({ cls := "PatternColumns", name := "sheet", desc := "(I)V" } : Jvm.MethodName)) ∈ pq_W := pq_in 219 (by decide +kernel) (by decide +kernel)
theorem ww_220 : (Jvm.Cond.code ({ cls := "PatternColumns", name := "sheet", desc := "(I)V" } : Jvm.MethodName) prog_1_method_2_code (2 : Nat) (Option.none : Option Jvm.ClassFile.FieldType)) ∈ pq_W := pq_in 220 (by decide +kernel) (by decide +kernel)
theorem ww_221 : (Jvm.Cond.classLink "PatternColumns" (39 : Nat) "java/lang/IllegalArgumentException") ∈ pq_W := pq_in 221 (by decide +kernel) (by decide +kernel)
theorem ww_222 : (Jvm.Cond.instantiable "java/lang/IllegalArgumentException" (6 : Nat)) ∈ pq_W := pq_in 222 (by decide +kernel) (by decide +kernel)
theorem ww_230 : (Jvm.Cond.selects "java/lang/IllegalArgumentException" ({ cls := "java/lang/Throwable", name := "fillInStackTrace", desc := "(I)Ljava/lang/Throwable;" } : Jvm.MethodName) ({ cls := "java/lang/Throwable", name := "fillInStackTrace", desc := "(I)Ljava/lang/Throwable;" } : Jvm.MethodName)) ∈ pq_W := pq_in 230 (by decide +kernel) (by decide +kernel)
theorem ww_231 : (Jvm.Cond.selects "java/lang/IllegalArgumentException" ({ cls := "java/lang/Throwable", name := "fillInStackTrace", desc := "()Ljava/lang/Throwable;" } : Jvm.MethodName) ({ cls := "java/lang/Throwable", name := "fillInStackTrace", desc := "()Ljava/lang/Throwable;" } : Jvm.MethodName)) ∈ pq_W := pq_in 231 (by decide +kernel) (by decide +kernel)
theorem ww_232 : (Jvm.Cond.lays "java/lang/IllegalArgumentException" "java/lang/Throwable" "cause" "Ljava/lang/Throwable;") ∈ pq_W := pq_in 232 (by decide +kernel) (by decide +kernel)
theorem ww_233 : (Jvm.Cond.lays "java/lang/Throwable" "java/lang/Throwable" "cause" "Ljava/lang/Throwable;") ∈ pq_W := pq_in 233 (by decide +kernel) (by decide +kernel)
theorem ww_234 : (Jvm.Cond.lays "java/lang/IllegalArgumentException" "java/lang/Throwable" "stackTrace" "[Ljava/lang/StackTraceElement;") ∈ pq_W := pq_in 234 (by decide +kernel) (by decide +kernel)
theorem ww_235 : (Jvm.Cond.lays "java/lang/Throwable" "java/lang/Throwable" "stackTrace" "[Ljava/lang/StackTraceElement;") ∈ pq_W := pq_in 235 (by decide +kernel) (by decide +kernel)
theorem ww_236 : (Jvm.Cond.lays "java/lang/IllegalArgumentException" "java/lang/Throwable" "suppressedExceptions" "Ljava/util/List;") ∈ pq_W := pq_in 236 (by decide +kernel) (by decide +kernel)
theorem ww_237 : (Jvm.Cond.lays "java/lang/Throwable" "java/lang/Throwable" "suppressedExceptions" "Ljava/util/List;") ∈ pq_W := pq_in 237 (by decide +kernel) (by decide +kernel)
theorem ww_238 : (Jvm.Cond.lays "java/lang/IllegalArgumentException" "java/lang/Throwable" "detailMessage" "Ljava/lang/String;") ∈ pq_W := pq_in 238 (by decide +kernel) (by decide +kernel)
theorem ww_239 : (Jvm.Cond.lays "java/lang/Throwable" "java/lang/Throwable" "detailMessage" "Ljava/lang/String;") ∈ pq_W := pq_in 239 (by decide +kernel) (by decide +kernel)
theorem ww_240 : (Jvm.Cond.lays "java/lang/IllegalArgumentException" "java/lang/Throwable" "backtrace" "Ljava/lang/Object;") ∈ pq_W := pq_in 240 (by decide +kernel) (by decide +kernel)
theorem ww_241 : (Jvm.Cond.lays "java/lang/Throwable" "java/lang/Throwable" "backtrace" "Ljava/lang/Object;") ∈ pq_W := pq_in 241 (by decide +kernel) (by decide +kernel)
theorem ww_242 : (Jvm.Cond.fieldLink "java/lang/Throwable" (198 : Nat) "java/lang/Throwable" "backtrace" "Ljava/lang/Object;") ∈ pq_W := pq_in 242 (by decide +kernel) (by decide +kernel)
theorem ww_244 : (Jvm.Cond.instanceMethod ({ cls := "java/lang/Throwable", name := "<init>", desc := "()V" } : Jvm.MethodName)) ∈ pq_W := pq_in 244 (by decide +kernel) (by decide +kernel)
theorem ww_245 : (Jvm.Cond.code ({ cls := "java/lang/Throwable", name := "<init>", desc := "()V" } : Jvm.MethodName) prog_16_method_1_code (1 : Nat) (Option.none : Option Jvm.ClassFile.FieldType)) ∈ pq_W := pq_in 245 (by decide +kernel) (by decide +kernel)
theorem ww_246 : (Jvm.Cond.methodLink "java/lang/Throwable" (1 : Nat) ({ cls := "java/lang/Object", name := "<init>", desc := "()V" } : Jvm.MethodName)) ∈ pq_W := pq_in 246 (by decide +kernel) (by decide +kernel)
theorem ww_247 : (Jvm.Cond.fieldLink "java/lang/Throwable" (13 : Nat) "java/lang/Throwable" "UNASSIGNED_STACK" "[Ljava/lang/StackTraceElement;") ∈ pq_W := pq_in 247 (by decide +kernel) (by decide +kernel)
theorem ww_249 : (Jvm.Cond.fieldLink "java/lang/Throwable" (20 : Nat) "java/lang/Throwable" "SUPPRESSED_SENTINEL" "Ljava/util/List;") ∈ pq_W := pq_in 249 (by decide +kernel) (by decide +kernel)
theorem ww_251 : (Jvm.Cond.methodLink "java/lang/Throwable" (27 : Nat) ({ cls := "java/lang/Throwable", name := "fillInStackTrace", desc := "()Ljava/lang/Throwable;" } : Jvm.MethodName)) ∈ pq_W := pq_in 251 (by decide +kernel) (by decide +kernel)
theorem ww_252 : (Jvm.Cond.instanceMethod ({ cls := "java/lang/Throwable", name := "fillInStackTrace", desc := "()Ljava/lang/Throwable;" } : Jvm.MethodName)) ∈ pq_W := pq_in 252 (by decide +kernel) (by decide +kernel)
theorem ww_253 : (Jvm.Cond.sameMethod "java/lang/Throwable" "java/lang/Throwable" "fillInStackTrace" "()Ljava/lang/Throwable;") ∈ pq_W := pq_in 253 (by decide +kernel) (by decide +kernel)
theorem ww_254 : (Jvm.Cond.selects "java/lang/IllegalStateException" ({ cls := "java/lang/Throwable", name := "fillInStackTrace", desc := "()Ljava/lang/Throwable;" } : Jvm.MethodName) ({ cls := "java/lang/Throwable", name := "fillInStackTrace", desc := "()Ljava/lang/Throwable;" } : Jvm.MethodName)) ∈ pq_W := pq_in 254 (by decide +kernel) (by decide +kernel)
theorem ww_255 : (Jvm.Cond.selects "java/lang/IndexOutOfBoundsException" ({ cls := "java/lang/Throwable", name := "fillInStackTrace", desc := "()Ljava/lang/Throwable;" } : Jvm.MethodName) ({ cls := "java/lang/Throwable", name := "fillInStackTrace", desc := "()Ljava/lang/Throwable;" } : Jvm.MethodName)) ∈ pq_W := pq_in 255 (by decide +kernel) (by decide +kernel)
theorem ww_256 : (Jvm.Cond.selects "java/lang/UnsupportedOperationException" ({ cls := "java/lang/Throwable", name := "fillInStackTrace", desc := "()Ljava/lang/Throwable;" } : Jvm.MethodName) ({ cls := "java/lang/Throwable", name := "fillInStackTrace", desc := "()Ljava/lang/Throwable;" } : Jvm.MethodName)) ∈ pq_W := pq_in 256 (by decide +kernel) (by decide +kernel)
theorem ww_257 : (Jvm.Cond.codeSync ({ cls := "java/lang/Throwable", name := "fillInStackTrace", desc := "()Ljava/lang/Throwable;" } : Jvm.MethodName) prog_16_method_18_code (1 : Nat) (Option.some (Jvm.ClassFile.FieldType.object "java/lang/Throwable"))) ∈ pq_W := pq_in 257 (by decide +kernel) (by decide +kernel)
theorem ww_258 : (Jvm.Cond.methodLink "java/lang/Throwable" (202 : Nat) ({ cls := "java/lang/Throwable", name := "fillInStackTrace", desc := "(I)Ljava/lang/Throwable;" } : Jvm.MethodName)) ∈ pq_W := pq_in 258 (by decide +kernel) (by decide +kernel)
theorem ww_260 : (Jvm.Cond.instanceMethod ({ cls := "java/lang/Throwable", name := "fillInStackTrace", desc := "(I)Ljava/lang/Throwable;" } : Jvm.MethodName)) ∈ pq_W := pq_in 260 (by decide +kernel) (by decide +kernel)
theorem ww_261 : (Jvm.Cond.instantiable "java/lang/Throwable" (6 : Nat)) ∈ pq_W := pq_in 261 (by decide +kernel) (by decide +kernel)
theorem ww_262 : (Jvm.Cond.native ({ cls := "java/lang/Throwable", name := "fillInStackTrace", desc := "(I)Ljava/lang/Throwable;" } : Jvm.MethodName)) ∈ pq_W := pq_in 262 (by decide +kernel) (by decide +kernel)
theorem ww_264 : (Jvm.Cond.methodLink "PatternColumns" (43 : Nat) ({ cls := "java/lang/IllegalArgumentException", name := "<init>", desc := "(Ljava/lang/String;)V" } : Jvm.MethodName)) ∈ pq_W := pq_in 264 (by decide +kernel) (by decide +kernel)
theorem ww_265 : (Jvm.Cond.instanceMethod ({ cls := "java/lang/IllegalArgumentException", name := "<init>", desc := "(Ljava/lang/String;)V" } : Jvm.MethodName)) ∈ pq_W := pq_in 265 (by decide +kernel) (by decide +kernel)
theorem ww_266 : (Jvm.Cond.code ({ cls := "java/lang/IllegalArgumentException", name := "<init>", desc := "(Ljava/lang/String;)V" } : Jvm.MethodName) prog_9_method_2_code (2 : Nat) (Option.none : Option Jvm.ClassFile.FieldType)) ∈ pq_W := pq_in 266 (by decide +kernel) (by decide +kernel)
theorem ww_267 : (Jvm.Cond.methodLink "java/lang/IllegalArgumentException" (7 : Nat) ({ cls := "java/lang/RuntimeException", name := "<init>", desc := "(Ljava/lang/String;)V" } : Jvm.MethodName)) ∈ pq_W := pq_in 267 (by decide +kernel) (by decide +kernel)
theorem ww_268 : (Jvm.Cond.instanceMethod ({ cls := "java/lang/RuntimeException", name := "<init>", desc := "(Ljava/lang/String;)V" } : Jvm.MethodName)) ∈ pq_W := pq_in 268 (by decide +kernel) (by decide +kernel)
theorem ww_269 : (Jvm.Cond.code ({ cls := "java/lang/RuntimeException", name := "<init>", desc := "(Ljava/lang/String;)V" } : Jvm.MethodName) prog_13_method_2_code (2 : Nat) (Option.none : Option Jvm.ClassFile.FieldType)) ∈ pq_W := pq_in 269 (by decide +kernel) (by decide +kernel)
theorem ww_270 : (Jvm.Cond.methodLink "java/lang/RuntimeException" (7 : Nat) ({ cls := "java/lang/Exception", name := "<init>", desc := "(Ljava/lang/String;)V" } : Jvm.MethodName)) ∈ pq_W := pq_in 270 (by decide +kernel) (by decide +kernel)
theorem ww_271 : (Jvm.Cond.instanceMethod ({ cls := "java/lang/Exception", name := "<init>", desc := "(Ljava/lang/String;)V" } : Jvm.MethodName)) ∈ pq_W := pq_in 271 (by decide +kernel) (by decide +kernel)
theorem ww_272 : (Jvm.Cond.code ({ cls := "java/lang/Exception", name := "<init>", desc := "(Ljava/lang/String;)V" } : Jvm.MethodName) prog_8_method_2_code (2 : Nat) (Option.none : Option Jvm.ClassFile.FieldType)) ∈ pq_W := pq_in 272 (by decide +kernel) (by decide +kernel)
theorem ww_273 : (Jvm.Cond.methodLink "java/lang/Exception" (7 : Nat) ({ cls := "java/lang/Throwable", name := "<init>", desc := "(Ljava/lang/String;)V" } : Jvm.MethodName)) ∈ pq_W := pq_in 273 (by decide +kernel) (by decide +kernel)
theorem ww_274 : (Jvm.Cond.instanceMethod ({ cls := "java/lang/Throwable", name := "<init>", desc := "(Ljava/lang/String;)V" } : Jvm.MethodName)) ∈ pq_W := pq_in 274 (by decide +kernel) (by decide +kernel)
theorem ww_275 : (Jvm.Cond.code ({ cls := "java/lang/Throwable", name := "<init>", desc := "(Ljava/lang/String;)V" } : Jvm.MethodName) prog_16_method_2_code (2 : Nat) (Option.none : Option Jvm.ClassFile.FieldType)) ∈ pq_W := pq_in 275 (by decide +kernel) (by decide +kernel)
theorem ww_276 : (Jvm.Cond.fieldLink "java/lang/Throwable" (198 : Nat) "java/lang/Throwable" "backtrace" "Ljava/lang/Object;") ∈ pq_W := pq_in 276 (by decide +kernel) (by decide +kernel)
theorem ww_277 : (Jvm.Cond.fieldLink "java/lang/Throwable" (31 : Nat) "java/lang/Throwable" "detailMessage" "Ljava/lang/String;") ∈ pq_W := pq_in 277 (by decide +kernel) (by decide +kernel)
theorem ww_278 : (Jvm.Cond.fieldLink "java/lang/Throwable" (7 : Nat) "java/lang/Throwable" "cause" "Ljava/lang/Throwable;") ∈ pq_W := pq_in 278 (by decide +kernel) (by decide +kernel)
theorem ww_279 : (Jvm.Cond.fieldLink "java/lang/Throwable" (17 : Nat) "java/lang/Throwable" "stackTrace" "[Ljava/lang/StackTraceElement;") ∈ pq_W := pq_in 279 (by decide +kernel) (by decide +kernel)
theorem ww_280 : (Jvm.Cond.fieldLink "java/lang/Throwable" (24 : Nat) "java/lang/Throwable" "suppressedExceptions" "Ljava/util/List;") ∈ pq_W := pq_in 280 (by decide +kernel) (by decide +kernel)
theorem ww_285 : (Jvm.Cond.lays "java/lang/IllegalArgumentException" "java/lang/Throwable" "depth" "I") ∈ pq_W := pq_in 285 (by decide +kernel) (by decide +kernel)
theorem ww_289 : (Jvm.Cond.arrayClass Jvm.ClassFile.FieldType.byte) ∈ pq_W := pq_in 289 (by decide +kernel) (by decide +kernel)
theorem ww_290 : (Jvm.Cond.methodLink "PatternColumns" (50 : Nat) ({ cls := "PatternColumns", name := "forgetAnswers", desc := "()V" } : Jvm.MethodName)) ∈ pq_W := pq_in 290 (by decide +kernel) (by decide +kernel)
theorem ww_292 : (Jvm.Cond.instanceMethod ({ cls := "PatternColumns", name := "forgetAnswers", desc := "()V" } : Jvm.MethodName)) ∈ pq_W := pq_in 292 (by decide +kernel) (by decide +kernel)
theorem ww_293 : (Jvm.Cond.code ({ cls := "PatternColumns", name := "forgetAnswers", desc := "()V" } : Jvm.MethodName) prog_1_method_17_code (1 : Nat) (Option.none : Option Jvm.ClassFile.FieldType)) ∈ pq_W := pq_in 293 (by decide +kernel) (by decide +kernel)
theorem ww_294 : (Jvm.Cond.methodLink "PatternColumns" (87 : Nat) ({ cls := "PatternColumns$DearestPattern", name := "forget", desc := "()V" } : Jvm.MethodName)) ∈ pq_W := pq_in 294 (by decide +kernel) (by decide +kernel)
theorem ww_295 : (Jvm.Cond.instanceMethod ({ cls := "PatternColumns$DearestPattern", name := "forget", desc := "()V" } : Jvm.MethodName)) ∈ pq_W := pq_in 295 (by decide +kernel) (by decide +kernel)
theorem ww_296 : (Jvm.Cond.selects "PatternColumns$DearestPattern" ({ cls := "PatternColumns$DearestPattern", name := "forget", desc := "()V" } : Jvm.MethodName) ({ cls := "PatternColumns$DearestPattern", name := "forget", desc := "()V" } : Jvm.MethodName)) ∈ pq_W := pq_in 296 (by decide +kernel) (by decide +kernel)
theorem ww_297 : (Jvm.Cond.code ({ cls := "PatternColumns$DearestPattern", name := "forget", desc := "()V" } : Jvm.MethodName) prog_2_method_2_code (1 : Nat) (Option.none : Option Jvm.ClassFile.FieldType)) ∈ pq_W := pq_in 297 (by decide +kernel) (by decide +kernel)
theorem ww_298 : (Jvm.Cond.methodLink "PatternColumns" (191 : Nat) ({ cls := "PatternColumns$Designing", name := "forget", desc := "()V" } : Jvm.MethodName)) ∈ pq_W := pq_in 298 (by decide +kernel) (by decide +kernel)
theorem ww_299 : (Jvm.Cond.instanceMethod ({ cls := "PatternColumns$Designing", name := "forget", desc := "()V" } : Jvm.MethodName)) ∈ pq_W := pq_in 299 (by decide +kernel) (by decide +kernel)
theorem ww_300 : (Jvm.Cond.selects "PatternColumns$Designing" ({ cls := "PatternColumns$Designing", name := "forget", desc := "()V" } : Jvm.MethodName) ({ cls := "PatternColumns$Designing", name := "forget", desc := "()V" } : Jvm.MethodName)) ∈ pq_W := pq_in 300 (by decide +kernel) (by decide +kernel)
theorem ww_301 : (Jvm.Cond.code ({ cls := "PatternColumns$Designing", name := "forget", desc := "()V" } : Jvm.MethodName) prog_3_method_2_code (1 : Nat) (Option.none : Option Jvm.ClassFile.FieldType)) ∈ pq_W := pq_in 301 (by decide +kernel) (by decide +kernel)
theorem ww_302 : (Jvm.Cond.methodLink "PatternColumnsLaw" (74 : Nat) ({ cls := "PatternColumnsLaw", name := "order", desc := "(LPatternColumns;II[J)I" } : Jvm.MethodName)) ∈ pq_W := pq_in 302 (by decide +kernel) (by decide +kernel)
theorem ww_303 : (Jvm.Cond.static ({ cls := "PatternColumnsLaw", name := "order", desc := "(LPatternColumns;II[J)I" } : Jvm.MethodName)) ∈ pq_W := pq_in 303 (by decide +kernel) (by decide +kernel)
theorem ww_304 : (Jvm.Cond.codeWith ({ cls := "PatternColumnsLaw", name := "order", desc := "(LPatternColumns;II[J)I" } : Jvm.MethodName) method_4_code (5 : Nat) (Option.some Jvm.ClassFile.FieldType.int) [((0 : Nat), (10 : Nat), (13 : Nat), (19 : Nat)), ((0 : Nat), (10 : Nat), (17 : Nat), (13 : Nat))]) ∈ pq_W := pq_in 304 (by decide +kernel) (by decide +kernel)
theorem ww_305 : (Jvm.Cond.classLink "PatternColumnsLaw" (19 : Nat) "java/lang/IllegalStateException") ∈ pq_W := pq_in 305 (by decide +kernel) (by decide +kernel)
theorem ww_306 : (Jvm.Cond.methodLink "PatternColumnsLaw" (15 : Nat) ({ cls := "PatternColumns", name := "order", desc := "(II)I" } : Jvm.MethodName)) ∈ pq_W := pq_in 306 (by decide +kernel) (by decide +kernel)
theorem ww_307 : (Jvm.Cond.instanceMethod ({ cls := "PatternColumns", name := "order", desc := "(II)I" } : Jvm.MethodName)) ∈ pq_W := pq_in 307 (by decide +kernel) (by decide +kernel)
theorem ww_308 : (Jvm.Cond.selects "PatternColumns" ({ cls := "PatternColumns", name := "order", desc := "(II)I" } : Jvm.MethodName) ({ cls := "PatternColumns", name := "order", desc := "(II)I" } : Jvm.MethodName)) ∈ pq_W := pq_in 308 (by decide +kernel) (by decide +kernel)
theorem ww_309 : (Jvm.Cond.code ({ cls := "PatternColumns", name := "order", desc := "(II)I" } : Jvm.MethodName) prog_1_method_3_code (4 : Nat) (Option.some Jvm.ClassFile.FieldType.int)) ∈ pq_W := pq_in 309 (by decide +kernel) (by decide +kernel)
theorem ww_310 : (Jvm.Cond.classLink "PatternColumns" (56 : Nat) "java/lang/IllegalStateException") ∈ pq_W := pq_in 310 (by decide +kernel) (by decide +kernel)
theorem ww_311 : (Jvm.Cond.instantiable "java/lang/IllegalStateException" (6 : Nat)) ∈ pq_W := pq_in 311 (by decide +kernel) (by decide +kernel)
theorem ww_313 : (Jvm.Cond.selects "java/lang/IllegalStateException" ({ cls := "java/lang/Throwable", name := "fillInStackTrace", desc := "(I)Ljava/lang/Throwable;" } : Jvm.MethodName) ({ cls := "java/lang/Throwable", name := "fillInStackTrace", desc := "(I)Ljava/lang/Throwable;" } : Jvm.MethodName)) ∈ pq_W := pq_in 313 (by decide +kernel) (by decide +kernel)
theorem ww_314 : (Jvm.Cond.lays "java/lang/IllegalStateException" "java/lang/Throwable" "cause" "Ljava/lang/Throwable;") ∈ pq_W := pq_in 314 (by decide +kernel) (by decide +kernel)
theorem ww_315 : (Jvm.Cond.lays "java/lang/IllegalStateException" "java/lang/Throwable" "stackTrace" "[Ljava/lang/StackTraceElement;") ∈ pq_W := pq_in 315 (by decide +kernel) (by decide +kernel)
theorem ww_316 : (Jvm.Cond.lays "java/lang/IllegalStateException" "java/lang/Throwable" "suppressedExceptions" "Ljava/util/List;") ∈ pq_W := pq_in 316 (by decide +kernel) (by decide +kernel)
theorem ww_317 : (Jvm.Cond.lays "java/lang/IllegalStateException" "java/lang/Throwable" "detailMessage" "Ljava/lang/String;") ∈ pq_W := pq_in 317 (by decide +kernel) (by decide +kernel)
theorem ww_318 : (Jvm.Cond.lays "java/lang/IllegalStateException" "java/lang/Throwable" "backtrace" "Ljava/lang/Object;") ∈ pq_W := pq_in 318 (by decide +kernel) (by decide +kernel)
theorem ww_320 : (Jvm.Cond.methodLink "PatternColumns" (60 : Nat) ({ cls := "java/lang/IllegalStateException", name := "<init>", desc := "(Ljava/lang/String;)V" } : Jvm.MethodName)) ∈ pq_W := pq_in 320 (by decide +kernel) (by decide +kernel)
theorem ww_321 : (Jvm.Cond.instanceMethod ({ cls := "java/lang/IllegalStateException", name := "<init>", desc := "(Ljava/lang/String;)V" } : Jvm.MethodName)) ∈ pq_W := pq_in 321 (by decide +kernel) (by decide +kernel)
theorem ww_322 : (Jvm.Cond.code ({ cls := "java/lang/IllegalStateException", name := "<init>", desc := "(Ljava/lang/String;)V" } : Jvm.MethodName) prog_10_method_2_code (2 : Nat) (Option.none : Option Jvm.ClassFile.FieldType)) ∈ pq_W := pq_in 322 (by decide +kernel) (by decide +kernel)
theorem ww_323 : (Jvm.Cond.methodLink "java/lang/IllegalStateException" (7 : Nat) ({ cls := "java/lang/RuntimeException", name := "<init>", desc := "(Ljava/lang/String;)V" } : Jvm.MethodName)) ∈ pq_W := pq_in 323 (by decide +kernel) (by decide +kernel)
theorem ww_324 : (Jvm.Cond.lays "java/lang/IllegalStateException" "java/lang/Throwable" "depth" "I") ∈ pq_W := pq_in 324 (by decide +kernel) (by decide +kernel)
theorem ww_328 : (Jvm.Cond.methodLink "PatternColumns" (65 : Nat) ({ cls := "PatternColumns$Slabs", name := "add", desc := "(II)I" } : Jvm.MethodName)) ∈ pq_W := pq_in 328 (by decide +kernel) (by decide +kernel)
theorem ww_329 : (Jvm.Cond.instanceMethod ({ cls := "PatternColumns$Slabs", name := "add", desc := "(II)I" } : Jvm.MethodName)) ∈ pq_W := pq_in 329 (by decide +kernel) (by decide +kernel)
theorem ww_330 : (Jvm.Cond.selects "PatternColumns$Slabs" ({ cls := "PatternColumns$Slabs", name := "add", desc := "(II)I" } : Jvm.MethodName) ({ cls := "PatternColumns$Slabs", name := "add", desc := "(II)I" } : Jvm.MethodName)) ∈ pq_W := pq_in 330 (by decide +kernel) (by decide +kernel)
theorem ww_331 : (Jvm.Cond.code ({ cls := "PatternColumns$Slabs", name := "add", desc := "(II)I" } : Jvm.MethodName) prog_4_method_3_code (4 : Nat) (Option.some Jvm.ClassFile.FieldType.int)) ∈ pq_W := pq_in 331 (by decide +kernel) (by decide +kernel)
theorem ww_332 : (Jvm.Cond.methodLink "PatternColumnsLaw" (78 : Nat) ({ cls := "PatternColumnsLaw", name := "pieces", desc := "(LPatternColumns;II)I" } : Jvm.MethodName)) ∈ pq_W := pq_in 332 (by decide +kernel) (by decide +kernel)
theorem ww_333 : (Jvm.Cond.static ({ cls := "PatternColumnsLaw", name := "pieces", desc := "(LPatternColumns;II)I" } : Jvm.MethodName)) ∈ pq_W := pq_in 333 (by decide +kernel) (by decide +kernel)
theorem ww_334 : (Jvm.Cond.codeWith ({ cls := "PatternColumnsLaw", name := "pieces", desc := "(LPatternColumns;II)I" } : Jvm.MethodName) method_5_code (4 : Nat) (Option.some Jvm.ClassFile.FieldType.int) [((0 : Nat), (6 : Nat), (9 : Nat), (25 : Nat)), ((0 : Nat), (6 : Nat), (12 : Nat), (13 : Nat))]) ∈ pq_W := pq_in 334 (by decide +kernel) (by decide +kernel)
theorem ww_335 : (Jvm.Cond.classLink "PatternColumnsLaw" (25 : Nat) "java/lang/IndexOutOfBoundsException") ∈ pq_W := pq_in 335 (by decide +kernel) (by decide +kernel)
theorem ww_336 : (Jvm.Cond.methodLink "PatternColumnsLaw" (21 : Nat) ({ cls := "PatternColumns", name := "pieces", desc := "(II)V" } : Jvm.MethodName)) ∈ pq_W := pq_in 336 (by decide +kernel) (by decide +kernel)
theorem ww_337 : (Jvm.Cond.instanceMethod ({ cls := "PatternColumns", name := "pieces", desc := "(II)V" } : Jvm.MethodName)) ∈ pq_W := pq_in 337 (by decide +kernel) (by decide +kernel)
theorem ww_338 : (Jvm.Cond.selects "PatternColumns" ({ cls := "PatternColumns", name := "pieces", desc := "(II)V" } : Jvm.MethodName) ({ cls := "PatternColumns", name := "pieces", desc := "(II)V" } : Jvm.MethodName)) ∈ pq_W := pq_in 338 (by decide +kernel) (by decide +kernel)
theorem ww_339 : (Jvm.Cond.code ({ cls := "PatternColumns", name := "pieces", desc := "(II)V" } : Jvm.MethodName) prog_1_method_4_code (3 : Nat) (Option.none : Option Jvm.ClassFile.FieldType)) ∈ pq_W := pq_in 339 (by decide +kernel) (by decide +kernel)
theorem ww_340 : (Jvm.Cond.methodLink "PatternColumns" (69 : Nat) ({ cls := "PatternColumns$Slabs", name := "has", desc := "(I)Z" } : Jvm.MethodName)) ∈ pq_W := pq_in 340 (by decide +kernel) (by decide +kernel)
theorem ww_341 : (Jvm.Cond.instanceMethod ({ cls := "PatternColumns$Slabs", name := "has", desc := "(I)Z" } : Jvm.MethodName)) ∈ pq_W := pq_in 341 (by decide +kernel) (by decide +kernel)
theorem ww_342 : (Jvm.Cond.selects "PatternColumns$Slabs" ({ cls := "PatternColumns$Slabs", name := "has", desc := "(I)Z" } : Jvm.MethodName) ({ cls := "PatternColumns$Slabs", name := "has", desc := "(I)Z" } : Jvm.MethodName)) ∈ pq_W := pq_in 342 (by decide +kernel) (by decide +kernel)
theorem ww_343 : (Jvm.Cond.code ({ cls := "PatternColumns$Slabs", name := "has", desc := "(I)Z" } : Jvm.MethodName) prog_4_method_2_code (2 : Nat) (Option.some Jvm.ClassFile.FieldType.boolean)) ∈ pq_W := pq_in 343 (by decide +kernel) (by decide +kernel)
theorem ww_344 : (Jvm.Cond.classLink "PatternColumns" (73 : Nat) "java/lang/IndexOutOfBoundsException") ∈ pq_W := pq_in 344 (by decide +kernel) (by decide +kernel)
theorem ww_345 : (Jvm.Cond.instantiable "java/lang/IndexOutOfBoundsException" (6 : Nat)) ∈ pq_W := pq_in 345 (by decide +kernel) (by decide +kernel)
theorem ww_347 : (Jvm.Cond.selects "java/lang/IndexOutOfBoundsException" ({ cls := "java/lang/Throwable", name := "fillInStackTrace", desc := "(I)Ljava/lang/Throwable;" } : Jvm.MethodName) ({ cls := "java/lang/Throwable", name := "fillInStackTrace", desc := "(I)Ljava/lang/Throwable;" } : Jvm.MethodName)) ∈ pq_W := pq_in 347 (by decide +kernel) (by decide +kernel)
theorem ww_348 : (Jvm.Cond.lays "java/lang/IndexOutOfBoundsException" "java/lang/Throwable" "cause" "Ljava/lang/Throwable;") ∈ pq_W := pq_in 348 (by decide +kernel) (by decide +kernel)
theorem ww_349 : (Jvm.Cond.lays "java/lang/IndexOutOfBoundsException" "java/lang/Throwable" "stackTrace" "[Ljava/lang/StackTraceElement;") ∈ pq_W := pq_in 349 (by decide +kernel) (by decide +kernel)
theorem ww_350 : (Jvm.Cond.lays "java/lang/IndexOutOfBoundsException" "java/lang/Throwable" "suppressedExceptions" "Ljava/util/List;") ∈ pq_W := pq_in 350 (by decide +kernel) (by decide +kernel)
theorem ww_351 : (Jvm.Cond.lays "java/lang/IndexOutOfBoundsException" "java/lang/Throwable" "detailMessage" "Ljava/lang/String;") ∈ pq_W := pq_in 351 (by decide +kernel) (by decide +kernel)
theorem ww_352 : (Jvm.Cond.lays "java/lang/IndexOutOfBoundsException" "java/lang/Throwable" "backtrace" "Ljava/lang/Object;") ∈ pq_W := pq_in 352 (by decide +kernel) (by decide +kernel)
theorem ww_354 : (Jvm.Cond.methodLink "PatternColumns" (77 : Nat) ({ cls := "java/lang/IndexOutOfBoundsException", name := "<init>", desc := "(Ljava/lang/String;)V" } : Jvm.MethodName)) ∈ pq_W := pq_in 354 (by decide +kernel) (by decide +kernel)
theorem ww_355 : (Jvm.Cond.instanceMethod ({ cls := "java/lang/IndexOutOfBoundsException", name := "<init>", desc := "(Ljava/lang/String;)V" } : Jvm.MethodName)) ∈ pq_W := pq_in 355 (by decide +kernel) (by decide +kernel)
theorem ww_356 : (Jvm.Cond.code ({ cls := "java/lang/IndexOutOfBoundsException", name := "<init>", desc := "(Ljava/lang/String;)V" } : Jvm.MethodName) prog_11_method_2_code (2 : Nat) (Option.none : Option Jvm.ClassFile.FieldType)) ∈ pq_W := pq_in 356 (by decide +kernel) (by decide +kernel)
theorem ww_357 : (Jvm.Cond.methodLink "java/lang/IndexOutOfBoundsException" (7 : Nat) ({ cls := "java/lang/RuntimeException", name := "<init>", desc := "(Ljava/lang/String;)V" } : Jvm.MethodName)) ∈ pq_W := pq_in 357 (by decide +kernel) (by decide +kernel)
theorem ww_358 : (Jvm.Cond.lays "java/lang/IndexOutOfBoundsException" "java/lang/Throwable" "depth" "I") ∈ pq_W := pq_in 358 (by decide +kernel) (by decide +kernel)
theorem ww_360 : (Jvm.Cond.methodLink "PatternColumnsLaw" (82 : Nat) ({ cls := "PatternColumnsLaw", name := "price", desc := "(LPatternColumns;II)I" } : Jvm.MethodName)) ∈ pq_W := pq_in 360 (by decide +kernel) (by decide +kernel)
theorem ww_361 : (Jvm.Cond.static ({ cls := "PatternColumnsLaw", name := "price", desc := "(LPatternColumns;II)I" } : Jvm.MethodName)) ∈ pq_W := pq_in 361 (by decide +kernel) (by decide +kernel)
theorem ww_362 : (Jvm.Cond.codeWith ({ cls := "PatternColumnsLaw", name := "price", desc := "(LPatternColumns;II)I" } : Jvm.MethodName) method_6_code (4 : Nat) (Option.some Jvm.ClassFile.FieldType.int) [((0 : Nat), (6 : Nat), (9 : Nat), (25 : Nat)), ((0 : Nat), (6 : Nat), (12 : Nat), (13 : Nat))]) ∈ pq_W := pq_in 362 (by decide +kernel) (by decide +kernel)
theorem ww_363 : (Jvm.Cond.methodLink "PatternColumnsLaw" (27 : Nat) ({ cls := "PatternColumns", name := "price", desc := "(II)V" } : Jvm.MethodName)) ∈ pq_W := pq_in 363 (by decide +kernel) (by decide +kernel)
theorem ww_364 : (Jvm.Cond.instanceMethod ({ cls := "PatternColumns", name := "price", desc := "(II)V" } : Jvm.MethodName)) ∈ pq_W := pq_in 364 (by decide +kernel) (by decide +kernel)
theorem ww_365 : (Jvm.Cond.selects "PatternColumns" ({ cls := "PatternColumns", name := "price", desc := "(II)V" } : Jvm.MethodName) ({ cls := "PatternColumns", name := "price", desc := "(II)V" } : Jvm.MethodName)) ∈ pq_W := pq_in 365 (by decide +kernel) (by decide +kernel)
theorem ww_366 : (Jvm.Cond.code ({ cls := "PatternColumns", name := "price", desc := "(II)V" } : Jvm.MethodName) prog_1_method_5_code (3 : Nat) (Option.none : Option Jvm.ClassFile.FieldType)) ∈ pq_W := pq_in 366 (by decide +kernel) (by decide +kernel)
theorem ww_368 : (Jvm.Cond.methodLink "PatternColumnsLaw" (89 : Nat) ({ cls := "PatternColumnsLaw", name := "columnOf", desc := "(LPatternColumns;I[J)I" } : Jvm.MethodName)) ∈ pq_W := pq_in 368 (by decide +kernel) (by decide +kernel)
theorem ww_369 : (Jvm.Cond.static ({ cls := "PatternColumnsLaw", name := "columnOf", desc := "(LPatternColumns;I[J)I" } : Jvm.MethodName)) ∈ pq_W := pq_in 369 (by decide +kernel) (by decide +kernel)
theorem ww_370 : (Jvm.Cond.codeWith ({ cls := "PatternColumnsLaw", name := "columnOf", desc := "(LPatternColumns;I[J)I" } : Jvm.MethodName) method_7_code (4 : Nat) (Option.some Jvm.ClassFile.FieldType.int) [((0 : Nat), (9 : Nat), (12 : Nat), (25 : Nat))]) ∈ pq_W := pq_in 370 (by decide +kernel) (by decide +kernel)
theorem ww_371 : (Jvm.Cond.methodLink "PatternColumnsLaw" (30 : Nat) ({ cls := "PatternColumns", name := "columnOf", desc := "(I)I" } : Jvm.MethodName)) ∈ pq_W := pq_in 371 (by decide +kernel) (by decide +kernel)
theorem ww_372 : (Jvm.Cond.instanceMethod ({ cls := "PatternColumns", name := "columnOf", desc := "(I)I" } : Jvm.MethodName)) ∈ pq_W := pq_in 372 (by decide +kernel) (by decide +kernel)
theorem ww_373 : (Jvm.Cond.selects "PatternColumns" ({ cls := "PatternColumns", name := "columnOf", desc := "(I)I" } : Jvm.MethodName) ({ cls := "PatternColumns", name := "columnOf", desc := "(I)I" } : Jvm.MethodName)) ∈ pq_W := pq_in 373 (by decide +kernel) (by decide +kernel)
theorem ww_374 : (Jvm.Cond.code ({ cls := "PatternColumns", name := "columnOf", desc := "(I)I" } : Jvm.MethodName) prog_1_method_7_code (2 : Nat) (Option.some Jvm.ClassFile.FieldType.int)) ∈ pq_W := pq_in 374 (by decide +kernel) (by decide +kernel)
theorem ww_375 : (Jvm.Cond.methodLink "PatternColumns" (94 : Nat) ({ cls := "PatternColumns$DearestPattern", name := "piecesOf", desc := "(I)I" } : Jvm.MethodName)) ∈ pq_W := pq_in 375 (by decide +kernel) (by decide +kernel)
theorem ww_376 : (Jvm.Cond.instanceMethod ({ cls := "PatternColumns$DearestPattern", name := "piecesOf", desc := "(I)I" } : Jvm.MethodName)) ∈ pq_W := pq_in 376 (by decide +kernel) (by decide +kernel)
theorem ww_377 : (Jvm.Cond.selects "PatternColumns$DearestPattern" ({ cls := "PatternColumns$DearestPattern", name := "piecesOf", desc := "(I)I" } : Jvm.MethodName) ({ cls := "PatternColumns$DearestPattern", name := "piecesOf", desc := "(I)I" } : Jvm.MethodName)) ∈ pq_W := pq_in 377 (by decide +kernel) (by decide +kernel)
theorem ww_378 : (Jvm.Cond.code ({ cls := "PatternColumns$DearestPattern", name := "piecesOf", desc := "(I)I" } : Jvm.MethodName) prog_2_method_4_code (2 : Nat) (Option.some Jvm.ClassFile.FieldType.int)) ∈ pq_W := pq_in 378 (by decide +kernel) (by decide +kernel)
theorem ww_379 : (Jvm.Cond.methodLink "PatternColumnsLaw" (97 : Nat) ({ cls := "PatternColumnsLaw", name := "design", desc := "(LPatternColumns;I[J)I" } : Jvm.MethodName)) ∈ pq_W := pq_in 379 (by decide +kernel) (by decide +kernel)
theorem ww_380 : (Jvm.Cond.static ({ cls := "PatternColumnsLaw", name := "design", desc := "(LPatternColumns;I[J)I" } : Jvm.MethodName)) ∈ pq_W := pq_in 380 (by decide +kernel) (by decide +kernel)
theorem ww_381 : (Jvm.Cond.codeWith ({ cls := "PatternColumnsLaw", name := "design", desc := "(LPatternColumns;I[J)I" } : Jvm.MethodName) method_8_code (4 : Nat) (Option.some Jvm.ClassFile.FieldType.int) [((0 : Nat), (9 : Nat), (12 : Nat), (13 : Nat)), ((0 : Nat), (9 : Nat), (15 : Nat), (37 : Nat))]) ∈ pq_W := pq_in 381 (by decide +kernel) (by decide +kernel)
theorem ww_382 : (Jvm.Cond.classLink "PatternColumnsLaw" (37 : Nat) "java/lang/UnsupportedOperationException") ∈ pq_W := pq_in 382 (by decide +kernel) (by decide +kernel)
theorem ww_383 : (Jvm.Cond.methodLink "PatternColumnsLaw" (34 : Nat) ({ cls := "PatternColumns", name := "design", desc := "(I)I" } : Jvm.MethodName)) ∈ pq_W := pq_in 383 (by decide +kernel) (by decide +kernel)
theorem ww_384 : (Jvm.Cond.instanceMethod ({ cls := "PatternColumns", name := "design", desc := "(I)I" } : Jvm.MethodName)) ∈ pq_W := pq_in 384 (by decide +kernel) (by decide +kernel)
theorem ww_385 : (Jvm.Cond.selects "PatternColumns" ({ cls := "PatternColumns", name := "design", desc := "(I)I" } : Jvm.MethodName) ({ cls := "PatternColumns", name := "design", desc := "(I)I" } : Jvm.MethodName)) ∈ pq_W := pq_in 385 (by decide +kernel) (by decide +kernel)
theorem ww_386 : (Jvm.Cond.code ({ cls := "PatternColumns", name := "design", desc := "(I)I" } : Jvm.MethodName) prog_1_method_9_code (2 : Nat) (Option.some Jvm.ClassFile.FieldType.int)) ∈ pq_W := pq_in 386 (by decide +kernel) (by decide +kernel)
theorem ww_387 : (Jvm.Cond.constant "PatternColumns" (101 : Nat) (100000 : Int32)) ∈ pq_W := pq_in 387 (by decide +kernel) (by decide +kernel)
theorem ww_389 : (Jvm.Cond.methodLink "PatternColumns" (104 : Nat) ({ cls := "PatternColumns$Slabs", name := "somePieceIsTooWide", desc := "()Z" } : Jvm.MethodName)) ∈ pq_W := pq_in 389 (by decide +kernel) (by decide +kernel)
theorem ww_390 : (Jvm.Cond.instanceMethod ({ cls := "PatternColumns$Slabs", name := "somePieceIsTooWide", desc := "()Z" } : Jvm.MethodName)) ∈ pq_W := pq_in 390 (by decide +kernel) (by decide +kernel)
theorem ww_391 : (Jvm.Cond.selects "PatternColumns$Slabs" ({ cls := "PatternColumns$Slabs", name := "somePieceIsTooWide", desc := "()Z" } : Jvm.MethodName) ({ cls := "PatternColumns$Slabs", name := "somePieceIsTooWide", desc := "()Z" } : Jvm.MethodName)) ∈ pq_W := pq_in 391 (by decide +kernel) (by decide +kernel)
theorem ww_392 : (Jvm.Cond.code ({ cls := "PatternColumns$Slabs", name := "somePieceIsTooWide", desc := "()Z" } : Jvm.MethodName) prog_4_method_9_code (2 : Nat) (Option.some Jvm.ClassFile.FieldType.boolean)) ∈ pq_W := pq_in 392 (by decide +kernel) (by decide +kernel)
theorem ww_393 : (Jvm.Cond.classLink "PatternColumns" (108 : Nat) "java/lang/UnsupportedOperationException") ∈ pq_W := pq_in 393 (by decide +kernel) (by decide +kernel)
theorem ww_394 : (Jvm.Cond.instantiable "java/lang/UnsupportedOperationException" (6 : Nat)) ∈ pq_W := pq_in 394 (by decide +kernel) (by decide +kernel)
theorem ww_396 : (Jvm.Cond.selects "java/lang/UnsupportedOperationException" ({ cls := "java/lang/Throwable", name := "fillInStackTrace", desc := "(I)Ljava/lang/Throwable;" } : Jvm.MethodName) ({ cls := "java/lang/Throwable", name := "fillInStackTrace", desc := "(I)Ljava/lang/Throwable;" } : Jvm.MethodName)) ∈ pq_W := pq_in 396 (by decide +kernel) (by decide +kernel)
theorem ww_397 : (Jvm.Cond.lays "java/lang/UnsupportedOperationException" "java/lang/Throwable" "cause" "Ljava/lang/Throwable;") ∈ pq_W := pq_in 397 (by decide +kernel) (by decide +kernel)
theorem ww_398 : (Jvm.Cond.lays "java/lang/UnsupportedOperationException" "java/lang/Throwable" "stackTrace" "[Ljava/lang/StackTraceElement;") ∈ pq_W := pq_in 398 (by decide +kernel) (by decide +kernel)
theorem ww_399 : (Jvm.Cond.lays "java/lang/UnsupportedOperationException" "java/lang/Throwable" "suppressedExceptions" "Ljava/util/List;") ∈ pq_W := pq_in 399 (by decide +kernel) (by decide +kernel)
theorem ww_400 : (Jvm.Cond.lays "java/lang/UnsupportedOperationException" "java/lang/Throwable" "detailMessage" "Ljava/lang/String;") ∈ pq_W := pq_in 400 (by decide +kernel) (by decide +kernel)
theorem ww_401 : (Jvm.Cond.lays "java/lang/UnsupportedOperationException" "java/lang/Throwable" "backtrace" "Ljava/lang/Object;") ∈ pq_W := pq_in 401 (by decide +kernel) (by decide +kernel)
theorem ww_403 : (Jvm.Cond.methodLink "PatternColumns" (112 : Nat) ({ cls := "java/lang/UnsupportedOperationException", name := "<init>", desc := "(Ljava/lang/String;)V" } : Jvm.MethodName)) ∈ pq_W := pq_in 403 (by decide +kernel) (by decide +kernel)
theorem ww_404 : (Jvm.Cond.instanceMethod ({ cls := "java/lang/UnsupportedOperationException", name := "<init>", desc := "(Ljava/lang/String;)V" } : Jvm.MethodName)) ∈ pq_W := pq_in 404 (by decide +kernel) (by decide +kernel)
theorem ww_405 : (Jvm.Cond.code ({ cls := "java/lang/UnsupportedOperationException", name := "<init>", desc := "(Ljava/lang/String;)V" } : Jvm.MethodName) prog_17_method_2_code (2 : Nat) (Option.none : Option Jvm.ClassFile.FieldType)) ∈ pq_W := pq_in 405 (by decide +kernel) (by decide +kernel)
theorem ww_406 : (Jvm.Cond.methodLink "java/lang/UnsupportedOperationException" (7 : Nat) ({ cls := "java/lang/RuntimeException", name := "<init>", desc := "(Ljava/lang/String;)V" } : Jvm.MethodName)) ∈ pq_W := pq_in 406 (by decide +kernel) (by decide +kernel)
theorem ww_407 : (Jvm.Cond.lays "java/lang/UnsupportedOperationException" "java/lang/Throwable" "depth" "I") ∈ pq_W := pq_in 407 (by decide +kernel) (by decide +kernel)
theorem ww_409 : (Jvm.Cond.methodLink "PatternColumns" (113 : Nat) ({ cls := "PatternColumns$Designing", name := "run", desc := "(I)V" } : Jvm.MethodName)) ∈ pq_W := pq_in 409 (by decide +kernel) (by decide +kernel)
theorem ww_410 : (Jvm.Cond.instanceMethod ({ cls := "PatternColumns$Designing", name := "run", desc := "(I)V" } : Jvm.MethodName)) ∈ pq_W := pq_in 410 (by decide +kernel) (by decide +kernel)
theorem ww_411 : (Jvm.Cond.selects "PatternColumns$Designing" ({ cls := "PatternColumns$Designing", name := "run", desc := "(I)V" } : Jvm.MethodName) ({ cls := "PatternColumns$Designing", name := "run", desc := "(I)V" } : Jvm.MethodName)) ∈ pq_W := pq_in 411 (by decide +kernel) (by decide +kernel)
theorem ww_412 : (Jvm.Cond.code ({ cls := "PatternColumns$Designing", name := "run", desc := "(I)V" } : Jvm.MethodName) prog_3_method_3_code (5 : Nat) (Option.none : Option Jvm.ClassFile.FieldType)) ∈ pq_W := pq_in 412 (by decide +kernel) (by decide +kernel)
theorem ww_413 : (Jvm.Cond.methodLink "PatternColumns$Designing" (41 : Nat) ({ cls := "PatternColumns$Designing", name := "forget", desc := "()V" } : Jvm.MethodName)) ∈ pq_W := pq_in 413 (by decide +kernel) (by decide +kernel)
theorem ww_414 : (Jvm.Cond.methodLink "PatternColumns$Designing" (49 : Nat) ({ cls := "java/lang/System", name := "arraycopy", desc := "(Ljava/lang/Object;ILjava/lang/Object;II)V" } : Jvm.MethodName)) ∈ pq_W := pq_in 414 (by decide +kernel) (by decide +kernel)
theorem ww_415 : (Jvm.Cond.methodLink "PatternColumns$Designing" (55 : Nat) ({ cls := "PatternColumns$Slabs", name := "widthOfAll", desc := "()I" } : Jvm.MethodName)) ∈ pq_W := pq_in 415 (by decide +kernel) (by decide +kernel)
theorem ww_416 : (Jvm.Cond.instanceMethod ({ cls := "PatternColumns$Slabs", name := "widthOfAll", desc := "()I" } : Jvm.MethodName)) ∈ pq_W := pq_in 416 (by decide +kernel) (by decide +kernel)
theorem ww_417 : (Jvm.Cond.selects "PatternColumns$Slabs" ({ cls := "PatternColumns$Slabs", name := "widthOfAll", desc := "()I" } : Jvm.MethodName) ({ cls := "PatternColumns$Slabs", name := "widthOfAll", desc := "()I" } : Jvm.MethodName)) ∈ pq_W := pq_in 417 (by decide +kernel) (by decide +kernel)
theorem ww_418 : (Jvm.Cond.code ({ cls := "PatternColumns$Slabs", name := "widthOfAll", desc := "()I" } : Jvm.MethodName) prog_4_method_5_code (1 : Nat) (Option.some Jvm.ClassFile.FieldType.int)) ∈ pq_W := pq_in 418 (by decide +kernel) (by decide +kernel)
theorem ww_419 : (Jvm.Cond.methodLink "PatternColumns$Designing" (62 : Nat) ({ cls := "PatternColumns$Designing", name := "opens", desc := "(I)Z" } : Jvm.MethodName)) ∈ pq_W := pq_in 419 (by decide +kernel) (by decide +kernel)
theorem ww_421 : (Jvm.Cond.instanceMethod ({ cls := "PatternColumns$Designing", name := "opens", desc := "(I)Z" } : Jvm.MethodName)) ∈ pq_W := pq_in 421 (by decide +kernel) (by decide +kernel)
theorem ww_422 : (Jvm.Cond.code ({ cls := "PatternColumns$Designing", name := "opens", desc := "(I)Z" } : Jvm.MethodName) prog_3_method_4_code (2 : Nat) (Option.some Jvm.ClassFile.FieldType.boolean)) ∈ pq_W := pq_in 422 (by decide +kernel) (by decide +kernel)
theorem ww_423 : (Jvm.Cond.methodLink "PatternColumns$Designing" (78 : Nat) ({ cls := "PatternColumns$Slabs", name := "sheetsFor", desc := "(I)I" } : Jvm.MethodName)) ∈ pq_W := pq_in 423 (by decide +kernel) (by decide +kernel)
theorem ww_424 : (Jvm.Cond.instanceMethod ({ cls := "PatternColumns$Slabs", name := "sheetsFor", desc := "(I)I" } : Jvm.MethodName)) ∈ pq_W := pq_in 424 (by decide +kernel) (by decide +kernel)
theorem ww_425 : (Jvm.Cond.selects "PatternColumns$Slabs" ({ cls := "PatternColumns$Slabs", name := "sheetsFor", desc := "(I)I" } : Jvm.MethodName) ({ cls := "PatternColumns$Slabs", name := "sheetsFor", desc := "(I)I" } : Jvm.MethodName)) ∈ pq_W := pq_in 425 (by decide +kernel) (by decide +kernel)
theorem ww_426 : (Jvm.Cond.code ({ cls := "PatternColumns$Slabs", name := "sheetsFor", desc := "(I)I" } : Jvm.MethodName) prog_4_method_8_code (2 : Nat) (Option.some Jvm.ClassFile.FieldType.int)) ∈ pq_W := pq_in 426 (by decide +kernel) (by decide +kernel)
theorem ww_428 : (Jvm.Cond.methodLink "PatternColumns$Designing" (82 : Nat) ({ cls := "PatternColumns$Designing", name := "takeAsBest", desc := "(I)V" } : Jvm.MethodName)) ∈ pq_W := pq_in 428 (by decide +kernel) (by decide +kernel)
theorem ww_430 : (Jvm.Cond.instanceMethod ({ cls := "PatternColumns$Designing", name := "takeAsBest", desc := "(I)V" } : Jvm.MethodName)) ∈ pq_W := pq_in 430 (by decide +kernel) (by decide +kernel)
theorem ww_431 : (Jvm.Cond.code ({ cls := "PatternColumns$Designing", name := "takeAsBest", desc := "(I)V" } : Jvm.MethodName) prog_3_method_9_code (3 : Nat) (Option.none : Option Jvm.ClassFile.FieldType)) ∈ pq_W := pq_in 431 (by decide +kernel) (by decide +kernel)
theorem ww_432 : (Jvm.Cond.methodLink "PatternColumns$Designing" (86 : Nat) ({ cls := "PatternColumns$Slabs", name := "firstPattern", desc := "([I[I)V" } : Jvm.MethodName)) ∈ pq_W := pq_in 432 (by decide +kernel) (by decide +kernel)
theorem ww_433 : (Jvm.Cond.constant "PatternColumns$Designing" (66 : Nat) (200002 : Int32)) ∈ pq_W := pq_in 433 (by decide +kernel) (by decide +kernel)
theorem ww_434 : (Jvm.Cond.methodLink "PatternColumns$Designing" (67 : Nat) ({ cls := "PatternColumns$Designing", name := "lay", desc := "([I)V" } : Jvm.MethodName)) ∈ pq_W := pq_in 434 (by decide +kernel) (by decide +kernel)
theorem ww_436 : (Jvm.Cond.instanceMethod ({ cls := "PatternColumns$Designing", name := "lay", desc := "([I)V" } : Jvm.MethodName)) ∈ pq_W := pq_in 436 (by decide +kernel) (by decide +kernel)
theorem ww_437 : (Jvm.Cond.code ({ cls := "PatternColumns$Designing", name := "lay", desc := "([I)V" } : Jvm.MethodName) prog_3_method_7_code (3 : Nat) (Option.none : Option Jvm.ClassFile.FieldType)) ∈ pq_W := pq_in 437 (by decide +kernel) (by decide +kernel)
theorem ww_438 : (Jvm.Cond.methodLink "PatternColumns$Designing" (100 : Nat) ({ cls := "PatternColumns$Slabs", name := "widthOf", desc := "([I)I" } : Jvm.MethodName)) ∈ pq_W := pq_in 438 (by decide +kernel) (by decide +kernel)
theorem ww_439 : (Jvm.Cond.instanceMethod ({ cls := "PatternColumns$Slabs", name := "widthOf", desc := "([I)I" } : Jvm.MethodName)) ∈ pq_W := pq_in 439 (by decide +kernel) (by decide +kernel)
theorem ww_440 : (Jvm.Cond.selects "PatternColumns$Slabs" ({ cls := "PatternColumns$Slabs", name := "widthOf", desc := "([I)I" } : Jvm.MethodName) ({ cls := "PatternColumns$Slabs", name := "widthOf", desc := "([I)I" } : Jvm.MethodName)) ∈ pq_W := pq_in 440 (by decide +kernel) (by decide +kernel)
theorem ww_441 : (Jvm.Cond.code ({ cls := "PatternColumns$Slabs", name := "widthOf", desc := "([I)I" } : Jvm.MethodName) prog_4_method_4_code (2 : Nat) (Option.some Jvm.ClassFile.FieldType.int)) ∈ pq_W := pq_in 441 (by decide +kernel) (by decide +kernel)
theorem ww_442 : (Jvm.Cond.methodLink "PatternColumns$Designing" (71 : Nat) ({ cls := "PatternColumns$Designing", name := "takeBack", desc := "([I)V" } : Jvm.MethodName)) ∈ pq_W := pq_in 442 (by decide +kernel) (by decide +kernel)
theorem ww_444 : (Jvm.Cond.instanceMethod ({ cls := "PatternColumns$Designing", name := "takeBack", desc := "([I)V" } : Jvm.MethodName)) ∈ pq_W := pq_in 444 (by decide +kernel) (by decide +kernel)
theorem ww_445 : (Jvm.Cond.code ({ cls := "PatternColumns$Designing", name := "takeBack", desc := "([I)V" } : Jvm.MethodName) prog_3_method_8_code (3 : Nat) (Option.none : Option Jvm.ClassFile.FieldType)) ∈ pq_W := pq_in 445 (by decide +kernel) (by decide +kernel)
theorem ww_446 : (Jvm.Cond.methodLink "PatternColumns$Designing" (74 : Nat) ({ cls := "PatternColumns$Designing", name := "goesOn", desc := "([I)Z" } : Jvm.MethodName)) ∈ pq_W := pq_in 446 (by decide +kernel) (by decide +kernel)
theorem ww_448 : (Jvm.Cond.instanceMethod ({ cls := "PatternColumns$Designing", name := "goesOn", desc := "([I)Z" } : Jvm.MethodName)) ∈ pq_W := pq_in 448 (by decide +kernel) (by decide +kernel)
theorem ww_449 : (Jvm.Cond.code ({ cls := "PatternColumns$Designing", name := "goesOn", desc := "([I)Z" } : Jvm.MethodName) prog_3_method_5_code (2 : Nat) (Option.some Jvm.ClassFile.FieldType.boolean)) ∈ pq_W := pq_in 449 (by decide +kernel) (by decide +kernel)
theorem ww_450 : (Jvm.Cond.methodLink "PatternColumns$Designing" (93 : Nat) ({ cls := "PatternColumns$Designing", name := "lowestLeft", desc := "()I" } : Jvm.MethodName)) ∈ pq_W := pq_in 450 (by decide +kernel) (by decide +kernel)
theorem ww_452 : (Jvm.Cond.instanceMethod ({ cls := "PatternColumns$Designing", name := "lowestLeft", desc := "()I" } : Jvm.MethodName)) ∈ pq_W := pq_in 452 (by decide +kernel) (by decide +kernel)
theorem ww_453 : (Jvm.Cond.code ({ cls := "PatternColumns$Designing", name := "lowestLeft", desc := "()I" } : Jvm.MethodName) prog_3_method_6_code (2 : Nat) (Option.some Jvm.ClassFile.FieldType.int)) ∈ pq_W := pq_in 453 (by decide +kernel) (by decide +kernel)
theorem ww_454 : (Jvm.Cond.methodLink "PatternColumns$Designing" (96 : Nat) ({ cls := "PatternColumns$Slabs", name := "nextPattern", desc := "([I[III)Z" } : Jvm.MethodName)) ∈ pq_W := pq_in 454 (by decide +kernel) (by decide +kernel)
theorem ww_455 : (Jvm.Cond.methodLink "PatternColumnsLaw" (100 : Nat) ({ cls := "PatternColumnsLaw", name := "designed", desc := "(LPatternColumns;I[J)I" } : Jvm.MethodName)) ∈ pq_W := pq_in 455 (by decide +kernel) (by decide +kernel)
theorem ww_456 : (Jvm.Cond.static ({ cls := "PatternColumnsLaw", name := "designed", desc := "(LPatternColumns;I[J)I" } : Jvm.MethodName)) ∈ pq_W := pq_in 456 (by decide +kernel) (by decide +kernel)
theorem ww_457 : (Jvm.Cond.codeWith ({ cls := "PatternColumnsLaw", name := "designed", desc := "(LPatternColumns;I[J)I" } : Jvm.MethodName) method_9_code (4 : Nat) (Option.some Jvm.ClassFile.FieldType.int) [((0 : Nat), (9 : Nat), (12 : Nat), (25 : Nat)), ((0 : Nat), (9 : Nat), (15 : Nat), (19 : Nat))]) ∈ pq_W := pq_in 457 (by decide +kernel) (by decide +kernel)
theorem ww_458 : (Jvm.Cond.methodLink "PatternColumnsLaw" (39 : Nat) ({ cls := "PatternColumns", name := "designed", desc := "(I)I" } : Jvm.MethodName)) ∈ pq_W := pq_in 458 (by decide +kernel) (by decide +kernel)
theorem ww_459 : (Jvm.Cond.instanceMethod ({ cls := "PatternColumns", name := "designed", desc := "(I)I" } : Jvm.MethodName)) ∈ pq_W := pq_in 459 (by decide +kernel) (by decide +kernel)
theorem ww_460 : (Jvm.Cond.selects "PatternColumns" ({ cls := "PatternColumns", name := "designed", desc := "(I)I" } : Jvm.MethodName) ({ cls := "PatternColumns", name := "designed", desc := "(I)I" } : Jvm.MethodName)) ∈ pq_W := pq_in 460 (by decide +kernel) (by decide +kernel)
theorem ww_461 : (Jvm.Cond.code ({ cls := "PatternColumns", name := "designed", desc := "(I)I" } : Jvm.MethodName) prog_1_method_10_code (2 : Nat) (Option.some Jvm.ClassFile.FieldType.int)) ∈ pq_W := pq_in 461 (by decide +kernel) (by decide +kernel)
theorem ww_464 : (Jvm.Cond.methodLink "PatternColumnsLaw" (103 : Nat) ({ cls := "PatternColumnsLaw", name := "gap", desc := "(LPatternColumns;[J)I" } : Jvm.MethodName)) ∈ pq_W := pq_in 464 (by decide +kernel) (by decide +kernel)
theorem ww_465 : (Jvm.Cond.static ({ cls := "PatternColumnsLaw", name := "gap", desc := "(LPatternColumns;[J)I" } : Jvm.MethodName)) ∈ pq_W := pq_in 465 (by decide +kernel) (by decide +kernel)
theorem ww_466 : (Jvm.Cond.codeWith ({ cls := "PatternColumnsLaw", name := "gap", desc := "(LPatternColumns;[J)I" } : Jvm.MethodName) method_10_code (3 : Nat) (Option.some Jvm.ClassFile.FieldType.int) [((0 : Nat), (8 : Nat), (11 : Nat), (19 : Nat))]) ∈ pq_W := pq_in 466 (by decide +kernel) (by decide +kernel)
theorem ww_467 : (Jvm.Cond.methodLink "PatternColumnsLaw" (42 : Nat) ({ cls := "PatternColumns", name := "gap", desc := "()I" } : Jvm.MethodName)) ∈ pq_W := pq_in 467 (by decide +kernel) (by decide +kernel)
theorem ww_468 : (Jvm.Cond.instanceMethod ({ cls := "PatternColumns", name := "gap", desc := "()I" } : Jvm.MethodName)) ∈ pq_W := pq_in 468 (by decide +kernel) (by decide +kernel)
theorem ww_469 : (Jvm.Cond.selects "PatternColumns" ({ cls := "PatternColumns", name := "gap", desc := "()I" } : Jvm.MethodName) ({ cls := "PatternColumns", name := "gap", desc := "()I" } : Jvm.MethodName)) ∈ pq_W := pq_in 469 (by decide +kernel) (by decide +kernel)
theorem ww_470 : (Jvm.Cond.code ({ cls := "PatternColumns", name := "gap", desc := "()I" } : Jvm.MethodName) prog_1_method_11_code (2 : Nat) (Option.some Jvm.ClassFile.FieldType.int)) ∈ pq_W := pq_in 470 (by decide +kernel) (by decide +kernel)
theorem ww_471 : (Jvm.Cond.methodLink "PatternColumns" (134 : Nat) ({ cls := "PatternColumns", name := "requireDesign", desc := "()V" } : Jvm.MethodName)) ∈ pq_W := pq_in 471 (by decide +kernel) (by decide +kernel)
theorem ww_473 : (Jvm.Cond.instanceMethod ({ cls := "PatternColumns", name := "requireDesign", desc := "()V" } : Jvm.MethodName)) ∈ pq_W := pq_in 473 (by decide +kernel) (by decide +kernel)
theorem ww_474 : (Jvm.Cond.code ({ cls := "PatternColumns", name := "requireDesign", desc := "()V" } : Jvm.MethodName) prog_1_method_19_code (1 : Nat) (Option.none : Option Jvm.ClassFile.FieldType)) ∈ pq_W := pq_in 474 (by decide +kernel) (by decide +kernel)
theorem ww_476 : (Jvm.Cond.methodLink "PatternColumns" (137 : Nat) ({ cls := "PatternColumns$Slabs", name := "widthOfAll", desc := "()I" } : Jvm.MethodName)) ∈ pq_W := pq_in 476 (by decide +kernel) (by decide +kernel)
theorem ww_477 : (Jvm.Cond.methodLink "PatternColumns" (140 : Nat) ({ cls := "PatternColumns$Slabs", name := "sheetsFor", desc := "(I)I" } : Jvm.MethodName)) ∈ pq_W := pq_in 477 (by decide +kernel) (by decide +kernel)
theorem ww_478 : (Jvm.Cond.methodLink "PatternColumns" (143 : Nat) ({ cls := "java/lang/Math", name := "max", desc := "(II)I" } : Jvm.MethodName)) ∈ pq_W := pq_in 478 (by decide +kernel) (by decide +kernel)
theorem ww_479 : (Jvm.Cond.static ({ cls := "java/lang/Math", name := "max", desc := "(II)I" } : Jvm.MethodName)) ∈ pq_W := pq_in 479 (by decide +kernel) (by decide +kernel)
theorem ww_480 : (Jvm.Cond.code ({ cls := "java/lang/Math", name := "max", desc := "(II)I" } : Jvm.MethodName) prog_12_method_65_code (2 : Nat) (Option.some Jvm.ClassFile.FieldType.int)) ∈ pq_W := pq_in 480 (by decide +kernel) (by decide +kernel)
theorem ww_481 : (Jvm.Cond.methodLink "PatternColumnsLaw" (107 : Nat) ({ cls := "PatternColumnsLaw", name := "cut", desc := "(LPatternColumns;II[J)I" } : Jvm.MethodName)) ∈ pq_W := pq_in 481 (by decide +kernel) (by decide +kernel)
theorem ww_482 : (Jvm.Cond.static ({ cls := "PatternColumnsLaw", name := "cut", desc := "(LPatternColumns;II[J)I" } : Jvm.MethodName)) ∈ pq_W := pq_in 482 (by decide +kernel) (by decide +kernel)
theorem ww_483 : (Jvm.Cond.codeWith ({ cls := "PatternColumnsLaw", name := "cut", desc := "(LPatternColumns;II[J)I" } : Jvm.MethodName) method_11_code (5 : Nat) (Option.some Jvm.ClassFile.FieldType.int) [((0 : Nat), (10 : Nat), (13 : Nat), (25 : Nat)), ((0 : Nat), (10 : Nat), (17 : Nat), (19 : Nat))]) ∈ pq_W := pq_in 483 (by decide +kernel) (by decide +kernel)
theorem ww_484 : (Jvm.Cond.methodLink "PatternColumnsLaw" (46 : Nat) ({ cls := "PatternColumns", name := "cut", desc := "(II)I" } : Jvm.MethodName)) ∈ pq_W := pq_in 484 (by decide +kernel) (by decide +kernel)
theorem ww_485 : (Jvm.Cond.instanceMethod ({ cls := "PatternColumns", name := "cut", desc := "(II)I" } : Jvm.MethodName)) ∈ pq_W := pq_in 485 (by decide +kernel) (by decide +kernel)
theorem ww_486 : (Jvm.Cond.selects "PatternColumns" ({ cls := "PatternColumns", name := "cut", desc := "(II)I" } : Jvm.MethodName) ({ cls := "PatternColumns", name := "cut", desc := "(II)I" } : Jvm.MethodName)) ∈ pq_W := pq_in 486 (by decide +kernel) (by decide +kernel)
theorem ww_487 : (Jvm.Cond.code ({ cls := "PatternColumns", name := "cut", desc := "(II)I" } : Jvm.MethodName) prog_1_method_12_code (3 : Nat) (Option.some Jvm.ClassFile.FieldType.int)) ∈ pq_W := pq_in 487 (by decide +kernel) (by decide +kernel)
theorem ww_488 : (Jvm.Cond.methodLink "PatternColumns" (148 : Nat) ({ cls := "PatternColumns", name := "requireSheet", desc := "(I)V" } : Jvm.MethodName)) ∈ pq_W := pq_in 488 (by decide +kernel) (by decide +kernel)
theorem ww_490 : (Jvm.Cond.instanceMethod ({ cls := "PatternColumns", name := "requireSheet", desc := "(I)V" } : Jvm.MethodName)) ∈ pq_W := pq_in 490 (by decide +kernel) (by decide +kernel)
theorem ww_491 : (Jvm.Cond.code ({ cls := "PatternColumns", name := "requireSheet", desc := "(I)V" } : Jvm.MethodName) prog_1_method_20_code (2 : Nat) (Option.none : Option Jvm.ClassFile.FieldType)) ∈ pq_W := pq_in 491 (by decide +kernel) (by decide +kernel)
theorem ww_493 : (Jvm.Cond.methodLink "PatternColumnsLaw" (110 : Nat) ({ cls := "PatternColumnsLaw", name := "over", desc := "(LPatternColumns;I[J)I" } : Jvm.MethodName)) ∈ pq_W := pq_in 493 (by decide +kernel) (by decide +kernel)
theorem ww_494 : (Jvm.Cond.static ({ cls := "PatternColumnsLaw", name := "over", desc := "(LPatternColumns;I[J)I" } : Jvm.MethodName)) ∈ pq_W := pq_in 494 (by decide +kernel) (by decide +kernel)
theorem ww_495 : (Jvm.Cond.codeWith ({ cls := "PatternColumnsLaw", name := "over", desc := "(LPatternColumns;I[J)I" } : Jvm.MethodName) method_12_code (4 : Nat) (Option.some Jvm.ClassFile.FieldType.int) [((0 : Nat), (9 : Nat), (12 : Nat), (25 : Nat)), ((0 : Nat), (9 : Nat), (15 : Nat), (19 : Nat))]) ∈ pq_W := pq_in 495 (by decide +kernel) (by decide +kernel)
theorem ww_496 : (Jvm.Cond.methodLink "PatternColumnsLaw" (49 : Nat) ({ cls := "PatternColumns", name := "over", desc := "(I)I" } : Jvm.MethodName)) ∈ pq_W := pq_in 496 (by decide +kernel) (by decide +kernel)
theorem ww_497 : (Jvm.Cond.instanceMethod ({ cls := "PatternColumns", name := "over", desc := "(I)I" } : Jvm.MethodName)) ∈ pq_W := pq_in 497 (by decide +kernel) (by decide +kernel)
theorem ww_498 : (Jvm.Cond.selects "PatternColumns" ({ cls := "PatternColumns", name := "over", desc := "(I)I" } : Jvm.MethodName) ({ cls := "PatternColumns", name := "over", desc := "(I)I" } : Jvm.MethodName)) ∈ pq_W := pq_in 498 (by decide +kernel) (by decide +kernel)
theorem ww_499 : (Jvm.Cond.code ({ cls := "PatternColumns", name := "over", desc := "(I)I" } : Jvm.MethodName) prog_1_method_13_code (2 : Nat) (Option.some Jvm.ClassFile.FieldType.int)) ∈ pq_W := pq_in 499 (by decide +kernel) (by decide +kernel)
theorem ww_500 : (Jvm.Cond.methodLink "PatternColumns" (155 : Nat) ({ cls := "PatternColumns$Slabs", name := "widthOf", desc := "([I)I" } : Jvm.MethodName)) ∈ pq_W := pq_in 500 (by decide +kernel) (by decide +kernel)
theorem ww_501 : (Jvm.Cond.methodLink "PatternColumnsLaw" (113 : Nat) ({ cls := "PatternColumnsLaw", name := "keep", desc := "(LPatternColumns;II[J)I" } : Jvm.MethodName)) ∈ pq_W := pq_in 501 (by decide +kernel) (by decide +kernel)
theorem ww_502 : (Jvm.Cond.static ({ cls := "PatternColumnsLaw", name := "keep", desc := "(LPatternColumns;II[J)I" } : Jvm.MethodName)) ∈ pq_W := pq_in 502 (by decide +kernel) (by decide +kernel)
theorem ww_503 : (Jvm.Cond.codeWith ({ cls := "PatternColumnsLaw", name := "keep", desc := "(LPatternColumns;II[J)I" } : Jvm.MethodName) method_13_code (5 : Nat) (Option.some Jvm.ClassFile.FieldType.int) [((0 : Nat), (10 : Nat), (13 : Nat), (25 : Nat)), ((0 : Nat), (10 : Nat), (17 : Nat), (19 : Nat)), ((0 : Nat), (10 : Nat), (21 : Nat), (13 : Nat)), ((0 : Nat), (10 : Nat), (25 : Nat), (37 : Nat))]) ∈ pq_W := pq_in 503 (by decide +kernel) (by decide +kernel)
theorem ww_504 : (Jvm.Cond.methodLink "PatternColumnsLaw" (52 : Nat) ({ cls := "PatternColumns", name := "keep", desc := "(II)I" } : Jvm.MethodName)) ∈ pq_W := pq_in 504 (by decide +kernel) (by decide +kernel)
theorem ww_505 : (Jvm.Cond.instanceMethod ({ cls := "PatternColumns", name := "keep", desc := "(II)I" } : Jvm.MethodName)) ∈ pq_W := pq_in 505 (by decide +kernel) (by decide +kernel)
theorem ww_506 : (Jvm.Cond.selects "PatternColumns" ({ cls := "PatternColumns", name := "keep", desc := "(II)I" } : Jvm.MethodName) ({ cls := "PatternColumns", name := "keep", desc := "(II)I" } : Jvm.MethodName)) ∈ pq_W := pq_in 506 (by decide +kernel) (by decide +kernel)
theorem ww_507 : (Jvm.Cond.code ({ cls := "PatternColumns", name := "keep", desc := "(II)I" } : Jvm.MethodName) prog_1_method_14_code (5 : Nat) (Option.some Jvm.ClassFile.FieldType.int)) ∈ pq_W := pq_in 507 (by decide +kernel) (by decide +kernel)
theorem ww_509 : (Jvm.Cond.methodLink "PatternColumns" (161 : Nat) ({ cls := "PatternColumns$Store", name := "find", desc := "([I)I" } : Jvm.MethodName)) ∈ pq_W := pq_in 509 (by decide +kernel) (by decide +kernel)
theorem ww_510 : (Jvm.Cond.instanceMethod ({ cls := "PatternColumns$Store", name := "find", desc := "([I)I" } : Jvm.MethodName)) ∈ pq_W := pq_in 510 (by decide +kernel) (by decide +kernel)
theorem ww_511 : (Jvm.Cond.selects "PatternColumns$Store" ({ cls := "PatternColumns$Store", name := "find", desc := "([I)I" } : Jvm.MethodName) ({ cls := "PatternColumns$Store", name := "find", desc := "([I)I" } : Jvm.MethodName)) ∈ pq_W := pq_in 511 (by decide +kernel) (by decide +kernel)
theorem ww_512 : (Jvm.Cond.code ({ cls := "PatternColumns$Store", name := "find", desc := "([I)I" } : Jvm.MethodName) prog_5_method_2_code (3 : Nat) (Option.some Jvm.ClassFile.FieldType.int)) ∈ pq_W := pq_in 512 (by decide +kernel) (by decide +kernel)
theorem ww_513 : (Jvm.Cond.methodLink "PatternColumns$Store" (27 : Nat) ({ cls := "PatternColumns$Store", name := "same", desc := "([I[I)Z" } : Jvm.MethodName)) ∈ pq_W := pq_in 513 (by decide +kernel) (by decide +kernel)
theorem ww_514 : (Jvm.Cond.static ({ cls := "PatternColumns$Store", name := "same", desc := "([I[I)Z" } : Jvm.MethodName)) ∈ pq_W := pq_in 514 (by decide +kernel) (by decide +kernel)
theorem ww_515 : (Jvm.Cond.code ({ cls := "PatternColumns$Store", name := "same", desc := "([I[I)Z" } : Jvm.MethodName) prog_5_method_5_code (3 : Nat) (Option.some Jvm.ClassFile.FieldType.boolean)) ∈ pq_W := pq_in 515 (by decide +kernel) (by decide +kernel)
theorem ww_516 : (Jvm.Cond.methodLink "PatternColumns" (164 : Nat) ({ cls := "PatternColumns$Store", name := "countAgain", desc := "(II)V" } : Jvm.MethodName)) ∈ pq_W := pq_in 516 (by decide +kernel) (by decide +kernel)
theorem ww_517 : (Jvm.Cond.instanceMethod ({ cls := "PatternColumns$Store", name := "countAgain", desc := "(II)V" } : Jvm.MethodName)) ∈ pq_W := pq_in 517 (by decide +kernel) (by decide +kernel)
theorem ww_518 : (Jvm.Cond.selects "PatternColumns$Store" ({ cls := "PatternColumns$Store", name := "countAgain", desc := "(II)V" } : Jvm.MethodName) ({ cls := "PatternColumns$Store", name := "countAgain", desc := "(II)V" } : Jvm.MethodName)) ∈ pq_W := pq_in 518 (by decide +kernel) (by decide +kernel)
theorem ww_519 : (Jvm.Cond.code ({ cls := "PatternColumns$Store", name := "countAgain", desc := "(II)V" } : Jvm.MethodName) prog_5_method_3_code (3 : Nat) (Option.none : Option Jvm.ClassFile.FieldType)) ∈ pq_W := pq_in 519 (by decide +kernel) (by decide +kernel)
theorem ww_520 : (Jvm.Cond.methodLink "PatternColumns$Store" (31 : Nat) ({ cls := "java/lang/Math", name := "max", desc := "(II)I" } : Jvm.MethodName)) ∈ pq_W := pq_in 520 (by decide +kernel) (by decide +kernel)
theorem ww_522 : (Jvm.Cond.methodLink "PatternColumns" (171 : Nat) ({ cls := "PatternColumns$Store", name := "add", desc := "([II)I" } : Jvm.MethodName)) ∈ pq_W := pq_in 522 (by decide +kernel) (by decide +kernel)
theorem ww_523 : (Jvm.Cond.instanceMethod ({ cls := "PatternColumns$Store", name := "add", desc := "([II)I" } : Jvm.MethodName)) ∈ pq_W := pq_in 523 (by decide +kernel) (by decide +kernel)
theorem ww_524 : (Jvm.Cond.selects "PatternColumns$Store" ({ cls := "PatternColumns$Store", name := "add", desc := "([II)I" } : Jvm.MethodName) ({ cls := "PatternColumns$Store", name := "add", desc := "([II)I" } : Jvm.MethodName)) ∈ pq_W := pq_in 524 (by decide +kernel) (by decide +kernel)
theorem ww_525 : (Jvm.Cond.code ({ cls := "PatternColumns$Store", name := "add", desc := "([II)I" } : Jvm.MethodName) prog_5_method_4_code (4 : Nat) (Option.some Jvm.ClassFile.FieldType.int)) ∈ pq_W := pq_in 525 (by decide +kernel) (by decide +kernel)
theorem ww_526 : (Jvm.Cond.methodLink "PatternColumns$Store" (37 : Nat) ({ cls := "java/lang/System", name := "arraycopy", desc := "(Ljava/lang/Object;ILjava/lang/Object;II)V" } : Jvm.MethodName)) ∈ pq_W := pq_in 526 (by decide +kernel) (by decide +kernel)
theorem ww_527 : (Jvm.Cond.methodLink "PatternColumnsLaw" (116 : Nat) ({ cls := "PatternColumnsLaw", name := "kept", desc := "(LPatternColumns;II[J)I" } : Jvm.MethodName)) ∈ pq_W := pq_in 527 (by decide +kernel) (by decide +kernel)
theorem ww_528 : (Jvm.Cond.static ({ cls := "PatternColumnsLaw", name := "kept", desc := "(LPatternColumns;II[J)I" } : Jvm.MethodName)) ∈ pq_W := pq_in 528 (by decide +kernel) (by decide +kernel)
theorem ww_529 : (Jvm.Cond.codeWith ({ cls := "PatternColumnsLaw", name := "kept", desc := "(LPatternColumns;II[J)I" } : Jvm.MethodName) method_14_code (5 : Nat) (Option.some Jvm.ClassFile.FieldType.int) [((0 : Nat), (10 : Nat), (13 : Nat), (25 : Nat))]) ∈ pq_W := pq_in 529 (by decide +kernel) (by decide +kernel)
theorem ww_530 : (Jvm.Cond.methodLink "PatternColumnsLaw" (55 : Nat) ({ cls := "PatternColumns", name := "kept", desc := "(II)I" } : Jvm.MethodName)) ∈ pq_W := pq_in 530 (by decide +kernel) (by decide +kernel)
theorem ww_531 : (Jvm.Cond.instanceMethod ({ cls := "PatternColumns", name := "kept", desc := "(II)I" } : Jvm.MethodName)) ∈ pq_W := pq_in 531 (by decide +kernel) (by decide +kernel)
theorem ww_532 : (Jvm.Cond.selects "PatternColumns" ({ cls := "PatternColumns", name := "kept", desc := "(II)I" } : Jvm.MethodName) ({ cls := "PatternColumns", name := "kept", desc := "(II)I" } : Jvm.MethodName)) ∈ pq_W := pq_in 532 (by decide +kernel) (by decide +kernel)
theorem ww_533 : (Jvm.Cond.code ({ cls := "PatternColumns", name := "kept", desc := "(II)I" } : Jvm.MethodName) prog_1_method_15_code (3 : Nat) (Option.some Jvm.ClassFile.FieldType.int)) ∈ pq_W := pq_in 533 (by decide +kernel) (by decide +kernel)
theorem ww_535 : (Jvm.Cond.methodLink "PatternColumnsLaw" (119 : Nat) ({ cls := "PatternColumnsLaw", name := "fitting", desc := "(LPatternColumns;I[J)I" } : Jvm.MethodName)) ∈ pq_W := pq_in 535 (by decide +kernel) (by decide +kernel)
theorem ww_536 : (Jvm.Cond.static ({ cls := "PatternColumnsLaw", name := "fitting", desc := "(LPatternColumns;I[J)I" } : Jvm.MethodName)) ∈ pq_W := pq_in 536 (by decide +kernel) (by decide +kernel)
theorem ww_537 : (Jvm.Cond.codeWith ({ cls := "PatternColumnsLaw", name := "fitting", desc := "(LPatternColumns;I[J)I" } : Jvm.MethodName) method_15_code (4 : Nat) (Option.some Jvm.ClassFile.FieldType.int) [((0 : Nat), (9 : Nat), (12 : Nat), (25 : Nat))]) ∈ pq_W := pq_in 537 (by decide +kernel) (by decide +kernel)
theorem ww_538 : (Jvm.Cond.methodLink "PatternColumnsLaw" (58 : Nat) ({ cls := "PatternColumns", name := "fitting", desc := "(I)I" } : Jvm.MethodName)) ∈ pq_W := pq_in 538 (by decide +kernel) (by decide +kernel)
theorem ww_539 : (Jvm.Cond.instanceMethod ({ cls := "PatternColumns", name := "fitting", desc := "(I)I" } : Jvm.MethodName)) ∈ pq_W := pq_in 539 (by decide +kernel) (by decide +kernel)
theorem ww_540 : (Jvm.Cond.selects "PatternColumns" ({ cls := "PatternColumns", name := "fitting", desc := "(I)I" } : Jvm.MethodName) ({ cls := "PatternColumns", name := "fitting", desc := "(I)I" } : Jvm.MethodName)) ∈ pq_W := pq_in 540 (by decide +kernel) (by decide +kernel)
theorem ww_541 : (Jvm.Cond.code ({ cls := "PatternColumns", name := "fitting", desc := "(I)I" } : Jvm.MethodName) prog_1_method_16_code (4 : Nat) (Option.some Jvm.ClassFile.FieldType.int)) ∈ pq_W := pq_in 541 (by decide +kernel) (by decide +kernel)
theorem ww_543 : (Jvm.Cond.methodLink "PatternColumns" (187 : Nat) ({ cls := "PatternColumns$Slabs", name := "isPattern", desc := "([I)Z" } : Jvm.MethodName)) ∈ pq_W := pq_in 543 (by decide +kernel) (by decide +kernel)
theorem ww_544 : (Jvm.Cond.instanceMethod ({ cls := "PatternColumns$Slabs", name := "isPattern", desc := "([I)Z" } : Jvm.MethodName)) ∈ pq_W := pq_in 544 (by decide +kernel) (by decide +kernel)
theorem ww_545 : (Jvm.Cond.selects "PatternColumns$Slabs" ({ cls := "PatternColumns$Slabs", name := "isPattern", desc := "([I)Z" } : Jvm.MethodName) ({ cls := "PatternColumns$Slabs", name := "isPattern", desc := "([I)Z" } : Jvm.MethodName)) ∈ pq_W := pq_in 545 (by decide +kernel) (by decide +kernel)
theorem ww_546 : (Jvm.Cond.code ({ cls := "PatternColumns$Slabs", name := "isPattern", desc := "([I)Z" } : Jvm.MethodName) prog_4_method_10_code (3 : Nat) (Option.some Jvm.ClassFile.FieldType.boolean)) ∈ pq_W := pq_in 546 (by decide +kernel) (by decide +kernel)
theorem ww_547 : (Jvm.Cond.methodLink "PatternColumns$Slabs" (40 : Nat) ({ cls := "PatternColumns$Slabs", name := "widthOf", desc := "([I)I" } : Jvm.MethodName)) ∈ pq_W := pq_in 547 (by decide +kernel) (by decide +kernel)
theorem ww_548 : (Jvm.Cond.classLink "PatternColumnsLaw" (62 : Nat) "PatternColumnsModel") ∈ pq_W := pq_in 548 (by decide +kernel) (by decide +kernel)
theorem ww_549 : (Jvm.Cond.instantiable "PatternColumnsModel" (15 : Nat)) ∈ pq_W := pq_in 549 (by decide +kernel) (by decide +kernel)
theorem ww_550 : (Jvm.Cond.methodLink "PatternColumnsLaw" (64 : Nat) ({ cls := "PatternColumnsModel", name := "<init>", desc := "()V" } : Jvm.MethodName)) ∈ pq_W := pq_in 550 (by decide +kernel) (by decide +kernel)
theorem ww_551 : (Jvm.Cond.instanceMethod ({ cls := "PatternColumnsModel", name := "<init>", desc := "()V" } : Jvm.MethodName)) ∈ pq_W := pq_in 551 (by decide +kernel) (by decide +kernel)
theorem ww_552 : (Jvm.Cond.code ({ cls := "PatternColumnsModel", name := "<init>", desc := "()V" } : Jvm.MethodName) prog_7_method_1_code (1 : Nat) (Option.none : Option Jvm.ClassFile.FieldType)) ∈ pq_W := pq_in 552 (by decide +kernel) (by decide +kernel)
theorem ww_553 : (Jvm.Cond.methodLink "PatternColumnsModel" (1 : Nat) ({ cls := "java/lang/Object", name := "<init>", desc := "()V" } : Jvm.MethodName)) ∈ pq_W := pq_in 553 (by decide +kernel) (by decide +kernel)
theorem ww_554 : (Jvm.Cond.fieldLink "PatternColumnsModel" (38 : Nat) "PatternColumnsModel" "thrown" "I") ∈ pq_W := pq_in 554 (by decide +kernel) (by decide +kernel)
theorem ww_555 : (Jvm.Cond.fieldLink "PatternColumnsModel" (7 : Nat) "PatternColumnsModel" "sheet" "I") ∈ pq_W := pq_in 555 (by decide +kernel) (by decide +kernel)
theorem ww_556 : (Jvm.Cond.fieldLink "PatternColumnsModel" (41 : Nat) "PatternColumnsModel" "orders" "I") ∈ pq_W := pq_in 556 (by decide +kernel) (by decide +kernel)
theorem ww_557 : (Jvm.Cond.fieldLink "PatternColumnsModel" (13 : Nat) "PatternColumnsModel" "width" "[I") ∈ pq_W := pq_in 557 (by decide +kernel) (by decide +kernel)
theorem ww_558 : (Jvm.Cond.fieldLink "PatternColumnsModel" (17 : Nat) "PatternColumnsModel" "pieces" "[I") ∈ pq_W := pq_in 558 (by decide +kernel) (by decide +kernel)
theorem ww_559 : (Jvm.Cond.fieldLink "PatternColumnsModel" (20 : Nat) "PatternColumnsModel" "price" "[I") ∈ pq_W := pq_in 559 (by decide +kernel) (by decide +kernel)
theorem ww_560 : (Jvm.Cond.fieldLink "PatternColumnsModel" (23 : Nat) "PatternColumnsModel" "left" "[I") ∈ pq_W := pq_in 560 (by decide +kernel) (by decide +kernel)
theorem ww_561 : (Jvm.Cond.fieldLink "PatternColumnsModel" (26 : Nat) "PatternColumnsModel" "now" "[I") ∈ pq_W := pq_in 561 (by decide +kernel) (by decide +kernel)
theorem ww_562 : (Jvm.Cond.fieldLink "PatternColumnsModel" (29 : Nat) "PatternColumnsModel" "sheets" "I") ∈ pq_W := pq_in 562 (by decide +kernel) (by decide +kernel)
theorem ww_563 : (Jvm.Cond.fieldLink "PatternColumnsModel" (32 : Nat) "PatternColumnsModel" "best" "[I") ∈ pq_W := pq_in 563 (by decide +kernel) (by decide +kernel)
theorem ww_564 : (Jvm.Cond.fieldLink "PatternColumnsModel" (48 : Nat) "PatternColumnsModel" "asked" "Z") ∈ pq_W := pq_in 564 (by decide +kernel) (by decide +kernel)
theorem ww_565 : (Jvm.Cond.fieldLink "PatternColumnsModel" (100 : Nat) "PatternColumnsModel" "spent" "Z") ∈ pq_W := pq_in 565 (by decide +kernel) (by decide +kernel)
theorem ww_566 : (Jvm.Cond.fieldLink "PatternColumnsModel" (97 : Nat) "PatternColumnsModel" "steps" "I") ∈ pq_W := pq_in 566 (by decide +kernel) (by decide +kernel)
theorem ww_567 : (Jvm.Cond.fieldLink "PatternColumnsModel" (112 : Nat) "PatternColumnsModel" "keptMany" "I") ∈ pq_W := pq_in 567 (by decide +kernel) (by decide +kernel)
theorem ww_568 : (Jvm.Cond.fieldLink "PatternColumnsModel" (35 : Nat) "PatternColumnsModel" "kept" "[I") ∈ pq_W := pq_in 568 (by decide +kernel) (by decide +kernel)
theorem ww_569 : (Jvm.Cond.lays "PatternColumnsModel" "PatternColumnsModel" "thrown" "I") ∈ pq_W := pq_in 569 (by decide +kernel) (by decide +kernel)
theorem ww_571 : (Jvm.Cond.lays "PatternColumnsModel" "PatternColumnsModel" "sheet" "I") ∈ pq_W := pq_in 571 (by decide +kernel) (by decide +kernel)
theorem ww_573 : (Jvm.Cond.lays "PatternColumnsModel" "PatternColumnsModel" "orders" "I") ∈ pq_W := pq_in 573 (by decide +kernel) (by decide +kernel)
theorem ww_575 : (Jvm.Cond.laysFinal "PatternColumnsModel" "PatternColumnsModel" "width" "[I") ∈ pq_W := pq_in 575 (by decide +kernel) (by decide +kernel)
theorem ww_577 : (Jvm.Cond.laysFinal "PatternColumnsModel" "PatternColumnsModel" "pieces" "[I") ∈ pq_W := pq_in 577 (by decide +kernel) (by decide +kernel)
theorem ww_579 : (Jvm.Cond.laysFinal "PatternColumnsModel" "PatternColumnsModel" "price" "[I") ∈ pq_W := pq_in 579 (by decide +kernel) (by decide +kernel)
theorem ww_581 : (Jvm.Cond.laysFinal "PatternColumnsModel" "PatternColumnsModel" "left" "[I") ∈ pq_W := pq_in 581 (by decide +kernel) (by decide +kernel)
theorem ww_583 : (Jvm.Cond.laysFinal "PatternColumnsModel" "PatternColumnsModel" "now" "[I") ∈ pq_W := pq_in 583 (by decide +kernel) (by decide +kernel)
theorem ww_585 : (Jvm.Cond.lays "PatternColumnsModel" "PatternColumnsModel" "sheets" "I") ∈ pq_W := pq_in 585 (by decide +kernel) (by decide +kernel)
theorem ww_587 : (Jvm.Cond.laysFinal "PatternColumnsModel" "PatternColumnsModel" "best" "[I") ∈ pq_W := pq_in 587 (by decide +kernel) (by decide +kernel)
theorem ww_589 : (Jvm.Cond.lays "PatternColumnsModel" "PatternColumnsModel" "asked" "Z") ∈ pq_W := pq_in 589 (by decide +kernel) (by decide +kernel)
theorem ww_591 : (Jvm.Cond.lays "PatternColumnsModel" "PatternColumnsModel" "spent" "Z") ∈ pq_W := pq_in 591 (by decide +kernel) (by decide +kernel)
theorem ww_593 : (Jvm.Cond.lays "PatternColumnsModel" "PatternColumnsModel" "steps" "I") ∈ pq_W := pq_in 593 (by decide +kernel) (by decide +kernel)
theorem ww_595 : (Jvm.Cond.lays "PatternColumnsModel" "PatternColumnsModel" "keptMany" "I") ∈ pq_W := pq_in 595 (by decide +kernel) (by decide +kernel)
theorem ww_597 : (Jvm.Cond.laysFinal "PatternColumnsModel" "PatternColumnsModel" "kept" "[I") ∈ pq_W := pq_in 597 (by decide +kernel) (by decide +kernel)
theorem ww_600 : (Jvm.Cond.methodLink "PatternColumnsLaw" (71 : Nat) ({ cls := "PatternColumnsModel", name := "thrown", desc := "()I" } : Jvm.MethodName)) ∈ pq_W := pq_in 600 (by decide +kernel) (by decide +kernel)
theorem ww_601 : (Jvm.Cond.instanceMethod ({ cls := "PatternColumnsModel", name := "thrown", desc := "()I" } : Jvm.MethodName)) ∈ pq_W := pq_in 601 (by decide +kernel) (by decide +kernel)
theorem ww_602 : (Jvm.Cond.selects "PatternColumnsModel" ({ cls := "PatternColumnsModel", name := "thrown", desc := "()I" } : Jvm.MethodName) ({ cls := "PatternColumnsModel", name := "thrown", desc := "()I" } : Jvm.MethodName)) ∈ pq_W := pq_in 602 (by decide +kernel) (by decide +kernel)
theorem ww_603 : (Jvm.Cond.code ({ cls := "PatternColumnsModel", name := "thrown", desc := "()I" } : Jvm.MethodName) prog_7_method_2_code (1 : Nat) (Option.some Jvm.ClassFile.FieldType.int)) ∈ pq_W := pq_in 603 (by decide +kernel) (by decide +kernel)
theorem ww_604 : (Jvm.Cond.methodLink "PatternColumnsLaw" (70 : Nat) ({ cls := "PatternColumnsModel", name := "sheet", desc := "(I)V" } : Jvm.MethodName)) ∈ pq_W := pq_in 604 (by decide +kernel) (by decide +kernel)
theorem ww_605 : (Jvm.Cond.instanceMethod ({ cls := "PatternColumnsModel", name := "sheet", desc := "(I)V" } : Jvm.MethodName)) ∈ pq_W := pq_in 605 (by decide +kernel) (by decide +kernel)
theorem ww_606 : (Jvm.Cond.selects "PatternColumnsModel" ({ cls := "PatternColumnsModel", name := "sheet", desc := "(I)V" } : Jvm.MethodName) ({ cls := "PatternColumnsModel", name := "sheet", desc := "(I)V" } : Jvm.MethodName)) ∈ pq_W := pq_in 606 (by decide +kernel) (by decide +kernel)
theorem ww_607 : (Jvm.Cond.code ({ cls := "PatternColumnsModel", name := "sheet", desc := "(I)V" } : Jvm.MethodName) prog_7_method_7_code (2 : Nat) (Option.none : Option Jvm.ClassFile.FieldType)) ∈ pq_W := pq_in 607 (by decide +kernel) (by decide +kernel)
theorem ww_608 : (Jvm.Cond.methodLink "PatternColumnsModel" (44 : Nat) ({ cls := "PatternColumnsModel", name := "in", desc := "(III)Z" } : Jvm.MethodName)) ∈ pq_W := pq_in 608 (by decide +kernel) (by decide +kernel)
theorem ww_609 : (Jvm.Cond.static ({ cls := "PatternColumnsModel", name := "in", desc := "(III)Z" } : Jvm.MethodName)) ∈ pq_W := pq_in 609 (by decide +kernel) (by decide +kernel)
theorem ww_610 : (Jvm.Cond.code ({ cls := "PatternColumnsModel", name := "in", desc := "(III)Z" } : Jvm.MethodName) prog_7_method_4_code (3 : Nat) (Option.some Jvm.ClassFile.FieldType.boolean)) ∈ pq_W := pq_in 610 (by decide +kernel) (by decide +kernel)
theorem ww_611 : (Jvm.Cond.methodLink "PatternColumnsModel" (52 : Nat) ({ cls := "PatternColumnsModel", name := "throwing", desc := "(ZZZZ)Z" } : Jvm.MethodName)) ∈ pq_W := pq_in 611 (by decide +kernel) (by decide +kernel)
theorem ww_613 : (Jvm.Cond.instanceMethod ({ cls := "PatternColumnsModel", name := "throwing", desc := "(ZZZZ)Z" } : Jvm.MethodName)) ∈ pq_W := pq_in 613 (by decide +kernel) (by decide +kernel)
theorem ww_614 : (Jvm.Cond.code ({ cls := "PatternColumnsModel", name := "throwing", desc := "(ZZZZ)Z" } : Jvm.MethodName) prog_7_method_3_code (5 : Nat) (Option.some Jvm.ClassFile.FieldType.boolean)) ∈ pq_W := pq_in 614 (by decide +kernel) (by decide +kernel)
theorem ww_615 : (Jvm.Cond.methodLink "PatternColumnsModel" (56 : Nat) ({ cls := "PatternColumnsModel", name := "forget", desc := "()V" } : Jvm.MethodName)) ∈ pq_W := pq_in 615 (by decide +kernel) (by decide +kernel)
theorem ww_617 : (Jvm.Cond.instanceMethod ({ cls := "PatternColumnsModel", name := "forget", desc := "()V" } : Jvm.MethodName)) ∈ pq_W := pq_in 617 (by decide +kernel) (by decide +kernel)
theorem ww_618 : (Jvm.Cond.code ({ cls := "PatternColumnsModel", name := "forget", desc := "()V" } : Jvm.MethodName) prog_7_method_6_code (1 : Nat) (Option.none : Option Jvm.ClassFile.FieldType)) ∈ pq_W := pq_in 618 (by decide +kernel) (by decide +kernel)
theorem ww_619 : (Jvm.Cond.methodLink "PatternColumnsLaw" (77 : Nat) ({ cls := "PatternColumnsModel", name := "order", desc := "(II)I" } : Jvm.MethodName)) ∈ pq_W := pq_in 619 (by decide +kernel) (by decide +kernel)
theorem ww_620 : (Jvm.Cond.instanceMethod ({ cls := "PatternColumnsModel", name := "order", desc := "(II)I" } : Jvm.MethodName)) ∈ pq_W := pq_in 620 (by decide +kernel) (by decide +kernel)
theorem ww_621 : (Jvm.Cond.selects "PatternColumnsModel" ({ cls := "PatternColumnsModel", name := "order", desc := "(II)I" } : Jvm.MethodName) ({ cls := "PatternColumnsModel", name := "order", desc := "(II)I" } : Jvm.MethodName)) ∈ pq_W := pq_in 621 (by decide +kernel) (by decide +kernel)
theorem ww_622 : (Jvm.Cond.code ({ cls := "PatternColumnsModel", name := "order", desc := "(II)I" } : Jvm.MethodName) prog_7_method_8_code (3 : Nat) (Option.some Jvm.ClassFile.FieldType.int)) ∈ pq_W := pq_in 622 (by decide +kernel) (by decide +kernel)
theorem ww_623 : (Jvm.Cond.methodLink "PatternColumnsLaw" (81 : Nat) ({ cls := "PatternColumnsModel", name := "pieces", desc := "(II)V" } : Jvm.MethodName)) ∈ pq_W := pq_in 623 (by decide +kernel) (by decide +kernel)
theorem ww_624 : (Jvm.Cond.instanceMethod ({ cls := "PatternColumnsModel", name := "pieces", desc := "(II)V" } : Jvm.MethodName)) ∈ pq_W := pq_in 624 (by decide +kernel) (by decide +kernel)
theorem ww_625 : (Jvm.Cond.selects "PatternColumnsModel" ({ cls := "PatternColumnsModel", name := "pieces", desc := "(II)V" } : Jvm.MethodName) ({ cls := "PatternColumnsModel", name := "pieces", desc := "(II)V" } : Jvm.MethodName)) ∈ pq_W := pq_in 625 (by decide +kernel) (by decide +kernel)
theorem ww_626 : (Jvm.Cond.code ({ cls := "PatternColumnsModel", name := "pieces", desc := "(II)V" } : Jvm.MethodName) prog_7_method_9_code (3 : Nat) (Option.none : Option Jvm.ClassFile.FieldType)) ∈ pq_W := pq_in 626 (by decide +kernel) (by decide +kernel)
theorem ww_627 : (Jvm.Cond.methodLink "PatternColumnsModel" (59 : Nat) ({ cls := "PatternColumnsModel", name := "isOrder", desc := "(I)Z" } : Jvm.MethodName)) ∈ pq_W := pq_in 627 (by decide +kernel) (by decide +kernel)
theorem ww_629 : (Jvm.Cond.instanceMethod ({ cls := "PatternColumnsModel", name := "isOrder", desc := "(I)Z" } : Jvm.MethodName)) ∈ pq_W := pq_in 629 (by decide +kernel) (by decide +kernel)
theorem ww_630 : (Jvm.Cond.code ({ cls := "PatternColumnsModel", name := "isOrder", desc := "(I)Z" } : Jvm.MethodName) prog_7_method_5_code (2 : Nat) (Option.some Jvm.ClassFile.FieldType.boolean)) ∈ pq_W := pq_in 630 (by decide +kernel) (by decide +kernel)
theorem ww_631 : (Jvm.Cond.methodLink "PatternColumnsLaw" (84 : Nat) ({ cls := "PatternColumnsModel", name := "price", desc := "(II)V" } : Jvm.MethodName)) ∈ pq_W := pq_in 631 (by decide +kernel) (by decide +kernel)
theorem ww_632 : (Jvm.Cond.instanceMethod ({ cls := "PatternColumnsModel", name := "price", desc := "(II)V" } : Jvm.MethodName)) ∈ pq_W := pq_in 632 (by decide +kernel) (by decide +kernel)
theorem ww_633 : (Jvm.Cond.selects "PatternColumnsModel" ({ cls := "PatternColumnsModel", name := "price", desc := "(II)V" } : Jvm.MethodName) ({ cls := "PatternColumnsModel", name := "price", desc := "(II)V" } : Jvm.MethodName)) ∈ pq_W := pq_in 633 (by decide +kernel) (by decide +kernel)
theorem ww_634 : (Jvm.Cond.code ({ cls := "PatternColumnsModel", name := "price", desc := "(II)V" } : Jvm.MethodName) prog_7_method_10_code (3 : Nat) (Option.none : Option Jvm.ClassFile.FieldType)) ∈ pq_W := pq_in 634 (by decide +kernel) (by decide +kernel)
theorem ww_635 : (Jvm.Cond.methodLink "PatternColumnsLaw" (88 : Nat) ({ cls := "PatternColumnsModel", name := "column", desc := "()I" } : Jvm.MethodName)) ∈ pq_W := pq_in 635 (by decide +kernel) (by decide +kernel)
theorem ww_636 : (Jvm.Cond.instanceMethod ({ cls := "PatternColumnsModel", name := "column", desc := "()I" } : Jvm.MethodName)) ∈ pq_W := pq_in 636 (by decide +kernel) (by decide +kernel)
theorem ww_637 : (Jvm.Cond.selects "PatternColumnsModel" ({ cls := "PatternColumnsModel", name := "column", desc := "()I" } : Jvm.MethodName) ({ cls := "PatternColumnsModel", name := "column", desc := "()I" } : Jvm.MethodName)) ∈ pq_W := pq_in 637 (by decide +kernel) (by decide +kernel)
theorem ww_638 : (Jvm.Cond.code ({ cls := "PatternColumnsModel", name := "column", desc := "()I" } : Jvm.MethodName) prog_7_method_16_code (1 : Nat) (Option.some Jvm.ClassFile.FieldType.int)) ∈ pq_W := pq_in 638 (by decide +kernel) (by decide +kernel)
theorem ww_639 : (Jvm.Cond.methodLink "PatternColumnsModel" (78 : Nat) ({ cls := "PatternColumnsModel", name := "findColumn", desc := "()I" } : Jvm.MethodName)) ∈ pq_W := pq_in 639 (by decide +kernel) (by decide +kernel)
theorem ww_641 : (Jvm.Cond.instanceMethod ({ cls := "PatternColumnsModel", name := "findColumn", desc := "()I" } : Jvm.MethodName)) ∈ pq_W := pq_in 641 (by decide +kernel) (by decide +kernel)
theorem ww_642 : (Jvm.Cond.code ({ cls := "PatternColumnsModel", name := "findColumn", desc := "()I" } : Jvm.MethodName) prog_7_method_15_code (5 : Nat) (Option.some Jvm.ClassFile.FieldType.int)) ∈ pq_W := pq_in 642 (by decide +kernel) (by decide +kernel)
theorem ww_643 : (Jvm.Cond.methodLink "PatternColumnsModel" (67 : Nat) ({ cls := "PatternColumnsModel", name := "fill", desc := "(II)V" } : Jvm.MethodName)) ∈ pq_W := pq_in 643 (by decide +kernel) (by decide +kernel)
theorem ww_645 : (Jvm.Cond.instanceMethod ({ cls := "PatternColumnsModel", name := "fill", desc := "(II)V" } : Jvm.MethodName)) ∈ pq_W := pq_in 645 (by decide +kernel) (by decide +kernel)
theorem ww_646 : (Jvm.Cond.code ({ cls := "PatternColumnsModel", name := "fill", desc := "(II)V" } : Jvm.MethodName) prog_7_method_12_code (5 : Nat) (Option.none : Option Jvm.ClassFile.FieldType)) ∈ pq_W := pq_in 646 (by decide +kernel) (by decide +kernel)
theorem ww_647 : (Jvm.Cond.methodLink "PatternColumnsModel" (63 : Nat) ({ cls := "PatternColumnsModel", name := "roomAt", desc := "(II)I" } : Jvm.MethodName)) ∈ pq_W := pq_in 647 (by decide +kernel) (by decide +kernel)
theorem ww_649 : (Jvm.Cond.instanceMethod ({ cls := "PatternColumnsModel", name := "roomAt", desc := "(II)I" } : Jvm.MethodName)) ∈ pq_W := pq_in 649 (by decide +kernel) (by decide +kernel)
theorem ww_650 : (Jvm.Cond.code ({ cls := "PatternColumnsModel", name := "roomAt", desc := "(II)I" } : Jvm.MethodName) prog_7_method_11_code (5 : Nat) (Option.some Jvm.ClassFile.FieldType.int)) ∈ pq_W := pq_in 650 (by decide +kernel) (by decide +kernel)
theorem ww_651 : (Jvm.Cond.methodLink "PatternColumnsModel" (71 : Nat) ({ cls := "PatternColumnsModel", name := "sumAt", desc := "(I)I" } : Jvm.MethodName)) ∈ pq_W := pq_in 651 (by decide +kernel) (by decide +kernel)
theorem ww_653 : (Jvm.Cond.instanceMethod ({ cls := "PatternColumnsModel", name := "sumAt", desc := "(I)I" } : Jvm.MethodName)) ∈ pq_W := pq_in 653 (by decide +kernel) (by decide +kernel)
theorem ww_654 : (Jvm.Cond.code ({ cls := "PatternColumnsModel", name := "sumAt", desc := "(I)I" } : Jvm.MethodName) prog_7_method_14_code (4 : Nat) (Option.some Jvm.ClassFile.FieldType.int)) ∈ pq_W := pq_in 654 (by decide +kernel) (by decide +kernel)
theorem ww_655 : (Jvm.Cond.methodLink "PatternColumnsModel" (75 : Nat) ({ cls := "PatternColumnsModel", name := "goesDown", desc := "(I)Z" } : Jvm.MethodName)) ∈ pq_W := pq_in 655 (by decide +kernel) (by decide +kernel)
theorem ww_657 : (Jvm.Cond.instanceMethod ({ cls := "PatternColumnsModel", name := "goesDown", desc := "(I)Z" } : Jvm.MethodName)) ∈ pq_W := pq_in 657 (by decide +kernel) (by decide +kernel)
theorem ww_658 : (Jvm.Cond.code ({ cls := "PatternColumnsModel", name := "goesDown", desc := "(I)Z" } : Jvm.MethodName) prog_7_method_13_code (3 : Nat) (Option.some Jvm.ClassFile.FieldType.boolean)) ∈ pq_W := pq_in 658 (by decide +kernel) (by decide +kernel)
theorem ww_659 : (Jvm.Cond.methodLink "PatternColumnsLaw" (92 : Nat) ({ cls := "PatternColumnsModel", name := "columnOf", desc := "(I)I" } : Jvm.MethodName)) ∈ pq_W := pq_in 659 (by decide +kernel) (by decide +kernel)
theorem ww_660 : (Jvm.Cond.instanceMethod ({ cls := "PatternColumnsModel", name := "columnOf", desc := "(I)I" } : Jvm.MethodName)) ∈ pq_W := pq_in 660 (by decide +kernel) (by decide +kernel)
theorem ww_661 : (Jvm.Cond.selects "PatternColumnsModel" ({ cls := "PatternColumnsModel", name := "columnOf", desc := "(I)I" } : Jvm.MethodName) ({ cls := "PatternColumnsModel", name := "columnOf", desc := "(I)I" } : Jvm.MethodName)) ∈ pq_W := pq_in 661 (by decide +kernel) (by decide +kernel)
theorem ww_662 : (Jvm.Cond.code ({ cls := "PatternColumnsModel", name := "columnOf", desc := "(I)I" } : Jvm.MethodName) prog_7_method_17_code (2 : Nat) (Option.some Jvm.ClassFile.FieldType.int)) ∈ pq_W := pq_in 662 (by decide +kernel) (by decide +kernel)
theorem ww_663 : (Jvm.Cond.methodLink "PatternColumnsLaw" (96 : Nat) ({ cls := "PatternColumnsModel", name := "bound", desc := "()I" } : Jvm.MethodName)) ∈ pq_W := pq_in 663 (by decide +kernel) (by decide +kernel)
theorem ww_664 : (Jvm.Cond.instanceMethod ({ cls := "PatternColumnsModel", name := "bound", desc := "()I" } : Jvm.MethodName)) ∈ pq_W := pq_in 664 (by decide +kernel) (by decide +kernel)
theorem ww_665 : (Jvm.Cond.selects "PatternColumnsModel" ({ cls := "PatternColumnsModel", name := "bound", desc := "()I" } : Jvm.MethodName) ({ cls := "PatternColumnsModel", name := "bound", desc := "()I" } : Jvm.MethodName)) ∈ pq_W := pq_in 665 (by decide +kernel) (by decide +kernel)
theorem ww_666 : (Jvm.Cond.code ({ cls := "PatternColumnsModel", name := "bound", desc := "()I" } : Jvm.MethodName) prog_7_method_19_code (1 : Nat) (Option.some Jvm.ClassFile.FieldType.int)) ∈ pq_W := pq_in 666 (by decide +kernel) (by decide +kernel)
theorem ww_667 : (Jvm.Cond.methodLink "PatternColumnsModel" (82 : Nat) ({ cls := "PatternColumnsModel", name := "boundNow", desc := "()I" } : Jvm.MethodName)) ∈ pq_W := pq_in 667 (by decide +kernel) (by decide +kernel)
theorem ww_669 : (Jvm.Cond.instanceMethod ({ cls := "PatternColumnsModel", name := "boundNow", desc := "()I" } : Jvm.MethodName)) ∈ pq_W := pq_in 669 (by decide +kernel) (by decide +kernel)
theorem ww_670 : (Jvm.Cond.code ({ cls := "PatternColumnsModel", name := "boundNow", desc := "()I" } : Jvm.MethodName) prog_7_method_18_code (4 : Nat) (Option.some Jvm.ClassFile.FieldType.int)) ∈ pq_W := pq_in 670 (by decide +kernel) (by decide +kernel)
theorem ww_671 : (Jvm.Cond.methodLink "PatternColumnsLaw" (99 : Nat) ({ cls := "PatternColumnsModel", name := "design", desc := "(I)I" } : Jvm.MethodName)) ∈ pq_W := pq_in 671 (by decide +kernel) (by decide +kernel)
theorem ww_672 : (Jvm.Cond.instanceMethod ({ cls := "PatternColumnsModel", name := "design", desc := "(I)I" } : Jvm.MethodName)) ∈ pq_W := pq_in 672 (by decide +kernel) (by decide +kernel)
theorem ww_673 : (Jvm.Cond.selects "PatternColumnsModel" ({ cls := "PatternColumnsModel", name := "design", desc := "(I)I" } : Jvm.MethodName) ({ cls := "PatternColumnsModel", name := "design", desc := "(I)I" } : Jvm.MethodName)) ∈ pq_W := pq_in 673 (by decide +kernel) (by decide +kernel)
theorem ww_674 : (Jvm.Cond.code ({ cls := "PatternColumnsModel", name := "design", desc := "(I)I" } : Jvm.MethodName) prog_7_method_25_code (4 : Nat) (Option.some Jvm.ClassFile.FieldType.int)) ∈ pq_W := pq_in 674 (by decide +kernel) (by decide +kernel)
theorem ww_675 : (Jvm.Cond.constant "PatternColumnsModel" (103 : Nat) (100000 : Int32)) ∈ pq_W := pq_in 675 (by decide +kernel) (by decide +kernel)
theorem ww_676 : (Jvm.Cond.methodLink "PatternColumnsModel" (104 : Nat) ({ cls := "PatternColumnsModel", name := "search", desc := "(I)V" } : Jvm.MethodName)) ∈ pq_W := pq_in 676 (by decide +kernel) (by decide +kernel)
theorem ww_678 : (Jvm.Cond.instanceMethod ({ cls := "PatternColumnsModel", name := "search", desc := "(I)V" } : Jvm.MethodName)) ∈ pq_W := pq_in 678 (by decide +kernel) (by decide +kernel)
theorem ww_679 : (Jvm.Cond.code ({ cls := "PatternColumnsModel", name := "search", desc := "(I)V" } : Jvm.MethodName) prog_7_method_24_code (7 : Nat) (Option.none : Option Jvm.ClassFile.FieldType)) ∈ pq_W := pq_in 679 (by decide +kernel) (by decide +kernel)
theorem ww_680 : (Jvm.Cond.methodLink "PatternColumnsModel" (91 : Nat) ({ cls := "PatternColumnsModel", name := "goesOn", desc := "(I)Z" } : Jvm.MethodName)) ∈ pq_W := pq_in 680 (by decide +kernel) (by decide +kernel)
theorem ww_682 : (Jvm.Cond.instanceMethod ({ cls := "PatternColumnsModel", name := "goesOn", desc := "(I)Z" } : Jvm.MethodName)) ∈ pq_W := pq_in 682 (by decide +kernel) (by decide +kernel)
theorem ww_683 : (Jvm.Cond.code ({ cls := "PatternColumnsModel", name := "goesOn", desc := "(I)Z" } : Jvm.MethodName) prog_7_method_23_code (3 : Nat) (Option.some Jvm.ClassFile.FieldType.boolean)) ∈ pq_W := pq_in 683 (by decide +kernel) (by decide +kernel)
theorem ww_684 : (Jvm.Cond.methodLink "PatternColumnsModel" (85 : Nat) ({ cls := "PatternColumnsModel", name := "sheetsFor", desc := "(I)I" } : Jvm.MethodName)) ∈ pq_W := pq_in 684 (by decide +kernel) (by decide +kernel)
theorem ww_686 : (Jvm.Cond.instanceMethod ({ cls := "PatternColumnsModel", name := "sheetsFor", desc := "(I)I" } : Jvm.MethodName)) ∈ pq_W := pq_in 686 (by decide +kernel) (by decide +kernel)
theorem ww_687 : (Jvm.Cond.code ({ cls := "PatternColumnsModel", name := "sheetsFor", desc := "(I)I" } : Jvm.MethodName) prog_7_method_20_code (4 : Nat) (Option.some Jvm.ClassFile.FieldType.int)) ∈ pq_W := pq_in 687 (by decide +kernel) (by decide +kernel)
theorem ww_688 : (Jvm.Cond.methodLink "PatternColumnsModel" (88 : Nat) ({ cls := "PatternColumnsModel", name := "isNothingLeft", desc := "(I)Z" } : Jvm.MethodName)) ∈ pq_W := pq_in 688 (by decide +kernel) (by decide +kernel)
theorem ww_690 : (Jvm.Cond.instanceMethod ({ cls := "PatternColumnsModel", name := "isNothingLeft", desc := "(I)Z" } : Jvm.MethodName)) ∈ pq_W := pq_in 690 (by decide +kernel) (by decide +kernel)
theorem ww_691 : (Jvm.Cond.code ({ cls := "PatternColumnsModel", name := "isNothingLeft", desc := "(I)Z" } : Jvm.MethodName) prog_7_method_21_code (4 : Nat) (Option.some Jvm.ClassFile.FieldType.boolean)) ∈ pq_W := pq_in 691 (by decide +kernel) (by decide +kernel)
theorem ww_692 : (Jvm.Cond.methodLink "PatternColumnsModel" (94 : Nat) ({ cls := "PatternColumnsModel", name := "lowestLeft", desc := "(I)I" } : Jvm.MethodName)) ∈ pq_W := pq_in 692 (by decide +kernel) (by decide +kernel)
theorem ww_694 : (Jvm.Cond.instanceMethod ({ cls := "PatternColumnsModel", name := "lowestLeft", desc := "(I)I" } : Jvm.MethodName)) ∈ pq_W := pq_in 694 (by decide +kernel) (by decide +kernel)
theorem ww_695 : (Jvm.Cond.code ({ cls := "PatternColumnsModel", name := "lowestLeft", desc := "(I)I" } : Jvm.MethodName) prog_7_method_22_code (3 : Nat) (Option.some Jvm.ClassFile.FieldType.int)) ∈ pq_W := pq_in 695 (by decide +kernel) (by decide +kernel)
theorem ww_696 : (Jvm.Cond.methodLink "PatternColumnsLaw" (102 : Nat) ({ cls := "PatternColumnsModel", name := "designed", desc := "(I)I" } : Jvm.MethodName)) ∈ pq_W := pq_in 696 (by decide +kernel) (by decide +kernel)
theorem ww_697 : (Jvm.Cond.instanceMethod ({ cls := "PatternColumnsModel", name := "designed", desc := "(I)I" } : Jvm.MethodName)) ∈ pq_W := pq_in 697 (by decide +kernel) (by decide +kernel)
theorem ww_698 : (Jvm.Cond.selects "PatternColumnsModel" ({ cls := "PatternColumnsModel", name := "designed", desc := "(I)I" } : Jvm.MethodName) ({ cls := "PatternColumnsModel", name := "designed", desc := "(I)I" } : Jvm.MethodName)) ∈ pq_W := pq_in 698 (by decide +kernel) (by decide +kernel)
theorem ww_699 : (Jvm.Cond.code ({ cls := "PatternColumnsModel", name := "designed", desc := "(I)I" } : Jvm.MethodName) prog_7_method_26_code (2 : Nat) (Option.some Jvm.ClassFile.FieldType.int)) ∈ pq_W := pq_in 699 (by decide +kernel) (by decide +kernel)
theorem ww_700 : (Jvm.Cond.methodLink "PatternColumnsLaw" (106 : Nat) ({ cls := "PatternColumnsModel", name := "gap", desc := "()I" } : Jvm.MethodName)) ∈ pq_W := pq_in 700 (by decide +kernel) (by decide +kernel)
theorem ww_701 : (Jvm.Cond.instanceMethod ({ cls := "PatternColumnsModel", name := "gap", desc := "()I" } : Jvm.MethodName)) ∈ pq_W := pq_in 701 (by decide +kernel) (by decide +kernel)
theorem ww_702 : (Jvm.Cond.selects "PatternColumnsModel" ({ cls := "PatternColumnsModel", name := "gap", desc := "()I" } : Jvm.MethodName) ({ cls := "PatternColumnsModel", name := "gap", desc := "()I" } : Jvm.MethodName)) ∈ pq_W := pq_in 702 (by decide +kernel) (by decide +kernel)
theorem ww_703 : (Jvm.Cond.code ({ cls := "PatternColumnsModel", name := "gap", desc := "()I" } : Jvm.MethodName) prog_7_method_27_code (4 : Nat) (Option.some Jvm.ClassFile.FieldType.int)) ∈ pq_W := pq_in 703 (by decide +kernel) (by decide +kernel)
theorem ww_704 : (Jvm.Cond.methodLink "PatternColumnsLaw" (109 : Nat) ({ cls := "PatternColumnsModel", name := "cut", desc := "(II)I" } : Jvm.MethodName)) ∈ pq_W := pq_in 704 (by decide +kernel) (by decide +kernel)
theorem ww_705 : (Jvm.Cond.instanceMethod ({ cls := "PatternColumnsModel", name := "cut", desc := "(II)I" } : Jvm.MethodName)) ∈ pq_W := pq_in 705 (by decide +kernel) (by decide +kernel)
theorem ww_706 : (Jvm.Cond.selects "PatternColumnsModel" ({ cls := "PatternColumnsModel", name := "cut", desc := "(II)I" } : Jvm.MethodName) ({ cls := "PatternColumnsModel", name := "cut", desc := "(II)I" } : Jvm.MethodName)) ∈ pq_W := pq_in 706 (by decide +kernel) (by decide +kernel)
theorem ww_707 : (Jvm.Cond.code ({ cls := "PatternColumnsModel", name := "cut", desc := "(II)I" } : Jvm.MethodName) prog_7_method_29_code (3 : Nat) (Option.some Jvm.ClassFile.FieldType.int)) ∈ pq_W := pq_in 707 (by decide +kernel) (by decide +kernel)
theorem ww_708 : (Jvm.Cond.methodLink "PatternColumnsModel" (108 : Nat) ({ cls := "PatternColumnsModel", name := "refuses", desc := "(IZ)Z" } : Jvm.MethodName)) ∈ pq_W := pq_in 708 (by decide +kernel) (by decide +kernel)
theorem ww_710 : (Jvm.Cond.instanceMethod ({ cls := "PatternColumnsModel", name := "refuses", desc := "(IZ)Z" } : Jvm.MethodName)) ∈ pq_W := pq_in 710 (by decide +kernel) (by decide +kernel)
theorem ww_711 : (Jvm.Cond.code ({ cls := "PatternColumnsModel", name := "refuses", desc := "(IZ)Z" } : Jvm.MethodName) prog_7_method_28_code (3 : Nat) (Option.some Jvm.ClassFile.FieldType.boolean)) ∈ pq_W := pq_in 711 (by decide +kernel) (by decide +kernel)
theorem ww_712 : (Jvm.Cond.methodLink "PatternColumnsLaw" (112 : Nat) ({ cls := "PatternColumnsModel", name := "over", desc := "(I)I" } : Jvm.MethodName)) ∈ pq_W := pq_in 712 (by decide +kernel) (by decide +kernel)
theorem ww_713 : (Jvm.Cond.instanceMethod ({ cls := "PatternColumnsModel", name := "over", desc := "(I)I" } : Jvm.MethodName)) ∈ pq_W := pq_in 713 (by decide +kernel) (by decide +kernel)
theorem ww_714 : (Jvm.Cond.selects "PatternColumnsModel" ({ cls := "PatternColumnsModel", name := "over", desc := "(I)I" } : Jvm.MethodName) ({ cls := "PatternColumnsModel", name := "over", desc := "(I)I" } : Jvm.MethodName)) ∈ pq_W := pq_in 714 (by decide +kernel) (by decide +kernel)
theorem ww_715 : (Jvm.Cond.code ({ cls := "PatternColumnsModel", name := "over", desc := "(I)I" } : Jvm.MethodName) prog_7_method_30_code (4 : Nat) (Option.some Jvm.ClassFile.FieldType.int)) ∈ pq_W := pq_in 715 (by decide +kernel) (by decide +kernel)
theorem ww_716 : (Jvm.Cond.methodLink "PatternColumnsLaw" (115 : Nat) ({ cls := "PatternColumnsModel", name := "keep", desc := "(II)I" } : Jvm.MethodName)) ∈ pq_W := pq_in 716 (by decide +kernel) (by decide +kernel)
theorem ww_717 : (Jvm.Cond.instanceMethod ({ cls := "PatternColumnsModel", name := "keep", desc := "(II)I" } : Jvm.MethodName)) ∈ pq_W := pq_in 717 (by decide +kernel) (by decide +kernel)
theorem ww_718 : (Jvm.Cond.selects "PatternColumnsModel" ({ cls := "PatternColumnsModel", name := "keep", desc := "(II)I" } : Jvm.MethodName) ({ cls := "PatternColumnsModel", name := "keep", desc := "(II)I" } : Jvm.MethodName)) ∈ pq_W := pq_in 718 (by decide +kernel) (by decide +kernel)
theorem ww_719 : (Jvm.Cond.code ({ cls := "PatternColumnsModel", name := "keep", desc := "(II)I" } : Jvm.MethodName) prog_7_method_32_code (5 : Nat) (Option.some Jvm.ClassFile.FieldType.int)) ∈ pq_W := pq_in 719 (by decide +kernel) (by decide +kernel)
theorem ww_720 : (Jvm.Cond.methodLink "PatternColumnsModel" (115 : Nat) ({ cls := "PatternColumnsModel", name := "keptAs", desc := "(I)I" } : Jvm.MethodName)) ∈ pq_W := pq_in 720 (by decide +kernel) (by decide +kernel)
theorem ww_722 : (Jvm.Cond.instanceMethod ({ cls := "PatternColumnsModel", name := "keptAs", desc := "(I)I" } : Jvm.MethodName)) ∈ pq_W := pq_in 722 (by decide +kernel) (by decide +kernel)
theorem ww_723 : (Jvm.Cond.code ({ cls := "PatternColumnsModel", name := "keptAs", desc := "(I)I" } : Jvm.MethodName) prog_7_method_31_code (5 : Nat) (Option.some Jvm.ClassFile.FieldType.int)) ∈ pq_W := pq_in 723 (by decide +kernel) (by decide +kernel)
theorem ww_724 : (Jvm.Cond.methodLink "PatternColumnsLaw" (118 : Nat) ({ cls := "PatternColumnsModel", name := "kept", desc := "(II)I" } : Jvm.MethodName)) ∈ pq_W := pq_in 724 (by decide +kernel) (by decide +kernel)
theorem ww_725 : (Jvm.Cond.instanceMethod ({ cls := "PatternColumnsModel", name := "kept", desc := "(II)I" } : Jvm.MethodName)) ∈ pq_W := pq_in 725 (by decide +kernel) (by decide +kernel)
theorem ww_726 : (Jvm.Cond.selects "PatternColumnsModel" ({ cls := "PatternColumnsModel", name := "kept", desc := "(II)I" } : Jvm.MethodName) ({ cls := "PatternColumnsModel", name := "kept", desc := "(II)I" } : Jvm.MethodName)) ∈ pq_W := pq_in 726 (by decide +kernel) (by decide +kernel)
theorem ww_727 : (Jvm.Cond.code ({ cls := "PatternColumnsModel", name := "kept", desc := "(II)I" } : Jvm.MethodName) prog_7_method_33_code (3 : Nat) (Option.some Jvm.ClassFile.FieldType.int)) ∈ pq_W := pq_in 727 (by decide +kernel) (by decide +kernel)
theorem ww_728 : (Jvm.Cond.methodLink "PatternColumnsLaw" (121 : Nat) ({ cls := "PatternColumnsModel", name := "fitting", desc := "(I)I" } : Jvm.MethodName)) ∈ pq_W := pq_in 728 (by decide +kernel) (by decide +kernel)
theorem ww_729 : (Jvm.Cond.instanceMethod ({ cls := "PatternColumnsModel", name := "fitting", desc := "(I)I" } : Jvm.MethodName)) ∈ pq_W := pq_in 729 (by decide +kernel) (by decide +kernel)
theorem ww_730 : (Jvm.Cond.selects "PatternColumnsModel" ({ cls := "PatternColumnsModel", name := "fitting", desc := "(I)I" } : Jvm.MethodName) ({ cls := "PatternColumnsModel", name := "fitting", desc := "(I)I" } : Jvm.MethodName)) ∈ pq_W := pq_in 730 (by decide +kernel) (by decide +kernel)
theorem ww_731 : (Jvm.Cond.code ({ cls := "PatternColumnsModel", name := "fitting", desc := "(I)I" } : Jvm.MethodName) prog_7_method_34_code (8 : Nat) (Option.some Jvm.ClassFile.FieldType.int)) ∈ pq_W := pq_in 731 (by decide +kernel) (by decide +kernel)
theorem ww_732 : (Jvm.Cond.arrayClass Jvm.ClassFile.FieldType.long) ∈ pq_W := pq_in 732 (by decide +kernel) (by decide +kernel)
theorem ww_733 : (Jvm.Cond.sameMethod "java/lang/Throwable" "java/lang/Throwable" "fillInStackTrace" "(I)Ljava/lang/Throwable;") ∈ pq_W := pq_in 733 (by decide +kernel) (by decide +kernel)
/-! the shapes of the cells: object (class, fields: none an int, some r the cell r), ints, longs, rows of ints -/
abbrev pq_S : Type := (Nat × List (Option Nat)) ⊕ (Nat ⊕ (Nat ⊕ (Nat × (Nat → Nat))))
def pq_sh : Nat → pq_S := fun k =>
  if k < 16 then (match k with
    | 0 => .inl (0, [some 1, some 2, some 3, some 4])
    | 1 => .inl (1, [none, none, some 8, some 9, some 10])
    | 2 => .inl (2, [some 1, some 11, some 12, none, none])
    | 3 => .inl (3, [some 1, some 13, none, some 5, some 6, none, none, none, none])
    | 4 => .inl (4, [none, some 7, some 14, some 15])
    | 5 => .inr (.inr (.inr (30, fun j => 16 + j)))
    | 6 => .inr (.inr (.inr (30, fun j => 46 + j)))
    | 7 => .inr (.inr (.inr (40, fun j => 76 + j)))
    | 14 => .inr (.inl 40)
    | 15 => .inr (.inl 40)
    | _ => .inr (.inl 5))
  else if k < 116 then .inr (.inl 5)
  else (match k - 116 with
    | 0 => .inl (5, [none, none, none, some 117, some 118, some 119, some 120, some 121, none, some 122, none, none, none, none, some 123])
    | 1 => .inr (.inl 5)
    | 2 => .inr (.inl 5)
    | 3 => .inr (.inl 5)
    | 4 => .inr (.inl 160)
    | 5 => .inr (.inl 160)
    | 6 => .inr (.inl 155)
    | 7 => .inr (.inl 280)
    | _ => .inr (.inr (.inl 1)))
abbrev pq_N : Nat := 125
/-- words of the tables that a callee gets by its precondition -/
def pq_Wn : List Cond := [(Jvm.Cond.castable "java/lang/IllegalArgumentException" "java/lang/IllegalArgumentException"), (Jvm.Cond.declares ({ cls := "java/lang/RuntimeException", name := "<init>", desc := "()V" } : Jvm.MethodName)), (Jvm.Cond.declares ({ cls := "java/lang/RuntimeException", name := "<init>", desc := "(Ljava/lang/String;)V" } : Jvm.MethodName)), (Jvm.Cond.declares ({ cls := "java/lang/Exception", name := "<init>", desc := "()V" } : Jvm.MethodName)), (Jvm.Cond.declares ({ cls := "java/lang/Exception", name := "<init>", desc := "(Ljava/lang/String;)V" } : Jvm.MethodName)), (Jvm.Cond.declares ({ cls := "java/lang/Throwable", name := "<init>", desc := "()V" } : Jvm.MethodName)), (Jvm.Cond.declares ({ cls := "java/lang/Throwable", name := "<init>", desc := "(Ljava/lang/String;)V" } : Jvm.MethodName)), (Jvm.Cond.castable "java/lang/IllegalStateException" "java/lang/IllegalStateException"), (Jvm.Cond.castable "java/lang/IndexOutOfBoundsException" "java/lang/IndexOutOfBoundsException"), (Jvm.Cond.castable "java/lang/UnsupportedOperationException" "java/lang/UnsupportedOperationException"), (Jvm.Cond.methodLinkNest "PatternColumns$Slabs" (36 : Nat) ({ cls := "PatternColumns", name := "roundedUp", desc := "(II)I" } : Jvm.MethodName) "PatternColumns")]
theorem pq_Wn_in : ∀ w ∈ pq_Wn, w ∈ lw_tbl := by decide +kernel
def pq_nk : Cond → Bool | .declares _ => true | .castable _ _ => true | .methodLinkNest _ _ _ _ => true | _ => false
theorem pq_Wn_nk : ∀ w ∈ pq_Wn, pq_nk w = true := by decide +kernel
def pq_strs : List (String × Nat × String) := [("PatternColumns", 41, "no such width of sheets"), ("PatternColumns", 58, "there are five orders"), ("PatternColumns", 61, "no such width of pieces"), ("PatternColumns", 63, "no such number of pieces"), ("PatternColumns", 75, "no such order"), ("PatternColumns", 82, "no such price"), ("PatternColumns", 102, "no such number of steps"), ("PatternColumns", 110, "a piece is wider than a sheet"), ("PatternColumns", 120, "no such what"), ("PatternColumns", 126, "nothing was designed"), ("PatternColumns", 198, "there is no design"), ("PatternColumns", 200, "no such sheet of the design"), ("PatternColumns", 159, "no such day"), ("PatternColumns", 169, "forty others are kept"), ("PatternColumns", 174, "no such kept pattern"), ("PatternColumns", 185, "below the first one")]

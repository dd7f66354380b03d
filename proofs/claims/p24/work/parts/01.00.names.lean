theorem goodIn_r {big : List Cond} (ws : List Cond) (ps : List Nat) (hp : ws = ps.filterMap (fun i => big[i]?)) (h : ws.all goodWord = true) : GoodIn big ws := by
  intro w hw
  have h1 := List.all_eq_true.mp h w hw
  rw [hp] at hw
  obtain ⟨i, -, hi⟩ := List.mem_filterMap.mp hw
  have hm : w ∈ big := by first | exact List.mem_of_getElem? hi | exact List.getElem?_mem hi
  exact ⟨hm, good_of_word h1⟩
theorem goodIn_app {big a b : List Cond} (ha : GoodIn big a) (hb : GoodIn big b) : GoodIn big (a ++ b) := fun w h => (List.mem_append.mp h).elim (ha w) (hb w)
theorem goodIn_ca {big a b : List Cond} {c : Cond} (ha : GoodIn big (c :: a)) (hb : GoodIn big b) : GoodIn big (c :: (a ++ b)) := fun w h => (List.mem_cons.mp h).elim (fun e => ha w (List.mem_cons.mpr (Or.inl e))) (fun h => (List.mem_append.mp h).elim (fun h => ha w (List.mem_cons.mpr (Or.inr h))) (hb w))
theorem goodIn_sub {big ws : List Cond} (hm : ∀ w ∈ ws, w ∈ big) (h : ws.all goodWord = true) : GoodIn big ws := fun w hw => ⟨hm w hw, good_of_word (List.all_eq_true.mp h w hw)⟩
/-! ===== BEGIN printed: names, fields, word lists, decode rows ===== -/
def RX0 : String := "ClearingGates$Books"
def TX0 : u_T := fun k => match k with
  | 0 => ("ClearingGates$Books", "kinds", "[I", true)
  | 1 => ("ClearingGates$Books", "balances", "[I", true)
  | 2 => ("ClearingGates$Books", "limits", "[I", true)
  | 3 => ("ClearingGates$Books", "gates", "[Z", true)
  | 4 => ("ClearingGates$Books", "entries", "[I", true)
  | 5 => ("ClearingGates$Books", "leavings", "[I", true)
  | 6 => ("ClearingGates$Books", "agains", "[I", true)
  | 7 => ("ClearingGates$Books", "accounts", "I", false)
  | 8 => ("ClearingGates$Books", "fees", "J", false)
  | 9 => ("ClearingGates$Books", "missed", "I", false)
  | 10 => ("ClearingGates$Books", "bells", "I", false)
  | 11 => ("ClearingGates$Books", "refused", "I", false)
  | _ => ("ClearingGates$Books", "caught", "I", false)
def tyX0 : Nat → FieldType := fun k => match k with
  | 0 => .array .int
  | 1 => .array .int
  | 2 => .array .int
  | 3 => .array .boolean
  | 4 => .array .int
  | 5 => .array .int
  | 6 => .array .int
  | 7 => .int
  | 8 => .long
  | 9 => .int
  | 10 => .int
  | 11 => .int
  | _ => .int
abbrev wsX00 : List Cond := u_ws RX0 TX0 13
theorem nmX0 : ∀ a, a < 13 → ∀ b, b < 13 → a ≠ b → (TX0 a).2.1 ≠ (TX0 b).2.1 := by decide +kernel
theorem tyX0_ok : ∀ k, k < 13 → parseFieldDescriptor (TX0 k).2.2.1 = some (tyX0 k) := by decide +kernel
abbrev cX0_has : ByteArray := prog_2_method_2_code
def yX0_has : MethodName := ⟨RX0, "has", "(I)Z"⟩
abbrev cX0_hasGate : ByteArray := prog_2_method_3_code
def yX0_hasGate : MethodName := ⟨RX0, "hasGate", "(I)Z"⟩
abbrev cX0_hasAllGates : ByteArray := prog_2_method_4_code
def yX0_hasAllGates : MethodName := ⟨RX0, "hasAllGates", "()Z"⟩
abbrev cX0_open : ByteArray := prog_2_method_5_code
def yX0_open : MethodName := ⟨RX0, "open", "(II)I"⟩
abbrev cX0_feeOf : ByteArray := prog_2_method_6_code
def yX0_feeOf : MethodName := ⟨RX0, "feeOf", "(II)I"⟩
abbrev cX0_floorOf : ByteArray := prog_2_method_7_code
def yX0_floorOf : MethodName := ⟨RX0, "floorOf", "(I)I"⟩
abbrev cX0_allMoney : ByteArray := prog_2_method_8_code
def yX0_allMoney : MethodName := ⟨RX0, "allMoney", "()J"⟩
abbrev cX0_allEntries : ByteArray := prog_2_method_9_code
def yX0_allEntries : MethodName := ⟨RX0, "allEntries", "()I"⟩
abbrev cX0_enterAll : ByteArray := prog_2_method_10_code
def yX0_enterAll : MethodName := ⟨RX0, "enterAll", "()V"⟩
abbrev cX0_leaveAll : ByteArray := prog_2_method_11_code
def yX0_leaveAll : MethodName := ⟨RX0, "leaveAll", "()V"⟩
abbrev cX0_becomeAs : ByteArray := prog_2_method_12_code
def yX0_becomeAs : MethodName := ⟨RX0, "becomeAs", "(LClearingGates$Books;)V"⟩
def RX1 : String := "ClearingGates$Debts"
def TX1 : u_T := fun k => match k with
  | _ => ("ClearingGates$Debts", "row", "[I", true)
abbrev wsX10 : List Cond := u_ws RX1 TX1 1
abbrev cX1_between : ByteArray := prog_3_method_2_code
def yX1_between : MethodName := ⟨RX1, "between", "(II)I"⟩
abbrev cX1_become : ByteArray := prog_3_method_3_code
def yX1_become : MethodName := ⟨RX1, "become", "(III)V"⟩
abbrev cX1_total : ByteArray := prog_3_method_4_code
def yX1_total : MethodName := ⟨RX1, "total", "()J"⟩
abbrev cX1_positionOf : ByteArray := prog_3_method_5_code
def yX1_positionOf : MethodName := ⟨RX1, "positionOf", "(I)J"⟩
abbrev cX1_becomeAs : ByteArray := prog_3_method_6_code
def yX1_becomeAs : MethodName := ⟨RX1, "becomeAs", "(LClearingGates$Debts;)V"⟩
def RX2 : String := "ClearingGates$Kinds"
abbrev cX2_isKind : ByteArray := prog_4_method_2_code
def yX2_isKind : MethodName := ⟨RX2, "isKind", "(I)Z"⟩
abbrev cX2_feeOf : ByteArray := prog_4_method_3_code
def yX2_feeOf : MethodName := ⟨RX2, "feeOf", "(II)I"⟩
abbrev cX2_floorOf : ByteArray := prog_4_method_4_code
def yX2_floorOf : MethodName := ⟨RX2, "floorOf", "(II)I"⟩
abbrev cX2_isOrIsUnder : ByteArray := prog_4_method_5_code
def yX2_isOrIsUnder : MethodName := ⟨RX2, "isOrIsUnder", "(II)Z"⟩
def RX3 : String := "ClearingGates$Program"
def TX3 : u_T := fun k => match k with
  | 0 => ("ClearingGates$Program", "bytes", "[I", true)
  | 1 => ("ClearingGates$Program", "behind", "[I", true)
  | _ => ("ClearingGates$Program", "size", "I", false)
def tyX3 : Nat → FieldType := fun k => match k with
  | 0 => .array .int
  | 1 => .array .int
  | _ => .int
abbrev wsX30 : List Cond := u_ws RX3 TX3 3
theorem nmX3 : ∀ a, a < 3 → ∀ b, b < 3 → a ≠ b → (TX3 a).2.1 ≠ (TX3 b).2.1 := by decide +kernel
theorem tyX3_ok : ∀ k, k < 3 → parseFieldDescriptor (TX3 k).2.2.1 = some (tyX3 k) := by decide +kernel
abbrev cX3_takeOver : ByteArray := prog_5_method_2_code
def yX3_takeOver : MethodName := ⟨RX3, "takeOver", "(LClearingGates$Tape;)V"⟩
abbrev cX3_byteAt : ByteArray := prog_5_method_3_code
def yX3_byteAt : MethodName := ⟨RX3, "byteAt", "(I)I"⟩
abbrev cX3_behindItem : ByteArray := prog_5_method_4_code
def yX3_behindItem : MethodName := ⟨RX3, "behindItem", "(I)I"⟩
abbrev cX3_figureAt : ByteArray := prog_5_method_5_code
def yX3_figureAt : MethodName := ⟨RX3, "figureAt", "(I)I"⟩
abbrev cX3_numberBetween : ByteArray := prog_5_method_6_code
def yX3_numberBetween : MethodName := ⟨RX3, "numberBetween", "(II)I"⟩
def RX4 : String := "ClearingGates$Reader"
def TX4 : u_T := fun k => match k with
  | 0 => ("ClearingGates$Reader", "opened", "[I", true)
  | 1 => ("ClearingGates$Reader", "open", "I", false)
  | 2 => ("ClearingGates$Reader", "loops", "I", false)
  | 3 => ("ClearingGates$Reader", "fault", "I", false)
  | _ => ("ClearingGates$Reader", "program", "LClearingGates$Program;", false)
def tyX4 : Nat → FieldType := fun k => match k with
  | 0 => .array .int
  | 1 => .int
  | 2 => .int
  | 3 => .int
  | _ => .object "ClearingGates$Program"
abbrev wsX40 : List Cond := u_ws RX4 TX4 5
theorem nmX4 : ∀ a, a < 5 → ∀ b, b < 5 → a ≠ b → (TX4 a).2.1 ≠ (TX4 b).2.1 := by decide +kernel
theorem tyX4_ok : ∀ k, k < 5 → parseFieldDescriptor (TX4 k).2.2.1 = some (tyX4 k) := by decide +kernel
abbrev cX4_faultOf : ByteArray := prog_6_method_2_code
def yX4_faultOf : MethodName := ⟨RX4, "faultOf", "(LClearingGates$Program;)I"⟩
abbrev cX4_step : ByteArray := prog_6_method_3_code
def yX4_step : MethodName := ⟨RX4, "step", "(I)I"⟩
abbrev cX4_openingWithFigure : ByteArray := prog_6_method_4_code
def yX4_openingWithFigure : MethodName := ⟨RX4, "openingWithFigure", "(III)I"⟩
abbrev cX4_opening : ByteArray := prog_6_method_5_code
def yX4_opening : MethodName := ⟨RX4, "opening", "(I)I"⟩
abbrev cX4_closing : ByteArray := prog_6_method_6_code
def yX4_closing : MethodName := ⟨RX4, "closing", "(II)I"⟩
abbrev cX4_payment : ByteArray := prog_6_method_7_code
def yX4_payment : MethodName := ⟨RX4, "payment", "(I)I"⟩
abbrev cX4_bell : ByteArray := prog_6_method_8_code
def yX4_bell : MethodName := ⟨RX4, "bell", "(I)I"⟩
abbrev cX4_isFigure : ByteArray := prog_6_method_9_code
def yX4_isFigure : MethodName := ⟨RX4, "isFigure", "(III)Z"⟩
abbrev cX4_ends : ByteArray := prog_6_method_10_code
def yX4_ends : MethodName := ⟨RX4, "ends", "(II)I"⟩
abbrev cX4_faultAt : ByteArray := prog_6_method_11_code
def yX4_faultAt : MethodName := ⟨RX4, "faultAt", "(I)I"⟩
def RX5 : String := "ClearingGates$Rings"
def TX5 : u_T := fun k => match k with
  | 0 => ("ClearingGates$Rings", "debts", "LClearingGates$Debts;", true)
  | 1 => ("ClearingGates$Rings", "way", "[I", true)
  | 2 => ("ClearingGates$Rings", "wayLength", "I", false)
  | _ => ("ClearingGates$Rings", "tried", "[Z", true)
def tyX5 : Nat → FieldType := fun k => match k with
  | 0 => .object "ClearingGates$Debts"
  | 1 => .array .int
  | 2 => .int
  | _ => .array .boolean
abbrev wsX50 : List Cond := u_ws RX5 TX5 4
theorem nmX5 : ∀ a, a < 4 → ∀ b, b < 4 → a ≠ b → (TX5 a).2.1 ≠ (TX5 b).2.1 := by decide +kernel
theorem tyX5_ok : ∀ k, k < 4 → parseFieldDescriptor (TX5 k).2.2.1 = some (tyX5 k) := by decide +kernel
abbrev cX5_cutAll : ByteArray := prog_7_method_2_code
def yX5_cutAll : MethodName := ⟨RX5, "cutAll", "(I)I"⟩
abbrev cX5_findsFirst : ByteArray := prog_7_method_3_code
def yX5_findsFirst : MethodName := ⟨RX5, "findsFirst", "(I)Z"⟩
abbrev cX5_leadsBack : ByteArray := prog_7_method_4_code
def yX5_leadsBack : MethodName := ⟨RX5, "leadsBack", "(IIII)Z"⟩
abbrev cX5_cutFound : ByteArray := prog_7_method_5_code
def yX5_cutFound : MethodName := ⟨RX5, "cutFound", "()V"⟩
abbrev cX5_behind : ByteArray := prog_7_method_6_code
def yX5_behind : MethodName := ⟨RX5, "behind", "(I)I"⟩
def RX6 : String := "ClearingGates$Runner"
def TX6 : u_T := fun k => match k with
  | 0 => ("ClearingGates$Runner", "books", "LClearingGates$Books;", true)
  | 1 => ("ClearingGates$Runner", "marks", "[I", true)
  | 2 => ("ClearingGates$Runner", "markCount", "I", false)
  | 3 => ("ClearingGates$Runner", "held", "[I", true)
  | 4 => ("ClearingGates$Runner", "keptBalances", "[[I", true)
  | 5 => ("ClearingGates$Runner", "keptFees", "[J", true)
  | 6 => ("ClearingGates$Runner", "begun", "I", false)
  | _ => ("ClearingGates$Runner", "program", "LClearingGates$Program;", false)
def tyX6 : Nat → FieldType := fun k => match k with
  | 0 => .object "ClearingGates$Books"
  | 1 => .array .int
  | 2 => .int
  | 3 => .array .int
  | 4 => .array (.array .int)
  | 5 => .array .long
  | 6 => .int
  | _ => .object "ClearingGates$Program"
abbrev wsX60 : List Cond := u_ws RX6 TX6 8
theorem nmX6 : ∀ a, a < 8 → ∀ b, b < 8 → a ≠ b → (TX6 a).2.1 ≠ (TX6 b).2.1 := by decide +kernel
theorem tyX6_ok : ∀ k, k < 8 → parseFieldDescriptor (TX6 k).2.2.1 = some (tyX6 k) := by decide +kernel
abbrev cX6_keptMarks : ByteArray := prog_8_method_2_code
def yX6_keptMarks : MethodName := ⟨RX6, "keptMarks", "()I"⟩
abbrev cX6_items : ByteArray := prog_8_method_4_code
def yX6_items : MethodName := ⟨RX6, "items", "(III)I"⟩
abbrev cX6_item : ByteArray := prog_8_method_5_code
def yX6_item : MethodName := ⟨RX6, "item", "(II)I"⟩
abbrev cX6_inside : ByteArray := prog_8_method_6_code
def yX6_inside : MethodName := ⟨RX6, "inside", "(III)I"⟩
abbrev cX6_block : ByteArray := prog_8_method_7_code
def yX6_block : MethodName := ⟨RX6, "block", "(II)I"⟩
abbrev cX6_attempt : ByteArray := prog_8_method_8_code
def yX6_attempt : MethodName := ⟨RX6, "attempt", "(III)I"⟩
abbrev cX6_loop : ByteArray := prog_8_method_9_code
def yX6_loop : MethodName := ⟨RX6, "loop", "(II)I"⟩
abbrev cX6_payment : ByteArray := prog_8_method_10_code
def yX6_payment : MethodName := ⟨RX6, "payment", "(I)I"⟩
abbrev cX6_bell : ByteArray := prog_8_method_11_code
def yX6_bell : MethodName := ⟨RX6, "bell", "(II)I"⟩
abbrev cX6_isHeld : ByteArray := prog_8_method_12_code
def yX6_isHeld : MethodName := ⟨RX6, "isHeld", "(I)Z"⟩
abbrev cX6_isGreaterHeld : ByteArray := prog_8_method_13_code
def yX6_isGreaterHeld : MethodName := ⟨RX6, "isGreaterHeld", "(I)Z"⟩
abbrev cX6_mark : ByteArray := prog_8_method_14_code
def yX6_mark : MethodName := ⟨RX6, "mark", "(I)V"⟩
abbrev cX6_keep : ByteArray := prog_8_method_15_code
def yX6_keep : MethodName := ⟨RX6, "keep", "(I)V"⟩
abbrev cX6_undo : ByteArray := prog_8_method_16_code
def yX6_undo : MethodName := ⟨RX6, "undo", "(I)V"⟩
def RX7 : String := "ClearingGates$Sheet"
def TX7 : u_T := fun k => match k with
  | 0 => ("ClearingGates$Sheet", "sort", "I", false)
  | 1 => ("ClearingGates$Sheet", "size", "I", false)
  | _ => ("ClearingGates$Sheet", "items", "[I", true)
def RX8 : String := "ClearingGates$Tape"
def TX8 : u_T := fun k => match k with
  | 0 => ("ClearingGates$Tape", "bytes", "[I", true)
  | _ => ("ClearingGates$Tape", "size", "I", false)
def tyX8 : Nat → FieldType := fun k => match k with
  | 0 => .array .int
  | _ => .int
abbrev wsX80 : List Cond := u_ws RX8 TX8 2
theorem nmX8 : ∀ a, a < 2 → ∀ b, b < 2 → a ≠ b → (TX8 a).2.1 ≠ (TX8 b).2.1 := by decide +kernel
theorem tyX8_ok : ∀ k, k < 2 → parseFieldDescriptor (TX8 k).2.2.1 = some (tyX8 k) := by decide +kernel
abbrev cX8_add : ByteArray := prog_10_method_2_code
def yX8_add : MethodName := ⟨RX8, "add", "(I)V"⟩
def RX9 : String := "ClearingGates"
def TX9 : u_T := fun k => match k with
  | 0 => ("ClearingGates", "books", "LClearingGates$Books;", true)
  | 1 => ("ClearingGates", "imageBooks", "LClearingGates$Books;", true)
  | 2 => ("ClearingGates", "debts", "LClearingGates$Debts;", true)
  | 3 => ("ClearingGates", "imageDebts", "LClearingGates$Debts;", true)
  | 4 => ("ClearingGates", "rings", "LClearingGates$Rings;", true)
  | 5 => ("ClearingGates", "programs", "[LClearingGates$Program;", true)
  | 6 => ("ClearingGates", "programCount", "I", false)
  | 7 => ("ClearingGates", "imagePrograms", "I", false)
  | 8 => ("ClearingGates", "tape", "LClearingGates$Tape;", true)
  | 9 => ("ClearingGates", "reader", "LClearingGates$Reader;", true)
  | 10 => ("ClearingGates", "truly", "LClearingGates$Runner;", true)
  | 11 => ("ClearingGates", "thought", "LClearingGates$Runner;", true)
  | _ => ("ClearingGates", "sheets", "[LClearingGates$Sheet;", true)
abbrev cX9_isWithin : ByteArray := prog_1_method_28_code
def yX9_isWithin : MethodName := ⟨RX9, "isWithin", "(II)Z"⟩
abbrev cX9_isByte : ByteArray := prog_1_method_29_code
def yX9_isByte : MethodName := ⟨RX9, "isByte", "(I)Z"⟩
abbrev cX9_isSheet : ByteArray := prog_1_method_30_code
def yX9_isSheet : MethodName := ⟨RX9, "isSheet", "(I)Z"⟩
def RX10 : String := "ClearingGatesModel"
def TX10 : u_T := fun k => match k with
  | 0 => ("ClearingGatesModel", "s", "[I", true)
  | 1 => ("ClearingGatesModel", "fees", "J", false)
  | 2 => ("ClearingGatesModel", "thought", "[I", true)
  | 3 => ("ClearingGatesModel", "thoughtFees", "J", false)
  | 4 => ("ClearingGatesModel", "image", "[I", true)
  | 5 => ("ClearingGatesModel", "imageFees", "J", false)
  | 6 => ("ClearingGatesModel", "hasImage", "Z", false)
  | 7 => ("ClearingGatesModel", "tape", "[I", true)
  | 8 => ("ClearingGatesModel", "taped", "I", false)
  | 9 => ("ClearingGatesModel", "texts", "[I", true)
  | 10 => ("ClearingGatesModel", "sizes", "[I", true)
  | 11 => ("ClearingGatesModel", "programs", "I", false)
  | 12 => ("ClearingGatesModel", "imageTexts", "[I", true)
  | 13 => ("ClearingGatesModel", "imageSizes", "[I", true)
  | 14 => ("ClearingGatesModel", "imagePrograms", "I", false)
  | 15 => ("ClearingGatesModel", "here", "I", false)
  | 16 => ("ClearingGatesModel", "open", "I", false)
  | 17 => ("ClearingGatesModel", "running", "I", false)
  | 18 => ("ClearingGatesModel", "begun", "I", false)
  | 19 => ("ClearingGatesModel", "held", "[I", true)
  | 20 => ("ClearingGatesModel", "marks", "[I", true)
  | 21 => ("ClearingGatesModel", "markMany", "I", false)
  | 22 => ("ClearingGatesModel", "trace", "[I", true)
  | 23 => ("ClearingGatesModel", "traced", "I", false)
  | 24 => ("ClearingGatesModel", "keptBalances", "[I", true)
  | 25 => ("ClearingGatesModel", "keptFees", "[J", true)
  | 26 => ("ClearingGatesModel", "deep", "I", false)
  | 27 => ("ClearingGatesModel", "way", "[I", true)
  | 28 => ("ClearingGatesModel", "sorts", "[I", true)
  | 29 => ("ClearingGatesModel", "rowMany", "[I", true)
  | 30 => ("ClearingGatesModel", "items", "[I", true)
  | _ => ("ClearingGatesModel", "moved", "[I", true)
def wsX0_has : List Cond := .code yX0_has cX0_has 2 (some .boolean) :: ([.fieldLink RX0 34 "ClearingGates$Books" "accounts" "I"] ++ wsX00)
def wsX0_hasGate : List Cond := .code yX0_hasGate cX0_hasGate 2 (some .boolean) :: ([.fieldLink RX0 21 "ClearingGates$Books" "gates" "[Z", .methodLink RX0 38 yX0_has, .instanceMethod yX0_has, .selects RX0 yX0_has yX0_has, .initialized RX0, .code yX0_has cX0_has 2 (some .boolean), .fieldLink RX0 34 "ClearingGates$Books" "accounts" "I"] ++ wsX00)
def wsX0_hasAllGates : List Cond := .code yX0_hasAllGates cX0_hasAllGates 2 (some .boolean) :: ([.fieldLink RX0 34 "ClearingGates$Books" "accounts" "I", .fieldLink RX0 21 "ClearingGates$Books" "gates" "[Z"] ++ wsX00)
def wsX0_open : List Cond := .code yX0_open cX0_open 4 (some .int) :: ([.fieldLink RX0 34 "ClearingGates$Books" "accounts" "I", .fieldLink RX0 9 "ClearingGates$Books" "kinds" "[I", .fieldLink RX0 15 "ClearingGates$Books" "balances" "[I", .fieldLink RX0 18 "ClearingGates$Books" "limits" "[I", .fieldLink RX0 21 "ClearingGates$Books" "gates" "[Z", .fieldLink RX0 25 "ClearingGates$Books" "entries" "[I", .fieldLink RX0 28 "ClearingGates$Books" "leavings" "[I", .fieldLink RX0 31 "ClearingGates$Books" "agains" "[I"] ++ wsX00)
def wsX2_feeOf : List Cond := .code yX2_feeOf cX2_feeOf 2 (some .int) :: ([])
def wsX0_feeOf : List Cond := .code yX0_feeOf cX0_feeOf 3 (some .int) :: ([.fieldLink RX0 9 "ClearingGates$Books" "kinds" "[I", .methodLink RX0 42 yX2_feeOf, .static yX2_feeOf, .initialized RX2, .code yX2_feeOf cX2_feeOf 2 (some .int)] ++ wsX00)
def wsX2_floorOf : List Cond := .code yX2_floorOf cX2_floorOf 2 (some .int) :: ([])
def wsX0_floorOf : List Cond := .code yX0_floorOf cX0_floorOf 2 (some .int) :: ([.fieldLink RX0 9 "ClearingGates$Books" "kinds" "[I", .fieldLink RX0 18 "ClearingGates$Books" "limits" "[I", .methodLink RX0 48 yX2_floorOf, .static yX2_floorOf, .initialized RX2, .code yX2_floorOf cX2_floorOf 2 (some .int)] ++ wsX00)
def wsX0_allMoney : List Cond := .code yX0_allMoney cX0_allMoney 4 (some .long) :: ([.fieldLink RX0 51 "ClearingGates$Books" "fees" "J", .fieldLink RX0 34 "ClearingGates$Books" "accounts" "I", .fieldLink RX0 15 "ClearingGates$Books" "balances" "[I"] ++ wsX00)
def wsX0_allEntries : List Cond := .code yX0_allEntries cX0_allEntries 3 (some .int) :: ([.fieldLink RX0 34 "ClearingGates$Books" "accounts" "I", .fieldLink RX0 25 "ClearingGates$Books" "entries" "[I"] ++ wsX00)
def wsX0_enterAll : List Cond := .code yX0_enterAll cX0_enterAll 2 none :: ([.fieldLink RX0 34 "ClearingGates$Books" "accounts" "I", .fieldLink RX0 25 "ClearingGates$Books" "entries" "[I"] ++ wsX00)
def wsX0_leaveAll : List Cond := .code yX0_leaveAll cX0_leaveAll 2 none :: ([.fieldLink RX0 34 "ClearingGates$Books" "accounts" "I", .fieldLink RX0 28 "ClearingGates$Books" "leavings" "[I"] ++ wsX00)
def wsX0_becomeAs : List Cond := .code yX0_becomeAs cX0_becomeAs 3 none :: ([.fieldLink RX0 9 "ClearingGates$Books" "kinds" "[I", .methodLink RX0 55 arraycopyName, .native arraycopyName, .static arraycopyName, .initialized "java/lang/System", .fieldLink RX0 15 "ClearingGates$Books" "balances" "[I", .fieldLink RX0 18 "ClearingGates$Books" "limits" "[I", .fieldLink RX0 25 "ClearingGates$Books" "entries" "[I", .fieldLink RX0 28 "ClearingGates$Books" "leavings" "[I", .fieldLink RX0 31 "ClearingGates$Books" "agains" "[I", .fieldLink RX0 21 "ClearingGates$Books" "gates" "[Z", .fieldLink RX0 34 "ClearingGates$Books" "accounts" "I", .fieldLink RX0 51 "ClearingGates$Books" "fees" "J", .fieldLink RX0 61 "ClearingGates$Books" "missed" "I", .fieldLink RX0 64 "ClearingGates$Books" "bells" "I", .fieldLink RX0 67 "ClearingGates$Books" "refused" "I", .fieldLink RX0 70 "ClearingGates$Books" "caught" "I"] ++ wsX00)
def wsX1_between : List Cond := .code yX1_between cX1_between 3 (some .int) :: ([.fieldLink RX1 9 "ClearingGates$Debts" "row" "[I"] ++ wsX10)
def wsX1_become : List Cond := .code yX1_become cX1_become 4 none :: ([.fieldLink RX1 9 "ClearingGates$Debts" "row" "[I"] ++ wsX10)
def wsX1_total : List Cond := .code yX1_total cX1_total 4 (some .long) :: ([.fieldLink RX1 9 "ClearingGates$Debts" "row" "[I"] ++ wsX10)
def wsX1_positionOf : List Cond := .code yX1_positionOf cX1_positionOf 5 (some .long) :: ([.methodLink RX1 15 yX1_between, .instanceMethod yX1_between, .selects RX1 yX1_between yX1_between, .initialized RX1, .code yX1_between cX1_between 3 (some .int), .fieldLink RX1 9 "ClearingGates$Debts" "row" "[I"] ++ wsX10)
def wsX1_becomeAs : List Cond := .code yX1_becomeAs cX1_becomeAs 2 none :: ([.fieldLink RX1 9 "ClearingGates$Debts" "row" "[I", .methodLink RX1 19 arraycopyName, .native arraycopyName, .static arraycopyName, .initialized "java/lang/System"] ++ wsX10)
def wsX2_isKind : List Cond := .code yX2_isKind cX2_isKind 1 (some .boolean) :: ([])
def wsX2_isOrIsUnder : List Cond := .code yX2_isOrIsUnder cX2_isOrIsUnder 2 (some .boolean) :: ([])
def wsX3_takeOver : List Cond := .code yX3_takeOver cX3_takeOver 2 none :: ([.fieldLink RX3 18 "ClearingGates$Tape" "bytes" "[I", .fieldLink RX3 9 "ClearingGates$Program" "bytes" "[I", .methodLink RX3 21 arraycopyName, .native arraycopyName, .static arraycopyName, .initialized "java/lang/System", .fieldLink RX3 27 "ClearingGates$Tape" "size" "I", .fieldLink RX3 31 "ClearingGates$Program" "size" "I"] ++ wsX80 ++ wsX30)
def wsX3_byteAt : List Cond := .code yX3_byteAt cX3_byteAt 2 (some .int) :: ([.fieldLink RX3 31 "ClearingGates$Program" "size" "I", .fieldLink RX3 9 "ClearingGates$Program" "bytes" "[I"] ++ wsX30)
def wsX3_behindItem : List Cond := .code yX3_behindItem cX3_behindItem 2 (some .int) :: ([.fieldLink RX3 31 "ClearingGates$Program" "size" "I", .fieldLink RX3 15 "ClearingGates$Program" "behind" "[I"] ++ wsX30)
def wsX3_figureAt : List Cond := .code yX3_figureAt cX3_figureAt 2 (some .int) :: ([.methodLink RX3 32 yX3_byteAt, .instanceMethod yX3_byteAt, .selects RX3 yX3_byteAt yX3_byteAt, .initialized RX3, .code yX3_byteAt cX3_byteAt 2 (some .int), .fieldLink RX3 31 "ClearingGates$Program" "size" "I", .fieldLink RX3 9 "ClearingGates$Program" "bytes" "[I"] ++ wsX30)
def wsX3_numberBetween : List Cond := .code yX3_numberBetween cX3_numberBetween 5 (some .int) :: ([.methodLink RX3 32 yX3_byteAt, .instanceMethod yX3_byteAt, .selects RX3 yX3_byteAt yX3_byteAt, .initialized RX3, .code yX3_byteAt cX3_byteAt 2 (some .int), .fieldLink RX3 31 "ClearingGates$Program" "size" "I", .fieldLink RX3 9 "ClearingGates$Program" "bytes" "[I"] ++ wsX30)
def wsX4_faultAt : List Cond := .code yX4_faultAt cX4_faultAt 2 (some .int) :: ([.fieldLink RX4 26 "ClearingGates$Reader" "fault" "I"] ++ wsX40)
def wsX4_opening : List Cond := .code yX4_opening cX4_opening 2 (some .int) :: ([.fieldLink RX4 19 "ClearingGates$Reader" "open" "I", .fieldLink RX4 9 "ClearingGates$Reader" "opened" "[I", .fieldLink RX4 15 "ClearingGates$Reader" "program" "LClearingGates$Program;", .fieldLink RX4 23 "ClearingGates$Reader" "loops" "I", .methodLink RX4 61 yX4_faultAt, .instanceMethod yX4_faultAt, .selects RX4 yX4_faultAt yX4_faultAt, .initialized RX4, .code yX4_faultAt cX4_faultAt 2 (some .int), .fieldLink RX4 26 "ClearingGates$Reader" "fault" "I", .methodLink RX4 38 yX3_byteAt, .instanceMethod yX3_byteAt, .selects RX3 yX3_byteAt yX3_byteAt, .initialized RX3, .code yX3_byteAt cX3_byteAt 2 (some .int), .fieldLink RX3 31 "ClearingGates$Program" "size" "I", .fieldLink RX3 9 "ClearingGates$Program" "bytes" "[I"] ++ wsX40 ++ wsX30)
def wsX4_isFigure : List Cond := .code yX4_isFigure cX4_isFigure 4 (some .boolean) :: ([.fieldLink RX4 15 "ClearingGates$Reader" "program" "LClearingGates$Program;", .methodLink RX4 38 yX3_byteAt, .instanceMethod yX3_byteAt, .selects RX3 yX3_byteAt yX3_byteAt, .initialized RX3, .code yX3_byteAt cX3_byteAt 2 (some .int), .fieldLink RX3 31 "ClearingGates$Program" "size" "I", .fieldLink RX3 9 "ClearingGates$Program" "bytes" "[I"] ++ wsX40 ++ wsX30)
def wsX4_openingWithFigure_r1 : List Cond := [Cond.fieldLink RX4 26 "ClearingGates$Reader" "fault" "I", Cond.methodLink RX4 45 yX4_opening, Cond.instanceMethod yX4_opening, Cond.selects RX4 yX4_opening yX4_opening, Cond.initialized RX4, Cond.code yX4_opening cX4_opening 2 (some .int), Cond.fieldLink RX4 19 "ClearingGates$Reader" "open" "I", Cond.fieldLink RX4 9 "ClearingGates$Reader" "opened" "[I", Cond.fieldLink RX4 15 "ClearingGates$Reader" "program" "LClearingGates$Program;", Cond.fieldLink RX4 23 "ClearingGates$Reader" "loops" "I", Cond.methodLink RX4 61 yX4_faultAt, Cond.instanceMethod yX4_faultAt, Cond.selects RX4 yX4_faultAt yX4_faultAt, Cond.code yX4_faultAt cX4_faultAt 2 (some .int), Cond.methodLink RX4 38 yX3_byteAt, Cond.instanceMethod yX3_byteAt, Cond.selects RX3 yX3_byteAt yX3_byteAt, Cond.initialized RX3, Cond.code yX3_byteAt cX3_byteAt 2 (some .int), Cond.fieldLink RX3 31 "ClearingGates$Program" "size" "I", Cond.fieldLink RX3 9 "ClearingGates$Program" "bytes" "[I", Cond.methodLink RX4 64 yX4_isFigure, Cond.instanceMethod yX4_isFigure, Cond.selects RX4 yX4_isFigure yX4_isFigure]
def wsX4_openingWithFigure_r2 : List Cond := [Cond.code yX4_isFigure cX4_isFigure 4 (some .boolean)]
def wsX4_openingWithFigure : List Cond := .code yX4_openingWithFigure cX4_openingWithFigure 5 (some .int) :: ((wsX4_openingWithFigure_r1 ++ wsX4_openingWithFigure_r2) ++ wsX40 ++ wsX30)
def wsX4_ends : List Cond := .code yX4_ends cX4_ends 3 (some .int) :: ([.fieldLink RX4 15 "ClearingGates$Reader" "program" "LClearingGates$Program;", .fieldLink RX4 68 "ClearingGates$Program" "behind" "[I"] ++ wsX40 ++ wsX30)
def wsX4_closing : List Cond := .code yX4_closing cX4_closing 3 (some .int) :: ([.fieldLink RX4 19 "ClearingGates$Reader" "open" "I", .fieldLink RX4 15 "ClearingGates$Reader" "program" "LClearingGates$Program;", .fieldLink RX4 9 "ClearingGates$Reader" "opened" "[I", .fieldLink RX4 23 "ClearingGates$Reader" "loops" "I", .methodLink RX4 38 yX3_byteAt, .instanceMethod yX3_byteAt, .selects RX3 yX3_byteAt yX3_byteAt, .initialized RX3, .code yX3_byteAt cX3_byteAt 2 (some .int), .fieldLink RX3 31 "ClearingGates$Program" "size" "I", .fieldLink RX3 9 "ClearingGates$Program" "bytes" "[I", .methodLink RX4 61 yX4_faultAt, .instanceMethod yX4_faultAt, .selects RX4 yX4_faultAt yX4_faultAt, .initialized RX4, .code yX4_faultAt cX4_faultAt 2 (some .int), .fieldLink RX4 26 "ClearingGates$Reader" "fault" "I", .methodLink RX4 58 yX4_ends, .instanceMethod yX4_ends, .selects RX4 yX4_ends yX4_ends, .code yX4_ends cX4_ends 3 (some .int), .fieldLink RX4 68 "ClearingGates$Program" "behind" "[I"] ++ wsX40 ++ wsX30)
def wsX4_payment : List Cond := .code yX4_payment cX4_payment 4 (some .int) :: ([.methodLink RX4 64 yX4_isFigure, .instanceMethod yX4_isFigure, .selects RX4 yX4_isFigure yX4_isFigure, .initialized RX4, .code yX4_isFigure cX4_isFigure 4 (some .boolean), .fieldLink RX4 15 "ClearingGates$Reader" "program" "LClearingGates$Program;", .methodLink RX4 38 yX3_byteAt, .instanceMethod yX3_byteAt, .selects RX3 yX3_byteAt yX3_byteAt, .initialized RX3, .code yX3_byteAt cX3_byteAt 2 (some .int), .fieldLink RX3 31 "ClearingGates$Program" "size" "I", .fieldLink RX3 9 "ClearingGates$Program" "bytes" "[I", .methodLink RX4 61 yX4_faultAt, .instanceMethod yX4_faultAt, .selects RX4 yX4_faultAt yX4_faultAt, .code yX4_faultAt cX4_faultAt 2 (some .int), .fieldLink RX4 26 "ClearingGates$Reader" "fault" "I", .methodLink RX4 58 yX4_ends, .instanceMethod yX4_ends, .selects RX4 yX4_ends yX4_ends, .code yX4_ends cX4_ends 3 (some .int), .fieldLink RX4 68 "ClearingGates$Program" "behind" "[I"] ++ wsX40 ++ wsX30)
def wsX4_bell : List Cond := .code yX4_bell cX4_bell 2 (some .int) :: ([.methodLink RX4 64 yX4_isFigure, .instanceMethod yX4_isFigure, .selects RX4 yX4_isFigure yX4_isFigure, .initialized RX4, .code yX4_isFigure cX4_isFigure 4 (some .boolean), .fieldLink RX4 15 "ClearingGates$Reader" "program" "LClearingGates$Program;", .methodLink RX4 38 yX3_byteAt, .instanceMethod yX3_byteAt, .selects RX3 yX3_byteAt yX3_byteAt, .initialized RX3, .code yX3_byteAt cX3_byteAt 2 (some .int), .fieldLink RX3 31 "ClearingGates$Program" "size" "I", .fieldLink RX3 9 "ClearingGates$Program" "bytes" "[I", .methodLink RX4 58 yX4_ends, .instanceMethod yX4_ends, .selects RX4 yX4_ends yX4_ends, .code yX4_ends cX4_ends 3 (some .int), .fieldLink RX4 68 "ClearingGates$Program" "behind" "[I", .methodLink RX4 61 yX4_faultAt, .instanceMethod yX4_faultAt, .selects RX4 yX4_faultAt yX4_faultAt, .code yX4_faultAt cX4_faultAt 2 (some .int), .fieldLink RX4 26 "ClearingGates$Reader" "fault" "I"] ++ wsX40 ++ wsX30)
def wsX4_step_r1 : List Cond := [Cond.fieldLink RX4 15 "ClearingGates$Reader" "program" "LClearingGates$Program;", Cond.fieldLink RX4 23 "ClearingGates$Reader" "loops" "I", Cond.methodLink RX4 38 yX3_byteAt, Cond.instanceMethod yX3_byteAt, Cond.selects RX3 yX3_byteAt yX3_byteAt, Cond.initialized RX3, Cond.code yX3_byteAt cX3_byteAt 2 (some .int), Cond.fieldLink RX3 31 "ClearingGates$Program" "size" "I", Cond.fieldLink RX3 9 "ClearingGates$Program" "bytes" "[I", Cond.methodLink RX4 41 yX4_openingWithFigure, Cond.instanceMethod yX4_openingWithFigure, Cond.selects RX4 yX4_openingWithFigure yX4_openingWithFigure, Cond.initialized RX4, Cond.code yX4_openingWithFigure cX4_openingWithFigure 5 (some .int), Cond.fieldLink RX4 26 "ClearingGates$Reader" "fault" "I", Cond.methodLink RX4 45 yX4_opening, Cond.instanceMethod yX4_opening, Cond.selects RX4 yX4_opening yX4_opening, Cond.code yX4_opening cX4_opening 2 (some .int), Cond.fieldLink RX4 19 "ClearingGates$Reader" "open" "I", Cond.fieldLink RX4 9 "ClearingGates$Reader" "opened" "[I", Cond.methodLink RX4 61 yX4_faultAt, Cond.instanceMethod yX4_faultAt, Cond.selects RX4 yX4_faultAt yX4_faultAt]
def wsX4_step_r2 : List Cond := [Cond.code yX4_faultAt cX4_faultAt 2 (some .int), Cond.methodLink RX4 64 yX4_isFigure, Cond.instanceMethod yX4_isFigure, Cond.selects RX4 yX4_isFigure yX4_isFigure, Cond.code yX4_isFigure cX4_isFigure 4 (some .boolean), Cond.methodLink RX4 48 yX4_closing, Cond.instanceMethod yX4_closing, Cond.selects RX4 yX4_closing yX4_closing, Cond.code yX4_closing cX4_closing 3 (some .int), Cond.methodLink RX4 58 yX4_ends, Cond.instanceMethod yX4_ends, Cond.selects RX4 yX4_ends yX4_ends, Cond.code yX4_ends cX4_ends 3 (some .int), Cond.fieldLink RX4 68 "ClearingGates$Program" "behind" "[I", Cond.methodLink RX4 52 yX4_payment, Cond.instanceMethod yX4_payment, Cond.selects RX4 yX4_payment yX4_payment, Cond.code yX4_payment cX4_payment 4 (some .int), Cond.methodLink RX4 55 yX4_bell, Cond.instanceMethod yX4_bell, Cond.selects RX4 yX4_bell yX4_bell, Cond.code yX4_bell cX4_bell 2 (some .int)]
def wsX4_step : List Cond := .code yX4_step cX4_step 2 (some .int) :: ((wsX4_step_r1 ++ wsX4_step_r2) ++ wsX40 ++ wsX30)
def wsX4_faultOf_r1 : List Cond := [Cond.fieldLink RX4 15 "ClearingGates$Reader" "program" "LClearingGates$Program;", Cond.fieldLink RX4 19 "ClearingGates$Reader" "open" "I", Cond.fieldLink RX4 23 "ClearingGates$Reader" "loops" "I", Cond.fieldLink RX4 26 "ClearingGates$Reader" "fault" "I", Cond.fieldLink RX4 29 "ClearingGates$Program" "size" "I", Cond.methodLink RX4 34 yX4_step, Cond.instanceMethod yX4_step, Cond.selects RX4 yX4_step yX4_step, Cond.initialized RX4, Cond.code yX4_step cX4_step 2 (some .int), Cond.methodLink RX4 38 yX3_byteAt, Cond.instanceMethod yX3_byteAt, Cond.selects RX3 yX3_byteAt yX3_byteAt, Cond.initialized RX3, Cond.code yX3_byteAt cX3_byteAt 2 (some .int), Cond.fieldLink RX3 31 "ClearingGates$Program" "size" "I", Cond.fieldLink RX3 9 "ClearingGates$Program" "bytes" "[I", Cond.methodLink RX4 41 yX4_openingWithFigure, Cond.instanceMethod yX4_openingWithFigure, Cond.selects RX4 yX4_openingWithFigure yX4_openingWithFigure, Cond.code yX4_openingWithFigure cX4_openingWithFigure 5 (some .int), Cond.methodLink RX4 45 yX4_opening, Cond.instanceMethod yX4_opening, Cond.selects RX4 yX4_opening yX4_opening]
def wsX4_faultOf_r2 : List Cond := [Cond.code yX4_opening cX4_opening 2 (some .int), Cond.fieldLink RX4 9 "ClearingGates$Reader" "opened" "[I", Cond.methodLink RX4 61 yX4_faultAt, Cond.instanceMethod yX4_faultAt, Cond.selects RX4 yX4_faultAt yX4_faultAt, Cond.code yX4_faultAt cX4_faultAt 2 (some .int), Cond.methodLink RX4 64 yX4_isFigure, Cond.instanceMethod yX4_isFigure, Cond.selects RX4 yX4_isFigure yX4_isFigure, Cond.code yX4_isFigure cX4_isFigure 4 (some .boolean), Cond.methodLink RX4 48 yX4_closing, Cond.instanceMethod yX4_closing, Cond.selects RX4 yX4_closing yX4_closing, Cond.code yX4_closing cX4_closing 3 (some .int), Cond.methodLink RX4 58 yX4_ends, Cond.instanceMethod yX4_ends, Cond.selects RX4 yX4_ends yX4_ends, Cond.code yX4_ends cX4_ends 3 (some .int), Cond.fieldLink RX4 68 "ClearingGates$Program" "behind" "[I", Cond.methodLink RX4 52 yX4_payment, Cond.instanceMethod yX4_payment, Cond.selects RX4 yX4_payment yX4_payment, Cond.code yX4_payment cX4_payment 4 (some .int), Cond.methodLink RX4 55 yX4_bell]
def wsX4_faultOf_r3 : List Cond := [Cond.instanceMethod yX4_bell, Cond.selects RX4 yX4_bell yX4_bell, Cond.code yX4_bell cX4_bell 2 (some .int)]
def wsX4_faultOf : List Cond := .code yX4_faultOf cX4_faultOf 4 (some .int) :: ((wsX4_faultOf_r1 ++ (wsX4_faultOf_r2 ++ wsX4_faultOf_r3)) ++ wsX40 ++ wsX30)
def wsX5_leadsBack : List Cond := .code yX5_leadsBack cX5_leadsBack 6 (some .boolean) :: ([.fieldLink RX5 9 "ClearingGates$Rings" "way" "[I", .fieldLink RX5 15 "ClearingGates$Rings" "tried" "[Z", .fieldLink RX5 19 "ClearingGates$Rings" "debts" "LClearingGates$Debts;", .fieldLink RX5 40 "ClearingGates$Rings" "wayLength" "I", .methodLink RX5 34 yX1_between, .instanceMethod yX1_between, .selects RX1 yX1_between yX1_between, .initialized RX1, .code yX1_between cX1_between 3 (some .int), .fieldLink RX1 9 "ClearingGates$Debts" "row" "[I", .methodLink RX5 30 yX5_leadsBack, .instanceMethod yX5_leadsBack, .selects RX5 yX5_leadsBack yX5_leadsBack, .initialized RX5] ++ wsX50 ++ wsX10)
def wsX5_findsFirst : List Cond := .code yX5_findsFirst cX5_findsFirst 4 (some .boolean) :: ([.fieldLink RX5 15 "ClearingGates$Rings" "tried" "[Z", .methodLink RX5 30 yX5_leadsBack, .instanceMethod yX5_leadsBack, .selects RX5 yX5_leadsBack yX5_leadsBack, .initialized RX5, .code yX5_leadsBack cX5_leadsBack 6 (some .boolean), .fieldLink RX5 9 "ClearingGates$Rings" "way" "[I", .fieldLink RX5 19 "ClearingGates$Rings" "debts" "LClearingGates$Debts;", .fieldLink RX5 40 "ClearingGates$Rings" "wayLength" "I", .methodLink RX5 34 yX1_between, .instanceMethod yX1_between, .selects RX1 yX1_between yX1_between, .initialized RX1, .code yX1_between cX1_between 3 (some .int), .fieldLink RX1 9 "ClearingGates$Debts" "row" "[I"] ++ wsX50 ++ wsX10)
def wsX5_behind : List Cond := .code yX5_behind cX5_behind 2 (some .int) :: ([.fieldLink RX5 40 "ClearingGates$Rings" "wayLength" "I", .fieldLink RX5 9 "ClearingGates$Rings" "way" "[I"] ++ wsX50)
def wsX5_cutFound : List Cond := .code yX5_cutFound cX5_cutFound 4 none :: ([.constant RX5 44 (99999), .fieldLink RX5 40 "ClearingGates$Rings" "wayLength" "I", .fieldLink RX5 19 "ClearingGates$Rings" "debts" "LClearingGates$Debts;", .fieldLink RX5 9 "ClearingGates$Rings" "way" "[I", .methodLink RX5 49 Lib.Math.min.name, .static Lib.Math.min.name, .initialized "java/lang/Math", .code Lib.Math.min.name Lib.Math.min.code 2 (some .int), .methodLink RX5 45 yX5_behind, .instanceMethod yX5_behind, .selects RX5 yX5_behind yX5_behind, .initialized RX5, .code yX5_behind cX5_behind 2 (some .int), .methodLink RX5 34 yX1_between, .instanceMethod yX1_between, .selects RX1 yX1_between yX1_between, .initialized RX1, .code yX1_between cX1_between 3 (some .int), .fieldLink RX1 9 "ClearingGates$Debts" "row" "[I", .methodLink RX5 54 yX1_become, .instanceMethod yX1_become, .selects RX1 yX1_become yX1_become, .code yX1_become cX1_become 4 none] ++ wsX50 ++ wsX10)
def wsX5_cutAll_r1 : List Cond := [Cond.methodLink RX5 23 yX5_findsFirst, Cond.instanceMethod yX5_findsFirst, Cond.selects RX5 yX5_findsFirst yX5_findsFirst, Cond.initialized RX5, Cond.code yX5_findsFirst cX5_findsFirst 4 (some .boolean), Cond.fieldLink RX5 15 "ClearingGates$Rings" "tried" "[Z", Cond.methodLink RX5 30 yX5_leadsBack, Cond.instanceMethod yX5_leadsBack, Cond.selects RX5 yX5_leadsBack yX5_leadsBack, Cond.code yX5_leadsBack cX5_leadsBack 6 (some .boolean), Cond.fieldLink RX5 9 "ClearingGates$Rings" "way" "[I", Cond.fieldLink RX5 19 "ClearingGates$Rings" "debts" "LClearingGates$Debts;", Cond.fieldLink RX5 40 "ClearingGates$Rings" "wayLength" "I", Cond.methodLink RX5 34 yX1_between, Cond.instanceMethod yX1_between, Cond.selects RX1 yX1_between yX1_between, Cond.initialized RX1, Cond.code yX1_between cX1_between 3 (some .int), Cond.fieldLink RX1 9 "ClearingGates$Debts" "row" "[I", Cond.methodLink RX5 27 yX5_cutFound, Cond.instanceMethod yX5_cutFound, Cond.selects RX5 yX5_cutFound yX5_cutFound, Cond.code yX5_cutFound cX5_cutFound 4 none, Cond.constant RX5 44 (99999)]
def wsX5_cutAll_r2 : List Cond := [Cond.methodLink RX5 49 Lib.Math.min.name, Cond.static Lib.Math.min.name, Cond.initialized "java/lang/Math", Cond.code Lib.Math.min.name Lib.Math.min.code 2 (some .int), Cond.methodLink RX5 45 yX5_behind, Cond.instanceMethod yX5_behind, Cond.selects RX5 yX5_behind yX5_behind, Cond.code yX5_behind cX5_behind 2 (some .int), Cond.methodLink RX5 54 yX1_become, Cond.instanceMethod yX1_become, Cond.selects RX1 yX1_become yX1_become, Cond.code yX1_become cX1_become 4 none]
def wsX5_cutAll : List Cond := .code yX5_cutAll cX5_cutAll 3 (some .int) :: ((wsX5_cutAll_r1 ++ wsX5_cutAll_r2) ++ wsX50 ++ wsX10)
def wsX6_keptMarks : List Cond := .code yX6_keptMarks cX6_keptMarks 1 (some .int) :: ([.fieldLink RX6 31 "ClearingGates$Runner" "markCount" "I", .methodLink RX6 35 Lib.Math.min.name, .static Lib.Math.min.name, .initialized "java/lang/Math", .code Lib.Math.min.name Lib.Math.min.code 2 (some .int)] ++ wsX60)
def wsX6_keep : List Cond := .code yX6_keep cX6_keep 2 none :: ([.fieldLink RX6 27 "ClearingGates$Runner" "books" "LClearingGates$Books;", .fieldLink RX6 134 "ClearingGates$Books" "balances" "[I", .fieldLink RX6 20 "ClearingGates$Runner" "keptBalances" "[[I", .methodLink RX6 154 arraycopyName, .native arraycopyName, .static arraycopyName, .initialized "java/lang/System", .fieldLink RX6 23 "ClearingGates$Runner" "keptFees" "[J", .fieldLink RX6 141 "ClearingGates$Books" "fees" "J"] ++ wsX60 ++ wsX00)
def wsX6_undo : List Cond := .code yX6_undo cX6_undo 2 none :: ([.fieldLink RX6 20 "ClearingGates$Runner" "keptBalances" "[[I", .fieldLink RX6 27 "ClearingGates$Runner" "books" "LClearingGates$Books;", .fieldLink RX6 134 "ClearingGates$Books" "balances" "[I", .methodLink RX6 154 arraycopyName, .native arraycopyName, .static arraycopyName, .initialized "java/lang/System", .fieldLink RX6 23 "ClearingGates$Runner" "keptFees" "[J", .fieldLink RX6 141 "ClearingGates$Books" "fees" "J"] ++ wsX60 ++ wsX00)
def wsX6_mark : List Cond := .code yX6_mark cX6_mark 2 none :: ([.fieldLink RX6 31 "ClearingGates$Runner" "markCount" "I", .fieldLink RX6 9 "ClearingGates$Runner" "marks" "[I"] ++ wsX60)
def wsX6_isGreaterHeld : List Cond := .code yX6_isGreaterHeld cX6_isGreaterHeld 3 (some .boolean) :: ([.fieldLink RX6 15 "ClearingGates$Runner" "held" "[I"] ++ wsX60)
def wsX6_isHeld : List Cond := .code yX6_isHeld cX6_isHeld 2 (some .boolean) :: ([.fieldLink RX6 27 "ClearingGates$Runner" "books" "LClearingGates$Books;", .fieldLink RX6 15 "ClearingGates$Runner" "held" "[I", .methodLink RX6 151 yX0_has, .instanceMethod yX0_has, .selects RX0 yX0_has yX0_has, .initialized RX0, .code yX0_has cX0_has 2 (some .boolean), .fieldLink RX0 34 "ClearingGates$Books" "accounts" "I"] ++ wsX60 ++ wsX00)
def wsX6_payment_r1 : List Cond := [Cond.fieldLink RX6 41 "ClearingGates$Runner" "program" "LClearingGates$Program;", Cond.fieldLink RX6 27 "ClearingGates$Runner" "books" "LClearingGates$Books;", Cond.fieldLink RX6 134 "ClearingGates$Books" "balances" "[I", Cond.constant RX6 140 (1000000000), Cond.fieldLink RX6 141 "ClearingGates$Books" "fees" "J", Cond.methodLink RX6 89 yX3_figureAt, Cond.instanceMethod yX3_figureAt, Cond.selects RX3 yX3_figureAt yX3_figureAt, Cond.initialized RX3, Cond.code yX3_figureAt cX3_figureAt 2 (some .int), Cond.methodLink RX3 32 yX3_byteAt, Cond.instanceMethod yX3_byteAt, Cond.selects RX3 yX3_byteAt yX3_byteAt, Cond.code yX3_byteAt cX3_byteAt 2 (some .int), Cond.fieldLink RX3 31 "ClearingGates$Program" "size" "I", Cond.fieldLink RX3 9 "ClearingGates$Program" "bytes" "[I", Cond.methodLink RX6 125 yX6_isHeld, Cond.instanceMethod yX6_isHeld, Cond.selects RX6 yX6_isHeld yX6_isHeld, Cond.initialized RX6, Cond.code yX6_isHeld cX6_isHeld 2 (some .boolean), Cond.fieldLink RX6 15 "ClearingGates$Runner" "held" "[I", Cond.methodLink RX6 151 yX0_has, Cond.instanceMethod yX0_has]
def wsX6_payment_r2 : List Cond := [Cond.selects RX0 yX0_has yX0_has, Cond.initialized RX0, Cond.code yX0_has cX0_has 2 (some .boolean), Cond.fieldLink RX0 34 "ClearingGates$Books" "accounts" "I", Cond.methodLink RX6 67 yX3_behindItem, Cond.instanceMethod yX3_behindItem, Cond.selects RX3 yX3_behindItem yX3_behindItem, Cond.code yX3_behindItem cX3_behindItem 2 (some .int), Cond.fieldLink RX3 15 "ClearingGates$Program" "behind" "[I", Cond.methodLink RX6 128 yX3_numberBetween, Cond.instanceMethod yX3_numberBetween, Cond.selects RX3 yX3_numberBetween yX3_numberBetween, Cond.code yX3_numberBetween cX3_numberBetween 5 (some .int), Cond.methodLink RX6 131 yX0_feeOf, Cond.instanceMethod yX0_feeOf, Cond.selects RX0 yX0_feeOf yX0_feeOf, Cond.code yX0_feeOf cX0_feeOf 3 (some .int), Cond.fieldLink RX0 9 "ClearingGates$Books" "kinds" "[I", Cond.methodLink RX0 42 yX2_feeOf, Cond.static yX2_feeOf, Cond.initialized RX2, Cond.code yX2_feeOf cX2_feeOf 2 (some .int), Cond.methodLink RX6 137 yX0_floorOf, Cond.instanceMethod yX0_floorOf]
def wsX6_payment_r3 : List Cond := [Cond.selects RX0 yX0_floorOf yX0_floorOf, Cond.code yX0_floorOf cX0_floorOf 2 (some .int), Cond.fieldLink RX0 18 "ClearingGates$Books" "limits" "[I", Cond.methodLink RX0 48 yX2_floorOf, Cond.static yX2_floorOf, Cond.code yX2_floorOf cX2_floorOf 2 (some .int), Cond.methodLink RX6 113 yX6_mark, Cond.instanceMethod yX6_mark, Cond.selects RX6 yX6_mark yX6_mark, Cond.code yX6_mark cX6_mark 2 none, Cond.fieldLink RX6 31 "ClearingGates$Runner" "markCount" "I", Cond.fieldLink RX6 9 "ClearingGates$Runner" "marks" "[I"]
def wsX6_payment : List Cond := .code yX6_payment cX6_payment 7 (some .int) :: ((wsX6_payment_r1 ++ (wsX6_payment_r2 ++ wsX6_payment_r3)) ++ wsX60 ++ wsX00 ++ wsX30)
def wsX6_bell_r1 : List Cond := [Cond.fieldLink RX6 27 "ClearingGates$Runner" "books" "LClearingGates$Books;", Cond.fieldLink RX6 101 "ClearingGates$Books" "missed" "I", Cond.fieldLink RX6 145 "ClearingGates$Books" "bells" "I", Cond.fieldLink RX6 148 "ClearingGates$Books" "refused" "I", Cond.methodLink RX6 95 yX0_hasGate, Cond.instanceMethod yX0_hasGate, Cond.selects RX0 yX0_hasGate yX0_hasGate, Cond.initialized RX0, Cond.code yX0_hasGate cX0_hasGate 2 (some .boolean), Cond.fieldLink RX0 21 "ClearingGates$Books" "gates" "[Z", Cond.methodLink RX0 38 yX0_has, Cond.instanceMethod yX0_has, Cond.selects RX0 yX0_has yX0_has, Cond.code yX0_has cX0_has 2 (some .boolean), Cond.fieldLink RX0 34 "ClearingGates$Books" "accounts" "I", Cond.methodLink RX6 125 yX6_isHeld, Cond.instanceMethod yX6_isHeld, Cond.selects RX6 yX6_isHeld yX6_isHeld, Cond.initialized RX6, Cond.code yX6_isHeld cX6_isHeld 2 (some .boolean), Cond.fieldLink RX6 15 "ClearingGates$Runner" "held" "[I", Cond.methodLink RX6 151 yX0_has, Cond.methodLink RX6 113 yX6_mark, Cond.instanceMethod yX6_mark]
def wsX6_bell_r2 : List Cond := [Cond.selects RX6 yX6_mark yX6_mark, Cond.code yX6_mark cX6_mark 2 none, Cond.fieldLink RX6 31 "ClearingGates$Runner" "markCount" "I", Cond.fieldLink RX6 9 "ClearingGates$Runner" "marks" "[I"]
def wsX6_bell : List Cond := .code yX6_bell cX6_bell 3 (some .int) :: ((wsX6_bell_r1 ++ wsX6_bell_r2) ++ wsX60 ++ wsX00)
def wsX6_attempt_r1 : List Cond := [Cond.fieldLink RX6 27 "ClearingGates$Runner" "books" "LClearingGates$Books;", Cond.fieldLink RX6 122 "ClearingGates$Books" "caught" "I", Cond.methodLink RX6 48 yX6_keep, Cond.instanceMethod yX6_keep, Cond.selects RX6 yX6_keep yX6_keep, Cond.initialized RX6, Cond.code yX6_keep cX6_keep 2 none, Cond.fieldLink RX6 134 "ClearingGates$Books" "balances" "[I", Cond.fieldLink RX6 20 "ClearingGates$Runner" "keptBalances" "[[I", Cond.methodLink RX6 154 arraycopyName, Cond.native arraycopyName, Cond.static arraycopyName, Cond.initialized "java/lang/System", Cond.fieldLink RX6 23 "ClearingGates$Runner" "keptFees" "[J", Cond.fieldLink RX6 141 "ClearingGates$Books" "fees" "J", Cond.methodLink RX6 116 yX6_inside, Cond.instanceMethod yX6_inside, Cond.selects RX6 yX6_inside yX6_inside, Cond.methodLink RX6 61 yX6_undo, Cond.instanceMethod yX6_undo, Cond.selects RX6 yX6_undo yX6_undo, Cond.code yX6_undo cX6_undo 2 none, Cond.methodLink RX6 113 yX6_mark, Cond.instanceMethod yX6_mark]
def wsX6_attempt_r2 : List Cond := [Cond.selects RX6 yX6_mark yX6_mark, Cond.code yX6_mark cX6_mark 2 none, Cond.fieldLink RX6 31 "ClearingGates$Runner" "markCount" "I", Cond.fieldLink RX6 9 "ClearingGates$Runner" "marks" "[I", Cond.code yX6_block cX6_block 5 (some .int), Cond.fieldLink RX6 41 "ClearingGates$Runner" "program" "LClearingGates$Program;", Cond.fieldLink RX6 101 "ClearingGates$Books" "missed" "I", Cond.fieldLink RX6 15 "ClearingGates$Runner" "held" "[I", Cond.fieldLink RX6 107 "ClearingGates$Books" "entries" "[I", Cond.fieldLink RX6 110 "ClearingGates$Books" "agains" "[I", Cond.fieldLink RX6 119 "ClearingGates$Books" "leavings" "[I", Cond.methodLink RX6 89 yX3_figureAt, Cond.instanceMethod yX3_figureAt, Cond.selects RX3 yX3_figureAt yX3_figureAt, Cond.initialized RX3, Cond.code yX3_figureAt cX3_figureAt 2 (some .int), Cond.methodLink RX3 32 yX3_byteAt, Cond.instanceMethod yX3_byteAt, Cond.selects RX3 yX3_byteAt yX3_byteAt, Cond.code yX3_byteAt cX3_byteAt 2 (some .int), Cond.fieldLink RX3 31 "ClearingGates$Program" "size" "I", Cond.fieldLink RX3 9 "ClearingGates$Program" "bytes" "[I", Cond.methodLink RX6 95 yX0_hasGate, Cond.instanceMethod yX0_hasGate]
def wsX6_attempt_r3 : List Cond := [Cond.selects RX0 yX0_hasGate yX0_hasGate, Cond.initialized RX0, Cond.code yX0_hasGate cX0_hasGate 2 (some .boolean), Cond.fieldLink RX0 21 "ClearingGates$Books" "gates" "[Z", Cond.methodLink RX0 38 yX0_has, Cond.instanceMethod yX0_has, Cond.selects RX0 yX0_has yX0_has, Cond.code yX0_has cX0_has 2 (some .boolean), Cond.fieldLink RX0 34 "ClearingGates$Books" "accounts" "I", Cond.methodLink RX6 104 yX6_isGreaterHeld, Cond.instanceMethod yX6_isGreaterHeld, Cond.selects RX6 yX6_isGreaterHeld yX6_isGreaterHeld, Cond.code yX6_isGreaterHeld cX6_isGreaterHeld 3 (some .boolean), Cond.code yX6_inside cX6_inside 4 (some .int), Cond.methodLink RX6 67 yX3_behindItem, Cond.instanceMethod yX3_behindItem, Cond.selects RX3 yX3_behindItem yX3_behindItem, Cond.code yX3_behindItem cX3_behindItem 2 (some .int), Cond.fieldLink RX3 15 "ClearingGates$Program" "behind" "[I", Cond.methodLink RX6 57 yX6_items, Cond.instanceMethod yX6_items, Cond.selects RX6 yX6_items yX6_items, Cond.code yX6_item cX6_item 3 (some .int), Cond.fieldLink RX6 45 "ClearingGates$Runner" "begun" "I"]
def wsX6_attempt_r4 : List Cond := [Cond.methodLink RX6 74 yX3_byteAt, Cond.methodLink RX6 77 yX6_block, Cond.instanceMethod yX6_block, Cond.selects RX6 yX6_block yX6_block, Cond.methodLink RX6 80 yX6_attempt, Cond.instanceMethod yX6_attempt, Cond.selects RX6 yX6_attempt yX6_attempt, Cond.methodLink RX6 83 yX6_loop, Cond.instanceMethod yX6_loop, Cond.selects RX6 yX6_loop yX6_loop, Cond.methodLink RX6 86 yX6_payment, Cond.instanceMethod yX6_payment, Cond.selects RX6 yX6_payment yX6_payment, Cond.code yX6_payment cX6_payment 7 (some .int), Cond.constant RX6 140 (1000000000), Cond.methodLink RX6 125 yX6_isHeld, Cond.instanceMethod yX6_isHeld, Cond.selects RX6 yX6_isHeld yX6_isHeld, Cond.code yX6_isHeld cX6_isHeld 2 (some .boolean), Cond.methodLink RX6 151 yX0_has, Cond.methodLink RX6 128 yX3_numberBetween, Cond.instanceMethod yX3_numberBetween, Cond.selects RX3 yX3_numberBetween yX3_numberBetween, Cond.code yX3_numberBetween cX3_numberBetween 5 (some .int)]
def wsX6_attempt_r5 : List Cond := [Cond.methodLink RX6 131 yX0_feeOf, Cond.instanceMethod yX0_feeOf, Cond.selects RX0 yX0_feeOf yX0_feeOf, Cond.code yX0_feeOf cX0_feeOf 3 (some .int), Cond.fieldLink RX0 9 "ClearingGates$Books" "kinds" "[I", Cond.methodLink RX0 42 yX2_feeOf, Cond.static yX2_feeOf, Cond.initialized RX2, Cond.code yX2_feeOf cX2_feeOf 2 (some .int), Cond.methodLink RX6 137 yX0_floorOf, Cond.instanceMethod yX0_floorOf, Cond.selects RX0 yX0_floorOf yX0_floorOf, Cond.code yX0_floorOf cX0_floorOf 2 (some .int), Cond.fieldLink RX0 18 "ClearingGates$Books" "limits" "[I", Cond.methodLink RX0 48 yX2_floorOf, Cond.static yX2_floorOf, Cond.code yX2_floorOf cX2_floorOf 2 (some .int), Cond.methodLink RX6 92 yX6_bell, Cond.instanceMethod yX6_bell, Cond.selects RX6 yX6_bell yX6_bell, Cond.code yX6_bell cX6_bell 3 (some .int), Cond.fieldLink RX6 145 "ClearingGates$Books" "bells" "I", Cond.fieldLink RX6 148 "ClearingGates$Books" "refused" "I", Cond.code yX6_items cX6_items 6 (some .int)]
def wsX6_attempt_r6 : List Cond := [Cond.methodLink RX6 71 Lib.Math.max.name, Cond.static Lib.Math.max.name, Cond.initialized "java/lang/Math", Cond.code Lib.Math.max.name Lib.Math.max.code 2 (some .int), Cond.methodLink RX6 64 yX6_item, Cond.instanceMethod yX6_item, Cond.selects RX6 yX6_item yX6_item, Cond.code yX6_loop cX6_loop 6 (some .int)]
def wsX6_attempt : List Cond := .code yX6_attempt cX6_attempt 5 (some .int) :: ((wsX6_attempt_r1 ++ (wsX6_attempt_r2 ++ (wsX6_attempt_r3 ++ (wsX6_attempt_r4 ++ (wsX6_attempt_r5 ++ wsX6_attempt_r6))))) ++ wsX60 ++ wsX00 ++ wsX30)
def wsX6_block_r1 : List Cond := [Cond.fieldLink RX6 41 "ClearingGates$Runner" "program" "LClearingGates$Program;", Cond.fieldLink RX6 27 "ClearingGates$Runner" "books" "LClearingGates$Books;", Cond.fieldLink RX6 101 "ClearingGates$Books" "missed" "I", Cond.fieldLink RX6 15 "ClearingGates$Runner" "held" "[I", Cond.fieldLink RX6 107 "ClearingGates$Books" "entries" "[I", Cond.fieldLink RX6 110 "ClearingGates$Books" "agains" "[I", Cond.fieldLink RX6 119 "ClearingGates$Books" "leavings" "[I", Cond.methodLink RX6 89 yX3_figureAt, Cond.instanceMethod yX3_figureAt, Cond.selects RX3 yX3_figureAt yX3_figureAt, Cond.initialized RX3, Cond.code yX3_figureAt cX3_figureAt 2 (some .int), Cond.methodLink RX3 32 yX3_byteAt, Cond.instanceMethod yX3_byteAt, Cond.selects RX3 yX3_byteAt yX3_byteAt, Cond.code yX3_byteAt cX3_byteAt 2 (some .int), Cond.fieldLink RX3 31 "ClearingGates$Program" "size" "I", Cond.fieldLink RX3 9 "ClearingGates$Program" "bytes" "[I", Cond.methodLink RX6 95 yX0_hasGate, Cond.instanceMethod yX0_hasGate, Cond.selects RX0 yX0_hasGate yX0_hasGate, Cond.initialized RX0, Cond.code yX0_hasGate cX0_hasGate 2 (some .boolean), Cond.fieldLink RX0 21 "ClearingGates$Books" "gates" "[Z"]
def wsX6_block_r2 : List Cond := [Cond.methodLink RX0 38 yX0_has, Cond.instanceMethod yX0_has, Cond.selects RX0 yX0_has yX0_has, Cond.code yX0_has cX0_has 2 (some .boolean), Cond.fieldLink RX0 34 "ClearingGates$Books" "accounts" "I", Cond.methodLink RX6 104 yX6_isGreaterHeld, Cond.instanceMethod yX6_isGreaterHeld, Cond.selects RX6 yX6_isGreaterHeld yX6_isGreaterHeld, Cond.initialized RX6, Cond.code yX6_isGreaterHeld cX6_isGreaterHeld 3 (some .boolean), Cond.methodLink RX6 113 yX6_mark, Cond.instanceMethod yX6_mark, Cond.selects RX6 yX6_mark yX6_mark, Cond.code yX6_mark cX6_mark 2 none, Cond.fieldLink RX6 31 "ClearingGates$Runner" "markCount" "I", Cond.fieldLink RX6 9 "ClearingGates$Runner" "marks" "[I", Cond.methodLink RX6 116 yX6_inside, Cond.instanceMethod yX6_inside, Cond.selects RX6 yX6_inside yX6_inside, Cond.code yX6_attempt cX6_attempt 5 (some .int), Cond.fieldLink RX6 122 "ClearingGates$Books" "caught" "I", Cond.methodLink RX6 48 yX6_keep, Cond.instanceMethod yX6_keep, Cond.selects RX6 yX6_keep yX6_keep]
def wsX6_block_r3 : List Cond := [Cond.code yX6_keep cX6_keep 2 none, Cond.fieldLink RX6 134 "ClearingGates$Books" "balances" "[I", Cond.fieldLink RX6 20 "ClearingGates$Runner" "keptBalances" "[[I", Cond.methodLink RX6 154 arraycopyName, Cond.native arraycopyName, Cond.static arraycopyName, Cond.initialized "java/lang/System", Cond.fieldLink RX6 23 "ClearingGates$Runner" "keptFees" "[J", Cond.fieldLink RX6 141 "ClearingGates$Books" "fees" "J", Cond.methodLink RX6 61 yX6_undo, Cond.instanceMethod yX6_undo, Cond.selects RX6 yX6_undo yX6_undo, Cond.code yX6_undo cX6_undo 2 none, Cond.code yX6_inside cX6_inside 4 (some .int), Cond.methodLink RX6 67 yX3_behindItem, Cond.instanceMethod yX3_behindItem, Cond.selects RX3 yX3_behindItem yX3_behindItem, Cond.code yX3_behindItem cX3_behindItem 2 (some .int), Cond.fieldLink RX3 15 "ClearingGates$Program" "behind" "[I", Cond.methodLink RX6 57 yX6_items, Cond.instanceMethod yX6_items, Cond.selects RX6 yX6_items yX6_items, Cond.code yX6_item cX6_item 3 (some .int), Cond.fieldLink RX6 45 "ClearingGates$Runner" "begun" "I"]
def wsX6_block_r4 : List Cond := [Cond.methodLink RX6 74 yX3_byteAt, Cond.methodLink RX6 77 yX6_block, Cond.instanceMethod yX6_block, Cond.selects RX6 yX6_block yX6_block, Cond.methodLink RX6 80 yX6_attempt, Cond.instanceMethod yX6_attempt, Cond.selects RX6 yX6_attempt yX6_attempt, Cond.methodLink RX6 83 yX6_loop, Cond.instanceMethod yX6_loop, Cond.selects RX6 yX6_loop yX6_loop, Cond.methodLink RX6 86 yX6_payment, Cond.instanceMethod yX6_payment, Cond.selects RX6 yX6_payment yX6_payment, Cond.code yX6_payment cX6_payment 7 (some .int), Cond.constant RX6 140 (1000000000), Cond.methodLink RX6 125 yX6_isHeld, Cond.instanceMethod yX6_isHeld, Cond.selects RX6 yX6_isHeld yX6_isHeld, Cond.code yX6_isHeld cX6_isHeld 2 (some .boolean), Cond.methodLink RX6 151 yX0_has, Cond.methodLink RX6 128 yX3_numberBetween, Cond.instanceMethod yX3_numberBetween, Cond.selects RX3 yX3_numberBetween yX3_numberBetween, Cond.code yX3_numberBetween cX3_numberBetween 5 (some .int)]
def wsX6_block_r5 : List Cond := [Cond.methodLink RX6 131 yX0_feeOf, Cond.instanceMethod yX0_feeOf, Cond.selects RX0 yX0_feeOf yX0_feeOf, Cond.code yX0_feeOf cX0_feeOf 3 (some .int), Cond.fieldLink RX0 9 "ClearingGates$Books" "kinds" "[I", Cond.methodLink RX0 42 yX2_feeOf, Cond.static yX2_feeOf, Cond.initialized RX2, Cond.code yX2_feeOf cX2_feeOf 2 (some .int), Cond.methodLink RX6 137 yX0_floorOf, Cond.instanceMethod yX0_floorOf, Cond.selects RX0 yX0_floorOf yX0_floorOf, Cond.code yX0_floorOf cX0_floorOf 2 (some .int), Cond.fieldLink RX0 18 "ClearingGates$Books" "limits" "[I", Cond.methodLink RX0 48 yX2_floorOf, Cond.static yX2_floorOf, Cond.code yX2_floorOf cX2_floorOf 2 (some .int), Cond.methodLink RX6 92 yX6_bell, Cond.instanceMethod yX6_bell, Cond.selects RX6 yX6_bell yX6_bell, Cond.code yX6_bell cX6_bell 3 (some .int), Cond.fieldLink RX6 145 "ClearingGates$Books" "bells" "I", Cond.fieldLink RX6 148 "ClearingGates$Books" "refused" "I", Cond.code yX6_items cX6_items 6 (some .int)]
def wsX6_block_r6 : List Cond := [Cond.methodLink RX6 71 Lib.Math.max.name, Cond.static Lib.Math.max.name, Cond.initialized "java/lang/Math", Cond.code Lib.Math.max.name Lib.Math.max.code 2 (some .int), Cond.methodLink RX6 64 yX6_item, Cond.instanceMethod yX6_item, Cond.selects RX6 yX6_item yX6_item, Cond.code yX6_loop cX6_loop 6 (some .int)]
def wsX6_block : List Cond := .code yX6_block cX6_block 5 (some .int) :: ((wsX6_block_r1 ++ (wsX6_block_r2 ++ (wsX6_block_r3 ++ (wsX6_block_r4 ++ (wsX6_block_r5 ++ wsX6_block_r6))))) ++ wsX60 ++ wsX00 ++ wsX30)
def wsX6_inside_r1 : List Cond := [Cond.fieldLink RX6 41 "ClearingGates$Runner" "program" "LClearingGates$Program;", Cond.methodLink RX6 67 yX3_behindItem, Cond.instanceMethod yX3_behindItem, Cond.selects RX3 yX3_behindItem yX3_behindItem, Cond.initialized RX3, Cond.code yX3_behindItem cX3_behindItem 2 (some .int), Cond.fieldLink RX3 31 "ClearingGates$Program" "size" "I", Cond.fieldLink RX3 15 "ClearingGates$Program" "behind" "[I", Cond.methodLink RX6 57 yX6_items, Cond.instanceMethod yX6_items, Cond.selects RX6 yX6_items yX6_items, Cond.initialized RX6, Cond.code yX6_attempt cX6_attempt 5 (some .int), Cond.fieldLink RX6 27 "ClearingGates$Runner" "books" "LClearingGates$Books;", Cond.fieldLink RX6 122 "ClearingGates$Books" "caught" "I", Cond.methodLink RX6 48 yX6_keep, Cond.instanceMethod yX6_keep, Cond.selects RX6 yX6_keep yX6_keep, Cond.code yX6_keep cX6_keep 2 none, Cond.fieldLink RX6 134 "ClearingGates$Books" "balances" "[I", Cond.fieldLink RX6 20 "ClearingGates$Runner" "keptBalances" "[[I", Cond.methodLink RX6 154 arraycopyName, Cond.native arraycopyName, Cond.static arraycopyName]
def wsX6_inside_r2 : List Cond := [Cond.initialized "java/lang/System", Cond.fieldLink RX6 23 "ClearingGates$Runner" "keptFees" "[J", Cond.fieldLink RX6 141 "ClearingGates$Books" "fees" "J", Cond.methodLink RX6 116 yX6_inside, Cond.instanceMethod yX6_inside, Cond.selects RX6 yX6_inside yX6_inside, Cond.methodLink RX6 61 yX6_undo, Cond.instanceMethod yX6_undo, Cond.selects RX6 yX6_undo yX6_undo, Cond.code yX6_undo cX6_undo 2 none, Cond.methodLink RX6 113 yX6_mark, Cond.instanceMethod yX6_mark, Cond.selects RX6 yX6_mark yX6_mark, Cond.code yX6_mark cX6_mark 2 none, Cond.fieldLink RX6 31 "ClearingGates$Runner" "markCount" "I", Cond.fieldLink RX6 9 "ClearingGates$Runner" "marks" "[I", Cond.code yX6_block cX6_block 5 (some .int), Cond.fieldLink RX6 101 "ClearingGates$Books" "missed" "I", Cond.fieldLink RX6 15 "ClearingGates$Runner" "held" "[I", Cond.fieldLink RX6 107 "ClearingGates$Books" "entries" "[I", Cond.fieldLink RX6 110 "ClearingGates$Books" "agains" "[I", Cond.fieldLink RX6 119 "ClearingGates$Books" "leavings" "[I", Cond.methodLink RX6 89 yX3_figureAt, Cond.instanceMethod yX3_figureAt]
def wsX6_inside_r3 : List Cond := [Cond.selects RX3 yX3_figureAt yX3_figureAt, Cond.code yX3_figureAt cX3_figureAt 2 (some .int), Cond.methodLink RX3 32 yX3_byteAt, Cond.instanceMethod yX3_byteAt, Cond.selects RX3 yX3_byteAt yX3_byteAt, Cond.code yX3_byteAt cX3_byteAt 2 (some .int), Cond.fieldLink RX3 9 "ClearingGates$Program" "bytes" "[I", Cond.methodLink RX6 95 yX0_hasGate, Cond.instanceMethod yX0_hasGate, Cond.selects RX0 yX0_hasGate yX0_hasGate, Cond.initialized RX0, Cond.code yX0_hasGate cX0_hasGate 2 (some .boolean), Cond.fieldLink RX0 21 "ClearingGates$Books" "gates" "[Z", Cond.methodLink RX0 38 yX0_has, Cond.instanceMethod yX0_has, Cond.selects RX0 yX0_has yX0_has, Cond.code yX0_has cX0_has 2 (some .boolean), Cond.fieldLink RX0 34 "ClearingGates$Books" "accounts" "I", Cond.methodLink RX6 104 yX6_isGreaterHeld, Cond.instanceMethod yX6_isGreaterHeld, Cond.selects RX6 yX6_isGreaterHeld yX6_isGreaterHeld, Cond.code yX6_isGreaterHeld cX6_isGreaterHeld 3 (some .boolean), Cond.code yX6_item cX6_item 3 (some .int), Cond.fieldLink RX6 45 "ClearingGates$Runner" "begun" "I"]
def wsX6_inside_r4 : List Cond := [Cond.methodLink RX6 74 yX3_byteAt, Cond.methodLink RX6 77 yX6_block, Cond.instanceMethod yX6_block, Cond.selects RX6 yX6_block yX6_block, Cond.methodLink RX6 80 yX6_attempt, Cond.instanceMethod yX6_attempt, Cond.selects RX6 yX6_attempt yX6_attempt, Cond.methodLink RX6 83 yX6_loop, Cond.instanceMethod yX6_loop, Cond.selects RX6 yX6_loop yX6_loop, Cond.methodLink RX6 86 yX6_payment, Cond.instanceMethod yX6_payment, Cond.selects RX6 yX6_payment yX6_payment, Cond.code yX6_payment cX6_payment 7 (some .int), Cond.constant RX6 140 (1000000000), Cond.methodLink RX6 125 yX6_isHeld, Cond.instanceMethod yX6_isHeld, Cond.selects RX6 yX6_isHeld yX6_isHeld, Cond.code yX6_isHeld cX6_isHeld 2 (some .boolean), Cond.methodLink RX6 151 yX0_has, Cond.methodLink RX6 128 yX3_numberBetween, Cond.instanceMethod yX3_numberBetween, Cond.selects RX3 yX3_numberBetween yX3_numberBetween, Cond.code yX3_numberBetween cX3_numberBetween 5 (some .int)]
def wsX6_inside_r5 : List Cond := [Cond.methodLink RX6 131 yX0_feeOf, Cond.instanceMethod yX0_feeOf, Cond.selects RX0 yX0_feeOf yX0_feeOf, Cond.code yX0_feeOf cX0_feeOf 3 (some .int), Cond.fieldLink RX0 9 "ClearingGates$Books" "kinds" "[I", Cond.methodLink RX0 42 yX2_feeOf, Cond.static yX2_feeOf, Cond.initialized RX2, Cond.code yX2_feeOf cX2_feeOf 2 (some .int), Cond.methodLink RX6 137 yX0_floorOf, Cond.instanceMethod yX0_floorOf, Cond.selects RX0 yX0_floorOf yX0_floorOf, Cond.code yX0_floorOf cX0_floorOf 2 (some .int), Cond.fieldLink RX0 18 "ClearingGates$Books" "limits" "[I", Cond.methodLink RX0 48 yX2_floorOf, Cond.static yX2_floorOf, Cond.code yX2_floorOf cX2_floorOf 2 (some .int), Cond.methodLink RX6 92 yX6_bell, Cond.instanceMethod yX6_bell, Cond.selects RX6 yX6_bell yX6_bell, Cond.code yX6_bell cX6_bell 3 (some .int), Cond.fieldLink RX6 145 "ClearingGates$Books" "bells" "I", Cond.fieldLink RX6 148 "ClearingGates$Books" "refused" "I", Cond.code yX6_items cX6_items 6 (some .int)]
def wsX6_inside_r6 : List Cond := [Cond.methodLink RX6 71 Lib.Math.max.name, Cond.static Lib.Math.max.name, Cond.initialized "java/lang/Math", Cond.code Lib.Math.max.name Lib.Math.max.code 2 (some .int), Cond.methodLink RX6 64 yX6_item, Cond.instanceMethod yX6_item, Cond.selects RX6 yX6_item yX6_item, Cond.code yX6_loop cX6_loop 6 (some .int)]
def wsX6_inside : List Cond := .code yX6_inside cX6_inside 4 (some .int) :: ((wsX6_inside_r1 ++ (wsX6_inside_r2 ++ (wsX6_inside_r3 ++ (wsX6_inside_r4 ++ (wsX6_inside_r5 ++ wsX6_inside_r6))))) ++ wsX60 ++ wsX00 ++ wsX30)
def wsX6_item_r1 : List Cond := [Cond.fieldLink RX6 45 "ClearingGates$Runner" "begun" "I", Cond.fieldLink RX6 41 "ClearingGates$Runner" "program" "LClearingGates$Program;", Cond.methodLink RX6 74 yX3_byteAt, Cond.instanceMethod yX3_byteAt, Cond.selects RX3 yX3_byteAt yX3_byteAt, Cond.initialized RX3, Cond.code yX3_byteAt cX3_byteAt 2 (some .int), Cond.fieldLink RX3 31 "ClearingGates$Program" "size" "I", Cond.fieldLink RX3 9 "ClearingGates$Program" "bytes" "[I", Cond.methodLink RX6 77 yX6_block, Cond.instanceMethod yX6_block, Cond.selects RX6 yX6_block yX6_block, Cond.initialized RX6, Cond.methodLink RX6 80 yX6_attempt, Cond.instanceMethod yX6_attempt, Cond.selects RX6 yX6_attempt yX6_attempt, Cond.methodLink RX6 83 yX6_loop, Cond.instanceMethod yX6_loop, Cond.selects RX6 yX6_loop yX6_loop, Cond.methodLink RX6 86 yX6_payment, Cond.instanceMethod yX6_payment, Cond.selects RX6 yX6_payment yX6_payment, Cond.code yX6_payment cX6_payment 7 (some .int), Cond.fieldLink RX6 27 "ClearingGates$Runner" "books" "LClearingGates$Books;"]
def wsX6_item_r2 : List Cond := [Cond.fieldLink RX6 134 "ClearingGates$Books" "balances" "[I", Cond.constant RX6 140 (1000000000), Cond.fieldLink RX6 141 "ClearingGates$Books" "fees" "J", Cond.methodLink RX6 89 yX3_figureAt, Cond.instanceMethod yX3_figureAt, Cond.selects RX3 yX3_figureAt yX3_figureAt, Cond.code yX3_figureAt cX3_figureAt 2 (some .int), Cond.methodLink RX3 32 yX3_byteAt, Cond.methodLink RX6 125 yX6_isHeld, Cond.instanceMethod yX6_isHeld, Cond.selects RX6 yX6_isHeld yX6_isHeld, Cond.code yX6_isHeld cX6_isHeld 2 (some .boolean), Cond.fieldLink RX6 15 "ClearingGates$Runner" "held" "[I", Cond.methodLink RX6 151 yX0_has, Cond.instanceMethod yX0_has, Cond.selects RX0 yX0_has yX0_has, Cond.initialized RX0, Cond.code yX0_has cX0_has 2 (some .boolean), Cond.fieldLink RX0 34 "ClearingGates$Books" "accounts" "I", Cond.methodLink RX6 67 yX3_behindItem, Cond.instanceMethod yX3_behindItem, Cond.selects RX3 yX3_behindItem yX3_behindItem, Cond.code yX3_behindItem cX3_behindItem 2 (some .int), Cond.fieldLink RX3 15 "ClearingGates$Program" "behind" "[I"]
def wsX6_item_r3 : List Cond := [Cond.methodLink RX6 128 yX3_numberBetween, Cond.instanceMethod yX3_numberBetween, Cond.selects RX3 yX3_numberBetween yX3_numberBetween, Cond.code yX3_numberBetween cX3_numberBetween 5 (some .int), Cond.methodLink RX6 131 yX0_feeOf, Cond.instanceMethod yX0_feeOf, Cond.selects RX0 yX0_feeOf yX0_feeOf, Cond.code yX0_feeOf cX0_feeOf 3 (some .int), Cond.fieldLink RX0 9 "ClearingGates$Books" "kinds" "[I", Cond.methodLink RX0 42 yX2_feeOf, Cond.static yX2_feeOf, Cond.initialized RX2, Cond.code yX2_feeOf cX2_feeOf 2 (some .int), Cond.methodLink RX6 137 yX0_floorOf, Cond.instanceMethod yX0_floorOf, Cond.selects RX0 yX0_floorOf yX0_floorOf, Cond.code yX0_floorOf cX0_floorOf 2 (some .int), Cond.fieldLink RX0 18 "ClearingGates$Books" "limits" "[I", Cond.methodLink RX0 48 yX2_floorOf, Cond.static yX2_floorOf, Cond.code yX2_floorOf cX2_floorOf 2 (some .int), Cond.methodLink RX6 113 yX6_mark, Cond.instanceMethod yX6_mark, Cond.selects RX6 yX6_mark yX6_mark]
def wsX6_item_r4 : List Cond := [Cond.code yX6_mark cX6_mark 2 none, Cond.fieldLink RX6 31 "ClearingGates$Runner" "markCount" "I", Cond.fieldLink RX6 9 "ClearingGates$Runner" "marks" "[I", Cond.methodLink RX6 92 yX6_bell, Cond.instanceMethod yX6_bell, Cond.selects RX6 yX6_bell yX6_bell, Cond.code yX6_bell cX6_bell 3 (some .int), Cond.fieldLink RX6 101 "ClearingGates$Books" "missed" "I", Cond.fieldLink RX6 145 "ClearingGates$Books" "bells" "I", Cond.fieldLink RX6 148 "ClearingGates$Books" "refused" "I", Cond.methodLink RX6 95 yX0_hasGate, Cond.instanceMethod yX0_hasGate, Cond.selects RX0 yX0_hasGate yX0_hasGate, Cond.code yX0_hasGate cX0_hasGate 2 (some .boolean), Cond.fieldLink RX0 21 "ClearingGates$Books" "gates" "[Z", Cond.methodLink RX0 38 yX0_has, Cond.code yX6_attempt cX6_attempt 5 (some .int), Cond.fieldLink RX6 122 "ClearingGates$Books" "caught" "I", Cond.methodLink RX6 48 yX6_keep, Cond.instanceMethod yX6_keep, Cond.selects RX6 yX6_keep yX6_keep, Cond.code yX6_keep cX6_keep 2 none, Cond.fieldLink RX6 20 "ClearingGates$Runner" "keptBalances" "[[I", Cond.methodLink RX6 154 arraycopyName]
def wsX6_item_r5 : List Cond := [Cond.native arraycopyName, Cond.static arraycopyName, Cond.initialized "java/lang/System", Cond.fieldLink RX6 23 "ClearingGates$Runner" "keptFees" "[J", Cond.methodLink RX6 116 yX6_inside, Cond.instanceMethod yX6_inside, Cond.selects RX6 yX6_inside yX6_inside, Cond.methodLink RX6 61 yX6_undo, Cond.instanceMethod yX6_undo, Cond.selects RX6 yX6_undo yX6_undo, Cond.code yX6_undo cX6_undo 2 none, Cond.code yX6_block cX6_block 5 (some .int), Cond.fieldLink RX6 107 "ClearingGates$Books" "entries" "[I", Cond.fieldLink RX6 110 "ClearingGates$Books" "agains" "[I", Cond.fieldLink RX6 119 "ClearingGates$Books" "leavings" "[I", Cond.methodLink RX6 104 yX6_isGreaterHeld, Cond.instanceMethod yX6_isGreaterHeld, Cond.selects RX6 yX6_isGreaterHeld yX6_isGreaterHeld, Cond.code yX6_isGreaterHeld cX6_isGreaterHeld 3 (some .boolean), Cond.code yX6_inside cX6_inside 4 (some .int), Cond.methodLink RX6 57 yX6_items, Cond.instanceMethod yX6_items, Cond.selects RX6 yX6_items yX6_items, Cond.code yX6_items cX6_items 6 (some .int)]
def wsX6_item_r6 : List Cond := [Cond.methodLink RX6 71 Lib.Math.max.name, Cond.static Lib.Math.max.name, Cond.initialized "java/lang/Math", Cond.code Lib.Math.max.name Lib.Math.max.code 2 (some .int), Cond.methodLink RX6 64 yX6_item, Cond.instanceMethod yX6_item, Cond.selects RX6 yX6_item yX6_item, Cond.code yX6_loop cX6_loop 6 (some .int)]
def wsX6_item : List Cond := .code yX6_item cX6_item 3 (some .int) :: ((wsX6_item_r1 ++ (wsX6_item_r2 ++ (wsX6_item_r3 ++ (wsX6_item_r4 ++ (wsX6_item_r5 ++ wsX6_item_r6))))) ++ wsX60 ++ wsX00 ++ wsX30)
def wsX6_items_r1 : List Cond := [Cond.fieldLink RX6 41 "ClearingGates$Runner" "program" "LClearingGates$Program;", Cond.methodLink RX6 71 Lib.Math.max.name, Cond.static Lib.Math.max.name, Cond.initialized "java/lang/Math", Cond.code Lib.Math.max.name Lib.Math.max.code 2 (some .int), Cond.methodLink RX6 64 yX6_item, Cond.instanceMethod yX6_item, Cond.selects RX6 yX6_item yX6_item, Cond.initialized RX6, Cond.methodLink RX6 67 yX3_behindItem, Cond.instanceMethod yX3_behindItem, Cond.selects RX3 yX3_behindItem yX3_behindItem, Cond.initialized RX3, Cond.code yX3_behindItem cX3_behindItem 2 (some .int), Cond.fieldLink RX3 31 "ClearingGates$Program" "size" "I", Cond.fieldLink RX3 15 "ClearingGates$Program" "behind" "[I", Cond.code yX6_attempt cX6_attempt 5 (some .int), Cond.fieldLink RX6 27 "ClearingGates$Runner" "books" "LClearingGates$Books;", Cond.fieldLink RX6 122 "ClearingGates$Books" "caught" "I", Cond.methodLink RX6 48 yX6_keep, Cond.instanceMethod yX6_keep, Cond.selects RX6 yX6_keep yX6_keep, Cond.code yX6_keep cX6_keep 2 none, Cond.fieldLink RX6 134 "ClearingGates$Books" "balances" "[I"]
def wsX6_items_r2 : List Cond := [Cond.fieldLink RX6 20 "ClearingGates$Runner" "keptBalances" "[[I", Cond.methodLink RX6 154 arraycopyName, Cond.native arraycopyName, Cond.static arraycopyName, Cond.initialized "java/lang/System", Cond.fieldLink RX6 23 "ClearingGates$Runner" "keptFees" "[J", Cond.fieldLink RX6 141 "ClearingGates$Books" "fees" "J", Cond.methodLink RX6 116 yX6_inside, Cond.instanceMethod yX6_inside, Cond.selects RX6 yX6_inside yX6_inside, Cond.methodLink RX6 61 yX6_undo, Cond.instanceMethod yX6_undo, Cond.selects RX6 yX6_undo yX6_undo, Cond.code yX6_undo cX6_undo 2 none, Cond.methodLink RX6 113 yX6_mark, Cond.instanceMethod yX6_mark, Cond.selects RX6 yX6_mark yX6_mark, Cond.code yX6_mark cX6_mark 2 none, Cond.fieldLink RX6 31 "ClearingGates$Runner" "markCount" "I", Cond.fieldLink RX6 9 "ClearingGates$Runner" "marks" "[I", Cond.code yX6_block cX6_block 5 (some .int), Cond.fieldLink RX6 101 "ClearingGates$Books" "missed" "I", Cond.fieldLink RX6 15 "ClearingGates$Runner" "held" "[I", Cond.fieldLink RX6 107 "ClearingGates$Books" "entries" "[I"]
def wsX6_items_r3 : List Cond := [Cond.fieldLink RX6 110 "ClearingGates$Books" "agains" "[I", Cond.fieldLink RX6 119 "ClearingGates$Books" "leavings" "[I", Cond.methodLink RX6 89 yX3_figureAt, Cond.instanceMethod yX3_figureAt, Cond.selects RX3 yX3_figureAt yX3_figureAt, Cond.code yX3_figureAt cX3_figureAt 2 (some .int), Cond.methodLink RX3 32 yX3_byteAt, Cond.instanceMethod yX3_byteAt, Cond.selects RX3 yX3_byteAt yX3_byteAt, Cond.code yX3_byteAt cX3_byteAt 2 (some .int), Cond.fieldLink RX3 9 "ClearingGates$Program" "bytes" "[I", Cond.methodLink RX6 95 yX0_hasGate, Cond.instanceMethod yX0_hasGate, Cond.selects RX0 yX0_hasGate yX0_hasGate, Cond.initialized RX0, Cond.code yX0_hasGate cX0_hasGate 2 (some .boolean), Cond.fieldLink RX0 21 "ClearingGates$Books" "gates" "[Z", Cond.methodLink RX0 38 yX0_has, Cond.instanceMethod yX0_has, Cond.selects RX0 yX0_has yX0_has, Cond.code yX0_has cX0_has 2 (some .boolean), Cond.fieldLink RX0 34 "ClearingGates$Books" "accounts" "I", Cond.methodLink RX6 104 yX6_isGreaterHeld, Cond.instanceMethod yX6_isGreaterHeld]
def wsX6_items_r4 : List Cond := [Cond.selects RX6 yX6_isGreaterHeld yX6_isGreaterHeld, Cond.code yX6_isGreaterHeld cX6_isGreaterHeld 3 (some .boolean), Cond.code yX6_inside cX6_inside 4 (some .int), Cond.methodLink RX6 57 yX6_items, Cond.instanceMethod yX6_items, Cond.selects RX6 yX6_items yX6_items, Cond.code yX6_item cX6_item 3 (some .int), Cond.fieldLink RX6 45 "ClearingGates$Runner" "begun" "I", Cond.methodLink RX6 74 yX3_byteAt, Cond.methodLink RX6 77 yX6_block, Cond.instanceMethod yX6_block, Cond.selects RX6 yX6_block yX6_block, Cond.methodLink RX6 80 yX6_attempt, Cond.instanceMethod yX6_attempt, Cond.selects RX6 yX6_attempt yX6_attempt, Cond.methodLink RX6 83 yX6_loop, Cond.instanceMethod yX6_loop, Cond.selects RX6 yX6_loop yX6_loop, Cond.methodLink RX6 86 yX6_payment, Cond.instanceMethod yX6_payment, Cond.selects RX6 yX6_payment yX6_payment, Cond.code yX6_payment cX6_payment 7 (some .int), Cond.constant RX6 140 (1000000000), Cond.methodLink RX6 125 yX6_isHeld]
def wsX6_items_r5 : List Cond := [Cond.instanceMethod yX6_isHeld, Cond.selects RX6 yX6_isHeld yX6_isHeld, Cond.code yX6_isHeld cX6_isHeld 2 (some .boolean), Cond.methodLink RX6 151 yX0_has, Cond.methodLink RX6 128 yX3_numberBetween, Cond.instanceMethod yX3_numberBetween, Cond.selects RX3 yX3_numberBetween yX3_numberBetween, Cond.code yX3_numberBetween cX3_numberBetween 5 (some .int), Cond.methodLink RX6 131 yX0_feeOf, Cond.instanceMethod yX0_feeOf, Cond.selects RX0 yX0_feeOf yX0_feeOf, Cond.code yX0_feeOf cX0_feeOf 3 (some .int), Cond.fieldLink RX0 9 "ClearingGates$Books" "kinds" "[I", Cond.methodLink RX0 42 yX2_feeOf, Cond.static yX2_feeOf, Cond.initialized RX2, Cond.code yX2_feeOf cX2_feeOf 2 (some .int), Cond.methodLink RX6 137 yX0_floorOf, Cond.instanceMethod yX0_floorOf, Cond.selects RX0 yX0_floorOf yX0_floorOf, Cond.code yX0_floorOf cX0_floorOf 2 (some .int), Cond.fieldLink RX0 18 "ClearingGates$Books" "limits" "[I", Cond.methodLink RX0 48 yX2_floorOf, Cond.static yX2_floorOf]
def wsX6_items_r6 : List Cond := [Cond.code yX2_floorOf cX2_floorOf 2 (some .int), Cond.methodLink RX6 92 yX6_bell, Cond.instanceMethod yX6_bell, Cond.selects RX6 yX6_bell yX6_bell, Cond.code yX6_bell cX6_bell 3 (some .int), Cond.fieldLink RX6 145 "ClearingGates$Books" "bells" "I", Cond.fieldLink RX6 148 "ClearingGates$Books" "refused" "I", Cond.code yX6_loop cX6_loop 6 (some .int)]
def wsX6_items : List Cond := .code yX6_items cX6_items 6 (some .int) :: ((wsX6_items_r1 ++ (wsX6_items_r2 ++ (wsX6_items_r3 ++ (wsX6_items_r4 ++ (wsX6_items_r5 ++ wsX6_items_r6))))) ++ wsX60 ++ wsX00 ++ wsX30)
def wsX6_loop_r1 : List Cond := [Cond.fieldLink RX6 41 "ClearingGates$Runner" "program" "LClearingGates$Program;", Cond.methodLink RX6 89 yX3_figureAt, Cond.instanceMethod yX3_figureAt, Cond.selects RX3 yX3_figureAt yX3_figureAt, Cond.initialized RX3, Cond.code yX3_figureAt cX3_figureAt 2 (some .int), Cond.methodLink RX3 32 yX3_byteAt, Cond.instanceMethod yX3_byteAt, Cond.selects RX3 yX3_byteAt yX3_byteAt, Cond.code yX3_byteAt cX3_byteAt 2 (some .int), Cond.fieldLink RX3 31 "ClearingGates$Program" "size" "I", Cond.fieldLink RX3 9 "ClearingGates$Program" "bytes" "[I", Cond.methodLink RX6 116 yX6_inside, Cond.instanceMethod yX6_inside, Cond.selects RX6 yX6_inside yX6_inside, Cond.initialized RX6, Cond.code yX6_attempt cX6_attempt 5 (some .int), Cond.fieldLink RX6 27 "ClearingGates$Runner" "books" "LClearingGates$Books;", Cond.fieldLink RX6 122 "ClearingGates$Books" "caught" "I", Cond.methodLink RX6 48 yX6_keep, Cond.instanceMethod yX6_keep, Cond.selects RX6 yX6_keep yX6_keep, Cond.code yX6_keep cX6_keep 2 none, Cond.fieldLink RX6 134 "ClearingGates$Books" "balances" "[I"]
def wsX6_loop_r2 : List Cond := [Cond.fieldLink RX6 20 "ClearingGates$Runner" "keptBalances" "[[I", Cond.methodLink RX6 154 arraycopyName, Cond.native arraycopyName, Cond.static arraycopyName, Cond.initialized "java/lang/System", Cond.fieldLink RX6 23 "ClearingGates$Runner" "keptFees" "[J", Cond.fieldLink RX6 141 "ClearingGates$Books" "fees" "J", Cond.methodLink RX6 61 yX6_undo, Cond.instanceMethod yX6_undo, Cond.selects RX6 yX6_undo yX6_undo, Cond.code yX6_undo cX6_undo 2 none, Cond.methodLink RX6 113 yX6_mark, Cond.instanceMethod yX6_mark, Cond.selects RX6 yX6_mark yX6_mark, Cond.code yX6_mark cX6_mark 2 none, Cond.fieldLink RX6 31 "ClearingGates$Runner" "markCount" "I", Cond.fieldLink RX6 9 "ClearingGates$Runner" "marks" "[I", Cond.code yX6_block cX6_block 5 (some .int), Cond.fieldLink RX6 101 "ClearingGates$Books" "missed" "I", Cond.fieldLink RX6 15 "ClearingGates$Runner" "held" "[I", Cond.fieldLink RX6 107 "ClearingGates$Books" "entries" "[I", Cond.fieldLink RX6 110 "ClearingGates$Books" "agains" "[I", Cond.fieldLink RX6 119 "ClearingGates$Books" "leavings" "[I", Cond.methodLink RX6 95 yX0_hasGate]
def wsX6_loop_r3 : List Cond := [Cond.instanceMethod yX0_hasGate, Cond.selects RX0 yX0_hasGate yX0_hasGate, Cond.initialized RX0, Cond.code yX0_hasGate cX0_hasGate 2 (some .boolean), Cond.fieldLink RX0 21 "ClearingGates$Books" "gates" "[Z", Cond.methodLink RX0 38 yX0_has, Cond.instanceMethod yX0_has, Cond.selects RX0 yX0_has yX0_has, Cond.code yX0_has cX0_has 2 (some .boolean), Cond.fieldLink RX0 34 "ClearingGates$Books" "accounts" "I", Cond.methodLink RX6 104 yX6_isGreaterHeld, Cond.instanceMethod yX6_isGreaterHeld, Cond.selects RX6 yX6_isGreaterHeld yX6_isGreaterHeld, Cond.code yX6_isGreaterHeld cX6_isGreaterHeld 3 (some .boolean), Cond.code yX6_inside cX6_inside 4 (some .int), Cond.methodLink RX6 67 yX3_behindItem, Cond.instanceMethod yX3_behindItem, Cond.selects RX3 yX3_behindItem yX3_behindItem, Cond.code yX3_behindItem cX3_behindItem 2 (some .int), Cond.fieldLink RX3 15 "ClearingGates$Program" "behind" "[I", Cond.methodLink RX6 57 yX6_items, Cond.instanceMethod yX6_items, Cond.selects RX6 yX6_items yX6_items, Cond.code yX6_item cX6_item 3 (some .int)]
def wsX6_loop_r4 : List Cond := [Cond.fieldLink RX6 45 "ClearingGates$Runner" "begun" "I", Cond.methodLink RX6 74 yX3_byteAt, Cond.methodLink RX6 77 yX6_block, Cond.instanceMethod yX6_block, Cond.selects RX6 yX6_block yX6_block, Cond.methodLink RX6 80 yX6_attempt, Cond.instanceMethod yX6_attempt, Cond.selects RX6 yX6_attempt yX6_attempt, Cond.methodLink RX6 83 yX6_loop, Cond.instanceMethod yX6_loop, Cond.selects RX6 yX6_loop yX6_loop, Cond.methodLink RX6 86 yX6_payment, Cond.instanceMethod yX6_payment, Cond.selects RX6 yX6_payment yX6_payment, Cond.code yX6_payment cX6_payment 7 (some .int), Cond.constant RX6 140 (1000000000), Cond.methodLink RX6 125 yX6_isHeld, Cond.instanceMethod yX6_isHeld, Cond.selects RX6 yX6_isHeld yX6_isHeld, Cond.code yX6_isHeld cX6_isHeld 2 (some .boolean), Cond.methodLink RX6 151 yX0_has, Cond.methodLink RX6 128 yX3_numberBetween, Cond.instanceMethod yX3_numberBetween, Cond.selects RX3 yX3_numberBetween yX3_numberBetween]
def wsX6_loop_r5 : List Cond := [Cond.code yX3_numberBetween cX3_numberBetween 5 (some .int), Cond.methodLink RX6 131 yX0_feeOf, Cond.instanceMethod yX0_feeOf, Cond.selects RX0 yX0_feeOf yX0_feeOf, Cond.code yX0_feeOf cX0_feeOf 3 (some .int), Cond.fieldLink RX0 9 "ClearingGates$Books" "kinds" "[I", Cond.methodLink RX0 42 yX2_feeOf, Cond.static yX2_feeOf, Cond.initialized RX2, Cond.code yX2_feeOf cX2_feeOf 2 (some .int), Cond.methodLink RX6 137 yX0_floorOf, Cond.instanceMethod yX0_floorOf, Cond.selects RX0 yX0_floorOf yX0_floorOf, Cond.code yX0_floorOf cX0_floorOf 2 (some .int), Cond.fieldLink RX0 18 "ClearingGates$Books" "limits" "[I", Cond.methodLink RX0 48 yX2_floorOf, Cond.static yX2_floorOf, Cond.code yX2_floorOf cX2_floorOf 2 (some .int), Cond.methodLink RX6 92 yX6_bell, Cond.instanceMethod yX6_bell, Cond.selects RX6 yX6_bell yX6_bell, Cond.code yX6_bell cX6_bell 3 (some .int), Cond.fieldLink RX6 145 "ClearingGates$Books" "bells" "I", Cond.fieldLink RX6 148 "ClearingGates$Books" "refused" "I"]
def wsX6_loop_r6 : List Cond := [Cond.code yX6_items cX6_items 6 (some .int), Cond.methodLink RX6 71 Lib.Math.max.name, Cond.static Lib.Math.max.name, Cond.initialized "java/lang/Math", Cond.code Lib.Math.max.name Lib.Math.max.code 2 (some .int), Cond.methodLink RX6 64 yX6_item, Cond.instanceMethod yX6_item, Cond.selects RX6 yX6_item yX6_item]
def wsX6_loop : List Cond := .code yX6_loop cX6_loop 6 (some .int) :: ((wsX6_loop_r1 ++ (wsX6_loop_r2 ++ (wsX6_loop_r3 ++ (wsX6_loop_r4 ++ (wsX6_loop_r5 ++ wsX6_loop_r6))))) ++ wsX60 ++ wsX00 ++ wsX30)
def wsX8_add : List Cond := .code yX8_add cX8_add 2 none :: ([.fieldLink RX8 15 "ClearingGates$Tape" "size" "I", .fieldLink RX8 9 "ClearingGates$Tape" "bytes" "[I"] ++ wsX80)
def wsX9_isWithin : List Cond := .code yX9_isWithin cX9_isWithin 2 (some .boolean) :: ([])
def wsX9_isByte : List Cond := .code yX9_isByte cX9_isByte 1 (some .boolean) :: ([.methodLink RX9 91 yX9_isWithin, .static yX9_isWithin, .initialized RX9, .code yX9_isWithin cX9_isWithin 2 (some .boolean)])
def wsX9_isSheet : List Cond := .code yX9_isSheet cX9_isSheet 1 (some .boolean) :: ([])
theorem dX0_has_0 : decode cX0_has 0 = .ok (.iload_n 1, 1) := by decide +kernel
theorem dX0_has_1 : decode cX0_has 1 = .ok (.ifCond .lt 15, 3) := by decide +kernel
theorem dX0_has_4 : decode cX0_has 4 = .ok (.iload_n 1, 1) := by decide +kernel
theorem dX0_has_5 : decode cX0_has 5 = .ok (.aload_n 0, 1) := by decide +kernel
theorem dX0_has_6 : decode cX0_has 6 = .ok (.getfield 34, 3) := by decide +kernel
theorem dX0_has_9 : decode cX0_has 9 = .ok (.if_icmp .ge 7, 3) := by decide +kernel
theorem dX0_has_12 : decode cX0_has 12 = .ok (.iconst 1, 1) := by decide +kernel
theorem dX0_has_13 : decode cX0_has 13 = .ok (.goto 4, 3) := by decide +kernel
theorem dX0_has_16 : decode cX0_has 16 = .ok (.iconst 0, 1) := by decide +kernel
theorem dX0_has_17 : decode cX0_has 17 = .ok (.ireturn, 1) := by decide +kernel
set_option maxRecDepth 20000 in
theorem ggX0_hasGate_X0_has : GoodIn wsX0_hasGate wsX0_has := goodIn_r _ [6, 7, 8, 9, 10, 11, 12, 13, 14, 15, 16, 17, 18, 19, 20] (by decide +kernel) (by decide +kernel)
set_option maxRecDepth 20000 in
theorem gX0_hasGate_X0_has : GoodIn wsX0_hasGate (wsV RX0 38 RX0 yX0_has wsX0_has) := goodIn_app (goodIn_of _ (by decide +kernel)) ggX0_hasGate_X0_has
theorem dX0_hasGate_0 : decode cX0_hasGate 0 = .ok (.aload_n 0, 1) := by decide +kernel
theorem dX0_hasGate_1 : decode cX0_hasGate 1 = .ok (.iload_n 1, 1) := by decide +kernel
theorem dX0_hasGate_2 : decode cX0_hasGate 2 = .ok (.invokevirtual 38, 3) := by decide +kernel
theorem dX0_hasGate_5 : decode cX0_hasGate 5 = .ok (.ifCond .eq 16, 3) := by decide +kernel
theorem dX0_hasGate_8 : decode cX0_hasGate 8 = .ok (.aload_n 0, 1) := by decide +kernel
theorem dX0_hasGate_9 : decode cX0_hasGate 9 = .ok (.getfield 21, 3) := by decide +kernel
theorem dX0_hasGate_12 : decode cX0_hasGate 12 = .ok (.iload_n 1, 1) := by decide +kernel
theorem dX0_hasGate_13 : decode cX0_hasGate 13 = .ok (.baload, 1) := by decide +kernel
theorem dX0_hasGate_14 : decode cX0_hasGate 14 = .ok (.ifCond .eq 7, 3) := by decide +kernel
theorem dX0_hasGate_17 : decode cX0_hasGate 17 = .ok (.iconst 1, 1) := by decide +kernel
theorem dX0_hasGate_18 : decode cX0_hasGate 18 = .ok (.goto 4, 3) := by decide +kernel
theorem dX0_hasGate_21 : decode cX0_hasGate 21 = .ok (.iconst 0, 1) := by decide +kernel
theorem dX0_hasGate_22 : decode cX0_hasGate 22 = .ok (.ireturn, 1) := by decide +kernel
theorem dX0_hasAllGates_0 : decode cX0_hasAllGates 0 = .ok (.iconst 0, 1) := by decide +kernel
theorem dX0_hasAllGates_1 : decode cX0_hasAllGates 1 = .ok (.istore_n 1, 1) := by decide +kernel
theorem dX0_hasAllGates_2 : decode cX0_hasAllGates 2 = .ok (.iload_n 1, 1) := by decide +kernel
theorem dX0_hasAllGates_3 : decode cX0_hasAllGates 3 = .ok (.aload_n 0, 1) := by decide +kernel
theorem dX0_hasAllGates_4 : decode cX0_hasAllGates 4 = .ok (.getfield 34, 3) := by decide +kernel
theorem dX0_hasAllGates_7 : decode cX0_hasAllGates 7 = .ok (.if_icmp .ge 20, 3) := by decide +kernel
theorem dX0_hasAllGates_10 : decode cX0_hasAllGates 10 = .ok (.aload_n 0, 1) := by decide +kernel
theorem dX0_hasAllGates_11 : decode cX0_hasAllGates 11 = .ok (.getfield 21, 3) := by decide +kernel
theorem dX0_hasAllGates_14 : decode cX0_hasAllGates 14 = .ok (.iload_n 1, 1) := by decide +kernel
theorem dX0_hasAllGates_15 : decode cX0_hasAllGates 15 = .ok (.baload, 1) := by decide +kernel
theorem dX0_hasAllGates_16 : decode cX0_hasAllGates 16 = .ok (.ifCond .ne 5, 3) := by decide +kernel
theorem dX0_hasAllGates_19 : decode cX0_hasAllGates 19 = .ok (.iconst 0, 1) := by decide +kernel
theorem dX0_hasAllGates_20 : decode cX0_hasAllGates 20 = .ok (.ireturn, 1) := by decide +kernel
theorem dX0_hasAllGates_21 : decode cX0_hasAllGates 21 = .ok (.iinc 1 1, 3) := by decide +kernel
theorem dX0_hasAllGates_24 : decode cX0_hasAllGates 24 = .ok (.goto (-22), 3) := by decide +kernel
theorem dX0_hasAllGates_27 : decode cX0_hasAllGates 27 = .ok (.iconst 1, 1) := by decide +kernel
theorem dX0_hasAllGates_28 : decode cX0_hasAllGates 28 = .ok (.ireturn, 1) := by decide +kernel
theorem dX0_open_0 : decode cX0_open 0 = .ok (.aload_n 0, 1) := by decide +kernel
theorem dX0_open_1 : decode cX0_open 1 = .ok (.getfield 34, 3) := by decide +kernel
theorem dX0_open_4 : decode cX0_open 4 = .ok (.istore_n 3, 1) := by decide +kernel
theorem dX0_open_5 : decode cX0_open 5 = .ok (.aload_n 0, 1) := by decide +kernel
theorem dX0_open_6 : decode cX0_open 6 = .ok (.getfield 9, 3) := by decide +kernel
theorem dX0_open_9 : decode cX0_open 9 = .ok (.iload_n 3, 1) := by decide +kernel
theorem dX0_open_10 : decode cX0_open 10 = .ok (.iload_n 1, 1) := by decide +kernel
theorem dX0_open_11 : decode cX0_open 11 = .ok (.iastore, 1) := by decide +kernel
theorem dX0_open_12 : decode cX0_open 12 = .ok (.aload_n 0, 1) := by decide +kernel
theorem dX0_open_13 : decode cX0_open 13 = .ok (.getfield 15, 3) := by decide +kernel
theorem dX0_open_16 : decode cX0_open 16 = .ok (.iload_n 3, 1) := by decide +kernel
theorem dX0_open_17 : decode cX0_open 17 = .ok (.iload_n 2, 1) := by decide +kernel
theorem dX0_open_18 : decode cX0_open 18 = .ok (.iastore, 1) := by decide +kernel
theorem dX0_open_19 : decode cX0_open 19 = .ok (.aload_n 0, 1) := by decide +kernel
theorem dX0_open_20 : decode cX0_open 20 = .ok (.getfield 18, 3) := by decide +kernel
theorem dX0_open_23 : decode cX0_open 23 = .ok (.iload_n 3, 1) := by decide +kernel
theorem dX0_open_24 : decode cX0_open 24 = .ok (.iconst 0, 1) := by decide +kernel
theorem dX0_open_25 : decode cX0_open 25 = .ok (.iastore, 1) := by decide +kernel
theorem dX0_open_26 : decode cX0_open 26 = .ok (.aload_n 0, 1) := by decide +kernel
theorem dX0_open_27 : decode cX0_open 27 = .ok (.getfield 21, 3) := by decide +kernel
theorem dX0_open_30 : decode cX0_open 30 = .ok (.iload_n 3, 1) := by decide +kernel
theorem dX0_open_31 : decode cX0_open 31 = .ok (.iconst 1, 1) := by decide +kernel
theorem dX0_open_32 : decode cX0_open 32 = .ok (.bastore, 1) := by decide +kernel
theorem dX0_open_33 : decode cX0_open 33 = .ok (.aload_n 0, 1) := by decide +kernel
theorem dX0_open_34 : decode cX0_open 34 = .ok (.getfield 25, 3) := by decide +kernel
theorem dX0_open_37 : decode cX0_open 37 = .ok (.iload_n 3, 1) := by decide +kernel
theorem dX0_open_38 : decode cX0_open 38 = .ok (.iconst 0, 1) := by decide +kernel
theorem dX0_open_39 : decode cX0_open 39 = .ok (.iastore, 1) := by decide +kernel
theorem dX0_open_40 : decode cX0_open 40 = .ok (.aload_n 0, 1) := by decide +kernel
theorem dX0_open_41 : decode cX0_open 41 = .ok (.getfield 28, 3) := by decide +kernel
theorem dX0_open_44 : decode cX0_open 44 = .ok (.iload_n 3, 1) := by decide +kernel
theorem dX0_open_45 : decode cX0_open 45 = .ok (.iconst 0, 1) := by decide +kernel
theorem dX0_open_46 : decode cX0_open 46 = .ok (.iastore, 1) := by decide +kernel
theorem dX0_open_47 : decode cX0_open 47 = .ok (.aload_n 0, 1) := by decide +kernel
theorem dX0_open_48 : decode cX0_open 48 = .ok (.getfield 31, 3) := by decide +kernel
theorem dX0_open_51 : decode cX0_open 51 = .ok (.iload_n 3, 1) := by decide +kernel
theorem dX0_open_52 : decode cX0_open 52 = .ok (.iconst 0, 1) := by decide +kernel
theorem dX0_open_53 : decode cX0_open 53 = .ok (.iastore, 1) := by decide +kernel
theorem dX0_open_54 : decode cX0_open 54 = .ok (.aload_n 0, 1) := by decide +kernel
theorem dX0_open_55 : decode cX0_open 55 = .ok (.dup, 1) := by decide +kernel
theorem dX0_open_56 : decode cX0_open 56 = .ok (.getfield 34, 3) := by decide +kernel
theorem dX0_open_59 : decode cX0_open 59 = .ok (.iconst 1, 1) := by decide +kernel
theorem dX0_open_60 : decode cX0_open 60 = .ok (.iadd, 1) := by decide +kernel
theorem dX0_open_61 : decode cX0_open 61 = .ok (.putfield 34, 3) := by decide +kernel
theorem dX0_open_64 : decode cX0_open 64 = .ok (.iload_n 3, 1) := by decide +kernel
theorem dX0_open_65 : decode cX0_open 65 = .ok (.ireturn, 1) := by decide +kernel
set_option maxRecDepth 20000 in
theorem ggX0_feeOf_X2_feeOf : GoodIn wsX0_feeOf wsX2_feeOf := goodIn_r _ [5] (by decide +kernel) (by decide +kernel)
set_option maxRecDepth 20000 in
theorem gX0_feeOf_X2_feeOf : GoodIn wsX0_feeOf (va_wsS RX0 42 yX2_feeOf wsX2_feeOf) := goodIn_app (goodIn_of _ (by decide +kernel)) ggX0_feeOf_X2_feeOf
theorem dX0_feeOf_0 : decode cX0_feeOf 0 = .ok (.aload_n 0, 1) := by decide +kernel
theorem dX0_feeOf_1 : decode cX0_feeOf 1 = .ok (.getfield 9, 3) := by decide +kernel
theorem dX0_feeOf_4 : decode cX0_feeOf 4 = .ok (.iload_n 1, 1) := by decide +kernel
theorem dX0_feeOf_5 : decode cX0_feeOf 5 = .ok (.iaload, 1) := by decide +kernel
theorem dX0_feeOf_6 : decode cX0_feeOf 6 = .ok (.iload_n 2, 1) := by decide +kernel
theorem dX0_feeOf_7 : decode cX0_feeOf 7 = .ok (.invokestatic 42, 3) := by decide +kernel
theorem dX0_feeOf_10 : decode cX0_feeOf 10 = .ok (.ireturn, 1) := by decide +kernel
set_option maxRecDepth 20000 in
theorem ggX0_floorOf_X2_floorOf : GoodIn wsX0_floorOf wsX2_floorOf := goodIn_r _ [6] (by decide +kernel) (by decide +kernel)
set_option maxRecDepth 20000 in
theorem gX0_floorOf_X2_floorOf : GoodIn wsX0_floorOf (va_wsS RX0 48 yX2_floorOf wsX2_floorOf) := goodIn_app (goodIn_of _ (by decide +kernel)) ggX0_floorOf_X2_floorOf
theorem dX0_floorOf_0 : decode cX0_floorOf 0 = .ok (.aload_n 0, 1) := by decide +kernel
theorem dX0_floorOf_1 : decode cX0_floorOf 1 = .ok (.getfield 9, 3) := by decide +kernel
theorem dX0_floorOf_4 : decode cX0_floorOf 4 = .ok (.iload_n 1, 1) := by decide +kernel
theorem dX0_floorOf_5 : decode cX0_floorOf 5 = .ok (.iaload, 1) := by decide +kernel
theorem dX0_floorOf_6 : decode cX0_floorOf 6 = .ok (.aload_n 0, 1) := by decide +kernel
theorem dX0_floorOf_7 : decode cX0_floorOf 7 = .ok (.getfield 18, 3) := by decide +kernel
theorem dX0_floorOf_10 : decode cX0_floorOf 10 = .ok (.iload_n 1, 1) := by decide +kernel
theorem dX0_floorOf_11 : decode cX0_floorOf 11 = .ok (.iaload, 1) := by decide +kernel
theorem dX0_floorOf_12 : decode cX0_floorOf 12 = .ok (.invokestatic 48, 3) := by decide +kernel
theorem dX0_floorOf_15 : decode cX0_floorOf 15 = .ok (.ireturn, 1) := by decide +kernel
theorem dX0_allMoney_0 : decode cX0_allMoney 0 = .ok (.aload_n 0, 1) := by decide +kernel
theorem dX0_allMoney_1 : decode cX0_allMoney 1 = .ok (.getfield 51, 3) := by decide +kernel
theorem dX0_allMoney_4 : decode cX0_allMoney 4 = .ok (.lstore_n 1, 1) := by decide +kernel
theorem dX0_allMoney_5 : decode cX0_allMoney 5 = .ok (.iconst 0, 1) := by decide +kernel
theorem dX0_allMoney_6 : decode cX0_allMoney 6 = .ok (.istore_n 3, 1) := by decide +kernel
theorem dX0_allMoney_7 : decode cX0_allMoney 7 = .ok (.iload_n 3, 1) := by decide +kernel
theorem dX0_allMoney_8 : decode cX0_allMoney 8 = .ok (.aload_n 0, 1) := by decide +kernel
theorem dX0_allMoney_9 : decode cX0_allMoney 9 = .ok (.getfield 34, 3) := by decide +kernel
theorem dX0_allMoney_12 : decode cX0_allMoney 12 = .ok (.if_icmp .ge 19, 3) := by decide +kernel
theorem dX0_allMoney_15 : decode cX0_allMoney 15 = .ok (.lload_n 1, 1) := by decide +kernel
theorem dX0_allMoney_16 : decode cX0_allMoney 16 = .ok (.aload_n 0, 1) := by decide +kernel
theorem dX0_allMoney_17 : decode cX0_allMoney 17 = .ok (.getfield 15, 3) := by decide +kernel
theorem dX0_allMoney_20 : decode cX0_allMoney 20 = .ok (.iload_n 3, 1) := by decide +kernel
theorem dX0_allMoney_21 : decode cX0_allMoney 21 = .ok (.iaload, 1) := by decide +kernel
theorem dX0_allMoney_22 : decode cX0_allMoney 22 = .ok (.i2l, 1) := by decide +kernel
theorem dX0_allMoney_23 : decode cX0_allMoney 23 = .ok (.ladd, 1) := by decide +kernel
theorem dX0_allMoney_24 : decode cX0_allMoney 24 = .ok (.lstore_n 1, 1) := by decide +kernel
theorem dX0_allMoney_25 : decode cX0_allMoney 25 = .ok (.iinc 3 1, 3) := by decide +kernel
theorem dX0_allMoney_28 : decode cX0_allMoney 28 = .ok (.goto (-21), 3) := by decide +kernel
theorem dX0_allMoney_31 : decode cX0_allMoney 31 = .ok (.lload_n 1, 1) := by decide +kernel
theorem dX0_allMoney_32 : decode cX0_allMoney 32 = .ok (.lreturn, 1) := by decide +kernel
theorem dX0_allEntries_0 : decode cX0_allEntries 0 = .ok (.iconst 0, 1) := by decide +kernel
theorem dX0_allEntries_1 : decode cX0_allEntries 1 = .ok (.istore_n 1, 1) := by decide +kernel
theorem dX0_allEntries_2 : decode cX0_allEntries 2 = .ok (.iconst 0, 1) := by decide +kernel
theorem dX0_allEntries_3 : decode cX0_allEntries 3 = .ok (.istore_n 2, 1) := by decide +kernel
theorem dX0_allEntries_4 : decode cX0_allEntries 4 = .ok (.iload_n 2, 1) := by decide +kernel
theorem dX0_allEntries_5 : decode cX0_allEntries 5 = .ok (.aload_n 0, 1) := by decide +kernel
theorem dX0_allEntries_6 : decode cX0_allEntries 6 = .ok (.getfield 34, 3) := by decide +kernel
theorem dX0_allEntries_9 : decode cX0_allEntries 9 = .ok (.if_icmp .ge 18, 3) := by decide +kernel
theorem dX0_allEntries_12 : decode cX0_allEntries 12 = .ok (.iload_n 1, 1) := by decide +kernel
theorem dX0_allEntries_13 : decode cX0_allEntries 13 = .ok (.aload_n 0, 1) := by decide +kernel
theorem dX0_allEntries_14 : decode cX0_allEntries 14 = .ok (.getfield 25, 3) := by decide +kernel
theorem dX0_allEntries_17 : decode cX0_allEntries 17 = .ok (.iload_n 2, 1) := by decide +kernel
theorem dX0_allEntries_18 : decode cX0_allEntries 18 = .ok (.iaload, 1) := by decide +kernel
theorem dX0_allEntries_19 : decode cX0_allEntries 19 = .ok (.iadd, 1) := by decide +kernel
theorem dX0_allEntries_20 : decode cX0_allEntries 20 = .ok (.istore_n 1, 1) := by decide +kernel
theorem dX0_allEntries_21 : decode cX0_allEntries 21 = .ok (.iinc 2 1, 3) := by decide +kernel
theorem dX0_allEntries_24 : decode cX0_allEntries 24 = .ok (.goto (-20), 3) := by decide +kernel
theorem dX0_allEntries_27 : decode cX0_allEntries 27 = .ok (.iload_n 1, 1) := by decide +kernel
theorem dX0_allEntries_28 : decode cX0_allEntries 28 = .ok (.ireturn, 1) := by decide +kernel
theorem dX0_enterAll_0 : decode cX0_enterAll 0 = .ok (.iconst 0, 1) := by decide +kernel
theorem dX0_enterAll_1 : decode cX0_enterAll 1 = .ok (.istore_n 1, 1) := by decide +kernel
theorem dX0_enterAll_2 : decode cX0_enterAll 2 = .ok (.iload_n 1, 1) := by decide +kernel
theorem dX0_enterAll_3 : decode cX0_enterAll 3 = .ok (.aload_n 0, 1) := by decide +kernel
theorem dX0_enterAll_4 : decode cX0_enterAll 4 = .ok (.getfield 34, 3) := by decide +kernel
theorem dX0_enterAll_7 : decode cX0_enterAll 7 = .ok (.if_icmp .ge 19, 3) := by decide +kernel
theorem dX0_enterAll_10 : decode cX0_enterAll 10 = .ok (.aload_n 0, 1) := by decide +kernel
theorem dX0_enterAll_11 : decode cX0_enterAll 11 = .ok (.getfield 25, 3) := by decide +kernel
theorem dX0_enterAll_14 : decode cX0_enterAll 14 = .ok (.iload_n 1, 1) := by decide +kernel
theorem dX0_enterAll_15 : decode cX0_enterAll 15 = .ok (.dup2, 1) := by decide +kernel
theorem dX0_enterAll_16 : decode cX0_enterAll 16 = .ok (.iaload, 1) := by decide +kernel
theorem dX0_enterAll_17 : decode cX0_enterAll 17 = .ok (.iconst 1, 1) := by decide +kernel
theorem dX0_enterAll_18 : decode cX0_enterAll 18 = .ok (.iadd, 1) := by decide +kernel
theorem dX0_enterAll_19 : decode cX0_enterAll 19 = .ok (.iastore, 1) := by decide +kernel
theorem dX0_enterAll_20 : decode cX0_enterAll 20 = .ok (.iinc 1 1, 3) := by decide +kernel
theorem dX0_enterAll_23 : decode cX0_enterAll 23 = .ok (.goto (-21), 3) := by decide +kernel
theorem dX0_enterAll_26 : decode cX0_enterAll 26 = .ok (.return_, 1) := by decide +kernel
theorem dX0_leaveAll_0 : decode cX0_leaveAll 0 = .ok (.aload_n 0, 1) := by decide +kernel
theorem dX0_leaveAll_1 : decode cX0_leaveAll 1 = .ok (.getfield 34, 3) := by decide +kernel
theorem dX0_leaveAll_4 : decode cX0_leaveAll 4 = .ok (.iconst 1, 1) := by decide +kernel
theorem dX0_leaveAll_5 : decode cX0_leaveAll 5 = .ok (.isub, 1) := by decide +kernel
theorem dX0_leaveAll_6 : decode cX0_leaveAll 6 = .ok (.istore_n 1, 1) := by decide +kernel
theorem dX0_leaveAll_7 : decode cX0_leaveAll 7 = .ok (.iload_n 1, 1) := by decide +kernel
theorem dX0_leaveAll_8 : decode cX0_leaveAll 8 = .ok (.ifCond .lt 19, 3) := by decide +kernel
theorem dX0_leaveAll_11 : decode cX0_leaveAll 11 = .ok (.aload_n 0, 1) := by decide +kernel
theorem dX0_leaveAll_12 : decode cX0_leaveAll 12 = .ok (.getfield 28, 3) := by decide +kernel
theorem dX0_leaveAll_15 : decode cX0_leaveAll 15 = .ok (.iload_n 1, 1) := by decide +kernel
theorem dX0_leaveAll_16 : decode cX0_leaveAll 16 = .ok (.dup2, 1) := by decide +kernel
theorem dX0_leaveAll_17 : decode cX0_leaveAll 17 = .ok (.iaload, 1) := by decide +kernel
theorem dX0_leaveAll_18 : decode cX0_leaveAll 18 = .ok (.iconst 1, 1) := by decide +kernel
theorem dX0_leaveAll_19 : decode cX0_leaveAll 19 = .ok (.iadd, 1) := by decide +kernel
theorem dX0_leaveAll_20 : decode cX0_leaveAll 20 = .ok (.iastore, 1) := by decide +kernel
theorem dX0_leaveAll_21 : decode cX0_leaveAll 21 = .ok (.iinc 1 (-1), 3) := by decide +kernel
theorem dX0_leaveAll_24 : decode cX0_leaveAll 24 = .ok (.goto (-17), 3) := by decide +kernel
theorem dX0_leaveAll_27 : decode cX0_leaveAll 27 = .ok (.return_, 1) := by decide +kernel
theorem dX0_becomeAs_0 : decode cX0_becomeAs 0 = .ok (.aload_n 1, 1) := by decide +kernel
theorem dX0_becomeAs_1 : decode cX0_becomeAs 1 = .ok (.getfield 9, 3) := by decide +kernel
theorem dX0_becomeAs_4 : decode cX0_becomeAs 4 = .ok (.iconst 0, 1) := by decide +kernel
theorem dX0_becomeAs_5 : decode cX0_becomeAs 5 = .ok (.aload_n 0, 1) := by decide +kernel
theorem dX0_becomeAs_6 : decode cX0_becomeAs 6 = .ok (.getfield 9, 3) := by decide +kernel
theorem dX0_becomeAs_9 : decode cX0_becomeAs 9 = .ok (.iconst 0, 1) := by decide +kernel
theorem dX0_becomeAs_10 : decode cX0_becomeAs 10 = .ok (.bipush 8, 2) := by decide +kernel
theorem dX0_becomeAs_12 : decode cX0_becomeAs 12 = .ok (.invokestatic 55, 3) := by decide +kernel
theorem dX0_becomeAs_15 : decode cX0_becomeAs 15 = .ok (.aload_n 1, 1) := by decide +kernel
theorem dX0_becomeAs_16 : decode cX0_becomeAs 16 = .ok (.getfield 15, 3) := by decide +kernel
theorem dX0_becomeAs_19 : decode cX0_becomeAs 19 = .ok (.iconst 0, 1) := by decide +kernel
theorem dX0_becomeAs_20 : decode cX0_becomeAs 20 = .ok (.aload_n 0, 1) := by decide +kernel
theorem dX0_becomeAs_21 : decode cX0_becomeAs 21 = .ok (.getfield 15, 3) := by decide +kernel
theorem dX0_becomeAs_24 : decode cX0_becomeAs 24 = .ok (.iconst 0, 1) := by decide +kernel
theorem dX0_becomeAs_25 : decode cX0_becomeAs 25 = .ok (.bipush 8, 2) := by decide +kernel
theorem dX0_becomeAs_27 : decode cX0_becomeAs 27 = .ok (.invokestatic 55, 3) := by decide +kernel
theorem dX0_becomeAs_30 : decode cX0_becomeAs 30 = .ok (.aload_n 1, 1) := by decide +kernel
theorem dX0_becomeAs_31 : decode cX0_becomeAs 31 = .ok (.getfield 18, 3) := by decide +kernel
theorem dX0_becomeAs_34 : decode cX0_becomeAs 34 = .ok (.iconst 0, 1) := by decide +kernel
theorem dX0_becomeAs_35 : decode cX0_becomeAs 35 = .ok (.aload_n 0, 1) := by decide +kernel
theorem dX0_becomeAs_36 : decode cX0_becomeAs 36 = .ok (.getfield 18, 3) := by decide +kernel
theorem dX0_becomeAs_39 : decode cX0_becomeAs 39 = .ok (.iconst 0, 1) := by decide +kernel
theorem dX0_becomeAs_40 : decode cX0_becomeAs 40 = .ok (.bipush 8, 2) := by decide +kernel
theorem dX0_becomeAs_42 : decode cX0_becomeAs 42 = .ok (.invokestatic 55, 3) := by decide +kernel
theorem dX0_becomeAs_45 : decode cX0_becomeAs 45 = .ok (.aload_n 1, 1) := by decide +kernel
theorem dX0_becomeAs_46 : decode cX0_becomeAs 46 = .ok (.getfield 25, 3) := by decide +kernel
theorem dX0_becomeAs_49 : decode cX0_becomeAs 49 = .ok (.iconst 0, 1) := by decide +kernel
theorem dX0_becomeAs_50 : decode cX0_becomeAs 50 = .ok (.aload_n 0, 1) := by decide +kernel
theorem dX0_becomeAs_51 : decode cX0_becomeAs 51 = .ok (.getfield 25, 3) := by decide +kernel
theorem dX0_becomeAs_54 : decode cX0_becomeAs 54 = .ok (.iconst 0, 1) := by decide +kernel
theorem dX0_becomeAs_55 : decode cX0_becomeAs 55 = .ok (.bipush 8, 2) := by decide +kernel
theorem dX0_becomeAs_57 : decode cX0_becomeAs 57 = .ok (.invokestatic 55, 3) := by decide +kernel
theorem dX0_becomeAs_60 : decode cX0_becomeAs 60 = .ok (.aload_n 1, 1) := by decide +kernel
theorem dX0_becomeAs_61 : decode cX0_becomeAs 61 = .ok (.getfield 28, 3) := by decide +kernel
theorem dX0_becomeAs_64 : decode cX0_becomeAs 64 = .ok (.iconst 0, 1) := by decide +kernel
theorem dX0_becomeAs_65 : decode cX0_becomeAs 65 = .ok (.aload_n 0, 1) := by decide +kernel
theorem dX0_becomeAs_66 : decode cX0_becomeAs 66 = .ok (.getfield 28, 3) := by decide +kernel
theorem dX0_becomeAs_69 : decode cX0_becomeAs 69 = .ok (.iconst 0, 1) := by decide +kernel
theorem dX0_becomeAs_70 : decode cX0_becomeAs 70 = .ok (.bipush 8, 2) := by decide +kernel
theorem dX0_becomeAs_72 : decode cX0_becomeAs 72 = .ok (.invokestatic 55, 3) := by decide +kernel
theorem dX0_becomeAs_75 : decode cX0_becomeAs 75 = .ok (.aload_n 1, 1) := by decide +kernel
theorem dX0_becomeAs_76 : decode cX0_becomeAs 76 = .ok (.getfield 31, 3) := by decide +kernel
theorem dX0_becomeAs_79 : decode cX0_becomeAs 79 = .ok (.iconst 0, 1) := by decide +kernel
theorem dX0_becomeAs_80 : decode cX0_becomeAs 80 = .ok (.aload_n 0, 1) := by decide +kernel
theorem dX0_becomeAs_81 : decode cX0_becomeAs 81 = .ok (.getfield 31, 3) := by decide +kernel
theorem dX0_becomeAs_84 : decode cX0_becomeAs 84 = .ok (.iconst 0, 1) := by decide +kernel
theorem dX0_becomeAs_85 : decode cX0_becomeAs 85 = .ok (.bipush 8, 2) := by decide +kernel
theorem dX0_becomeAs_87 : decode cX0_becomeAs 87 = .ok (.invokestatic 55, 3) := by decide +kernel
theorem dX0_becomeAs_90 : decode cX0_becomeAs 90 = .ok (.iconst 0, 1) := by decide +kernel
theorem dX0_becomeAs_91 : decode cX0_becomeAs 91 = .ok (.istore_n 2, 1) := by decide +kernel
theorem dX0_becomeAs_92 : decode cX0_becomeAs 92 = .ok (.iload_n 2, 1) := by decide +kernel
theorem dX0_becomeAs_93 : decode cX0_becomeAs 93 = .ok (.bipush 8, 2) := by decide +kernel
theorem dX0_becomeAs_95 : decode cX0_becomeAs 95 = .ok (.if_icmp .ge 21, 3) := by decide +kernel
theorem dX0_becomeAs_98 : decode cX0_becomeAs 98 = .ok (.aload_n 0, 1) := by decide +kernel
theorem dX0_becomeAs_99 : decode cX0_becomeAs 99 = .ok (.getfield 21, 3) := by decide +kernel
theorem dX0_becomeAs_102 : decode cX0_becomeAs 102 = .ok (.iload_n 2, 1) := by decide +kernel
theorem dX0_becomeAs_103 : decode cX0_becomeAs 103 = .ok (.aload_n 1, 1) := by decide +kernel
theorem dX0_becomeAs_104 : decode cX0_becomeAs 104 = .ok (.getfield 21, 3) := by decide +kernel
theorem dX0_becomeAs_107 : decode cX0_becomeAs 107 = .ok (.iload_n 2, 1) := by decide +kernel
theorem dX0_becomeAs_108 : decode cX0_becomeAs 108 = .ok (.baload, 1) := by decide +kernel
theorem dX0_becomeAs_109 : decode cX0_becomeAs 109 = .ok (.bastore, 1) := by decide +kernel
theorem dX0_becomeAs_110 : decode cX0_becomeAs 110 = .ok (.iinc 2 1, 3) := by decide +kernel
theorem dX0_becomeAs_113 : decode cX0_becomeAs 113 = .ok (.goto (-21), 3) := by decide +kernel
theorem dX0_becomeAs_116 : decode cX0_becomeAs 116 = .ok (.aload_n 0, 1) := by decide +kernel
theorem dX0_becomeAs_117 : decode cX0_becomeAs 117 = .ok (.aload_n 1, 1) := by decide +kernel
theorem dX0_becomeAs_118 : decode cX0_becomeAs 118 = .ok (.getfield 34, 3) := by decide +kernel
theorem dX0_becomeAs_121 : decode cX0_becomeAs 121 = .ok (.putfield 34, 3) := by decide +kernel
theorem dX0_becomeAs_124 : decode cX0_becomeAs 124 = .ok (.aload_n 0, 1) := by decide +kernel
theorem dX0_becomeAs_125 : decode cX0_becomeAs 125 = .ok (.aload_n 1, 1) := by decide +kernel
theorem dX0_becomeAs_126 : decode cX0_becomeAs 126 = .ok (.getfield 51, 3) := by decide +kernel
theorem dX0_becomeAs_129 : decode cX0_becomeAs 129 = .ok (.putfield 51, 3) := by decide +kernel
theorem dX0_becomeAs_132 : decode cX0_becomeAs 132 = .ok (.aload_n 0, 1) := by decide +kernel
theorem dX0_becomeAs_133 : decode cX0_becomeAs 133 = .ok (.aload_n 1, 1) := by decide +kernel
theorem dX0_becomeAs_134 : decode cX0_becomeAs 134 = .ok (.getfield 61, 3) := by decide +kernel
theorem dX0_becomeAs_137 : decode cX0_becomeAs 137 = .ok (.putfield 61, 3) := by decide +kernel
theorem dX0_becomeAs_140 : decode cX0_becomeAs 140 = .ok (.aload_n 0, 1) := by decide +kernel
theorem dX0_becomeAs_141 : decode cX0_becomeAs 141 = .ok (.aload_n 1, 1) := by decide +kernel
theorem dX0_becomeAs_142 : decode cX0_becomeAs 142 = .ok (.getfield 64, 3) := by decide +kernel
theorem dX0_becomeAs_145 : decode cX0_becomeAs 145 = .ok (.putfield 64, 3) := by decide +kernel
theorem dX0_becomeAs_148 : decode cX0_becomeAs 148 = .ok (.aload_n 0, 1) := by decide +kernel
theorem dX0_becomeAs_149 : decode cX0_becomeAs 149 = .ok (.aload_n 1, 1) := by decide +kernel
theorem dX0_becomeAs_150 : decode cX0_becomeAs 150 = .ok (.getfield 67, 3) := by decide +kernel
theorem dX0_becomeAs_153 : decode cX0_becomeAs 153 = .ok (.putfield 67, 3) := by decide +kernel
theorem dX0_becomeAs_156 : decode cX0_becomeAs 156 = .ok (.aload_n 0, 1) := by decide +kernel
theorem dX0_becomeAs_157 : decode cX0_becomeAs 157 = .ok (.aload_n 1, 1) := by decide +kernel
theorem dX0_becomeAs_158 : decode cX0_becomeAs 158 = .ok (.getfield 70, 3) := by decide +kernel
theorem dX0_becomeAs_161 : decode cX0_becomeAs 161 = .ok (.putfield 70, 3) := by decide +kernel
theorem dX0_becomeAs_164 : decode cX0_becomeAs 164 = .ok (.return_, 1) := by decide +kernel
theorem dX1_between_0 : decode cX1_between 0 = .ok (.aload_n 0, 1) := by decide +kernel
theorem dX1_between_1 : decode cX1_between 1 = .ok (.getfield 9, 3) := by decide +kernel
theorem dX1_between_4 : decode cX1_between 4 = .ok (.iload_n 1, 1) := by decide +kernel
theorem dX1_between_5 : decode cX1_between 5 = .ok (.bipush 8, 2) := by decide +kernel
theorem dX1_between_7 : decode cX1_between 7 = .ok (.imul, 1) := by decide +kernel
theorem dX1_between_8 : decode cX1_between 8 = .ok (.iload_n 2, 1) := by decide +kernel
theorem dX1_between_9 : decode cX1_between 9 = .ok (.iadd, 1) := by decide +kernel
theorem dX1_between_10 : decode cX1_between 10 = .ok (.iaload, 1) := by decide +kernel
theorem dX1_between_11 : decode cX1_between 11 = .ok (.ireturn, 1) := by decide +kernel
theorem dX1_become_0 : decode cX1_become 0 = .ok (.aload_n 0, 1) := by decide +kernel
theorem dX1_become_1 : decode cX1_become 1 = .ok (.getfield 9, 3) := by decide +kernel
theorem dX1_become_4 : decode cX1_become 4 = .ok (.iload_n 1, 1) := by decide +kernel
theorem dX1_become_5 : decode cX1_become 5 = .ok (.bipush 8, 2) := by decide +kernel
theorem dX1_become_7 : decode cX1_become 7 = .ok (.imul, 1) := by decide +kernel
theorem dX1_become_8 : decode cX1_become 8 = .ok (.iload_n 2, 1) := by decide +kernel
theorem dX1_become_9 : decode cX1_become 9 = .ok (.iadd, 1) := by decide +kernel
theorem dX1_become_10 : decode cX1_become 10 = .ok (.iload_n 3, 1) := by decide +kernel
theorem dX1_become_11 : decode cX1_become 11 = .ok (.iastore, 1) := by decide +kernel
theorem dX1_become_12 : decode cX1_become 12 = .ok (.return_, 1) := by decide +kernel
theorem dX1_total_0 : decode cX1_total 0 = .ok (.lconst 0, 1) := by decide +kernel
theorem dX1_total_1 : decode cX1_total 1 = .ok (.lstore_n 1, 1) := by decide +kernel
theorem dX1_total_2 : decode cX1_total 2 = .ok (.iconst 0, 1) := by decide +kernel
theorem dX1_total_3 : decode cX1_total 3 = .ok (.istore_n 3, 1) := by decide +kernel
theorem dX1_total_4 : decode cX1_total 4 = .ok (.iload_n 3, 1) := by decide +kernel
theorem dX1_total_5 : decode cX1_total 5 = .ok (.aload_n 0, 1) := by decide +kernel
theorem dX1_total_6 : decode cX1_total 6 = .ok (.getfield 9, 3) := by decide +kernel
theorem dX1_total_9 : decode cX1_total 9 = .ok (.arraylength, 1) := by decide +kernel
theorem dX1_total_10 : decode cX1_total 10 = .ok (.if_icmp .ge 19, 3) := by decide +kernel
theorem dX1_total_13 : decode cX1_total 13 = .ok (.lload_n 1, 1) := by decide +kernel
theorem dX1_total_14 : decode cX1_total 14 = .ok (.aload_n 0, 1) := by decide +kernel
theorem dX1_total_15 : decode cX1_total 15 = .ok (.getfield 9, 3) := by decide +kernel
theorem dX1_total_18 : decode cX1_total 18 = .ok (.iload_n 3, 1) := by decide +kernel
theorem dX1_total_19 : decode cX1_total 19 = .ok (.iaload, 1) := by decide +kernel
theorem dX1_total_20 : decode cX1_total 20 = .ok (.i2l, 1) := by decide +kernel
theorem dX1_total_21 : decode cX1_total 21 = .ok (.ladd, 1) := by decide +kernel
theorem dX1_total_22 : decode cX1_total 22 = .ok (.lstore_n 1, 1) := by decide +kernel
theorem dX1_total_23 : decode cX1_total 23 = .ok (.iinc 3 1, 3) := by decide +kernel
theorem dX1_total_26 : decode cX1_total 26 = .ok (.goto (-22), 3) := by decide +kernel
theorem dX1_total_29 : decode cX1_total 29 = .ok (.lload_n 1, 1) := by decide +kernel
theorem dX1_total_30 : decode cX1_total 30 = .ok (.lreturn, 1) := by decide +kernel
set_option maxRecDepth 20000 in
theorem ggX1_positionOf_X1_between : GoodIn wsX1_positionOf wsX1_between := goodIn_r _ [5, 6, 7] (by decide +kernel) (by decide +kernel)
set_option maxRecDepth 20000 in
theorem gX1_positionOf_X1_between : GoodIn wsX1_positionOf (wsV RX1 15 RX1 yX1_between wsX1_between) := goodIn_app (goodIn_of _ (by decide +kernel)) ggX1_positionOf_X1_between
theorem dX1_positionOf_0 : decode cX1_positionOf 0 = .ok (.lconst 0, 1) := by decide +kernel
theorem dX1_positionOf_1 : decode cX1_positionOf 1 = .ok (.lstore_n 2, 1) := by decide +kernel
theorem dX1_positionOf_2 : decode cX1_positionOf 2 = .ok (.iconst 0, 1) := by decide +kernel
theorem dX1_positionOf_3 : decode cX1_positionOf 3 = .ok (.istore 4, 2) := by decide +kernel
theorem dX1_positionOf_5 : decode cX1_positionOf 5 = .ok (.iload 4, 2) := by decide +kernel
theorem dX1_positionOf_7 : decode cX1_positionOf 7 = .ok (.bipush 8, 2) := by decide +kernel
theorem dX1_positionOf_9 : decode cX1_positionOf 9 = .ok (.if_icmp .ge 28, 3) := by decide +kernel
theorem dX1_positionOf_12 : decode cX1_positionOf 12 = .ok (.lload_n 2, 1) := by decide +kernel
theorem dX1_positionOf_13 : decode cX1_positionOf 13 = .ok (.aload_n 0, 1) := by decide +kernel
theorem dX1_positionOf_14 : decode cX1_positionOf 14 = .ok (.iload 4, 2) := by decide +kernel
theorem dX1_positionOf_16 : decode cX1_positionOf 16 = .ok (.iload_n 1, 1) := by decide +kernel
theorem dX1_positionOf_17 : decode cX1_positionOf 17 = .ok (.invokevirtual 15, 3) := by decide +kernel
theorem dX1_positionOf_20 : decode cX1_positionOf 20 = .ok (.aload_n 0, 1) := by decide +kernel
theorem dX1_positionOf_21 : decode cX1_positionOf 21 = .ok (.iload_n 1, 1) := by decide +kernel
theorem dX1_positionOf_22 : decode cX1_positionOf 22 = .ok (.iload 4, 2) := by decide +kernel
theorem dX1_positionOf_24 : decode cX1_positionOf 24 = .ok (.invokevirtual 15, 3) := by decide +kernel
theorem dX1_positionOf_27 : decode cX1_positionOf 27 = .ok (.isub, 1) := by decide +kernel
theorem dX1_positionOf_28 : decode cX1_positionOf 28 = .ok (.i2l, 1) := by decide +kernel
theorem dX1_positionOf_29 : decode cX1_positionOf 29 = .ok (.ladd, 1) := by decide +kernel
theorem dX1_positionOf_30 : decode cX1_positionOf 30 = .ok (.lstore_n 2, 1) := by decide +kernel
theorem dX1_positionOf_31 : decode cX1_positionOf 31 = .ok (.iinc 4 1, 3) := by decide +kernel
theorem dX1_positionOf_34 : decode cX1_positionOf 34 = .ok (.goto (-29), 3) := by decide +kernel
theorem dX1_positionOf_37 : decode cX1_positionOf 37 = .ok (.lload_n 2, 1) := by decide +kernel
theorem dX1_positionOf_38 : decode cX1_positionOf 38 = .ok (.lreturn, 1) := by decide +kernel
theorem dX1_becomeAs_0 : decode cX1_becomeAs 0 = .ok (.aload_n 1, 1) := by decide +kernel
theorem dX1_becomeAs_1 : decode cX1_becomeAs 1 = .ok (.getfield 9, 3) := by decide +kernel
theorem dX1_becomeAs_4 : decode cX1_becomeAs 4 = .ok (.iconst 0, 1) := by decide +kernel
theorem dX1_becomeAs_5 : decode cX1_becomeAs 5 = .ok (.aload_n 0, 1) := by decide +kernel
theorem dX1_becomeAs_6 : decode cX1_becomeAs 6 = .ok (.getfield 9, 3) := by decide +kernel
theorem dX1_becomeAs_9 : decode cX1_becomeAs 9 = .ok (.iconst 0, 1) := by decide +kernel
theorem dX1_becomeAs_10 : decode cX1_becomeAs 10 = .ok (.aload_n 0, 1) := by decide +kernel
theorem dX1_becomeAs_11 : decode cX1_becomeAs 11 = .ok (.getfield 9, 3) := by decide +kernel
theorem dX1_becomeAs_14 : decode cX1_becomeAs 14 = .ok (.arraylength, 1) := by decide +kernel
theorem dX1_becomeAs_15 : decode cX1_becomeAs 15 = .ok (.invokestatic 19, 3) := by decide +kernel
theorem dX1_becomeAs_18 : decode cX1_becomeAs 18 = .ok (.return_, 1) := by decide +kernel
theorem dX2_isKind_0 : decode cX2_isKind 0 = .ok (.iload_n 0, 1) := by decide +kernel
theorem dX2_isKind_1 : decode cX2_isKind 1 = .ok (.ifCond .lt 12, 3) := by decide +kernel
theorem dX2_isKind_4 : decode cX2_isKind 4 = .ok (.iload_n 0, 1) := by decide +kernel
theorem dX2_isKind_5 : decode cX2_isKind 5 = .ok (.iconst 5, 1) := by decide +kernel
theorem dX2_isKind_6 : decode cX2_isKind 6 = .ok (.if_icmp .ge 7, 3) := by decide +kernel
theorem dX2_isKind_9 : decode cX2_isKind 9 = .ok (.iconst 1, 1) := by decide +kernel
theorem dX2_isKind_10 : decode cX2_isKind 10 = .ok (.goto 4, 3) := by decide +kernel
theorem dX2_isKind_13 : decode cX2_isKind 13 = .ok (.iconst 0, 1) := by decide +kernel
theorem dX2_isKind_14 : decode cX2_isKind 14 = .ok (.ireturn, 1) := by decide +kernel
theorem dX2_feeOf_0 : decode cX2_feeOf 0 = .ok (.iload_n 0, 1) := by decide +kernel
theorem dX2_feeOf_1 : decode cX2_feeOf 1 = .ok (.lookupswitch 36 #[(1, 27), (4, 29)], 27) := by decide +kernel
theorem dX2_feeOf_28 : decode cX2_feeOf 28 = .ok (.iconst 1, 1) := by decide +kernel
theorem dX2_feeOf_29 : decode cX2_feeOf 29 = .ok (.ireturn, 1) := by decide +kernel
theorem dX2_feeOf_30 : decode cX2_feeOf 30 = .ok (.iload_n 1, 1) := by decide +kernel
theorem dX2_feeOf_31 : decode cX2_feeOf 31 = .ok (.bipush 10, 2) := by decide +kernel
theorem dX2_feeOf_33 : decode cX2_feeOf 33 = .ok (.idiv, 1) := by decide +kernel
theorem dX2_feeOf_34 : decode cX2_feeOf 34 = .ok (.iconst 1, 1) := by decide +kernel
theorem dX2_feeOf_35 : decode cX2_feeOf 35 = .ok (.iadd, 1) := by decide +kernel
theorem dX2_feeOf_36 : decode cX2_feeOf 36 = .ok (.ireturn, 1) := by decide +kernel
theorem dX2_feeOf_37 : decode cX2_feeOf 37 = .ok (.iconst 0, 1) := by decide +kernel
theorem dX2_feeOf_38 : decode cX2_feeOf 38 = .ok (.ireturn, 1) := by decide +kernel
theorem dX2_floorOf_0 : decode cX2_floorOf 0 = .ok (.iload_n 0, 1) := by decide +kernel
theorem dX2_floorOf_1 : decode cX2_floorOf 1 = .ok (.tableswitch 38 1 3 #[27, 30, 33], 27) := by decide +kernel
theorem dX2_floorOf_28 : decode cX2_floorOf 28 = .ok (.bipush 10, 2) := by decide +kernel
theorem dX2_floorOf_30 : decode cX2_floorOf 30 = .ok (.ireturn, 1) := by decide +kernel
theorem dX2_floorOf_31 : decode cX2_floorOf 31 = .ok (.iload_n 1, 1) := by decide +kernel
theorem dX2_floorOf_32 : decode cX2_floorOf 32 = .ok (.ineg, 1) := by decide +kernel
theorem dX2_floorOf_33 : decode cX2_floorOf 33 = .ok (.ireturn, 1) := by decide +kernel
theorem dX2_floorOf_34 : decode cX2_floorOf 34 = .ok (.iload_n 1, 1) := by decide +kernel
theorem dX2_floorOf_35 : decode cX2_floorOf 35 = .ok (.ineg, 1) := by decide +kernel
theorem dX2_floorOf_36 : decode cX2_floorOf 36 = .ok (.iload_n 1, 1) := by decide +kernel
theorem dX2_floorOf_37 : decode cX2_floorOf 37 = .ok (.isub, 1) := by decide +kernel
theorem dX2_floorOf_38 : decode cX2_floorOf 38 = .ok (.ireturn, 1) := by decide +kernel
theorem dX2_floorOf_39 : decode cX2_floorOf 39 = .ok (.iconst 0, 1) := by decide +kernel
theorem dX2_floorOf_40 : decode cX2_floorOf 40 = .ok (.ireturn, 1) := by decide +kernel
theorem dX2_isOrIsUnder_0 : decode cX2_isOrIsUnder 0 = .ok (.iload_n 0, 1) := by decide +kernel
theorem dX2_isOrIsUnder_1 : decode cX2_isOrIsUnder 1 = .ok (.iload_n 1, 1) := by decide +kernel
theorem dX2_isOrIsUnder_2 : decode cX2_isOrIsUnder 2 = .ok (.if_icmp .eq 7, 3) := by decide +kernel
theorem dX2_isOrIsUnder_5 : decode cX2_isOrIsUnder 5 = .ok (.iload_n 1, 1) := by decide +kernel
theorem dX2_isOrIsUnder_6 : decode cX2_isOrIsUnder 6 = .ok (.ifCond .ne 5, 3) := by decide +kernel
theorem dX2_isOrIsUnder_9 : decode cX2_isOrIsUnder 9 = .ok (.iconst 1, 1) := by decide +kernel
theorem dX2_isOrIsUnder_10 : decode cX2_isOrIsUnder 10 = .ok (.ireturn, 1) := by decide +kernel
theorem dX2_isOrIsUnder_11 : decode cX2_isOrIsUnder 11 = .ok (.iload_n 0, 1) := by decide +kernel
theorem dX2_isOrIsUnder_12 : decode cX2_isOrIsUnder 12 = .ok (.iconst 3, 1) := by decide +kernel
theorem dX2_isOrIsUnder_13 : decode cX2_isOrIsUnder 13 = .ok (.if_icmp .ne 8, 3) := by decide +kernel
theorem dX2_isOrIsUnder_16 : decode cX2_isOrIsUnder 16 = .ok (.iload_n 1, 1) := by decide +kernel
theorem dX2_isOrIsUnder_17 : decode cX2_isOrIsUnder 17 = .ok (.iconst 2, 1) := by decide +kernel
theorem dX2_isOrIsUnder_18 : decode cX2_isOrIsUnder 18 = .ok (.if_icmp .eq 13, 3) := by decide +kernel
theorem dX2_isOrIsUnder_21 : decode cX2_isOrIsUnder 21 = .ok (.iload_n 0, 1) := by decide +kernel
theorem dX2_isOrIsUnder_22 : decode cX2_isOrIsUnder 22 = .ok (.iconst 4, 1) := by decide +kernel
theorem dX2_isOrIsUnder_23 : decode cX2_isOrIsUnder 23 = .ok (.if_icmp .ne 12, 3) := by decide +kernel
theorem dX2_isOrIsUnder_26 : decode cX2_isOrIsUnder 26 = .ok (.iload_n 1, 1) := by decide +kernel
theorem dX2_isOrIsUnder_27 : decode cX2_isOrIsUnder 27 = .ok (.iconst 1, 1) := by decide +kernel
theorem dX2_isOrIsUnder_28 : decode cX2_isOrIsUnder 28 = .ok (.if_icmp .ne 7, 3) := by decide +kernel
theorem dX2_isOrIsUnder_31 : decode cX2_isOrIsUnder 31 = .ok (.iconst 1, 1) := by decide +kernel
theorem dX2_isOrIsUnder_32 : decode cX2_isOrIsUnder 32 = .ok (.goto 4, 3) := by decide +kernel
theorem dX2_isOrIsUnder_35 : decode cX2_isOrIsUnder 35 = .ok (.iconst 0, 1) := by decide +kernel
theorem dX2_isOrIsUnder_36 : decode cX2_isOrIsUnder 36 = .ok (.ireturn, 1) := by decide +kernel
theorem dX3_takeOver_0 : decode cX3_takeOver 0 = .ok (.aload_n 1, 1) := by decide +kernel
theorem dX3_takeOver_1 : decode cX3_takeOver 1 = .ok (.getfield 18, 3) := by decide +kernel
theorem dX3_takeOver_4 : decode cX3_takeOver 4 = .ok (.iconst 0, 1) := by decide +kernel
theorem dX3_takeOver_5 : decode cX3_takeOver 5 = .ok (.aload_n 0, 1) := by decide +kernel
theorem dX3_takeOver_6 : decode cX3_takeOver 6 = .ok (.getfield 9, 3) := by decide +kernel
theorem dX3_takeOver_9 : decode cX3_takeOver 9 = .ok (.iconst 0, 1) := by decide +kernel
theorem dX3_takeOver_10 : decode cX3_takeOver 10 = .ok (.bipush 80, 2) := by decide +kernel
theorem dX3_takeOver_12 : decode cX3_takeOver 12 = .ok (.invokestatic 21, 3) := by decide +kernel
theorem dX3_takeOver_15 : decode cX3_takeOver 15 = .ok (.aload_n 0, 1) := by decide +kernel
theorem dX3_takeOver_16 : decode cX3_takeOver 16 = .ok (.aload_n 1, 1) := by decide +kernel
theorem dX3_takeOver_17 : decode cX3_takeOver 17 = .ok (.getfield 27, 3) := by decide +kernel
theorem dX3_takeOver_20 : decode cX3_takeOver 20 = .ok (.putfield 31, 3) := by decide +kernel
theorem dX3_takeOver_23 : decode cX3_takeOver 23 = .ok (.return_, 1) := by decide +kernel
theorem dX3_byteAt_0 : decode cX3_byteAt 0 = .ok (.iload_n 1, 1) := by decide +kernel
theorem dX3_byteAt_1 : decode cX3_byteAt 1 = .ok (.ifCond .lt 20, 3) := by decide +kernel
theorem dX3_byteAt_4 : decode cX3_byteAt 4 = .ok (.iload_n 1, 1) := by decide +kernel
theorem dX3_byteAt_5 : decode cX3_byteAt 5 = .ok (.aload_n 0, 1) := by decide +kernel
theorem dX3_byteAt_6 : decode cX3_byteAt 6 = .ok (.getfield 31, 3) := by decide +kernel
theorem dX3_byteAt_9 : decode cX3_byteAt 9 = .ok (.if_icmp .ge 12, 3) := by decide +kernel
theorem dX3_byteAt_12 : decode cX3_byteAt 12 = .ok (.aload_n 0, 1) := by decide +kernel
theorem dX3_byteAt_13 : decode cX3_byteAt 13 = .ok (.getfield 9, 3) := by decide +kernel
theorem dX3_byteAt_16 : decode cX3_byteAt 16 = .ok (.iload_n 1, 1) := by decide +kernel
theorem dX3_byteAt_17 : decode cX3_byteAt 17 = .ok (.iaload, 1) := by decide +kernel
theorem dX3_byteAt_18 : decode cX3_byteAt 18 = .ok (.goto 4, 3) := by decide +kernel
theorem dX3_byteAt_21 : decode cX3_byteAt 21 = .ok (.iconst (-1), 1) := by decide +kernel
theorem dX3_byteAt_22 : decode cX3_byteAt 22 = .ok (.ireturn, 1) := by decide +kernel
theorem dX3_behindItem_0 : decode cX3_behindItem 0 = .ok (.iload_n 1, 1) := by decide +kernel
theorem dX3_behindItem_1 : decode cX3_behindItem 1 = .ok (.ifCond .lt 20, 3) := by decide +kernel
theorem dX3_behindItem_4 : decode cX3_behindItem 4 = .ok (.iload_n 1, 1) := by decide +kernel
theorem dX3_behindItem_5 : decode cX3_behindItem 5 = .ok (.aload_n 0, 1) := by decide +kernel
theorem dX3_behindItem_6 : decode cX3_behindItem 6 = .ok (.getfield 31, 3) := by decide +kernel
theorem dX3_behindItem_9 : decode cX3_behindItem 9 = .ok (.if_icmp .ge 12, 3) := by decide +kernel
theorem dX3_behindItem_12 : decode cX3_behindItem 12 = .ok (.aload_n 0, 1) := by decide +kernel
theorem dX3_behindItem_13 : decode cX3_behindItem 13 = .ok (.getfield 15, 3) := by decide +kernel
theorem dX3_behindItem_16 : decode cX3_behindItem 16 = .ok (.iload_n 1, 1) := by decide +kernel
theorem dX3_behindItem_17 : decode cX3_behindItem 17 = .ok (.iaload, 1) := by decide +kernel
theorem dX3_behindItem_18 : decode cX3_behindItem 18 = .ok (.goto 7, 3) := by decide +kernel
theorem dX3_behindItem_21 : decode cX3_behindItem 21 = .ok (.aload_n 0, 1) := by decide +kernel
theorem dX3_behindItem_22 : decode cX3_behindItem 22 = .ok (.getfield 31, 3) := by decide +kernel
theorem dX3_behindItem_25 : decode cX3_behindItem 25 = .ok (.ireturn, 1) := by decide +kernel
set_option maxRecDepth 20000 in
theorem ggX3_figureAt_X3_byteAt : GoodIn wsX3_figureAt wsX3_byteAt := goodIn_r _ [5, 6, 7, 8, 9, 10] (by decide +kernel) (by decide +kernel)
set_option maxRecDepth 20000 in
theorem gX3_figureAt_X3_byteAt : GoodIn wsX3_figureAt (wsV RX3 32 RX3 yX3_byteAt wsX3_byteAt) := goodIn_app (goodIn_of _ (by decide +kernel)) ggX3_figureAt_X3_byteAt
theorem dX3_figureAt_0 : decode cX3_figureAt 0 = .ok (.aload_n 0, 1) := by decide +kernel
theorem dX3_figureAt_1 : decode cX3_figureAt 1 = .ok (.iload_n 1, 1) := by decide +kernel
theorem dX3_figureAt_2 : decode cX3_figureAt 2 = .ok (.invokevirtual 32, 3) := by decide +kernel
theorem dX3_figureAt_5 : decode cX3_figureAt 5 = .ok (.bipush 48, 2) := by decide +kernel
theorem dX3_figureAt_7 : decode cX3_figureAt 7 = .ok (.isub, 1) := by decide +kernel
theorem dX3_figureAt_8 : decode cX3_figureAt 8 = .ok (.ireturn, 1) := by decide +kernel
set_option maxRecDepth 20000 in
theorem ggX3_numberBetween_X3_byteAt : GoodIn wsX3_numberBetween wsX3_byteAt := goodIn_r _ [5, 6, 7, 8, 9, 10] (by decide +kernel) (by decide +kernel)
set_option maxRecDepth 20000 in
theorem gX3_numberBetween_X3_byteAt : GoodIn wsX3_numberBetween (wsV RX3 32 RX3 yX3_byteAt wsX3_byteAt) := goodIn_app (goodIn_of _ (by decide +kernel)) ggX3_numberBetween_X3_byteAt
theorem dX3_numberBetween_0 : decode cX3_numberBetween 0 = .ok (.iconst 0, 1) := by decide +kernel
theorem dX3_numberBetween_1 : decode cX3_numberBetween 1 = .ok (.istore_n 3, 1) := by decide +kernel
theorem dX3_numberBetween_2 : decode cX3_numberBetween 2 = .ok (.iload_n 1, 1) := by decide +kernel
theorem dX3_numberBetween_3 : decode cX3_numberBetween 3 = .ok (.istore 4, 2) := by decide +kernel
theorem dX3_numberBetween_5 : decode cX3_numberBetween 5 = .ok (.iload 4, 2) := by decide +kernel
theorem dX3_numberBetween_7 : decode cX3_numberBetween 7 = .ok (.iload_n 2, 1) := by decide +kernel
theorem dX3_numberBetween_8 : decode cX3_numberBetween 8 = .ok (.if_icmp .ge 24, 3) := by decide +kernel
theorem dX3_numberBetween_11 : decode cX3_numberBetween 11 = .ok (.iload_n 3, 1) := by decide +kernel
theorem dX3_numberBetween_12 : decode cX3_numberBetween 12 = .ok (.bipush 10, 2) := by decide +kernel
theorem dX3_numberBetween_14 : decode cX3_numberBetween 14 = .ok (.imul, 1) := by decide +kernel
theorem dX3_numberBetween_15 : decode cX3_numberBetween 15 = .ok (.aload_n 0, 1) := by decide +kernel
theorem dX3_numberBetween_16 : decode cX3_numberBetween 16 = .ok (.iload 4, 2) := by decide +kernel
theorem dX3_numberBetween_18 : decode cX3_numberBetween 18 = .ok (.invokevirtual 32, 3) := by decide +kernel
theorem dX3_numberBetween_21 : decode cX3_numberBetween 21 = .ok (.iadd, 1) := by decide +kernel
theorem dX3_numberBetween_22 : decode cX3_numberBetween 22 = .ok (.bipush 48, 2) := by decide +kernel
theorem dX3_numberBetween_24 : decode cX3_numberBetween 24 = .ok (.isub, 1) := by decide +kernel
theorem dX3_numberBetween_25 : decode cX3_numberBetween 25 = .ok (.istore_n 3, 1) := by decide +kernel
theorem dX3_numberBetween_26 : decode cX3_numberBetween 26 = .ok (.iinc 4 1, 3) := by decide +kernel
theorem dX3_numberBetween_29 : decode cX3_numberBetween 29 = .ok (.goto (-24), 3) := by decide +kernel
theorem dX3_numberBetween_32 : decode cX3_numberBetween 32 = .ok (.iload_n 3, 1) := by decide +kernel
theorem dX3_numberBetween_33 : decode cX3_numberBetween 33 = .ok (.ireturn, 1) := by decide +kernel
set_option maxRecDepth 20000 in
theorem ggX4_faultOf_X4_step : GoodIn wsX4_faultOf wsX4_step := goodIn_r _ [10, 1, 3, 11, 12, 13, 14, 15, 16, 17, 18, 19, 20, 9, 21, 4, 22, 23, 24, 25, 2, 26, 27, 28, 29, 30, 31, 32, 33, 34, 35, 36, 37, 38, 39, 40, 41, 42, 43, 44, 45, 46, 47, 48, 49, 50, 51, 52, 53, 54, 55, 56, 57, 58, 59] (by decide +kernel) (by decide +kernel)
set_option maxRecDepth 20000 in
theorem gX4_faultOf_X4_step : GoodIn wsX4_faultOf (wsV RX4 34 RX4 yX4_step wsX4_step) := goodIn_app (goodIn_of _ (by decide +kernel)) ggX4_faultOf_X4_step
theorem dX4_faultOf_0 : decode cX4_faultOf 0 = .ok (.aload_n 0, 1) := by decide +kernel
theorem dX4_faultOf_1 : decode cX4_faultOf 1 = .ok (.aload_n 1, 1) := by decide +kernel
theorem dX4_faultOf_2 : decode cX4_faultOf 2 = .ok (.putfield 15, 3) := by decide +kernel
theorem dX4_faultOf_5 : decode cX4_faultOf 5 = .ok (.aload_n 0, 1) := by decide +kernel
theorem dX4_faultOf_6 : decode cX4_faultOf 6 = .ok (.iconst 0, 1) := by decide +kernel
theorem dX4_faultOf_7 : decode cX4_faultOf 7 = .ok (.putfield 19, 3) := by decide +kernel
theorem dX4_faultOf_10 : decode cX4_faultOf 10 = .ok (.aload_n 0, 1) := by decide +kernel
theorem dX4_faultOf_11 : decode cX4_faultOf 11 = .ok (.iconst 0, 1) := by decide +kernel
theorem dX4_faultOf_12 : decode cX4_faultOf 12 = .ok (.putfield 23, 3) := by decide +kernel
theorem dX4_faultOf_15 : decode cX4_faultOf 15 = .ok (.aload_n 0, 1) := by decide +kernel
theorem dX4_faultOf_16 : decode cX4_faultOf 16 = .ok (.iconst (-1), 1) := by decide +kernel
theorem dX4_faultOf_17 : decode cX4_faultOf 17 = .ok (.putfield 26, 3) := by decide +kernel
theorem dX4_faultOf_20 : decode cX4_faultOf 20 = .ok (.iconst 0, 1) := by decide +kernel
theorem dX4_faultOf_21 : decode cX4_faultOf 21 = .ok (.istore_n 2, 1) := by decide +kernel
theorem dX4_faultOf_22 : decode cX4_faultOf 22 = .ok (.iconst 0, 1) := by decide +kernel
theorem dX4_faultOf_23 : decode cX4_faultOf 23 = .ok (.istore_n 3, 1) := by decide +kernel
theorem dX4_faultOf_24 : decode cX4_faultOf 24 = .ok (.iload_n 3, 1) := by decide +kernel
theorem dX4_faultOf_25 : decode cX4_faultOf 25 = .ok (.aload_n 1, 1) := by decide +kernel
theorem dX4_faultOf_26 : decode cX4_faultOf 26 = .ok (.getfield 29, 3) := by decide +kernel
theorem dX4_faultOf_29 : decode cX4_faultOf 29 = .ok (.if_icmp .ge 31, 3) := by decide +kernel
theorem dX4_faultOf_32 : decode cX4_faultOf 32 = .ok (.iload_n 2, 1) := by decide +kernel
theorem dX4_faultOf_33 : decode cX4_faultOf 33 = .ok (.aload_n 1, 1) := by decide +kernel
theorem dX4_faultOf_34 : decode cX4_faultOf 34 = .ok (.getfield 29, 3) := by decide +kernel
theorem dX4_faultOf_37 : decode cX4_faultOf 37 = .ok (.if_icmp .ge 23, 3) := by decide +kernel
theorem dX4_faultOf_40 : decode cX4_faultOf 40 = .ok (.aload_n 0, 1) := by decide +kernel
theorem dX4_faultOf_41 : decode cX4_faultOf 41 = .ok (.getfield 26, 3) := by decide +kernel
theorem dX4_faultOf_44 : decode cX4_faultOf 44 = .ok (.iconst (-1), 1) := by decide +kernel
theorem dX4_faultOf_45 : decode cX4_faultOf 45 = .ok (.if_icmp .ne 15, 3) := by decide +kernel
theorem dX4_faultOf_48 : decode cX4_faultOf 48 = .ok (.aload_n 0, 1) := by decide +kernel
theorem dX4_faultOf_49 : decode cX4_faultOf 49 = .ok (.iload_n 2, 1) := by decide +kernel
theorem dX4_faultOf_50 : decode cX4_faultOf 50 = .ok (.invokevirtual 34, 3) := by decide +kernel
theorem dX4_faultOf_53 : decode cX4_faultOf 53 = .ok (.istore_n 2, 1) := by decide +kernel
theorem dX4_faultOf_54 : decode cX4_faultOf 54 = .ok (.iinc 3 1, 3) := by decide +kernel
theorem dX4_faultOf_57 : decode cX4_faultOf 57 = .ok (.goto (-33), 3) := by decide +kernel
theorem dX4_faultOf_60 : decode cX4_faultOf 60 = .ok (.aload_n 0, 1) := by decide +kernel
theorem dX4_faultOf_61 : decode cX4_faultOf 61 = .ok (.getfield 26, 3) := by decide +kernel
theorem dX4_faultOf_64 : decode cX4_faultOf 64 = .ok (.iconst (-1), 1) := by decide +kernel
theorem dX4_faultOf_65 : decode cX4_faultOf 65 = .ok (.if_icmp .ne 25, 3) := by decide +kernel
theorem dX4_faultOf_68 : decode cX4_faultOf 68 = .ok (.aload_n 0, 1) := by decide +kernel
theorem dX4_faultOf_69 : decode cX4_faultOf 69 = .ok (.getfield 19, 3) := by decide +kernel
theorem dX4_faultOf_72 : decode cX4_faultOf 72 = .ok (.ifCond .gt 10, 3) := by decide +kernel
theorem dX4_faultOf_75 : decode cX4_faultOf 75 = .ok (.aload_n 1, 1) := by decide +kernel
theorem dX4_faultOf_76 : decode cX4_faultOf 76 = .ok (.getfield 29, 3) := by decide +kernel
theorem dX4_faultOf_79 : decode cX4_faultOf 79 = .ok (.ifCond .ne 11, 3) := by decide +kernel
theorem dX4_faultOf_82 : decode cX4_faultOf 82 = .ok (.aload_n 0, 1) := by decide +kernel
theorem dX4_faultOf_83 : decode cX4_faultOf 83 = .ok (.aload_n 1, 1) := by decide +kernel
theorem dX4_faultOf_84 : decode cX4_faultOf 84 = .ok (.getfield 29, 3) := by decide +kernel
theorem dX4_faultOf_87 : decode cX4_faultOf 87 = .ok (.putfield 26, 3) := by decide +kernel
theorem dX4_faultOf_90 : decode cX4_faultOf 90 = .ok (.aload_n 0, 1) := by decide +kernel
theorem dX4_faultOf_91 : decode cX4_faultOf 91 = .ok (.getfield 26, 3) := by decide +kernel
theorem dX4_faultOf_94 : decode cX4_faultOf 94 = .ok (.ireturn, 1) := by decide +kernel
set_option maxRecDepth 20000 in
theorem ggX4_step_X3_byteAt : GoodIn wsX4_step wsX3_byteAt := goodIn_r _ [7, 8, 9, 52, 53, 54] (by decide +kernel) (by decide +kernel)
set_option maxRecDepth 20000 in
theorem gX4_step_X3_byteAt : GoodIn wsX4_step (wsV RX4 38 RX3 yX3_byteAt wsX3_byteAt) := goodIn_app (goodIn_of _ (by decide +kernel)) ggX4_step_X3_byteAt
set_option maxRecDepth 20000 in
theorem ggX4_step_X4_openingWithFigure : GoodIn wsX4_step wsX4_openingWithFigure := goodIn_r _ [14, 15, 16, 17, 18, 13, 19, 20, 21, 1, 2, 22, 23, 24, 25, 3, 4, 5, 6, 7, 8, 9, 26, 27, 28, 29, 47, 48, 49, 50, 51, 52, 53, 54] (by decide +kernel) (by decide +kernel)
set_option maxRecDepth 20000 in
theorem gX4_step_X4_openingWithFigure : GoodIn wsX4_step (wsV RX4 41 RX4 yX4_openingWithFigure wsX4_openingWithFigure) := goodIn_app (goodIn_of _ (by decide +kernel)) ggX4_step_X4_openingWithFigure
set_option maxRecDepth 20000 in
theorem ggX4_step_X4_opening : GoodIn wsX4_step wsX4_opening := goodIn_r _ [19, 20, 21, 1, 2, 22, 23, 24, 13, 25, 15, 3, 4, 5, 6, 7, 8, 9, 47, 48, 49, 50, 51, 52, 53, 54] (by decide +kernel) (by decide +kernel)
set_option maxRecDepth 20000 in
theorem gX4_step_X4_opening : GoodIn wsX4_step (wsV RX4 45 RX4 yX4_opening wsX4_opening) := goodIn_app (goodIn_of _ (by decide +kernel)) ggX4_step_X4_opening
set_option maxRecDepth 20000 in
theorem ggX4_step_X4_closing : GoodIn wsX4_step wsX4_closing := goodIn_r _ [33, 20, 1, 21, 2, 3, 4, 5, 6, 7, 8, 9, 22, 23, 24, 13, 25, 15, 34, 35, 36, 37, 38, 47, 48, 49, 50, 51, 52, 53, 54] (by decide +kernel) (by decide +kernel)
set_option maxRecDepth 20000 in
theorem gX4_step_X4_closing : GoodIn wsX4_step (wsV RX4 48 RX4 yX4_closing wsX4_closing) := goodIn_app (goodIn_of _ (by decide +kernel)) ggX4_step_X4_closing
set_option maxRecDepth 20000 in
theorem ggX4_step_X4_payment : GoodIn wsX4_step wsX4_payment := goodIn_r _ [42, 26, 27, 28, 13, 29, 1, 3, 4, 5, 6, 7, 8, 9, 22, 23, 24, 25, 15, 34, 35, 36, 37, 38, 47, 48, 49, 50, 51, 52, 53, 54] (by decide +kernel) (by decide +kernel)
set_option maxRecDepth 20000 in
theorem gX4_step_X4_payment : GoodIn wsX4_step (wsV RX4 52 RX4 yX4_payment wsX4_payment) := goodIn_app (goodIn_of _ (by decide +kernel)) ggX4_step_X4_payment
set_option maxRecDepth 20000 in
theorem ggX4_step_X4_bell : GoodIn wsX4_step wsX4_bell := goodIn_r _ [46, 26, 27, 28, 13, 29, 1, 3, 4, 5, 6, 7, 8, 9, 34, 35, 36, 37, 38, 22, 23, 24, 25, 15, 47, 48, 49, 50, 51, 52, 53, 54] (by decide +kernel) (by decide +kernel)
set_option maxRecDepth 20000 in
theorem gX4_step_X4_bell : GoodIn wsX4_step (wsV RX4 55 RX4 yX4_bell wsX4_bell) := goodIn_app (goodIn_of _ (by decide +kernel)) ggX4_step_X4_bell
set_option maxRecDepth 20000 in
theorem ggX4_step_X4_ends : GoodIn wsX4_step wsX4_ends := goodIn_r _ [37, 1, 38, 47, 48, 49, 50, 51, 52, 53, 54] (by decide +kernel) (by decide +kernel)
set_option maxRecDepth 20000 in
theorem gX4_step_X4_ends : GoodIn wsX4_step (wsV RX4 58 RX4 yX4_ends wsX4_ends) := goodIn_app (goodIn_of _ (by decide +kernel)) ggX4_step_X4_ends
set_option maxRecDepth 20000 in
theorem ggX4_step_X4_faultAt : GoodIn wsX4_step wsX4_faultAt := goodIn_r _ [25, 15, 47, 48, 49, 50, 51] (by decide +kernel) (by decide +kernel)
set_option maxRecDepth 20000 in
theorem gX4_step_X4_faultAt : GoodIn wsX4_step (wsV RX4 61 RX4 yX4_faultAt wsX4_faultAt) := goodIn_app (goodIn_of _ (by decide +kernel)) ggX4_step_X4_faultAt
theorem dX4_step_0 : decode cX4_step 0 = .ok (.aload_n 0, 1) := by decide +kernel
theorem dX4_step_1 : decode cX4_step 1 = .ok (.getfield 15, 3) := by decide +kernel
theorem dX4_step_4 : decode cX4_step 4 = .ok (.iload_n 1, 1) := by decide +kernel
theorem dX4_step_5 : decode cX4_step 5 = .ok (.invokevirtual 38, 3) := by decide +kernel
theorem dX4_step_8 : decode cX4_step 8 = .ok (.lookupswitch 227 #[(40, 124), (41, 150), (60, 144), (62, 174), (91, 144), (93, 166), (97, 188), (98, 194), (99, 194), (110, 188), (112, 182), (120, 218), (123, 134), (125, 158)], 124) := by decide +kernel
theorem dX4_step_132 : decode cX4_step 132 = .ok (.aload_n 0, 1) := by decide +kernel
theorem dX4_step_133 : decode cX4_step 133 = .ok (.iload_n 1, 1) := by decide +kernel
theorem dX4_step_134 : decode cX4_step 134 = .ok (.bipush 48, 2) := by decide +kernel
theorem dX4_step_136 : decode cX4_step 136 = .ok (.bipush 55, 2) := by decide +kernel
theorem dX4_step_138 : decode cX4_step 138 = .ok (.invokevirtual 41, 3) := by decide +kernel
theorem dX4_step_141 : decode cX4_step 141 = .ok (.ireturn, 1) := by decide +kernel
theorem dX4_step_142 : decode cX4_step 142 = .ok (.aload_n 0, 1) := by decide +kernel
theorem dX4_step_143 : decode cX4_step 143 = .ok (.iload_n 1, 1) := by decide +kernel
theorem dX4_step_144 : decode cX4_step 144 = .ok (.bipush 49, 2) := by decide +kernel
theorem dX4_step_146 : decode cX4_step 146 = .ok (.bipush 57, 2) := by decide +kernel
theorem dX4_step_148 : decode cX4_step 148 = .ok (.invokevirtual 41, 3) := by decide +kernel
theorem dX4_step_151 : decode cX4_step 151 = .ok (.ireturn, 1) := by decide +kernel
theorem dX4_step_152 : decode cX4_step 152 = .ok (.aload_n 0, 1) := by decide +kernel
theorem dX4_step_153 : decode cX4_step 153 = .ok (.iload_n 1, 1) := by decide +kernel
theorem dX4_step_154 : decode cX4_step 154 = .ok (.invokevirtual 45, 3) := by decide +kernel
theorem dX4_step_157 : decode cX4_step 157 = .ok (.ireturn, 1) := by decide +kernel
theorem dX4_step_158 : decode cX4_step 158 = .ok (.aload_n 0, 1) := by decide +kernel
theorem dX4_step_159 : decode cX4_step 159 = .ok (.iload_n 1, 1) := by decide +kernel
theorem dX4_step_160 : decode cX4_step 160 = .ok (.bipush 40, 2) := by decide +kernel
theorem dX4_step_162 : decode cX4_step 162 = .ok (.invokevirtual 48, 3) := by decide +kernel
theorem dX4_step_165 : decode cX4_step 165 = .ok (.ireturn, 1) := by decide +kernel
theorem dX4_step_166 : decode cX4_step 166 = .ok (.aload_n 0, 1) := by decide +kernel
theorem dX4_step_167 : decode cX4_step 167 = .ok (.iload_n 1, 1) := by decide +kernel
theorem dX4_step_168 : decode cX4_step 168 = .ok (.bipush 123, 2) := by decide +kernel
theorem dX4_step_170 : decode cX4_step 170 = .ok (.invokevirtual 48, 3) := by decide +kernel
theorem dX4_step_173 : decode cX4_step 173 = .ok (.ireturn, 1) := by decide +kernel
theorem dX4_step_174 : decode cX4_step 174 = .ok (.aload_n 0, 1) := by decide +kernel
theorem dX4_step_175 : decode cX4_step 175 = .ok (.iload_n 1, 1) := by decide +kernel
theorem dX4_step_176 : decode cX4_step 176 = .ok (.bipush 91, 2) := by decide +kernel
theorem dX4_step_178 : decode cX4_step 178 = .ok (.invokevirtual 48, 3) := by decide +kernel
theorem dX4_step_181 : decode cX4_step 181 = .ok (.ireturn, 1) := by decide +kernel
theorem dX4_step_182 : decode cX4_step 182 = .ok (.aload_n 0, 1) := by decide +kernel
theorem dX4_step_183 : decode cX4_step 183 = .ok (.iload_n 1, 1) := by decide +kernel
theorem dX4_step_184 : decode cX4_step 184 = .ok (.bipush 60, 2) := by decide +kernel
theorem dX4_step_186 : decode cX4_step 186 = .ok (.invokevirtual 48, 3) := by decide +kernel
theorem dX4_step_189 : decode cX4_step 189 = .ok (.ireturn, 1) := by decide +kernel
theorem dX4_step_190 : decode cX4_step 190 = .ok (.aload_n 0, 1) := by decide +kernel
theorem dX4_step_191 : decode cX4_step 191 = .ok (.iload_n 1, 1) := by decide +kernel
theorem dX4_step_192 : decode cX4_step 192 = .ok (.invokevirtual 52, 3) := by decide +kernel
theorem dX4_step_195 : decode cX4_step 195 = .ok (.ireturn, 1) := by decide +kernel
theorem dX4_step_196 : decode cX4_step 196 = .ok (.aload_n 0, 1) := by decide +kernel
theorem dX4_step_197 : decode cX4_step 197 = .ok (.iload_n 1, 1) := by decide +kernel
theorem dX4_step_198 : decode cX4_step 198 = .ok (.invokevirtual 55, 3) := by decide +kernel
theorem dX4_step_201 : decode cX4_step 201 = .ok (.ireturn, 1) := by decide +kernel
theorem dX4_step_202 : decode cX4_step 202 = .ok (.aload_n 0, 1) := by decide +kernel
theorem dX4_step_203 : decode cX4_step 203 = .ok (.getfield 23, 3) := by decide +kernel
theorem dX4_step_206 : decode cX4_step 206 = .ok (.ifCond .le 14, 3) := by decide +kernel
theorem dX4_step_209 : decode cX4_step 209 = .ok (.aload_n 0, 1) := by decide +kernel
theorem dX4_step_210 : decode cX4_step 210 = .ok (.iload_n 1, 1) := by decide +kernel
theorem dX4_step_211 : decode cX4_step 211 = .ok (.iload_n 1, 1) := by decide +kernel
theorem dX4_step_212 : decode cX4_step 212 = .ok (.iconst 1, 1) := by decide +kernel
theorem dX4_step_213 : decode cX4_step 213 = .ok (.iadd, 1) := by decide +kernel
theorem dX4_step_214 : decode cX4_step 214 = .ok (.invokevirtual 58, 3) := by decide +kernel
theorem dX4_step_217 : decode cX4_step 217 = .ok (.goto 8, 3) := by decide +kernel
theorem dX4_step_220 : decode cX4_step 220 = .ok (.aload_n 0, 1) := by decide +kernel
theorem dX4_step_221 : decode cX4_step 221 = .ok (.iload_n 1, 1) := by decide +kernel
theorem dX4_step_222 : decode cX4_step 222 = .ok (.invokevirtual 61, 3) := by decide +kernel
theorem dX4_step_225 : decode cX4_step 225 = .ok (.ireturn, 1) := by decide +kernel
theorem dX4_step_226 : decode cX4_step 226 = .ok (.aload_n 0, 1) := by decide +kernel
theorem dX4_step_227 : decode cX4_step 227 = .ok (.iload_n 1, 1) := by decide +kernel
theorem dX4_step_228 : decode cX4_step 228 = .ok (.iload_n 1, 1) := by decide +kernel
theorem dX4_step_229 : decode cX4_step 229 = .ok (.iconst 1, 1) := by decide +kernel
theorem dX4_step_230 : decode cX4_step 230 = .ok (.iadd, 1) := by decide +kernel
theorem dX4_step_231 : decode cX4_step 231 = .ok (.invokevirtual 58, 3) := by decide +kernel
theorem dX4_step_234 : decode cX4_step 234 = .ok (.ireturn, 1) := by decide +kernel
theorem dX4_step_235 : decode cX4_step 235 = .ok (.aload_n 0, 1) := by decide +kernel
theorem dX4_step_236 : decode cX4_step 236 = .ok (.iload_n 1, 1) := by decide +kernel
theorem dX4_step_237 : decode cX4_step 237 = .ok (.invokevirtual 61, 3) := by decide +kernel
theorem dX4_step_240 : decode cX4_step 240 = .ok (.ireturn, 1) := by decide +kernel
set_option maxRecDepth 20000 in
theorem ggX4_openingWithFigure_X4_opening : GoodIn wsX4_openingWithFigure wsX4_opening := goodIn_r _ [6, 7, 8, 9, 10, 11, 12, 13, 5, 14, 1, 15, 16, 17, 18, 19, 20, 21, 26, 27, 28, 29, 30, 31, 32, 33] (by decide +kernel) (by decide +kernel)
set_option maxRecDepth 20000 in
theorem gX4_openingWithFigure_X4_opening : GoodIn wsX4_openingWithFigure (wsV RX4 45 RX4 yX4_opening wsX4_opening) := goodIn_app (goodIn_of _ (by decide +kernel)) ggX4_openingWithFigure_X4_opening
set_option maxRecDepth 20000 in
theorem ggX4_openingWithFigure_X4_isFigure : GoodIn wsX4_openingWithFigure wsX4_isFigure := goodIn_r _ [25, 9, 15, 16, 17, 18, 19, 20, 21, 26, 27, 28, 29, 30, 31, 32, 33] (by decide +kernel) (by decide +kernel)
set_option maxRecDepth 20000 in
theorem gX4_openingWithFigure_X4_isFigure : GoodIn wsX4_openingWithFigure (wsV RX4 64 RX4 yX4_isFigure wsX4_isFigure) := goodIn_app (goodIn_of _ (by decide +kernel)) ggX4_openingWithFigure_X4_isFigure
set_option maxRecDepth 20000 in
theorem ggX4_openingWithFigure_X4_faultAt : GoodIn wsX4_openingWithFigure wsX4_faultAt := goodIn_r _ [14, 1, 26, 27, 28, 29, 30] (by decide +kernel) (by decide +kernel)
set_option maxRecDepth 20000 in
theorem gX4_openingWithFigure_X4_faultAt : GoodIn wsX4_openingWithFigure (wsV RX4 61 RX4 yX4_faultAt wsX4_faultAt) := goodIn_app (goodIn_of _ (by decide +kernel)) ggX4_openingWithFigure_X4_faultAt
theorem dX4_openingWithFigure_0 : decode cX4_openingWithFigure 0 = .ok (.aload_n 0, 1) := by decide +kernel
theorem dX4_openingWithFigure_1 : decode cX4_openingWithFigure 1 = .ok (.iload_n 1, 1) := by decide +kernel
theorem dX4_openingWithFigure_2 : decode cX4_openingWithFigure 2 = .ok (.invokevirtual 45, 3) := by decide +kernel
theorem dX4_openingWithFigure_5 : decode cX4_openingWithFigure 5 = .ok (.istore 4, 2) := by decide +kernel
theorem dX4_openingWithFigure_7 : decode cX4_openingWithFigure 7 = .ok (.aload_n 0, 1) := by decide +kernel
theorem dX4_openingWithFigure_8 : decode cX4_openingWithFigure 8 = .ok (.getfield 26, 3) := by decide +kernel
theorem dX4_openingWithFigure_11 : decode cX4_openingWithFigure 11 = .ok (.iconst (-1), 1) := by decide +kernel
theorem dX4_openingWithFigure_12 : decode cX4_openingWithFigure 12 = .ok (.if_icmp .ne 21, 3) := by decide +kernel
theorem dX4_openingWithFigure_15 : decode cX4_openingWithFigure 15 = .ok (.aload_n 0, 1) := by decide +kernel
theorem dX4_openingWithFigure_16 : decode cX4_openingWithFigure 16 = .ok (.iload 4, 2) := by decide +kernel
theorem dX4_openingWithFigure_18 : decode cX4_openingWithFigure 18 = .ok (.iload_n 2, 1) := by decide +kernel
theorem dX4_openingWithFigure_19 : decode cX4_openingWithFigure 19 = .ok (.iload_n 3, 1) := by decide +kernel
theorem dX4_openingWithFigure_20 : decode cX4_openingWithFigure 20 = .ok (.invokevirtual 64, 3) := by decide +kernel
theorem dX4_openingWithFigure_23 : decode cX4_openingWithFigure 23 = .ok (.ifCond .ne 10, 3) := by decide +kernel
theorem dX4_openingWithFigure_26 : decode cX4_openingWithFigure 26 = .ok (.aload_n 0, 1) := by decide +kernel
theorem dX4_openingWithFigure_27 : decode cX4_openingWithFigure 27 = .ok (.iload 4, 2) := by decide +kernel
theorem dX4_openingWithFigure_29 : decode cX4_openingWithFigure 29 = .ok (.invokevirtual 61, 3) := by decide +kernel
theorem dX4_openingWithFigure_32 : decode cX4_openingWithFigure 32 = .ok (.ireturn, 1) := by decide +kernel
theorem dX4_openingWithFigure_33 : decode cX4_openingWithFigure 33 = .ok (.iload 4, 2) := by decide +kernel
theorem dX4_openingWithFigure_35 : decode cX4_openingWithFigure 35 = .ok (.iconst 1, 1) := by decide +kernel
theorem dX4_openingWithFigure_36 : decode cX4_openingWithFigure 36 = .ok (.iadd, 1) := by decide +kernel
theorem dX4_openingWithFigure_37 : decode cX4_openingWithFigure 37 = .ok (.ireturn, 1) := by decide +kernel
set_option maxRecDepth 20000 in
theorem ggX4_opening_X4_faultAt : GoodIn wsX4_opening wsX4_faultAt := goodIn_r _ [9, 10, 18, 19, 20, 21, 22] (by decide +kernel) (by decide +kernel)
set_option maxRecDepth 20000 in
theorem gX4_opening_X4_faultAt : GoodIn wsX4_opening (wsV RX4 61 RX4 yX4_faultAt wsX4_faultAt) := goodIn_app (goodIn_of _ (by decide +kernel)) ggX4_opening_X4_faultAt
set_option maxRecDepth 20000 in
theorem ggX4_opening_X3_byteAt : GoodIn wsX4_opening wsX3_byteAt := goodIn_r _ [15, 16, 17, 23, 24, 25] (by decide +kernel) (by decide +kernel)
set_option maxRecDepth 20000 in
theorem gX4_opening_X3_byteAt : GoodIn wsX4_opening (wsV RX4 38 RX3 yX3_byteAt wsX3_byteAt) := goodIn_app (goodIn_of _ (by decide +kernel)) ggX4_opening_X3_byteAt
theorem dX4_opening_0 : decode cX4_opening 0 = .ok (.aload_n 0, 1) := by decide +kernel
theorem dX4_opening_1 : decode cX4_opening 1 = .ok (.getfield 19, 3) := by decide +kernel
theorem dX4_opening_4 : decode cX4_opening 4 = .ok (.bipush 8, 2) := by decide +kernel
theorem dX4_opening_6 : decode cX4_opening 6 = .ok (.if_icmp .lt 9, 3) := by decide +kernel
theorem dX4_opening_9 : decode cX4_opening 9 = .ok (.aload_n 0, 1) := by decide +kernel
theorem dX4_opening_10 : decode cX4_opening 10 = .ok (.iload_n 1, 1) := by decide +kernel
theorem dX4_opening_11 : decode cX4_opening 11 = .ok (.invokevirtual 61, 3) := by decide +kernel
theorem dX4_opening_14 : decode cX4_opening 14 = .ok (.ireturn, 1) := by decide +kernel
theorem dX4_opening_15 : decode cX4_opening 15 = .ok (.aload_n 0, 1) := by decide +kernel
theorem dX4_opening_16 : decode cX4_opening 16 = .ok (.getfield 9, 3) := by decide +kernel
theorem dX4_opening_19 : decode cX4_opening 19 = .ok (.aload_n 0, 1) := by decide +kernel
theorem dX4_opening_20 : decode cX4_opening 20 = .ok (.getfield 19, 3) := by decide +kernel
theorem dX4_opening_23 : decode cX4_opening 23 = .ok (.iload_n 1, 1) := by decide +kernel
theorem dX4_opening_24 : decode cX4_opening 24 = .ok (.iastore, 1) := by decide +kernel
theorem dX4_opening_25 : decode cX4_opening 25 = .ok (.aload_n 0, 1) := by decide +kernel
theorem dX4_opening_26 : decode cX4_opening 26 = .ok (.dup, 1) := by decide +kernel
theorem dX4_opening_27 : decode cX4_opening 27 = .ok (.getfield 19, 3) := by decide +kernel
theorem dX4_opening_30 : decode cX4_opening 30 = .ok (.iconst 1, 1) := by decide +kernel
theorem dX4_opening_31 : decode cX4_opening 31 = .ok (.iadd, 1) := by decide +kernel
theorem dX4_opening_32 : decode cX4_opening 32 = .ok (.putfield 19, 3) := by decide +kernel
theorem dX4_opening_35 : decode cX4_opening 35 = .ok (.aload_n 0, 1) := by decide +kernel
theorem dX4_opening_36 : decode cX4_opening 36 = .ok (.getfield 15, 3) := by decide +kernel
theorem dX4_opening_39 : decode cX4_opening 39 = .ok (.iload_n 1, 1) := by decide +kernel
theorem dX4_opening_40 : decode cX4_opening 40 = .ok (.invokevirtual 38, 3) := by decide +kernel
theorem dX4_opening_43 : decode cX4_opening 43 = .ok (.bipush 123, 2) := by decide +kernel
theorem dX4_opening_45 : decode cX4_opening 45 = .ok (.if_icmp .ne 13, 3) := by decide +kernel
theorem dX4_opening_48 : decode cX4_opening 48 = .ok (.aload_n 0, 1) := by decide +kernel
theorem dX4_opening_49 : decode cX4_opening 49 = .ok (.dup, 1) := by decide +kernel
theorem dX4_opening_50 : decode cX4_opening 50 = .ok (.getfield 23, 3) := by decide +kernel
theorem dX4_opening_53 : decode cX4_opening 53 = .ok (.iconst 1, 1) := by decide +kernel
theorem dX4_opening_54 : decode cX4_opening 54 = .ok (.iadd, 1) := by decide +kernel
theorem dX4_opening_55 : decode cX4_opening 55 = .ok (.putfield 23, 3) := by decide +kernel
theorem dX4_opening_58 : decode cX4_opening 58 = .ok (.iload_n 1, 1) := by decide +kernel
theorem dX4_opening_59 : decode cX4_opening 59 = .ok (.iconst 1, 1) := by decide +kernel
theorem dX4_opening_60 : decode cX4_opening 60 = .ok (.iadd, 1) := by decide +kernel
theorem dX4_opening_61 : decode cX4_opening 61 = .ok (.ireturn, 1) := by decide +kernel
set_option maxRecDepth 20000 in
theorem ggX4_closing_X3_byteAt : GoodIn wsX4_closing wsX3_byteAt := goodIn_r _ [9, 10, 11, 28, 29, 30] (by decide +kernel) (by decide +kernel)
set_option maxRecDepth 20000 in
theorem gX4_closing_X3_byteAt : GoodIn wsX4_closing (wsV RX4 38 RX3 yX3_byteAt wsX3_byteAt) := goodIn_app (goodIn_of _ (by decide +kernel)) ggX4_closing_X3_byteAt
set_option maxRecDepth 20000 in
theorem ggX4_closing_X4_faultAt : GoodIn wsX4_closing wsX4_faultAt := goodIn_r _ [16, 17, 23, 24, 25, 26, 27] (by decide +kernel) (by decide +kernel)
set_option maxRecDepth 20000 in
theorem gX4_closing_X4_faultAt : GoodIn wsX4_closing (wsV RX4 61 RX4 yX4_faultAt wsX4_faultAt) := goodIn_app (goodIn_of _ (by decide +kernel)) ggX4_closing_X4_faultAt
set_option maxRecDepth 20000 in
theorem ggX4_closing_X4_ends : GoodIn wsX4_closing wsX4_ends := goodIn_r _ [21, 2, 22, 23, 24, 25, 26, 27, 28, 29, 30] (by decide +kernel) (by decide +kernel)
set_option maxRecDepth 20000 in
theorem gX4_closing_X4_ends : GoodIn wsX4_closing (wsV RX4 58 RX4 yX4_ends wsX4_ends) := goodIn_app (goodIn_of _ (by decide +kernel)) ggX4_closing_X4_ends
theorem dX4_closing_0 : decode cX4_closing 0 = .ok (.aload_n 0, 1) := by decide +kernel
theorem dX4_closing_1 : decode cX4_closing 1 = .ok (.getfield 19, 3) := by decide +kernel
theorem dX4_closing_4 : decode cX4_closing 4 = .ok (.ifCond .eq 25, 3) := by decide +kernel
theorem dX4_closing_7 : decode cX4_closing 7 = .ok (.aload_n 0, 1) := by decide +kernel
theorem dX4_closing_8 : decode cX4_closing 8 = .ok (.getfield 15, 3) := by decide +kernel
theorem dX4_closing_11 : decode cX4_closing 11 = .ok (.aload_n 0, 1) := by decide +kernel
theorem dX4_closing_12 : decode cX4_closing 12 = .ok (.getfield 9, 3) := by decide +kernel
theorem dX4_closing_15 : decode cX4_closing 15 = .ok (.aload_n 0, 1) := by decide +kernel
theorem dX4_closing_16 : decode cX4_closing 16 = .ok (.getfield 19, 3) := by decide +kernel
theorem dX4_closing_19 : decode cX4_closing 19 = .ok (.iconst 1, 1) := by decide +kernel
theorem dX4_closing_20 : decode cX4_closing 20 = .ok (.isub, 1) := by decide +kernel
theorem dX4_closing_21 : decode cX4_closing 21 = .ok (.iaload, 1) := by decide +kernel
theorem dX4_closing_22 : decode cX4_closing 22 = .ok (.invokevirtual 38, 3) := by decide +kernel
theorem dX4_closing_25 : decode cX4_closing 25 = .ok (.iload_n 2, 1) := by decide +kernel
theorem dX4_closing_26 : decode cX4_closing 26 = .ok (.if_icmp .eq 9, 3) := by decide +kernel
theorem dX4_closing_29 : decode cX4_closing 29 = .ok (.aload_n 0, 1) := by decide +kernel
theorem dX4_closing_30 : decode cX4_closing 30 = .ok (.iload_n 1, 1) := by decide +kernel
theorem dX4_closing_31 : decode cX4_closing 31 = .ok (.invokevirtual 61, 3) := by decide +kernel
theorem dX4_closing_34 : decode cX4_closing 34 = .ok (.ireturn, 1) := by decide +kernel
theorem dX4_closing_35 : decode cX4_closing 35 = .ok (.aload_n 0, 1) := by decide +kernel
theorem dX4_closing_36 : decode cX4_closing 36 = .ok (.dup, 1) := by decide +kernel
theorem dX4_closing_37 : decode cX4_closing 37 = .ok (.getfield 19, 3) := by decide +kernel
theorem dX4_closing_40 : decode cX4_closing 40 = .ok (.iconst 1, 1) := by decide +kernel
theorem dX4_closing_41 : decode cX4_closing 41 = .ok (.isub, 1) := by decide +kernel
theorem dX4_closing_42 : decode cX4_closing 42 = .ok (.putfield 19, 3) := by decide +kernel
theorem dX4_closing_45 : decode cX4_closing 45 = .ok (.iload_n 2, 1) := by decide +kernel
theorem dX4_closing_46 : decode cX4_closing 46 = .ok (.bipush 123, 2) := by decide +kernel
theorem dX4_closing_48 : decode cX4_closing 48 = .ok (.if_icmp .ne 13, 3) := by decide +kernel
theorem dX4_closing_51 : decode cX4_closing 51 = .ok (.aload_n 0, 1) := by decide +kernel
theorem dX4_closing_52 : decode cX4_closing 52 = .ok (.dup, 1) := by decide +kernel
theorem dX4_closing_53 : decode cX4_closing 53 = .ok (.getfield 23, 3) := by decide +kernel
theorem dX4_closing_56 : decode cX4_closing 56 = .ok (.iconst 1, 1) := by decide +kernel
theorem dX4_closing_57 : decode cX4_closing 57 = .ok (.isub, 1) := by decide +kernel
theorem dX4_closing_58 : decode cX4_closing 58 = .ok (.putfield 23, 3) := by decide +kernel
theorem dX4_closing_61 : decode cX4_closing 61 = .ok (.aload_n 0, 1) := by decide +kernel
theorem dX4_closing_62 : decode cX4_closing 62 = .ok (.aload_n 0, 1) := by decide +kernel
theorem dX4_closing_63 : decode cX4_closing 63 = .ok (.getfield 9, 3) := by decide +kernel
theorem dX4_closing_66 : decode cX4_closing 66 = .ok (.aload_n 0, 1) := by decide +kernel
theorem dX4_closing_67 : decode cX4_closing 67 = .ok (.getfield 19, 3) := by decide +kernel
theorem dX4_closing_70 : decode cX4_closing 70 = .ok (.iaload, 1) := by decide +kernel
theorem dX4_closing_71 : decode cX4_closing 71 = .ok (.iload_n 1, 1) := by decide +kernel
theorem dX4_closing_72 : decode cX4_closing 72 = .ok (.iconst 1, 1) := by decide +kernel
theorem dX4_closing_73 : decode cX4_closing 73 = .ok (.iadd, 1) := by decide +kernel
theorem dX4_closing_74 : decode cX4_closing 74 = .ok (.invokevirtual 58, 3) := by decide +kernel
theorem dX4_closing_77 : decode cX4_closing 77 = .ok (.ireturn, 1) := by decide +kernel
set_option maxRecDepth 20000 in
theorem ggX4_payment_X4_isFigure : GoodIn wsX4_payment wsX4_isFigure := goodIn_r _ [5, 6, 7, 8, 9, 10, 11, 12, 13, 24, 25, 26, 27, 28, 29, 30, 31] (by decide +kernel) (by decide +kernel)
set_option maxRecDepth 20000 in
theorem gX4_payment_X4_isFigure : GoodIn wsX4_payment (wsV RX4 64 RX4 yX4_isFigure wsX4_isFigure) := goodIn_app (goodIn_of _ (by decide +kernel)) ggX4_payment_X4_isFigure
set_option maxRecDepth 20000 in
theorem ggX4_payment_X4_faultAt : GoodIn wsX4_payment wsX4_faultAt := goodIn_r _ [17, 18, 24, 25, 26, 27, 28] (by decide +kernel) (by decide +kernel)
set_option maxRecDepth 20000 in
theorem gX4_payment_X4_faultAt : GoodIn wsX4_payment (wsV RX4 61 RX4 yX4_faultAt wsX4_faultAt) := goodIn_app (goodIn_of _ (by decide +kernel)) ggX4_payment_X4_faultAt
set_option maxRecDepth 20000 in
theorem ggX4_payment_X4_ends : GoodIn wsX4_payment wsX4_ends := goodIn_r _ [22, 6, 23, 24, 25, 26, 27, 28, 29, 30, 31] (by decide +kernel) (by decide +kernel)
set_option maxRecDepth 20000 in
theorem gX4_payment_X4_ends : GoodIn wsX4_payment (wsV RX4 58 RX4 yX4_ends wsX4_ends) := goodIn_app (goodIn_of _ (by decide +kernel)) ggX4_payment_X4_ends
theorem dX4_payment_0 : decode cX4_payment 0 = .ok (.iload_n 1, 1) := by decide +kernel
theorem dX4_payment_1 : decode cX4_payment 1 = .ok (.iconst 3, 1) := by decide +kernel
theorem dX4_payment_2 : decode cX4_payment 2 = .ok (.iadd, 1) := by decide +kernel
theorem dX4_payment_3 : decode cX4_payment 3 = .ok (.istore_n 2, 1) := by decide +kernel
theorem dX4_payment_4 : decode cX4_payment 4 = .ok (.iload_n 1, 1) := by decide +kernel
theorem dX4_payment_5 : decode cX4_payment 5 = .ok (.iconst 1, 1) := by decide +kernel
theorem dX4_payment_6 : decode cX4_payment 6 = .ok (.iadd, 1) := by decide +kernel
theorem dX4_payment_7 : decode cX4_payment 7 = .ok (.istore_n 3, 1) := by decide +kernel
theorem dX4_payment_8 : decode cX4_payment 8 = .ok (.iload_n 3, 1) := by decide +kernel
theorem dX4_payment_9 : decode cX4_payment 9 = .ok (.iload_n 2, 1) := by decide +kernel
theorem dX4_payment_10 : decode cX4_payment 10 = .ok (.if_icmp .ge 27, 3) := by decide +kernel
theorem dX4_payment_13 : decode cX4_payment 13 = .ok (.aload_n 0, 1) := by decide +kernel
theorem dX4_payment_14 : decode cX4_payment 14 = .ok (.iload_n 3, 1) := by decide +kernel
theorem dX4_payment_15 : decode cX4_payment 15 = .ok (.bipush 48, 2) := by decide +kernel
theorem dX4_payment_17 : decode cX4_payment 17 = .ok (.bipush 55, 2) := by decide +kernel
theorem dX4_payment_19 : decode cX4_payment 19 = .ok (.invokevirtual 64, 3) := by decide +kernel
theorem dX4_payment_22 : decode cX4_payment 22 = .ok (.ifCond .ne 9, 3) := by decide +kernel
theorem dX4_payment_25 : decode cX4_payment 25 = .ok (.aload_n 0, 1) := by decide +kernel
theorem dX4_payment_26 : decode cX4_payment 26 = .ok (.iload_n 3, 1) := by decide +kernel
theorem dX4_payment_27 : decode cX4_payment 27 = .ok (.invokevirtual 61, 3) := by decide +kernel
theorem dX4_payment_30 : decode cX4_payment 30 = .ok (.ireturn, 1) := by decide +kernel
theorem dX4_payment_31 : decode cX4_payment 31 = .ok (.iinc 3 1, 3) := by decide +kernel
theorem dX4_payment_34 : decode cX4_payment 34 = .ok (.goto (-26), 3) := by decide +kernel
theorem dX4_payment_37 : decode cX4_payment 37 = .ok (.aload_n 0, 1) := by decide +kernel
theorem dX4_payment_38 : decode cX4_payment 38 = .ok (.iload_n 2, 1) := by decide +kernel
theorem dX4_payment_39 : decode cX4_payment 39 = .ok (.bipush 48, 2) := by decide +kernel
theorem dX4_payment_41 : decode cX4_payment 41 = .ok (.bipush 57, 2) := by decide +kernel
theorem dX4_payment_43 : decode cX4_payment 43 = .ok (.invokevirtual 64, 3) := by decide +kernel
theorem dX4_payment_46 : decode cX4_payment 46 = .ok (.ifCond .ne 9, 3) := by decide +kernel
theorem dX4_payment_49 : decode cX4_payment 49 = .ok (.aload_n 0, 1) := by decide +kernel
theorem dX4_payment_50 : decode cX4_payment 50 = .ok (.iload_n 2, 1) := by decide +kernel
theorem dX4_payment_51 : decode cX4_payment 51 = .ok (.invokevirtual 61, 3) := by decide +kernel
theorem dX4_payment_54 : decode cX4_payment 54 = .ok (.ireturn, 1) := by decide +kernel
theorem dX4_payment_55 : decode cX4_payment 55 = .ok (.iload_n 2, 1) := by decide +kernel
theorem dX4_payment_56 : decode cX4_payment 56 = .ok (.iconst 1, 1) := by decide +kernel
theorem dX4_payment_57 : decode cX4_payment 57 = .ok (.iadd, 1) := by decide +kernel
theorem dX4_payment_58 : decode cX4_payment 58 = .ok (.istore_n 3, 1) := by decide +kernel
theorem dX4_payment_59 : decode cX4_payment 59 = .ok (.iload_n 3, 1) := by decide +kernel
theorem dX4_payment_60 : decode cX4_payment 60 = .ok (.iload_n 2, 1) := by decide +kernel
theorem dX4_payment_61 : decode cX4_payment 61 = .ok (.iconst 4, 1) := by decide +kernel
theorem dX4_payment_62 : decode cX4_payment 62 = .ok (.iadd, 1) := by decide +kernel
theorem dX4_payment_63 : decode cX4_payment 63 = .ok (.if_icmp .ge 21, 3) := by decide +kernel
theorem dX4_payment_66 : decode cX4_payment 66 = .ok (.aload_n 0, 1) := by decide +kernel
theorem dX4_payment_67 : decode cX4_payment 67 = .ok (.iload_n 3, 1) := by decide +kernel
theorem dX4_payment_68 : decode cX4_payment 68 = .ok (.bipush 48, 2) := by decide +kernel
theorem dX4_payment_70 : decode cX4_payment 70 = .ok (.bipush 57, 2) := by decide +kernel
theorem dX4_payment_72 : decode cX4_payment 72 = .ok (.invokevirtual 64, 3) := by decide +kernel
theorem dX4_payment_75 : decode cX4_payment 75 = .ok (.ifCond .eq 9, 3) := by decide +kernel
theorem dX4_payment_78 : decode cX4_payment 78 = .ok (.iinc 3 1, 3) := by decide +kernel
theorem dX4_payment_81 : decode cX4_payment 81 = .ok (.goto (-22), 3) := by decide +kernel
theorem dX4_payment_84 : decode cX4_payment 84 = .ok (.aload_n 0, 1) := by decide +kernel
theorem dX4_payment_85 : decode cX4_payment 85 = .ok (.iload_n 1, 1) := by decide +kernel
theorem dX4_payment_86 : decode cX4_payment 86 = .ok (.iload_n 3, 1) := by decide +kernel
theorem dX4_payment_87 : decode cX4_payment 87 = .ok (.invokevirtual 58, 3) := by decide +kernel
theorem dX4_payment_90 : decode cX4_payment 90 = .ok (.ireturn, 1) := by decide +kernel
set_option maxRecDepth 20000 in
theorem ggX4_bell_X4_isFigure : GoodIn wsX4_bell wsX4_isFigure := goodIn_r _ [5, 6, 7, 8, 9, 10, 11, 12, 13, 24, 25, 26, 27, 28, 29, 30, 31] (by decide +kernel) (by decide +kernel)
set_option maxRecDepth 20000 in
theorem gX4_bell_X4_isFigure : GoodIn wsX4_bell (wsV RX4 64 RX4 yX4_isFigure wsX4_isFigure) := goodIn_app (goodIn_of _ (by decide +kernel)) ggX4_bell_X4_isFigure
set_option maxRecDepth 20000 in
theorem ggX4_bell_X4_ends : GoodIn wsX4_bell wsX4_ends := goodIn_r _ [17, 6, 18, 24, 25, 26, 27, 28, 29, 30, 31] (by decide +kernel) (by decide +kernel)
set_option maxRecDepth 20000 in
theorem gX4_bell_X4_ends : GoodIn wsX4_bell (wsV RX4 58 RX4 yX4_ends wsX4_ends) := goodIn_app (goodIn_of _ (by decide +kernel)) ggX4_bell_X4_ends
set_option maxRecDepth 20000 in
theorem ggX4_bell_X4_faultAt : GoodIn wsX4_bell wsX4_faultAt := goodIn_r _ [22, 23, 24, 25, 26, 27, 28] (by decide +kernel) (by decide +kernel)
set_option maxRecDepth 20000 in
theorem gX4_bell_X4_faultAt : GoodIn wsX4_bell (wsV RX4 61 RX4 yX4_faultAt wsX4_faultAt) := goodIn_app (goodIn_of _ (by decide +kernel)) ggX4_bell_X4_faultAt
theorem dX4_bell_0 : decode cX4_bell 0 = .ok (.aload_n 0, 1) := by decide +kernel
theorem dX4_bell_1 : decode cX4_bell 1 = .ok (.iload_n 1, 1) := by decide +kernel
theorem dX4_bell_2 : decode cX4_bell 2 = .ok (.iconst 1, 1) := by decide +kernel
theorem dX4_bell_3 : decode cX4_bell 3 = .ok (.iadd, 1) := by decide +kernel
theorem dX4_bell_4 : decode cX4_bell 4 = .ok (.bipush 48, 2) := by decide +kernel
theorem dX4_bell_6 : decode cX4_bell 6 = .ok (.bipush 55, 2) := by decide +kernel
theorem dX4_bell_8 : decode cX4_bell 8 = .ok (.invokevirtual 64, 3) := by decide +kernel
theorem dX4_bell_11 : decode cX4_bell 11 = .ok (.ifCond .eq 14, 3) := by decide +kernel
theorem dX4_bell_14 : decode cX4_bell 14 = .ok (.aload_n 0, 1) := by decide +kernel
theorem dX4_bell_15 : decode cX4_bell 15 = .ok (.iload_n 1, 1) := by decide +kernel
theorem dX4_bell_16 : decode cX4_bell 16 = .ok (.iload_n 1, 1) := by decide +kernel
theorem dX4_bell_17 : decode cX4_bell 17 = .ok (.iconst 2, 1) := by decide +kernel
theorem dX4_bell_18 : decode cX4_bell 18 = .ok (.iadd, 1) := by decide +kernel
theorem dX4_bell_19 : decode cX4_bell 19 = .ok (.invokevirtual 58, 3) := by decide +kernel
theorem dX4_bell_22 : decode cX4_bell 22 = .ok (.goto 10, 3) := by decide +kernel
theorem dX4_bell_25 : decode cX4_bell 25 = .ok (.aload_n 0, 1) := by decide +kernel
theorem dX4_bell_26 : decode cX4_bell 26 = .ok (.iload_n 1, 1) := by decide +kernel
theorem dX4_bell_27 : decode cX4_bell 27 = .ok (.iconst 1, 1) := by decide +kernel
theorem dX4_bell_28 : decode cX4_bell 28 = .ok (.iadd, 1) := by decide +kernel
theorem dX4_bell_29 : decode cX4_bell 29 = .ok (.invokevirtual 61, 3) := by decide +kernel
theorem dX4_bell_32 : decode cX4_bell 32 = .ok (.ireturn, 1) := by decide +kernel
set_option maxRecDepth 20000 in
theorem ggX4_isFigure_X3_byteAt : GoodIn wsX4_isFigure wsX3_byteAt := goodIn_r _ [6, 7, 8, 14, 15, 16] (by decide +kernel) (by decide +kernel)
set_option maxRecDepth 20000 in
theorem gX4_isFigure_X3_byteAt : GoodIn wsX4_isFigure (wsV RX4 38 RX3 yX3_byteAt wsX3_byteAt) := goodIn_app (goodIn_of _ (by decide +kernel)) ggX4_isFigure_X3_byteAt
theorem dX4_isFigure_0 : decode cX4_isFigure 0 = .ok (.aload_n 0, 1) := by decide +kernel
theorem dX4_isFigure_1 : decode cX4_isFigure 1 = .ok (.getfield 15, 3) := by decide +kernel
theorem dX4_isFigure_4 : decode cX4_isFigure 4 = .ok (.iload_n 1, 1) := by decide +kernel
theorem dX4_isFigure_5 : decode cX4_isFigure 5 = .ok (.invokevirtual 38, 3) := by decide +kernel
theorem dX4_isFigure_8 : decode cX4_isFigure 8 = .ok (.iload_n 2, 1) := by decide +kernel
theorem dX4_isFigure_9 : decode cX4_isFigure 9 = .ok (.if_icmp .lt 19, 3) := by decide +kernel
theorem dX4_isFigure_12 : decode cX4_isFigure 12 = .ok (.aload_n 0, 1) := by decide +kernel
theorem dX4_isFigure_13 : decode cX4_isFigure 13 = .ok (.getfield 15, 3) := by decide +kernel
theorem dX4_isFigure_16 : decode cX4_isFigure 16 = .ok (.iload_n 1, 1) := by decide +kernel
theorem dX4_isFigure_17 : decode cX4_isFigure 17 = .ok (.invokevirtual 38, 3) := by decide +kernel
theorem dX4_isFigure_20 : decode cX4_isFigure 20 = .ok (.iload_n 3, 1) := by decide +kernel
theorem dX4_isFigure_21 : decode cX4_isFigure 21 = .ok (.if_icmp .gt 7, 3) := by decide +kernel
theorem dX4_isFigure_24 : decode cX4_isFigure 24 = .ok (.iconst 1, 1) := by decide +kernel
theorem dX4_isFigure_25 : decode cX4_isFigure 25 = .ok (.goto 4, 3) := by decide +kernel
theorem dX4_isFigure_28 : decode cX4_isFigure 28 = .ok (.iconst 0, 1) := by decide +kernel
theorem dX4_isFigure_29 : decode cX4_isFigure 29 = .ok (.ireturn, 1) := by decide +kernel
theorem dX4_ends_0 : decode cX4_ends 0 = .ok (.aload_n 0, 1) := by decide +kernel
theorem dX4_ends_1 : decode cX4_ends 1 = .ok (.getfield 15, 3) := by decide +kernel
theorem dX4_ends_4 : decode cX4_ends 4 = .ok (.getfield 68, 3) := by decide +kernel
theorem dX4_ends_7 : decode cX4_ends 7 = .ok (.iload_n 1, 1) := by decide +kernel
theorem dX4_ends_8 : decode cX4_ends 8 = .ok (.iload_n 2, 1) := by decide +kernel
theorem dX4_ends_9 : decode cX4_ends 9 = .ok (.iastore, 1) := by decide +kernel
theorem dX4_ends_10 : decode cX4_ends 10 = .ok (.iload_n 2, 1) := by decide +kernel
theorem dX4_ends_11 : decode cX4_ends 11 = .ok (.ireturn, 1) := by decide +kernel
theorem dX4_faultAt_0 : decode cX4_faultAt 0 = .ok (.aload_n 0, 1) := by decide +kernel
theorem dX4_faultAt_1 : decode cX4_faultAt 1 = .ok (.iload_n 1, 1) := by decide +kernel
theorem dX4_faultAt_2 : decode cX4_faultAt 2 = .ok (.putfield 26, 3) := by decide +kernel
theorem dX4_faultAt_5 : decode cX4_faultAt 5 = .ok (.iload_n 1, 1) := by decide +kernel
theorem dX4_faultAt_6 : decode cX4_faultAt 6 = .ok (.iconst 1, 1) := by decide +kernel
theorem dX4_faultAt_7 : decode cX4_faultAt 7 = .ok (.iadd, 1) := by decide +kernel
theorem dX4_faultAt_8 : decode cX4_faultAt 8 = .ok (.ireturn, 1) := by decide +kernel
set_option maxRecDepth 20000 in
theorem ggX5_cutAll_X5_findsFirst : GoodIn wsX5_cutAll wsX5_findsFirst := goodIn_r _ [5, 6, 7, 8, 9, 4, 10, 11, 12, 13, 14, 15, 16, 17, 18, 19, 37, 38, 39, 40, 41] (by decide +kernel) (by decide +kernel)
set_option maxRecDepth 20000 in
theorem gX5_cutAll_X5_findsFirst : GoodIn wsX5_cutAll (wsV RX5 23 RX5 yX5_findsFirst wsX5_findsFirst) := goodIn_app (goodIn_of _ (by decide +kernel)) ggX5_cutAll_X5_findsFirst
set_option maxRecDepth 20000 in
theorem ggX5_cutAll_X5_cutFound : GoodIn wsX5_cutAll wsX5_cutFound := goodIn_r _ [23, 24, 13, 12, 11, 25, 26, 27, 28, 29, 30, 31, 4, 32, 14, 15, 16, 17, 18, 19, 33, 34, 35, 36, 37, 38, 39, 40, 41] (by decide +kernel) (by decide +kernel)
set_option maxRecDepth 20000 in
theorem gX5_cutAll_X5_cutFound : GoodIn wsX5_cutAll (wsV RX5 27 RX5 yX5_cutFound wsX5_cutFound) := goodIn_app (goodIn_of _ (by decide +kernel)) ggX5_cutAll_X5_cutFound
theorem dX5_cutAll_0 : decode cX5_cutAll 0 = .ok (.iconst 0, 1) := by decide +kernel
theorem dX5_cutAll_1 : decode cX5_cutAll 1 = .ok (.istore_n 2, 1) := by decide +kernel
theorem dX5_cutAll_2 : decode cX5_cutAll 2 = .ok (.iload_n 2, 1) := by decide +kernel
theorem dX5_cutAll_3 : decode cX5_cutAll 3 = .ok (.bipush 64, 2) := by decide +kernel
theorem dX5_cutAll_5 : decode cX5_cutAll 5 = .ok (.if_icmp .ge 23, 3) := by decide +kernel
theorem dX5_cutAll_8 : decode cX5_cutAll 8 = .ok (.aload_n 0, 1) := by decide +kernel
theorem dX5_cutAll_9 : decode cX5_cutAll 9 = .ok (.iload_n 1, 1) := by decide +kernel
theorem dX5_cutAll_10 : decode cX5_cutAll 10 = .ok (.invokevirtual 23, 3) := by decide +kernel
theorem dX5_cutAll_13 : decode cX5_cutAll 13 = .ok (.ifCond .ne 5, 3) := by decide +kernel
theorem dX5_cutAll_16 : decode cX5_cutAll 16 = .ok (.iload_n 2, 1) := by decide +kernel
theorem dX5_cutAll_17 : decode cX5_cutAll 17 = .ok (.ireturn, 1) := by decide +kernel
theorem dX5_cutAll_18 : decode cX5_cutAll 18 = .ok (.aload_n 0, 1) := by decide +kernel
theorem dX5_cutAll_19 : decode cX5_cutAll 19 = .ok (.invokevirtual 27, 3) := by decide +kernel
theorem dX5_cutAll_22 : decode cX5_cutAll 22 = .ok (.iinc 2 1, 3) := by decide +kernel
theorem dX5_cutAll_25 : decode cX5_cutAll 25 = .ok (.goto (-23), 3) := by decide +kernel
theorem dX5_cutAll_28 : decode cX5_cutAll 28 = .ok (.bipush 64, 2) := by decide +kernel
theorem dX5_cutAll_30 : decode cX5_cutAll 30 = .ok (.ireturn, 1) := by decide +kernel
set_option maxRecDepth 20000 in
theorem ggX5_findsFirst_X5_leadsBack : GoodIn wsX5_findsFirst wsX5_leadsBack := goodIn_r _ [6, 7, 1, 8, 9, 10, 11, 12, 13, 14, 15, 2, 3, 4, 5, 16, 17, 18, 19, 20] (by decide +kernel) (by decide +kernel)
set_option maxRecDepth 20000 in
theorem gX5_findsFirst_X5_leadsBack : GoodIn wsX5_findsFirst (wsV RX5 30 RX5 yX5_leadsBack wsX5_leadsBack) := goodIn_app (goodIn_of _ (by decide +kernel)) ggX5_findsFirst_X5_leadsBack
theorem dX5_findsFirst_0 : decode cX5_findsFirst 0 = .ok (.iconst 0, 1) := by decide +kernel
theorem dX5_findsFirst_1 : decode cX5_findsFirst 1 = .ok (.istore_n 2, 1) := by decide +kernel
theorem dX5_findsFirst_2 : decode cX5_findsFirst 2 = .ok (.iload_n 2, 1) := by decide +kernel
theorem dX5_findsFirst_3 : decode cX5_findsFirst 3 = .ok (.iload_n 1, 1) := by decide +kernel
theorem dX5_findsFirst_4 : decode cX5_findsFirst 4 = .ok (.if_icmp .ge 42, 3) := by decide +kernel
theorem dX5_findsFirst_7 : decode cX5_findsFirst 7 = .ok (.iconst 0, 1) := by decide +kernel
theorem dX5_findsFirst_8 : decode cX5_findsFirst 8 = .ok (.istore_n 3, 1) := by decide +kernel
theorem dX5_findsFirst_9 : decode cX5_findsFirst 9 = .ok (.iload_n 3, 1) := by decide +kernel
theorem dX5_findsFirst_10 : decode cX5_findsFirst 10 = .ok (.iload_n 1, 1) := by decide +kernel
theorem dX5_findsFirst_11 : decode cX5_findsFirst 11 = .ok (.if_icmp .ge 16, 3) := by decide +kernel
theorem dX5_findsFirst_14 : decode cX5_findsFirst 14 = .ok (.aload_n 0, 1) := by decide +kernel
theorem dX5_findsFirst_15 : decode cX5_findsFirst 15 = .ok (.getfield 15, 3) := by decide +kernel
theorem dX5_findsFirst_18 : decode cX5_findsFirst 18 = .ok (.iload_n 3, 1) := by decide +kernel
theorem dX5_findsFirst_19 : decode cX5_findsFirst 19 = .ok (.iconst 0, 1) := by decide +kernel
theorem dX5_findsFirst_20 : decode cX5_findsFirst 20 = .ok (.bastore, 1) := by decide +kernel
theorem dX5_findsFirst_21 : decode cX5_findsFirst 21 = .ok (.iinc 3 1, 3) := by decide +kernel
theorem dX5_findsFirst_24 : decode cX5_findsFirst 24 = .ok (.goto (-15), 3) := by decide +kernel
theorem dX5_findsFirst_27 : decode cX5_findsFirst 27 = .ok (.aload_n 0, 1) := by decide +kernel
theorem dX5_findsFirst_28 : decode cX5_findsFirst 28 = .ok (.iload_n 2, 1) := by decide +kernel
theorem dX5_findsFirst_29 : decode cX5_findsFirst 29 = .ok (.iload_n 2, 1) := by decide +kernel
theorem dX5_findsFirst_30 : decode cX5_findsFirst 30 = .ok (.iconst 0, 1) := by decide +kernel
theorem dX5_findsFirst_31 : decode cX5_findsFirst 31 = .ok (.iload_n 1, 1) := by decide +kernel
theorem dX5_findsFirst_32 : decode cX5_findsFirst 32 = .ok (.invokevirtual 30, 3) := by decide +kernel
theorem dX5_findsFirst_35 : decode cX5_findsFirst 35 = .ok (.ifCond .eq 5, 3) := by decide +kernel
theorem dX5_findsFirst_38 : decode cX5_findsFirst 38 = .ok (.iconst 1, 1) := by decide +kernel
theorem dX5_findsFirst_39 : decode cX5_findsFirst 39 = .ok (.ireturn, 1) := by decide +kernel
theorem dX5_findsFirst_40 : decode cX5_findsFirst 40 = .ok (.iinc 2 1, 3) := by decide +kernel
theorem dX5_findsFirst_43 : decode cX5_findsFirst 43 = .ok (.goto (-41), 3) := by decide +kernel
theorem dX5_findsFirst_46 : decode cX5_findsFirst 46 = .ok (.iconst 0, 1) := by decide +kernel
theorem dX5_findsFirst_47 : decode cX5_findsFirst 47 = .ok (.ireturn, 1) := by decide +kernel
set_option maxRecDepth 20000 in
theorem ggX5_leadsBack_X1_between : GoodIn wsX5_leadsBack wsX1_between := goodIn_r _ [9, 10, 19] (by decide +kernel) (by decide +kernel)
set_option maxRecDepth 20000 in
theorem gX5_leadsBack_X1_between : GoodIn wsX5_leadsBack (wsV RX5 34 RX1 yX1_between wsX1_between) := goodIn_app (goodIn_of _ (by decide +kernel)) ggX5_leadsBack_X1_between
set_option maxRecDepth 20000 in
theorem ggX5_leadsBack_X5_leadsBack : GoodIn wsX5_leadsBack wsX5_leadsBack := goodIn_r _ [0, 1, 2, 3, 4, 5, 6, 7, 8, 9, 10, 11, 12, 13, 14, 15, 16, 17, 18, 19] (by decide +kernel) (by decide +kernel)
set_option maxRecDepth 20000 in
theorem gX5_leadsBack_X5_leadsBack : GoodIn wsX5_leadsBack (wsV RX5 30 RX5 yX5_leadsBack wsX5_leadsBack) := goodIn_app (goodIn_of _ (by decide +kernel)) ggX5_leadsBack_X5_leadsBack
theorem dX5_leadsBack_0 : decode cX5_leadsBack 0 = .ok (.iload_n 3, 1) := by decide +kernel
theorem dX5_leadsBack_1 : decode cX5_leadsBack 1 = .ok (.bipush 8, 2) := by decide +kernel
theorem dX5_leadsBack_3 : decode cX5_leadsBack 3 = .ok (.if_icmp .lt 5, 3) := by decide +kernel
theorem dX5_leadsBack_6 : decode cX5_leadsBack 6 = .ok (.iconst 0, 1) := by decide +kernel
theorem dX5_leadsBack_7 : decode cX5_leadsBack 7 = .ok (.ireturn, 1) := by decide +kernel
theorem dX5_leadsBack_8 : decode cX5_leadsBack 8 = .ok (.aload_n 0, 1) := by decide +kernel
theorem dX5_leadsBack_9 : decode cX5_leadsBack 9 = .ok (.getfield 9, 3) := by decide +kernel
theorem dX5_leadsBack_12 : decode cX5_leadsBack 12 = .ok (.iload_n 3, 1) := by decide +kernel
theorem dX5_leadsBack_13 : decode cX5_leadsBack 13 = .ok (.iload_n 1, 1) := by decide +kernel
theorem dX5_leadsBack_14 : decode cX5_leadsBack 14 = .ok (.iastore, 1) := by decide +kernel
theorem dX5_leadsBack_15 : decode cX5_leadsBack 15 = .ok (.aload_n 0, 1) := by decide +kernel
theorem dX5_leadsBack_16 : decode cX5_leadsBack 16 = .ok (.getfield 15, 3) := by decide +kernel

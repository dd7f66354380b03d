theorem goodIn_r {big : List Cond} (ws : List Cond) (ps : List Nat) (hp : ws = ps.filterMap (fun i => big[i]?)) (h : ws.all goodWord = true) : GoodIn big ws := by
  intro w hw
  have h1 := List.all_eq_true.mp h w hw
  rw [hp] at hw
  obtain ⟨i, -, hi⟩ := List.mem_filterMap.mp hw
  have hm : w ∈ big := by first | exact List.mem_of_getElem? hi | exact List.getElem?_mem hi
  exact ⟨hm, good_of_word h1⟩
theorem goodIn_app {big a b : List Cond} (ha : GoodIn big a) (hb : GoodIn big b) : GoodIn big (a ++ b) := fun w h => (List.mem_append.mp h).elim (ha w) (hb w)
theorem goodIn_ca {big a b : List Cond} {c : Cond} (ha : GoodIn big (c :: a)) (hb : GoodIn big b) : GoodIn big (c :: (a ++ b)) := fun w h => (List.mem_cons.mp h).elim (fun e => ha w (List.mem_cons.mpr (Or.inl e))) (fun h => (List.mem_append.mp h).elim (fun h => ha w (List.mem_cons.mpr (Or.inr h))) (hb w))
theorem goodIn_sub {big ws : List Cond} (hm : ∀ w ∈ ws, w ∈ big) (h : ws.all goodWord = true) : GoodIn big ws := fun w hw => ⟨hm w hw, good_of_word (List.all_eq_true.mp h w hw)⟩
/-! ===== BEGIN printed: names, fields, word lists, decode rows ===== -/
def RX0 : String := "ClearingGates$Books"
def TX0 : u_T := fun k => match k with
  | 0 => ("ClearingGates$Books", "kinds", "[I", true)
  | 1 => ("ClearingGates$Books", "balances", "[I", true)
  | 2 => ("ClearingGates$Books", "limits", "[I", true)
  | 3 => ("ClearingGates$Books", "gates", "[Z", true)
  | 4 => ("ClearingGates$Books", "entries", "[I", true)
  | 5 => ("ClearingGates$Books", "leavings", "[I", true)
  | 6 => ("ClearingGates$Books", "agains", "[I", true)
  | 7 => ("ClearingGates$Books", "accounts", "I", false)
  | 8 => ("ClearingGates$Books", "fees", "J", false)
  | 9 => ("ClearingGates$Books", "missed", "I", false)
  | 10 => ("ClearingGates$Books", "bells", "I", false)
  | 11 => ("ClearingGates$Books", "refused", "I", false)
  | _ => ("ClearingGates$Books", "caught", "I", false)
def tyX0 : Nat → FieldType := fun k => match k with
  | 0 => .array .int
  | 1 => .array .int
  | 2 => .array .int
  | 3 => .array .boolean
  | 4 => .array .int
  | 5 => .array .int
  | 6 => .array .int
  | 7 => .int
  | 8 => .long
  | 9 => .int
  | 10 => .int
  | 11 => .int
  | _ => .int
abbrev wsX00 : List Cond := u_ws RX0 TX0 13
theorem nmX0 : ∀ a, a < 13 → ∀ b, b < 13 → a ≠ b → (TX0 a).2.1 ≠ (TX0 b).2.1 := by decide +kernel
theorem tyX0_ok : ∀ k, k < 13 → parseFieldDescriptor (TX0 k).2.2.1 = some (tyX0 k) := by decide +kernel
abbrev cX0_init : ByteArray := prog_2_method_1_code
def yX0_init : MethodName := ⟨RX0, "<init>", "()V"⟩
abbrev cX0_has : ByteArray := prog_2_method_2_code
def yX0_has : MethodName := ⟨RX0, "has", "(I)Z"⟩
abbrev cX0_hasGate : ByteArray := prog_2_method_3_code
def yX0_hasGate : MethodName := ⟨RX0, "hasGate", "(I)Z"⟩
abbrev cX0_hasAllGates : ByteArray := prog_2_method_4_code
def yX0_hasAllGates : MethodName := ⟨RX0, "hasAllGates", "()Z"⟩
abbrev cX0_open : ByteArray := prog_2_method_5_code
def yX0_open : MethodName := ⟨RX0, "open", "(II)I"⟩
abbrev cX0_feeOf : ByteArray := prog_2_method_6_code
def yX0_feeOf : MethodName := ⟨RX0, "feeOf", "(II)I"⟩
abbrev cX0_floorOf : ByteArray := prog_2_method_7_code
def yX0_floorOf : MethodName := ⟨RX0, "floorOf", "(I)I"⟩
abbrev cX0_allMoney : ByteArray := prog_2_method_8_code
def yX0_allMoney : MethodName := ⟨RX0, "allMoney", "()J"⟩
abbrev cX0_allEntries : ByteArray := prog_2_method_9_code
def yX0_allEntries : MethodName := ⟨RX0, "allEntries", "()I"⟩
abbrev cX0_enterAll : ByteArray := prog_2_method_10_code
def yX0_enterAll : MethodName := ⟨RX0, "enterAll", "()V"⟩
abbrev cX0_leaveAll : ByteArray := prog_2_method_11_code
def yX0_leaveAll : MethodName := ⟨RX0, "leaveAll", "()V"⟩
abbrev cX0_becomeAs : ByteArray := prog_2_method_12_code
def yX0_becomeAs : MethodName := ⟨RX0, "becomeAs", "(LClearingGates$Books;)V"⟩
def RX1 : String := "ClearingGates$Debts"
def TX1 : u_T := fun k => match k with
  | _ => ("ClearingGates$Debts", "row", "[I", true)
def tyX1 : Nat → FieldType := fun k => match k with
  | _ => .array .int
abbrev wsX10 : List Cond := u_ws RX1 TX1 1
theorem nmX1 : ∀ a, a < 1 → ∀ b, b < 1 → a ≠ b → (TX1 a).2.1 ≠ (TX1 b).2.1 := by decide +kernel
theorem tyX1_ok : ∀ k, k < 1 → parseFieldDescriptor (TX1 k).2.2.1 = some (tyX1 k) := by decide +kernel
abbrev cX1_init : ByteArray := prog_3_method_1_code
def yX1_init : MethodName := ⟨RX1, "<init>", "()V"⟩
abbrev cX1_between : ByteArray := prog_3_method_2_code
def yX1_between : MethodName := ⟨RX1, "between", "(II)I"⟩
abbrev cX1_become : ByteArray := prog_3_method_3_code
def yX1_become : MethodName := ⟨RX1, "become", "(III)V"⟩
abbrev cX1_total : ByteArray := prog_3_method_4_code
def yX1_total : MethodName := ⟨RX1, "total", "()J"⟩
abbrev cX1_positionOf : ByteArray := prog_3_method_5_code
def yX1_positionOf : MethodName := ⟨RX1, "positionOf", "(I)J"⟩
abbrev cX1_becomeAs : ByteArray := prog_3_method_6_code
def yX1_becomeAs : MethodName := ⟨RX1, "becomeAs", "(LClearingGates$Debts;)V"⟩
def RX2 : String := "ClearingGates$Kinds"
def TX2 : u_T := fun k => match k with
  | _ => ("", "", "", false)
def tyX2 : Nat → FieldType := fun k => match k with
  | _ => .int
abbrev wsX20 : List Cond := u_ws RX2 TX2 0
theorem nmX2 : ∀ a, a < 0 → ∀ b, b < 0 → a ≠ b → (TX2 a).2.1 ≠ (TX2 b).2.1 := by decide +kernel
theorem tyX2_ok : ∀ k, k < 0 → parseFieldDescriptor (TX2 k).2.2.1 = some (tyX2 k) := by decide +kernel
abbrev cX2_isKind : ByteArray := prog_4_method_2_code
def yX2_isKind : MethodName := ⟨RX2, "isKind", "(I)Z"⟩
abbrev cX2_feeOf : ByteArray := prog_4_method_3_code
def yX2_feeOf : MethodName := ⟨RX2, "feeOf", "(II)I"⟩
abbrev cX2_floorOf : ByteArray := prog_4_method_4_code
def yX2_floorOf : MethodName := ⟨RX2, "floorOf", "(II)I"⟩
abbrev cX2_isOrIsUnder : ByteArray := prog_4_method_5_code
def yX2_isOrIsUnder : MethodName := ⟨RX2, "isOrIsUnder", "(II)Z"⟩
def RX3 : String := "ClearingGates$Program"
def TX3 : u_T := fun k => match k with
  | 0 => ("ClearingGates$Program", "bytes", "[I", true)
  | 1 => ("ClearingGates$Program", "behind", "[I", true)
  | _ => ("ClearingGates$Program", "size", "I", false)
def tyX3 : Nat → FieldType := fun k => match k with
  | 0 => .array .int
  | 1 => .array .int
  | _ => .int
abbrev wsX30 : List Cond := u_ws RX3 TX3 3
theorem nmX3 : ∀ a, a < 3 → ∀ b, b < 3 → a ≠ b → (TX3 a).2.1 ≠ (TX3 b).2.1 := by decide +kernel
theorem tyX3_ok : ∀ k, k < 3 → parseFieldDescriptor (TX3 k).2.2.1 = some (tyX3 k) := by decide +kernel
abbrev cX3_init : ByteArray := prog_5_method_1_code
def yX3_init : MethodName := ⟨RX3, "<init>", "()V"⟩
abbrev cX3_takeOver : ByteArray := prog_5_method_2_code
def yX3_takeOver : MethodName := ⟨RX3, "takeOver", "(LClearingGates$Tape;)V"⟩
abbrev cX3_byteAt : ByteArray := prog_5_method_3_code
def yX3_byteAt : MethodName := ⟨RX3, "byteAt", "(I)I"⟩
abbrev cX3_behindItem : ByteArray := prog_5_method_4_code
def yX3_behindItem : MethodName := ⟨RX3, "behindItem", "(I)I"⟩
abbrev cX3_figureAt : ByteArray := prog_5_method_5_code
def yX3_figureAt : MethodName := ⟨RX3, "figureAt", "(I)I"⟩
abbrev cX3_numberBetween : ByteArray := prog_5_method_6_code
def yX3_numberBetween : MethodName := ⟨RX3, "numberBetween", "(II)I"⟩
def RX4 : String := "ClearingGates$Reader"
def TX4 : u_T := fun k => match k with
  | 0 => ("ClearingGates$Reader", "opened", "[I", true)
  | 1 => ("ClearingGates$Reader", "open", "I", false)
  | 2 => ("ClearingGates$Reader", "loops", "I", false)
  | 3 => ("ClearingGates$Reader", "fault", "I", false)
  | _ => ("ClearingGates$Reader", "program", "LClearingGates$Program;", false)
def tyX4 : Nat → FieldType := fun k => match k with
  | 0 => .array .int
  | 1 => .int
  | 2 => .int
  | 3 => .int
  | _ => .object "ClearingGates$Program"
abbrev wsX40 : List Cond := u_ws RX4 TX4 5
theorem nmX4 : ∀ a, a < 5 → ∀ b, b < 5 → a ≠ b → (TX4 a).2.1 ≠ (TX4 b).2.1 := by decide +kernel
theorem tyX4_ok : ∀ k, k < 5 → parseFieldDescriptor (TX4 k).2.2.1 = some (tyX4 k) := by decide +kernel
abbrev cX4_init : ByteArray := prog_6_method_1_code
def yX4_init : MethodName := ⟨RX4, "<init>", "()V"⟩
abbrev cX4_faultOf : ByteArray := prog_6_method_2_code
def yX4_faultOf : MethodName := ⟨RX4, "faultOf", "(LClearingGates$Program;)I"⟩
abbrev cX4_step : ByteArray := prog_6_method_3_code
def yX4_step : MethodName := ⟨RX4, "step", "(I)I"⟩
abbrev cX4_openingWithFigure : ByteArray := prog_6_method_4_code
def yX4_openingWithFigure : MethodName := ⟨RX4, "openingWithFigure", "(III)I"⟩
abbrev cX4_opening : ByteArray := prog_6_method_5_code
def yX4_opening : MethodName := ⟨RX4, "opening", "(I)I"⟩
abbrev cX4_closing : ByteArray := prog_6_method_6_code
def yX4_closing : MethodName := ⟨RX4, "closing", "(II)I"⟩
abbrev cX4_payment : ByteArray := prog_6_method_7_code
def yX4_payment : MethodName := ⟨RX4, "payment", "(I)I"⟩
abbrev cX4_bell : ByteArray := prog_6_method_8_code
def yX4_bell : MethodName := ⟨RX4, "bell", "(I)I"⟩
abbrev cX4_isFigure : ByteArray := prog_6_method_9_code
def yX4_isFigure : MethodName := ⟨RX4, "isFigure", "(III)Z"⟩
abbrev cX4_ends : ByteArray := prog_6_method_10_code
def yX4_ends : MethodName := ⟨RX4, "ends", "(II)I"⟩
abbrev cX4_faultAt : ByteArray := prog_6_method_11_code
def yX4_faultAt : MethodName := ⟨RX4, "faultAt", "(I)I"⟩
def RX5 : String := "ClearingGates$Rings"
def TX5 : u_T := fun k => match k with
  | 0 => ("ClearingGates$Rings", "debts", "LClearingGates$Debts;", true)
  | 1 => ("ClearingGates$Rings", "way", "[I", true)
  | 2 => ("ClearingGates$Rings", "wayLength", "I", false)
  | _ => ("ClearingGates$Rings", "tried", "[Z", true)
def tyX5 : Nat → FieldType := fun k => match k with
  | 0 => .object "ClearingGates$Debts"
  | 1 => .array .int
  | 2 => .int
  | _ => .array .boolean
abbrev wsX50 : List Cond := u_ws RX5 TX5 4
theorem nmX5 : ∀ a, a < 4 → ∀ b, b < 4 → a ≠ b → (TX5 a).2.1 ≠ (TX5 b).2.1 := by decide +kernel
theorem tyX5_ok : ∀ k, k < 4 → parseFieldDescriptor (TX5 k).2.2.1 = some (tyX5 k) := by decide +kernel
abbrev cX5_init : ByteArray := prog_7_method_1_code
def yX5_init : MethodName := ⟨RX5, "<init>", "(LClearingGates$Debts;)V"⟩
abbrev cX5_cutAll : ByteArray := prog_7_method_2_code
def yX5_cutAll : MethodName := ⟨RX5, "cutAll", "(I)I"⟩
abbrev cX5_findsFirst : ByteArray := prog_7_method_3_code
def yX5_findsFirst : MethodName := ⟨RX5, "findsFirst", "(I)Z"⟩
abbrev cX5_leadsBack : ByteArray := prog_7_method_4_code
def yX5_leadsBack : MethodName := ⟨RX5, "leadsBack", "(IIII)Z"⟩
abbrev cX5_cutFound : ByteArray := prog_7_method_5_code
def yX5_cutFound : MethodName := ⟨RX5, "cutFound", "()V"⟩
abbrev cX5_behind : ByteArray := prog_7_method_6_code
def yX5_behind : MethodName := ⟨RX5, "behind", "(I)I"⟩
def RX6 : String := "ClearingGates$Runner"
def TX6 : u_T := fun k => match k with
  | 0 => ("ClearingGates$Runner", "books", "LClearingGates$Books;", true)
  | 1 => ("ClearingGates$Runner", "marks", "[I", true)
  | 2 => ("ClearingGates$Runner", "markCount", "I", false)
  | 3 => ("ClearingGates$Runner", "held", "[I", true)
  | 4 => ("ClearingGates$Runner", "keptBalances", "[[I", true)
  | 5 => ("ClearingGates$Runner", "keptFees", "[J", true)
  | 6 => ("ClearingGates$Runner", "begun", "I", false)
  | _ => ("ClearingGates$Runner", "program", "LClearingGates$Program;", false)
def tyX6 : Nat → FieldType := fun k => match k with
  | 0 => .object "ClearingGates$Books"
  | 1 => .array .int
  | 2 => .int
  | 3 => .array .int
  | 4 => .array (.array .int)
  | 5 => .array .long
  | 6 => .int
  | _ => .object "ClearingGates$Program"
abbrev wsX60 : List Cond := u_ws RX6 TX6 8
theorem nmX6 : ∀ a, a < 8 → ∀ b, b < 8 → a ≠ b → (TX6 a).2.1 ≠ (TX6 b).2.1 := by decide +kernel
theorem tyX6_ok : ∀ k, k < 8 → parseFieldDescriptor (TX6 k).2.2.1 = some (tyX6 k) := by decide +kernel
abbrev cX6_init : ByteArray := prog_8_method_1_code
def yX6_init : MethodName := ⟨RX6, "<init>", "(LClearingGates$Books;)V"⟩
abbrev cX6_keptMarks : ByteArray := prog_8_method_2_code
def yX6_keptMarks : MethodName := ⟨RX6, "keptMarks", "()I"⟩
abbrev cX6_outcomeOf : ByteArray := prog_8_method_3_code
def yX6_outcomeOf : MethodName := ⟨RX6, "outcomeOf", "(LClearingGates$Program;)I"⟩
abbrev cX6_items : ByteArray := prog_8_method_4_code
def yX6_items : MethodName := ⟨RX6, "items", "(III)I"⟩
abbrev cX6_item : ByteArray := prog_8_method_5_code
def yX6_item : MethodName := ⟨RX6, "item", "(II)I"⟩
abbrev cX6_inside : ByteArray := prog_8_method_6_code
def yX6_inside : MethodName := ⟨RX6, "inside", "(III)I"⟩
abbrev cX6_block : ByteArray := prog_8_method_7_code
def yX6_block : MethodName := ⟨RX6, "block", "(II)I"⟩
abbrev cX6_attempt : ByteArray := prog_8_method_8_code
def yX6_attempt : MethodName := ⟨RX6, "attempt", "(III)I"⟩
abbrev cX6_loop : ByteArray := prog_8_method_9_code
def yX6_loop : MethodName := ⟨RX6, "loop", "(II)I"⟩
abbrev cX6_payment : ByteArray := prog_8_method_10_code
def yX6_payment : MethodName := ⟨RX6, "payment", "(I)I"⟩
abbrev cX6_bell : ByteArray := prog_8_method_11_code
def yX6_bell : MethodName := ⟨RX6, "bell", "(II)I"⟩
abbrev cX6_isHeld : ByteArray := prog_8_method_12_code
def yX6_isHeld : MethodName := ⟨RX6, "isHeld", "(I)Z"⟩
abbrev cX6_isGreaterHeld : ByteArray := prog_8_method_13_code
def yX6_isGreaterHeld : MethodName := ⟨RX6, "isGreaterHeld", "(I)Z"⟩
abbrev cX6_mark : ByteArray := prog_8_method_14_code
def yX6_mark : MethodName := ⟨RX6, "mark", "(I)V"⟩
abbrev cX6_keep : ByteArray := prog_8_method_15_code
def yX6_keep : MethodName := ⟨RX6, "keep", "(I)V"⟩
abbrev cX6_undo : ByteArray := prog_8_method_16_code
def yX6_undo : MethodName := ⟨RX6, "undo", "(I)V"⟩
def RX7 : String := "ClearingGates$Sheet"
def TX7 : u_T := fun k => match k with
  | 0 => ("ClearingGates$Sheet", "sort", "I", false)
  | 1 => ("ClearingGates$Sheet", "size", "I", false)
  | _ => ("ClearingGates$Sheet", "items", "[I", true)
def tyX7 : Nat → FieldType := fun k => match k with
  | 0 => .int
  | 1 => .int
  | _ => .array .int
abbrev wsX70 : List Cond := u_ws RX7 TX7 3
theorem nmX7 : ∀ a, a < 3 → ∀ b, b < 3 → a ≠ b → (TX7 a).2.1 ≠ (TX7 b).2.1 := by decide +kernel
theorem tyX7_ok : ∀ k, k < 3 → parseFieldDescriptor (TX7 k).2.2.1 = some (tyX7 k) := by decide +kernel
abbrev cX7_init : ByteArray := prog_9_method_1_code
def yX7_init : MethodName := ⟨RX7, "<init>", "()V"⟩
abbrev cX7_isMissing : ByteArray := prog_9_method_2_code
def yX7_isMissing : MethodName := ⟨RX7, "isMissing", "()Z"⟩
abbrev cX7_hasPlace : ByteArray := prog_9_method_3_code
def yX7_hasPlace : MethodName := ⟨RX7, "hasPlace", "(I)Z"⟩
abbrev cX7_hasStretch : ByteArray := prog_9_method_4_code
def yX7_hasStretch : MethodName := ⟨RX7, "hasStretch", "(II)Z"⟩
abbrev cX7_become : ByteArray := prog_9_method_5_code
def yX7_become : MethodName := ⟨RX7, "become", "(II)V"⟩
abbrev cX7_write : ByteArray := prog_9_method_6_code
def yX7_write : MethodName := ⟨RX7, "write", "(II)V"⟩
abbrev cX7_takeOver : ByteArray := prog_9_method_7_code
def yX7_takeOver : MethodName := ⟨RX7, "takeOver", "([II)V"⟩
abbrev cX7_firstUnlike : ByteArray := prog_9_method_8_code
def yX7_firstUnlike : MethodName := ⟨RX7, "firstUnlike", "([II)I"⟩
def RX8 : String := "ClearingGates$Tape"
def TX8 : u_T := fun k => match k with
  | 0 => ("ClearingGates$Tape", "bytes", "[I", true)
  | _ => ("ClearingGates$Tape", "size", "I", false)
def tyX8 : Nat → FieldType := fun k => match k with
  | 0 => .array .int
  | _ => .int
abbrev wsX80 : List Cond := u_ws RX8 TX8 2
theorem nmX8 : ∀ a, a < 2 → ∀ b, b < 2 → a ≠ b → (TX8 a).2.1 ≠ (TX8 b).2.1 := by decide +kernel
theorem tyX8_ok : ∀ k, k < 2 → parseFieldDescriptor (TX8 k).2.2.1 = some (tyX8 k) := by decide +kernel
abbrev cX8_init : ByteArray := prog_10_method_1_code
def yX8_init : MethodName := ⟨RX8, "<init>", "()V"⟩
abbrev cX8_add : ByteArray := prog_10_method_2_code
def yX8_add : MethodName := ⟨RX8, "add", "(I)V"⟩
def RX9 : String := "ClearingGates"
def TX9 : u_T := fun k => match k with
  | 0 => ("ClearingGates", "books", "LClearingGates$Books;", true)
  | 1 => ("ClearingGates", "imageBooks", "LClearingGates$Books;", true)
  | 2 => ("ClearingGates", "debts", "LClearingGates$Debts;", true)
  | 3 => ("ClearingGates", "imageDebts", "LClearingGates$Debts;", true)
  | 4 => ("ClearingGates", "rings", "LClearingGates$Rings;", true)
  | 5 => ("ClearingGates", "programs", "[LClearingGates$Program;", true)
  | 6 => ("ClearingGates", "programCount", "I", false)
  | 7 => ("ClearingGates", "imagePrograms", "I", false)
  | 8 => ("ClearingGates", "tape", "LClearingGates$Tape;", true)
  | 9 => ("ClearingGates", "reader", "LClearingGates$Reader;", true)
  | 10 => ("ClearingGates", "truly", "LClearingGates$Runner;", true)
  | 11 => ("ClearingGates", "thought", "LClearingGates$Runner;", true)
  | _ => ("ClearingGates", "sheets", "[LClearingGates$Sheet;", true)
def tyX9 : Nat → FieldType := fun k => match k with
  | 0 => .object "ClearingGates$Books"
  | 1 => .object "ClearingGates$Books"
  | 2 => .object "ClearingGates$Debts"
  | 3 => .object "ClearingGates$Debts"
  | 4 => .object "ClearingGates$Rings"
  | 5 => .array (.object "ClearingGates$Program")
  | 6 => .int
  | 7 => .int
  | 8 => .object "ClearingGates$Tape"
  | 9 => .object "ClearingGates$Reader"
  | 10 => .object "ClearingGates$Runner"
  | 11 => .object "ClearingGates$Runner"
  | _ => .array (.object "ClearingGates$Sheet")
abbrev wsX90 : List Cond := u_ws RX9 TX9 13
theorem nmX9 : ∀ a, a < 13 → ∀ b, b < 13 → a ≠ b → (TX9 a).2.1 ≠ (TX9 b).2.1 := by decide +kernel
theorem tyX9_ok : ∀ k, k < 13 → parseFieldDescriptor (TX9 k).2.2.1 = some (tyX9 k) := by decide +kernel
abbrev cX9_init : ByteArray := prog_1_method_1_code
def yX9_init : MethodName := ⟨RX9, "<init>", "()V"⟩
abbrev cX9_account : ByteArray := prog_1_method_2_code
def yX9_account : MethodName := ⟨RX9, "account", "(II)I"⟩
abbrev cX9_set : ByteArray := prog_1_method_3_code
def yX9_set : MethodName := ⟨RX9, "set", "(III)J"⟩
abbrev cX9_gate : ByteArray := prog_1_method_4_code
def yX9_gate : MethodName := ⟨RX9, "gate", "(IZ)I"⟩
abbrev cX9_told : ByteArray := prog_1_method_5_code
def yX9_told : MethodName := ⟨RX9, "told", "(II)I"⟩
abbrev cX9_of : ByteArray := prog_1_method_6_code
def yX9_of : MethodName := ⟨RX9, "of", "(II)J"⟩
abbrev cX9_count : ByteArray := prog_1_method_7_code
def yX9_count : MethodName := ⟨RX9, "count", "(I)I"⟩
abbrev cX9_sum : ByteArray := prog_1_method_8_code
def yX9_sum : MethodName := ⟨RX9, "sum", "(I)J"⟩
abbrev cX9_taken : ByteArray := prog_1_method_9_code
def yX9_taken : MethodName := ⟨RX9, "taken", "(II)I"⟩
abbrev cX9_feed : ByteArray := prog_1_method_10_code
def yX9_feed : MethodName := ⟨RX9, "feed", "(IIIIII)I"⟩
abbrev cX9_program : ByteArray := prog_1_method_11_code
def yX9_program : MethodName := ⟨RX9, "program", "()I"⟩
abbrev cX9_run : ByteArray := prog_1_method_12_code
def yX9_run : MethodName := ⟨RX9, "run", "(I)I"⟩
abbrev cX9_trace : ByteArray := prog_1_method_13_code
def yX9_trace : MethodName := ⟨RX9, "trace", "(I)I"⟩
abbrev cX9_would : ByteArray := prog_1_method_14_code
def yX9_would : MethodName := ⟨RX9, "would", "(II)J"⟩
abbrev cX9_needed : ByteArray := prog_1_method_15_code
def yX9_needed : MethodName := ⟨RX9, "needed", "(II)I"⟩
abbrev cX9_hinges : ByteArray := prog_1_method_16_code
def yX9_hinges : MethodName := ⟨RX9, "hinges", "(I)I"⟩
abbrev cX9_owe : ByteArray := prog_1_method_17_code
def yX9_owe : MethodName := ⟨RX9, "owe", "(III)I"⟩
abbrev cX9_owed : ByteArray := prog_1_method_18_code
def yX9_owed : MethodName := ⟨RX9, "owed", "(II)I"⟩
abbrev cX9_net : ByteArray := prog_1_method_19_code
def yX9_net : MethodName := ⟨RX9, "net", "()I"⟩
abbrev cX9_tells : ByteArray := prog_1_method_20_code
def yX9_tells : MethodName := ⟨RX9, "tells", "(IIII)I"⟩
abbrev cX9_film : ByteArray := prog_1_method_21_code
def yX9_film : MethodName := ⟨RX9, "film", "(II)I"⟩
abbrev cX9_image : ByteArray := prog_1_method_22_code
def yX9_image : MethodName := ⟨RX9, "image", "()I"⟩
abbrev cX9_back : ByteArray := prog_1_method_23_code
def yX9_back : MethodName := ⟨RX9, "back", "()I"⟩
abbrev cX9_sheet : ByteArray := prog_1_method_24_code
def yX9_sheet : MethodName := ⟨RX9, "sheet", "(III)I"⟩
abbrev cX9_put : ByteArray := prog_1_method_25_code
def yX9_put : MethodName := ⟨RX9, "put", "(III)I"⟩
abbrev cX9_copy : ByteArray := prog_1_method_26_code
def yX9_copy : MethodName := ⟨RX9, "copy", "(IIIII)I"⟩
abbrev cX9_load : ByteArray := prog_1_method_27_code
def yX9_load : MethodName := ⟨RX9, "load", "(IIII)I"⟩
abbrev cX9_isWithin : ByteArray := prog_1_method_28_code
def yX9_isWithin : MethodName := ⟨RX9, "isWithin", "(II)Z"⟩
abbrev cX9_isByte : ByteArray := prog_1_method_29_code
def yX9_isByte : MethodName := ⟨RX9, "isByte", "(I)Z"⟩
abbrev cX9_isSheet : ByteArray := prog_1_method_30_code
def yX9_isSheet : MethodName := ⟨RX9, "isSheet", "(I)Z"⟩
abbrev cX9_isProgram : ByteArray := prog_1_method_31_code
def yX9_isProgram : MethodName := ⟨RX9, "isProgram", "(I)Z"⟩
abbrev cX9_isPair : ByteArray := prog_1_method_32_code
def yX9_isPair : MethodName := ⟨RX9, "isPair", "(II)Z"⟩
abbrev cX9_isOfWould : ByteArray := prog_1_method_33_code
def yX9_isOfWould : MethodName := ⟨RX9, "isOfWould", "(I)Z"⟩
abbrev cX9_outcomeInThought : ByteArray := prog_1_method_34_code
def yX9_outcomeInThought : MethodName := ⟨RX9, "outcomeInThought", "(I)I"⟩
abbrev cX9_kindsToldBy : ByteArray := prog_1_method_35_code
def yX9_kindsToldBy : MethodName := ⟨RX9, "kindsToldBy", "(LClearingGates$Sheet;II)I"⟩
def RX10 : String := "ClearingGatesModel"
def TX10 : u_T := fun k => match k with
  | 0 => ("ClearingGatesModel", "s", "[I", true)
  | 1 => ("ClearingGatesModel", "fees", "J", false)
  | 2 => ("ClearingGatesModel", "thought", "[I", true)
  | 3 => ("ClearingGatesModel", "thoughtFees", "J", false)
  | 4 => ("ClearingGatesModel", "image", "[I", true)
  | 5 => ("ClearingGatesModel", "imageFees", "J", false)
  | 6 => ("ClearingGatesModel", "hasImage", "Z", false)
  | 7 => ("ClearingGatesModel", "tape", "[I", true)
  | 8 => ("ClearingGatesModel", "taped", "I", false)
  | 9 => ("ClearingGatesModel", "texts", "[I", true)
  | 10 => ("ClearingGatesModel", "sizes", "[I", true)
  | 11 => ("ClearingGatesModel", "programs", "I", false)
  | 12 => ("ClearingGatesModel", "imageTexts", "[I", true)
  | 13 => ("ClearingGatesModel", "imageSizes", "[I", true)
  | 14 => ("ClearingGatesModel", "imagePrograms", "I", false)
  | 15 => ("ClearingGatesModel", "here", "I", false)
  | 16 => ("ClearingGatesModel", "open", "I", false)
  | 17 => ("ClearingGatesModel", "running", "I", false)
  | 18 => ("ClearingGatesModel", "begun", "I", false)
  | 19 => ("ClearingGatesModel", "held", "[I", true)
  | 20 => ("ClearingGatesModel", "marks", "[I", true)
  | 21 => ("ClearingGatesModel", "markMany", "I", false)
  | 22 => ("ClearingGatesModel", "trace", "[I", true)
  | 23 => ("ClearingGatesModel", "traced", "I", false)
  | 24 => ("ClearingGatesModel", "keptBalances", "[I", true)
  | 25 => ("ClearingGatesModel", "keptFees", "[J", true)
  | 26 => ("ClearingGatesModel", "deep", "I", false)
  | 27 => ("ClearingGatesModel", "way", "[I", true)
  | 28 => ("ClearingGatesModel", "sorts", "[I", true)
  | 29 => ("ClearingGatesModel", "rowMany", "[I", true)
  | 30 => ("ClearingGatesModel", "items", "[I", true)
  | _ => ("ClearingGatesModel", "moved", "[I", true)
def tyX10 : Nat → FieldType := fun k => match k with
  | 0 => .array .int
  | 1 => .long
  | 2 => .array .int
  | 3 => .long
  | 4 => .array .int
  | 5 => .long
  | 6 => .boolean
  | 7 => .array .int
  | 8 => .int
  | 9 => .array .int
  | 10 => .array .int
  | 11 => .int
  | 12 => .array .int
  | 13 => .array .int
  | 14 => .int
  | 15 => .int
  | 16 => .int
  | 17 => .int
  | 18 => .int
  | 19 => .array .int
  | 20 => .array .int
  | 21 => .int
  | 22 => .array .int
  | 23 => .int
  | 24 => .array .int
  | 25 => .array .long
  | 26 => .int
  | 27 => .array .int
  | 28 => .array .int
  | 29 => .array .int
  | 30 => .array .int
  | _ => .array .int
abbrev wsX100 : List Cond := u_ws RX10 TX10 32
theorem nmX10 : ∀ a, a < 32 → ∀ b, b < 32 → a ≠ b → (TX10 a).2.1 ≠ (TX10 b).2.1 := by decide +kernel
theorem tyX10_ok : ∀ k, k < 32 → parseFieldDescriptor (TX10 k).2.2.1 = some (tyX10 k) := by decide +kernel
abbrev cX10_init : ByteArray := prog_12_method_1_code
def yX10_init : MethodName := ⟨RX10, "<init>", "()V"⟩
abbrev cX10_isIn : ByteArray := prog_12_method_2_code
def yX10_isIn : MethodName := ⟨RX10, "isIn", "(JJJ)Z"⟩
abbrev cX10_isAccount : ByteArray := prog_12_method_3_code
def yX10_isAccount : MethodName := ⟨RX10, "isAccount", "(I)Z"⟩
abbrev cX10_account : ByteArray := prog_12_method_4_code
def yX10_account : MethodName := ⟨RX10, "account", "(II)I"⟩
abbrev cX10_set : ByteArray := prog_12_method_5_code
def yX10_set : MethodName := ⟨RX10, "set", "(III)J"⟩
abbrev cX10_gate : ByteArray := prog_12_method_6_code
def yX10_gate : MethodName := ⟨RX10, "gate", "(IZ)I"⟩
abbrev cX10_feeOf : ByteArray := prog_12_method_7_code
def yX10_feeOf : MethodName := ⟨RX10, "feeOf", "(II)I"⟩
abbrev cX10_floorOf : ByteArray := prog_12_method_8_code
def yX10_floorOf : MethodName := ⟨RX10, "floorOf", "(I)I"⟩
abbrev cX10_told : ByteArray := prog_12_method_9_code
def yX10_told : MethodName := ⟨RX10, "told", "(II)I"⟩
abbrev cX10_owedTo : ByteArray := prog_12_method_10_code
def yX10_owedTo : MethodName := ⟨RX10, "owedTo", "(II)I"⟩
abbrev cX10_positionOf : ByteArray := prog_12_method_11_code
def yX10_positionOf : MethodName := ⟨RX10, "positionOf", "(I)J"⟩
abbrev cX10_of : ByteArray := prog_12_method_12_code
def yX10_of : MethodName := ⟨RX10, "of", "(II)J"⟩
abbrev cX10_count : ByteArray := prog_12_method_13_code
def yX10_count : MethodName := ⟨RX10, "count", "(I)I"⟩
abbrev cX10_sum : ByteArray := prog_12_method_14_code
def yX10_sum : MethodName := ⟨RX10, "sum", "(I)J"⟩
abbrev cX10_above : ByteArray := prog_12_method_15_code
def yX10_above : MethodName := ⟨RX10, "above", "(I)I"⟩
abbrev cX10_taken : ByteArray := prog_12_method_16_code
def yX10_taken : MethodName := ⟨RX10, "taken", "(II)I"⟩
abbrev cX10_isByte : ByteArray := prog_12_method_17_code
def yX10_isByte : MethodName := ⟨RX10, "isByte", "(I)Z"⟩
abbrev cX10_feed : ByteArray := prog_12_method_18_code
def yX10_feed : MethodName := ⟨RX10, "feed", "(IIIIII)I"⟩
abbrev cX10_byteAt : ByteArray := prog_12_method_19_code
def yX10_byteAt : MethodName := ⟨RX10, "byteAt", "()I"⟩
abbrev cX10_takesFigure : ByteArray := prog_12_method_20_code
def yX10_takesFigure : MethodName := ⟨RX10, "takesFigure", "(II)Z"⟩
abbrev cX10_takesBracket : ByteArray := prog_12_method_21_code
def yX10_takesBracket : MethodName := ⟨RX10, "takesBracket", "(IZ)Z"⟩
abbrev cX10_takesPayment : ByteArray := prog_12_method_22_code
def yX10_takesPayment : MethodName := ⟨RX10, "takesPayment", "()Z"⟩
abbrev cX10_takesItem : ByteArray := prog_12_method_23_code
def yX10_takesItem : MethodName := ⟨RX10, "takesItem", "(Z)Z"⟩
abbrev cX10_program : ByteArray := prog_12_method_24_code
def yX10_program : MethodName := ⟨RX10, "program", "()I"⟩
abbrev cX10_marks : ByteArray := prog_12_method_25_code
def yX10_marks : MethodName := ⟨RX10, "marks", "(I)V"⟩
abbrev cX10_signAt : ByteArray := prog_12_method_26_code
def yX10_signAt : MethodName := ⟨RX10, "signAt", "(I)I"⟩
abbrev cX10_figureAt : ByteArray := prog_12_method_27_code
def yX10_figureAt : MethodName := ⟨RX10, "figureAt", "(I)I"⟩
abbrev cX10_hasGate : ByteArray := prog_12_method_28_code
def yX10_hasGate : MethodName := ⟨RX10, "hasGate", "(I)Z"⟩
abbrev cX10_behind : ByteArray := prog_12_method_29_code
def yX10_behind : MethodName := ⟨RX10, "behind", "(I)I"⟩
abbrev cX10_insideOf : ByteArray := prog_12_method_30_code
def yX10_insideOf : MethodName := ⟨RX10, "insideOf", "(I)I"⟩
abbrev cX10_isClosed : ByteArray := prog_12_method_31_code
def yX10_isClosed : MethodName := ⟨RX10, "isClosed", "(I)Z"⟩
abbrev cX10_keepsBooks : ByteArray := prog_12_method_32_code
def yX10_keepsBooks : MethodName := ⟨RX10, "keepsBooks", "()V"⟩
abbrev cX10_forgetsBooks : ByteArray := prog_12_method_33_code
def yX10_forgetsBooks : MethodName := ⟨RX10, "forgetsBooks", "(Z)V"⟩
abbrev cX10_does : ByteArray := prog_12_method_34_code
def yX10_does : MethodName := ⟨RX10, "does", "(I)I"⟩
abbrev cX10_block : ByteArray := prog_12_method_35_code
def yX10_block : MethodName := ⟨RX10, "block", "(I)I"⟩
abbrev cX10_pays : ByteArray := prog_12_method_36_code
def yX10_pays : MethodName := ⟨RX10, "pays", "(I)I"⟩
abbrev cX10_rings : ByteArray := prog_12_method_37_code
def yX10_rings : MethodName := ⟨RX10, "rings", "(II)I"⟩
abbrev cX10_loops : ByteArray := prog_12_method_38_code
def yX10_loops : MethodName := ⟨RX10, "loops", "(I)I"⟩
abbrev cX10_tries : ByteArray := prog_12_method_39_code
def yX10_tries : MethodName := ⟨RX10, "tries", "(IZ)I"⟩
abbrev cX10_doesItem : ByteArray := prog_12_method_40_code
def yX10_doesItem : MethodName := ⟨RX10, "doesItem", "(I)I"⟩
abbrev cX10_runs : ByteArray := prog_12_method_41_code
def yX10_runs : MethodName := ⟨RX10, "runs", "(I)I"⟩
abbrev cX10_isProgram : ByteArray := prog_12_method_42_code
def yX10_isProgram : MethodName := ⟨RX10, "isProgram", "(I)Z"⟩
abbrev cX10_run : ByteArray := prog_12_method_43_code
def yX10_run : MethodName := ⟨RX10, "run", "(I)I"⟩
abbrev cX10_trace : ByteArray := prog_12_method_44_code
def yX10_trace : MethodName := ⟨RX10, "trace", "(I)I"⟩
abbrev cX10_thinks : ByteArray := prog_12_method_45_code
def yX10_thinks : MethodName := ⟨RX10, "thinks", "()V"⟩
abbrev cX10_wakes : ByteArray := prog_12_method_46_code
def yX10_wakes : MethodName := ⟨RX10, "wakes", "()V"⟩
abbrev cX10_entries : ByteArray := prog_12_method_47_code
def yX10_entries : MethodName := ⟨RX10, "entries", "()J"⟩
abbrev cX10_would : ByteArray := prog_12_method_48_code
def yX10_would : MethodName := ⟨RX10, "would", "(II)J"⟩
abbrev cX10_outcomeOf : ByteArray := prog_12_method_49_code
def yX10_outcomeOf : MethodName := ⟨RX10, "outcomeOf", "(I)I"⟩
abbrev cX10_needed : ByteArray := prog_12_method_50_code
def yX10_needed : MethodName := ⟨RX10, "needed", "(II)I"⟩
abbrev cX10_hinges : ByteArray := prog_12_method_51_code
def yX10_hinges : MethodName := ⟨RX10, "hinges", "(I)I"⟩
abbrev cX10_areTwo : ByteArray := prog_12_method_52_code
def yX10_areTwo : MethodName := ⟨RX10, "areTwo", "(II)Z"⟩
abbrev cX10_owe : ByteArray := prog_12_method_53_code
def yX10_owe : MethodName := ⟨RX10, "owe", "(III)I"⟩
abbrev cX10_owed : ByteArray := prog_12_method_54_code
def yX10_owed : MethodName := ⟨RX10, "owed", "(II)I"⟩
abbrev cX10_ringFrom : ByteArray := prog_12_method_55_code
def yX10_ringFrom : MethodName := ⟨RX10, "ringFrom", "(II)I"⟩
abbrev cX10_firstRing : ByteArray := prog_12_method_56_code
def yX10_firstRing : MethodName := ⟨RX10, "firstRing", "()I"⟩
abbrev cX10_net : ByteArray := prog_12_method_57_code
def yX10_net : MethodName := ⟨RX10, "net", "()I"⟩
abbrev cX10_isSheet : ByteArray := prog_12_method_58_code
def yX10_isSheet : MethodName := ⟨RX10, "isSheet", "(I)Z"⟩
abbrev cX10_itemOf : ByteArray := prog_12_method_59_code
def yX10_itemOf : MethodName := ⟨RX10, "itemOf", "(II)I"⟩
abbrev cX10_otherIn : ByteArray := prog_12_method_60_code
def yX10_otherIn : MethodName := ⟨RX10, "otherIn", "(II)I"⟩
abbrev cX10_tells : ByteArray := prog_12_method_61_code
def yX10_tells : MethodName := ⟨RX10, "tells", "(IIII)I"⟩
abbrev cX10_film : ByteArray := prog_12_method_62_code
def yX10_film : MethodName := ⟨RX10, "film", "(II)I"⟩
abbrev cX10_image : ByteArray := prog_12_method_63_code
def yX10_image : MethodName := ⟨RX10, "image", "()I"⟩
abbrev cX10_back : ByteArray := prog_12_method_64_code
def yX10_back : MethodName := ⟨RX10, "back", "()I"⟩
abbrev cX10_sheet : ByteArray := prog_12_method_65_code
def yX10_sheet : MethodName := ⟨RX10, "sheet", "(III)I"⟩
abbrev cX10_put : ByteArray := prog_12_method_66_code
def yX10_put : MethodName := ⟨RX10, "put", "(III)I"⟩
abbrev cX10_copy : ByteArray := prog_12_method_67_code
def yX10_copy : MethodName := ⟨RX10, "copy", "(IIIII)I"⟩
abbrev cX10_load : ByteArray := prog_12_method_68_code
def yX10_load : MethodName := ⟨RX10, "load", "(IIII)I"⟩
def RJ9 : String := "java/lang/Math"
def TJ9 : u_T := fun k => match k with
  | _ => ("", "", "", false)
def tyJ9 : Nat → FieldType := fun k => match k with
  | _ => .int
abbrev wsJ90 : List Cond := u_ws RJ9 TJ9 0
theorem nmJ9 : ∀ a, a < 0 → ∀ b, b < 0 → a ≠ b → (TJ9 a).2.1 ≠ (TJ9 b).2.1 := by decide +kernel
theorem tyJ9_ok : ∀ k, k < 0 → parseFieldDescriptor (TJ9 k).2.2.1 = some (tyJ9 k) := by decide +kernel
abbrev cJ9_max_7cf53 : ByteArray := prog_13_method_65_code
def yJ9_max_7cf53 : MethodName := ⟨RJ9, "max", "(II)I"⟩
abbrev cJ9_min_7cf53 : ByteArray := prog_13_method_69_code
def yJ9_min_7cf53 : MethodName := ⟨RJ9, "min", "(II)I"⟩
def RJ10 : String := "java/lang/System"
def TJ10 : u_T := fun k => match k with
  | _ => ("", "", "", false)
def tyJ10 : Nat → FieldType := fun k => match k with
  | _ => .int
abbrev wsJ100 : List Cond := u_ws RJ10 TJ10 0
theorem nmJ10 : ∀ a, a < 0 → ∀ b, b < 0 → a ≠ b → (TJ10 a).2.1 ≠ (TJ10 b).2.1 := by decide +kernel
theorem tyJ10_ok : ∀ k, k < 0 → parseFieldDescriptor (TJ10 k).2.2.1 = some (tyJ10 k) := by decide +kernel
def RL : String := "ClearingGatesLaw"
abbrev cL_law : ByteArray := code
def yL_law : MethodName := ⟨RL, "law", "([I)Z"⟩
def wsJ9_max_7cf53 : List Cond := .code yJ9_max_7cf53 cJ9_max_7cf53 2 (some .int) :: ([])
def wsJ9_min_7cf53 : List Cond := .code yJ9_min_7cf53 cJ9_min_7cf53 2 (some .int) :: ([])
abbrev vwCl : List vw_C := [(RX0, TX0, 13), (RX1, TX1, 1), (RX3, TX3, 3), (RX4, TX4, 5), (RX5, TX5, 4), (RX6, TX6, 8), (RX7, TX7, 3), (RX8, TX8, 2), (RX9, TX9, 13), (RX10, TX10, 32)]
def wsL_law_r1 : List Cond := [Cond.selects RX4 yX4_step yX4_step, Cond.selects RX4 yX4_openingWithFigure yX4_openingWithFigure, Cond.selects RX4 yX4_opening yX4_opening, Cond.selects RX4 yX4_faultAt yX4_faultAt, Cond.selects RX4 yX4_isFigure yX4_isFigure, Cond.selects RX4 yX4_closing yX4_closing, Cond.selects RX4 yX4_ends yX4_ends, Cond.selects RX4 yX4_payment yX4_payment, Cond.selects RX4 yX4_bell yX4_bell, Cond.selects RX9 yX9_isProgram yX9_isProgram, Cond.selects RX6 yX6_keep yX6_keep, Cond.selects RX6 yX6_items yX6_items, Cond.selects RX6 yX6_item yX6_item, Cond.selects RX6 yX6_block yX6_block, Cond.selects RX6 yX6_isGreaterHeld yX6_isGreaterHeld, Cond.selects RX6 yX6_mark yX6_mark, Cond.selects RX6 yX6_inside yX6_inside, Cond.selects RX6 yX6_attempt yX6_attempt, Cond.selects RX6 yX6_undo yX6_undo, Cond.selects RX6 yX6_loop yX6_loop, Cond.selects RX6 yX6_payment yX6_payment, Cond.selects RX6 yX6_isHeld yX6_isHeld, Cond.selects RX6 yX6_bell yX6_bell, Cond.selects RX9 yX9_isOfWould yX9_isOfWould]
def wsL_law_r2 : List Cond := [Cond.selects RX9 yX9_outcomeInThought yX9_outcomeInThought, Cond.selects RX9 yX9_isPair yX9_isPair, Cond.selects RX5 yX5_findsFirst yX5_findsFirst, Cond.selects RX5 yX5_leadsBack yX5_leadsBack, Cond.selects RX5 yX5_cutFound yX5_cutFound, Cond.selects RX5 yX5_behind yX5_behind, Cond.selects RX9 yX9_kindsToldBy yX9_kindsToldBy, Cond.selects RX10 yX10_isAccount yX10_isAccount, Cond.selects RX10 yX10_feeOf yX10_feeOf, Cond.selects RX10 yX10_floorOf yX10_floorOf, Cond.selects RX10 yX10_positionOf yX10_positionOf, Cond.selects RX10 yX10_owedTo yX10_owedTo, Cond.selects RX10 yX10_takesItem yX10_takesItem, Cond.selects RX10 yX10_byteAt yX10_byteAt, Cond.selects RX10 yX10_takesBracket yX10_takesBracket, Cond.selects RX10 yX10_takesFigure yX10_takesFigure, Cond.selects RX10 yX10_takesPayment yX10_takesPayment, Cond.selects RX10 yX10_isProgram yX10_isProgram, Cond.selects RX10 yX10_runs yX10_runs, Cond.selects RX10 yX10_keepsBooks yX10_keepsBooks, Cond.selects RX10 yX10_does yX10_does, Cond.selects RX10 yX10_isClosed yX10_isClosed, Cond.selects RX10 yX10_signAt yX10_signAt, Cond.selects RX10 yX10_doesItem yX10_doesItem]
def wsL_law_r3 : List Cond := [Cond.selects RX10 yX10_block yX10_block, Cond.selects RX10 yX10_figureAt yX10_figureAt, Cond.selects RX10 yX10_hasGate yX10_hasGate, Cond.selects RX10 yX10_marks yX10_marks, Cond.selects RX10 yX10_insideOf yX10_insideOf, Cond.selects RX10 yX10_tries yX10_tries, Cond.selects RX10 yX10_forgetsBooks yX10_forgetsBooks, Cond.selects RX10 yX10_loops yX10_loops, Cond.selects RX10 yX10_pays yX10_pays, Cond.selects RX10 yX10_behind yX10_behind, Cond.selects RX10 yX10_rings yX10_rings, Cond.selects RX10 yX10_entries yX10_entries, Cond.selects RX10 yX10_thinks yX10_thinks, Cond.selects RX10 yX10_wakes yX10_wakes, Cond.selects RX10 yX10_outcomeOf yX10_outcomeOf, Cond.selects RX10 yX10_areTwo yX10_areTwo, Cond.selects RX10 yX10_firstRing yX10_firstRing, Cond.selects RX10 yX10_ringFrom yX10_ringFrom, Cond.selects RX10 yX10_otherIn yX10_otherIn, Cond.selects RX10 yX10_itemOf yX10_itemOf, Cond.initialized RX9, Cond.initialized RX0, Cond.initialized RX1, Cond.initialized RX5]
def wsL_law_r4 : List Cond := [Cond.initialized RX3, Cond.initialized RX8, Cond.initialized RX4, Cond.initialized RX6, Cond.initialized RX7, Cond.initialized RX10, Cond.initialized RX2, Cond.initialized "java/lang/Math", Cond.initialized "java/lang/System", Cond.classLink RL 7 RX9, Cond.instantiable RX9 13, Cond.methodLink RL 9 yX9_init, Cond.instanceMethod yX9_init, Cond.code yX9_init cX9_init 2 none, Cond.methodLink RX9 3 objectInit, Cond.instanceMethod objectInit, Cond.code objectInit ⟨#[0xb1]⟩ 1 none, Cond.classLink RX9 9 RX0, Cond.instantiable RX0 13, Cond.instanceMethod yX0_init, Cond.code yX0_init cX0_init 1 none, Cond.methodLink RX0 3 objectInit, Cond.fieldLink RX0 9 "ClearingGates$Books" "kinds" "[I", Cond.fieldLink RX9 118 "ClearingGates$Books" "kinds" "[I"]
def wsL_law_r5 : List Cond := [Cond.fieldLink RX0 15 "ClearingGates$Books" "balances" "[I", Cond.fieldLink RX9 107 "ClearingGates$Books" "balances" "[I", Cond.fieldLink RX6 134 "ClearingGates$Books" "balances" "[I", Cond.fieldLink RX0 18 "ClearingGates$Books" "limits" "[I", Cond.fieldLink RX9 111 "ClearingGates$Books" "limits" "[I", Cond.fieldLink RX0 21 "ClearingGates$Books" "gates" "[Z", Cond.fieldLink RX9 114 "ClearingGates$Books" "gates" "[Z", Cond.fieldLink RX0 25 "ClearingGates$Books" "entries" "[I", Cond.fieldLink RX9 121 "ClearingGates$Books" "entries" "[I", Cond.fieldLink RX6 107 "ClearingGates$Books" "entries" "[I", Cond.fieldLink RX0 28 "ClearingGates$Books" "leavings" "[I", Cond.fieldLink RX9 124 "ClearingGates$Books" "leavings" "[I", Cond.fieldLink RX6 119 "ClearingGates$Books" "leavings" "[I", Cond.fieldLink RX0 31 "ClearingGates$Books" "agains" "[I", Cond.fieldLink RX9 127 "ClearingGates$Books" "agains" "[I", Cond.fieldLink RX6 110 "ClearingGates$Books" "agains" "[I", Cond.fieldLink RX0 34 "ClearingGates$Books" "accounts" "I", Cond.fieldLink RX9 95 "ClearingGates$Books" "accounts" "I", Cond.fieldLink RX0 51 "ClearingGates$Books" "fees" "J", Cond.fieldLink RX9 163 "ClearingGates$Books" "fees" "J", Cond.fieldLink RX6 141 "ClearingGates$Books" "fees" "J", Cond.fieldLink RX6 101 "ClearingGates$Books" "missed" "I", Cond.fieldLink RX9 144 "ClearingGates$Books" "missed" "I", Cond.fieldLink RX0 61 "ClearingGates$Books" "missed" "I"]
def wsL_law_r6 : List Cond := [Cond.fieldLink RX9 147 "ClearingGates$Books" "bells" "I", Cond.fieldLink RX6 145 "ClearingGates$Books" "bells" "I", Cond.fieldLink RX0 64 "ClearingGates$Books" "bells" "I", Cond.fieldLink RX9 150 "ClearingGates$Books" "refused" "I", Cond.fieldLink RX6 148 "ClearingGates$Books" "refused" "I", Cond.fieldLink RX0 67 "ClearingGates$Books" "refused" "I", Cond.fieldLink RX9 153 "ClearingGates$Books" "caught" "I", Cond.fieldLink RX6 122 "ClearingGates$Books" "caught" "I", Cond.fieldLink RX0 70 "ClearingGates$Books" "caught" "I", Cond.arrayClass .int, Cond.arrayClass .boolean, Cond.classLink RX9 21 RX1, Cond.instantiable RX1 1, Cond.instanceMethod yX1_init, Cond.code yX1_init cX1_init 1 none, Cond.methodLink RX1 3 objectInit, Cond.fieldLink RX1 9 "ClearingGates$Debts" "row" "[I", Cond.classLink RX9 31 RX5, Cond.instantiable RX5 4, Cond.methodLink RX9 33 yX5_init, Cond.instanceMethod yX5_init, Cond.code yX5_init cX5_init 2 none, Cond.methodLink RX5 3 objectInit, Cond.fieldLink RX5 19 "ClearingGates$Rings" "debts" "LClearingGates$Debts;"]
def wsL_law_r7 : List Cond := [Cond.fieldLink RX5 9 "ClearingGates$Rings" "way" "[I", Cond.fieldLink RX5 40 "ClearingGates$Rings" "wayLength" "I", Cond.fieldLink RX5 15 "ClearingGates$Rings" "tried" "[Z", Cond.classLink RX9 40 RX3, Cond.instantiable RX3 3, Cond.instanceMethod yX3_init, Cond.code yX3_init cX3_init 1 none, Cond.methodLink RX3 3 objectInit, Cond.fieldLink RX3 9 "ClearingGates$Program" "bytes" "[I", Cond.fieldLink RX3 15 "ClearingGates$Program" "behind" "[I", Cond.fieldLink RX4 68 "ClearingGates$Program" "behind" "[I", Cond.fieldLink RX3 31 "ClearingGates$Program" "size" "I", Cond.fieldLink RX4 29 "ClearingGates$Program" "size" "I", Cond.fieldLink RX6 52 "ClearingGates$Program" "size" "I", Cond.classLink RX9 51 RX8, Cond.instantiable RX8 2, Cond.instanceMethod yX8_init, Cond.code yX8_init cX8_init 1 none, Cond.methodLink RX8 3 objectInit, Cond.fieldLink RX8 9 "ClearingGates$Tape" "bytes" "[I", Cond.fieldLink RX3 18 "ClearingGates$Tape" "bytes" "[I", Cond.fieldLink RX8 15 "ClearingGates$Tape" "size" "I", Cond.fieldLink RX3 27 "ClearingGates$Tape" "size" "I", Cond.fieldLink RX9 160 "ClearingGates$Tape" "size" "I"]
def wsL_law_r8 : List Cond := [Cond.classLink RX9 58 RX4, Cond.instantiable RX4 5, Cond.instanceMethod yX4_init, Cond.code yX4_init cX4_init 1 none, Cond.methodLink RX4 3 objectInit, Cond.fieldLink RX4 9 "ClearingGates$Reader" "opened" "[I", Cond.fieldLink RX4 19 "ClearingGates$Reader" "open" "I", Cond.fieldLink RX4 23 "ClearingGates$Reader" "loops" "I", Cond.fieldLink RX4 26 "ClearingGates$Reader" "fault" "I", Cond.fieldLink RX4 15 "ClearingGates$Reader" "program" "LClearingGates$Program;", Cond.classLink RX9 65 RX6, Cond.instantiable RX6 8, Cond.methodLink RX9 67 yX6_init, Cond.instanceMethod yX6_init, Cond.code yX6_init cX6_init 2 none, Cond.methodLink RX6 3 objectInit, Cond.classLink RX6 18 "[[I", Cond.fieldLink RX6 27 "ClearingGates$Runner" "books" "LClearingGates$Books;", Cond.fieldLink RX9 207 "ClearingGates$Runner" "books" "LClearingGates$Books;", Cond.fieldLink RX6 9 "ClearingGates$Runner" "marks" "[I", Cond.fieldLink RX9 198 "ClearingGates$Runner" "marks" "[I", Cond.fieldLink RX6 31 "ClearingGates$Runner" "markCount" "I", Cond.fieldLink RX9 208 "ClearingGates$Runner" "markCount" "I", Cond.fieldLink RX6 15 "ClearingGates$Runner" "held" "[I"]
def wsL_law_r9 : List Cond := [Cond.fieldLink RX6 20 "ClearingGates$Runner" "keptBalances" "[[I", Cond.fieldLink RX6 23 "ClearingGates$Runner" "keptFees" "[J", Cond.fieldLink RX6 45 "ClearingGates$Runner" "begun" "I", Cond.fieldLink RX6 41 "ClearingGates$Runner" "program" "LClearingGates$Program;", Cond.arrayClass .long, Cond.classLink RX9 77 RX7, Cond.instantiable RX7 3, Cond.instanceMethod yX7_init, Cond.code yX7_init cX7_init 1 none, Cond.methodLink RX7 3 objectInit, Cond.fieldLink RX7 11 "ClearingGates$Sheet" "sort" "I", Cond.fieldLink RX9 270 "ClearingGates$Sheet" "sort" "I", Cond.fieldLink RX7 19 "ClearingGates$Sheet" "size" "I", Cond.fieldLink RX9 247 "ClearingGates$Sheet" "size" "I", Cond.fieldLink RX7 15 "ClearingGates$Sheet" "items" "[I", Cond.fieldLink RX9 276 "ClearingGates$Sheet" "items" "[I", Cond.fieldLink RX9 12 "ClearingGates" "books" "LClearingGates$Books;", Cond.fieldLink RX9 18 "ClearingGates" "imageBooks" "LClearingGates$Books;", Cond.fieldLink RX9 24 "ClearingGates" "debts" "LClearingGates$Debts;", Cond.fieldLink RX9 28 "ClearingGates" "imageDebts" "LClearingGates$Debts;", Cond.fieldLink RX9 36 "ClearingGates" "rings" "LClearingGates$Rings;", Cond.fieldLink RX9 42 "ClearingGates" "programs" "[LClearingGates$Program;", Cond.fieldLink RX9 141 "ClearingGates" "programCount" "I", Cond.fieldLink RX9 47 "ClearingGates" "imagePrograms" "I"]
def wsL_law_r10 : List Cond := [Cond.fieldLink RX9 54 "ClearingGates" "tape" "LClearingGates$Tape;", Cond.fieldLink RX9 61 "ClearingGates" "reader" "LClearingGates$Reader;", Cond.fieldLink RX9 70 "ClearingGates" "truly" "LClearingGates$Runner;", Cond.fieldLink RX9 74 "ClearingGates" "thought" "LClearingGates$Runner;", Cond.fieldLink RX9 79 "ClearingGates" "sheets" "[LClearingGates$Sheet;", Cond.methodLink RL 13 yX9_account, Cond.instanceMethod yX9_account, Cond.selects RX9 yX9_account yX9_account, Cond.code yX9_account cX9_account 3 (some .int), Cond.methodLink RX9 84 yX2_isKind, Cond.static yX2_isKind, Cond.code yX2_isKind cX2_isKind 1 (some .boolean), Cond.constant RX9 90 (1000000000), Cond.methodLink RX9 91 yX9_isWithin, Cond.static yX9_isWithin, Cond.code yX9_isWithin cX9_isWithin 2 (some .boolean), Cond.methodLink RX9 98 yX0_open, Cond.instanceMethod yX0_open, Cond.selects RX0 yX0_open yX0_open, Cond.code yX0_open cX0_open 4 (some .int), Cond.methodLink RL 18 yX9_set, Cond.instanceMethod yX9_set, Cond.selects RX9 yX9_set yX9_set, Cond.code yX9_set cX9_set 5 (some .long)]
def wsL_law_r11 : List Cond := [Cond.methodLink RX9 102 yX0_has, Cond.instanceMethod yX0_has, Cond.selects RX0 yX0_has yX0_has, Cond.code yX0_has cX0_has 2 (some .boolean), Cond.constantLong RX9 105 (-9223372036854775808), Cond.methodLink RL 23 yX9_gate, Cond.instanceMethod yX9_gate, Cond.selects RX9 yX9_gate yX9_gate, Cond.code yX9_gate cX9_gate 4 (some .int), Cond.methodLink RL 28 yX9_told, Cond.instanceMethod yX9_told, Cond.selects RX9 yX9_told yX9_told, Cond.code yX9_told cX9_told 3 (some .int), Cond.methodLink RX9 130 yX0_feeOf, Cond.instanceMethod yX0_feeOf, Cond.selects RX0 yX0_feeOf yX0_feeOf, Cond.code yX0_feeOf cX0_feeOf 3 (some .int), Cond.methodLink RX0 42 yX2_feeOf, Cond.static yX2_feeOf, Cond.code yX2_feeOf cX2_feeOf 2 (some .int), Cond.methodLink RL 32 yX9_of, Cond.instanceMethod yX9_of, Cond.selects RX9 yX9_of yX9_of, Cond.code yX9_of cX9_of 3 (some .long)]
def wsL_law_r12 : List Cond := [Cond.methodLink RX9 133 yX0_floorOf, Cond.instanceMethod yX0_floorOf, Cond.selects RX0 yX0_floorOf yX0_floorOf, Cond.code yX0_floorOf cX0_floorOf 2 (some .int), Cond.methodLink RX0 48 yX2_floorOf, Cond.static yX2_floorOf, Cond.code yX2_floorOf cX2_floorOf 2 (some .int), Cond.methodLink RX9 137 yX1_positionOf, Cond.instanceMethod yX1_positionOf, Cond.selects RX1 yX1_positionOf yX1_positionOf, Cond.code yX1_positionOf cX1_positionOf 5 (some .long), Cond.methodLink RX1 15 yX1_between, Cond.instanceMethod yX1_between, Cond.selects RX1 yX1_between yX1_between, Cond.code yX1_between cX1_between 3 (some .int), Cond.methodLink RL 37 yX9_count, Cond.instanceMethod yX9_count, Cond.selects RX9 yX9_count yX9_count, Cond.code yX9_count cX9_count 2 (some .int), Cond.methodLink RX9 156 yX6_keptMarks, Cond.instanceMethod yX6_keptMarks, Cond.selects RX6 yX6_keptMarks yX6_keptMarks, Cond.code yX6_keptMarks cX6_keptMarks 1 (some .int), Cond.methodLink RX6 35 Lib.Math.min.name]
def wsL_law_r13 : List Cond := [Cond.static Lib.Math.min.name, Cond.code Lib.Math.min.name Lib.Math.min.code 2 (some .int), Cond.methodLink RL 42 yX9_sum, Cond.instanceMethod yX9_sum, Cond.selects RX9 yX9_sum yX9_sum, Cond.code yX9_sum cX9_sum 2 (some .long), Cond.methodLink RX9 167 yX0_allMoney, Cond.instanceMethod yX0_allMoney, Cond.selects RX0 yX0_allMoney yX0_allMoney, Cond.code yX0_allMoney cX0_allMoney 4 (some .long), Cond.methodLink RX9 171 yX1_total, Cond.instanceMethod yX1_total, Cond.selects RX1 yX1_total yX1_total, Cond.code yX1_total cX1_total 4 (some .long), Cond.methodLink RL 47 yX9_taken, Cond.instanceMethod yX9_taken, Cond.selects RX9 yX9_taken yX9_taken, Cond.code yX9_taken cX9_taken 3 (some .int), Cond.methodLink RX9 174 yX2_isOrIsUnder, Cond.static yX2_isOrIsUnder, Cond.code yX2_isOrIsUnder cX2_isOrIsUnder 2 (some .boolean), Cond.methodLink RL 51 yX9_feed, Cond.instanceMethod yX9_feed, Cond.selects RX9 yX9_feed yX9_feed]
def wsL_law_r14 : List Cond := [Cond.code yX9_feed cX9_feed 7 (some .int), Cond.methodLink RX9 177 yX9_isByte, Cond.static yX9_isByte, Cond.code yX9_isByte cX9_isByte 1 (some .boolean), Cond.methodLink RX9 180 yX8_add, Cond.instanceMethod yX8_add, Cond.selects RX8 yX8_add yX8_add, Cond.code yX8_add cX8_add 2 none, Cond.methodLink RL 56 yX9_program, Cond.instanceMethod yX9_program, Cond.selects RX9 yX9_program yX9_program, Cond.code yX9_program cX9_program 3 (some .int), Cond.methodLink RX9 184 yX3_takeOver, Cond.instanceMethod yX3_takeOver, Cond.selects RX3 yX3_takeOver yX3_takeOver, Cond.code yX3_takeOver cX3_takeOver 2 none, Cond.methodLink RX3 21 arraycopyName, Cond.static arraycopyName, Cond.native arraycopyName, Cond.methodLink RX9 188 yX4_faultOf, Cond.instanceMethod yX4_faultOf, Cond.selects RX4 yX4_faultOf yX4_faultOf, Cond.code yX4_faultOf cX4_faultOf 4 (some .int), Cond.methodLink RX4 34 yX4_step]
def wsL_law_r15 : List Cond := [Cond.instanceMethod yX4_step, Cond.code yX4_step cX4_step 2 (some .int), Cond.methodLink RX4 38 yX3_byteAt, Cond.instanceMethod yX3_byteAt, Cond.selects RX3 yX3_byteAt yX3_byteAt, Cond.code yX3_byteAt cX3_byteAt 2 (some .int), Cond.methodLink RX4 41 yX4_openingWithFigure, Cond.instanceMethod yX4_openingWithFigure, Cond.code yX4_openingWithFigure cX4_openingWithFigure 5 (some .int), Cond.methodLink RX4 45 yX4_opening, Cond.instanceMethod yX4_opening, Cond.code yX4_opening cX4_opening 2 (some .int), Cond.methodLink RX4 61 yX4_faultAt, Cond.instanceMethod yX4_faultAt, Cond.code yX4_faultAt cX4_faultAt 2 (some .int), Cond.methodLink RX4 64 yX4_isFigure, Cond.instanceMethod yX4_isFigure, Cond.code yX4_isFigure cX4_isFigure 4 (some .boolean), Cond.methodLink RX4 48 yX4_closing, Cond.instanceMethod yX4_closing, Cond.code yX4_closing cX4_closing 3 (some .int), Cond.methodLink RX4 58 yX4_ends, Cond.instanceMethod yX4_ends, Cond.code yX4_ends cX4_ends 3 (some .int)]
def wsL_law_r16 : List Cond := [Cond.methodLink RX4 52 yX4_payment, Cond.instanceMethod yX4_payment, Cond.code yX4_payment cX4_payment 4 (some .int), Cond.methodLink RX4 55 yX4_bell, Cond.instanceMethod yX4_bell, Cond.code yX4_bell cX4_bell 2 (some .int), Cond.methodLink RL 61 yX9_run, Cond.instanceMethod yX9_run, Cond.selects RX9 yX9_run yX9_run, Cond.code yX9_run cX9_run 2 (some .int), Cond.methodLink RX9 192 yX9_isProgram, Cond.instanceMethod yX9_isProgram, Cond.code yX9_isProgram cX9_isProgram 2 (some .boolean), Cond.methodLink RX9 195 yX6_outcomeOf, Cond.instanceMethod yX6_outcomeOf, Cond.selects RX6 yX6_outcomeOf yX6_outcomeOf, Cond.code yX6_outcomeOf cX6_outcomeOf 3 (some .int), Cond.methodLink RX6 48 yX6_keep, Cond.instanceMethod yX6_keep, Cond.code yX6_keep cX6_keep 2 none, Cond.methodLink RX6 154 arraycopyName, Cond.methodLink RX6 57 yX6_items, Cond.instanceMethod yX6_items, Cond.code yX6_items cX6_items 6 (some .int)]
def wsL_law_r17 : List Cond := [Cond.methodLink RX6 64 yX6_item, Cond.instanceMethod yX6_item, Cond.code yX6_item cX6_item 3 (some .int), Cond.methodLink RX6 74 yX3_byteAt, Cond.methodLink RX6 77 yX6_block, Cond.instanceMethod yX6_block, Cond.code yX6_block cX6_block 5 (some .int), Cond.methodLink RX6 89 yX3_figureAt, Cond.instanceMethod yX3_figureAt, Cond.selects RX3 yX3_figureAt yX3_figureAt, Cond.code yX3_figureAt cX3_figureAt 2 (some .int), Cond.methodLink RX3 32 yX3_byteAt, Cond.methodLink RX6 95 yX0_hasGate, Cond.instanceMethod yX0_hasGate, Cond.selects RX0 yX0_hasGate yX0_hasGate, Cond.code yX0_hasGate cX0_hasGate 2 (some .boolean), Cond.methodLink RX0 38 yX0_has, Cond.methodLink RX6 104 yX6_isGreaterHeld, Cond.instanceMethod yX6_isGreaterHeld, Cond.code yX6_isGreaterHeld cX6_isGreaterHeld 3 (some .boolean), Cond.methodLink RX6 113 yX6_mark, Cond.instanceMethod yX6_mark, Cond.code yX6_mark cX6_mark 2 none, Cond.methodLink RX6 116 yX6_inside]
def wsL_law_r18 : List Cond := [Cond.instanceMethod yX6_inside, Cond.code yX6_inside cX6_inside 4 (some .int), Cond.methodLink RX6 67 yX3_behindItem, Cond.instanceMethod yX3_behindItem, Cond.selects RX3 yX3_behindItem yX3_behindItem, Cond.code yX3_behindItem cX3_behindItem 2 (some .int), Cond.methodLink RX6 80 yX6_attempt, Cond.instanceMethod yX6_attempt, Cond.code yX6_attempt cX6_attempt 5 (some .int), Cond.methodLink RX6 61 yX6_undo, Cond.instanceMethod yX6_undo, Cond.code yX6_undo cX6_undo 2 none, Cond.methodLink RX6 83 yX6_loop, Cond.instanceMethod yX6_loop, Cond.code yX6_loop cX6_loop 6 (some .int), Cond.methodLink RX6 86 yX6_payment, Cond.instanceMethod yX6_payment, Cond.code yX6_payment cX6_payment 7 (some .int), Cond.methodLink RX6 125 yX6_isHeld, Cond.instanceMethod yX6_isHeld, Cond.code yX6_isHeld cX6_isHeld 2 (some .boolean), Cond.methodLink RX6 151 yX0_has, Cond.methodLink RX6 128 yX3_numberBetween, Cond.instanceMethod yX3_numberBetween]
def wsL_law_r19 : List Cond := [Cond.selects RX3 yX3_numberBetween yX3_numberBetween, Cond.code yX3_numberBetween cX3_numberBetween 5 (some .int), Cond.methodLink RX6 131 yX0_feeOf, Cond.methodLink RX6 137 yX0_floorOf, Cond.constant RX6 140 (1000000000), Cond.methodLink RX6 92 yX6_bell, Cond.instanceMethod yX6_bell, Cond.code yX6_bell cX6_bell 3 (some .int), Cond.methodLink RX6 71 Lib.Math.max.name, Cond.static Lib.Math.max.name, Cond.code Lib.Math.max.name Lib.Math.max.code 2 (some .int), Cond.methodLink RL 65 yX9_trace, Cond.instanceMethod yX9_trace, Cond.selects RX9 yX9_trace yX9_trace, Cond.code yX9_trace cX9_trace 2 (some .int), Cond.methodLink RL 69 yX9_would, Cond.instanceMethod yX9_would, Cond.selects RX9 yX9_would yX9_would, Cond.code yX9_would cX9_would 4 (some .long), Cond.methodLink RX9 201 yX9_isOfWould, Cond.instanceMethod yX9_isOfWould, Cond.code yX9_isOfWould cX9_isOfWould 2 (some .boolean), Cond.methodLink RX9 204 yX9_outcomeInThought, Cond.instanceMethod yX9_outcomeInThought]
def wsL_law_r20 : List Cond := [Cond.code yX9_outcomeInThought cX9_outcomeInThought 2 (some .int), Cond.methodLink RX9 214 yX0_becomeAs, Cond.instanceMethod yX0_becomeAs, Cond.selects RX0 yX0_becomeAs yX0_becomeAs, Cond.code yX0_becomeAs cX0_becomeAs 3 none, Cond.methodLink RX0 55 arraycopyName, Cond.methodLink RX9 211 yX0_allEntries, Cond.instanceMethod yX0_allEntries, Cond.selects RX0 yX0_allEntries yX0_allEntries, Cond.code yX0_allEntries cX0_allEntries 3 (some .int), Cond.methodLink RL 73 yX9_needed, Cond.instanceMethod yX9_needed, Cond.selects RX9 yX9_needed yX9_needed, Cond.code yX9_needed cX9_needed 5 (some .int), Cond.methodLink RL 77 yX9_hinges, Cond.instanceMethod yX9_hinges, Cond.selects RX9 yX9_hinges yX9_hinges, Cond.code yX9_hinges cX9_hinges 5 (some .int), Cond.methodLink RL 81 yX9_owe, Cond.instanceMethod yX9_owe, Cond.selects RX9 yX9_owe yX9_owe, Cond.code yX9_owe cX9_owe 5 (some .int), Cond.methodLink RX9 217 yX9_isPair, Cond.instanceMethod yX9_isPair]
def wsL_law_r21 : List Cond := [Cond.code yX9_isPair cX9_isPair 3 (some .boolean), Cond.constant RX9 220 (99999), Cond.methodLink RX9 221 yX1_between, Cond.methodLink RX9 224 yX1_become, Cond.instanceMethod yX1_become, Cond.selects RX1 yX1_become yX1_become, Cond.code yX1_become cX1_become 4 none, Cond.methodLink RL 86 yX9_owed, Cond.instanceMethod yX9_owed, Cond.selects RX9 yX9_owed yX9_owed, Cond.code yX9_owed cX9_owed 3 (some .int), Cond.methodLink RL 90 yX9_net, Cond.instanceMethod yX9_net, Cond.selects RX9 yX9_net yX9_net, Cond.code yX9_net cX9_net 2 (some .int), Cond.methodLink RX9 228 yX0_hasAllGates, Cond.instanceMethod yX0_hasAllGates, Cond.selects RX0 yX0_hasAllGates yX0_hasAllGates, Cond.code yX0_hasAllGates cX0_hasAllGates 2 (some .boolean), Cond.methodLink RX9 232 yX0_enterAll, Cond.instanceMethod yX0_enterAll, Cond.selects RX0 yX0_enterAll yX0_enterAll, Cond.code yX0_enterAll cX0_enterAll 2 none, Cond.methodLink RX9 235 yX5_cutAll]
def wsL_law_r22 : List Cond := [Cond.instanceMethod yX5_cutAll, Cond.selects RX5 yX5_cutAll yX5_cutAll, Cond.code yX5_cutAll cX5_cutAll 3 (some .int), Cond.methodLink RX5 23 yX5_findsFirst, Cond.instanceMethod yX5_findsFirst, Cond.code yX5_findsFirst cX5_findsFirst 4 (some .boolean), Cond.methodLink RX5 30 yX5_leadsBack, Cond.instanceMethod yX5_leadsBack, Cond.code yX5_leadsBack cX5_leadsBack 6 (some .boolean), Cond.methodLink RX5 34 yX1_between, Cond.methodLink RX5 27 yX5_cutFound, Cond.instanceMethod yX5_cutFound, Cond.code yX5_cutFound cX5_cutFound 4 none, Cond.constant RX5 44 (99999), Cond.methodLink RX5 45 yX5_behind, Cond.instanceMethod yX5_behind, Cond.code yX5_behind cX5_behind 2 (some .int), Cond.methodLink RX5 49 Lib.Math.min.name, Cond.methodLink RX5 54 yX1_become, Cond.methodLink RX9 238 yX0_leaveAll, Cond.instanceMethod yX0_leaveAll, Cond.selects RX0 yX0_leaveAll yX0_leaveAll, Cond.code yX0_leaveAll cX0_leaveAll 2 none, Cond.methodLink RL 94 yX9_tells]
def wsL_law_r23 : List Cond := [Cond.instanceMethod yX9_tells, Cond.selects RX9 yX9_tells yX9_tells, Cond.code yX9_tells cX9_tells 6 (some .int), Cond.methodLink RX9 241 yX9_isSheet, Cond.static yX9_isSheet, Cond.code yX9_isSheet cX9_isSheet 1 (some .boolean), Cond.methodLink RX9 244 yX7_isMissing, Cond.instanceMethod yX7_isMissing, Cond.selects RX7 yX7_isMissing yX7_isMissing, Cond.code yX7_isMissing cX7_isMissing 1 (some .boolean), Cond.methodLink RX9 248 yX9_kindsToldBy, Cond.instanceMethod yX9_kindsToldBy, Cond.code yX9_kindsToldBy cX9_kindsToldBy 6 (some .int), Cond.methodLink RX9 252 yX7_firstUnlike, Cond.instanceMethod yX7_firstUnlike, Cond.selects RX7 yX7_firstUnlike yX7_firstUnlike, Cond.code yX7_firstUnlike cX7_firstUnlike 5 (some .int), Cond.methodLink RX7 32 Lib.Math.min.name, Cond.methodLink RL 99 yX9_film, Cond.instanceMethod yX9_film, Cond.selects RX9 yX9_film yX9_film, Cond.code yX9_film cX9_film 3 (some .int), Cond.methodLink RX9 256 yX7_takeOver, Cond.instanceMethod yX7_takeOver]
def wsL_law_r24 : List Cond := [Cond.selects RX7 yX7_takeOver yX7_takeOver, Cond.code yX7_takeOver cX7_takeOver 3 none, Cond.methodLink RX7 22 yX7_become, Cond.instanceMethod yX7_become, Cond.selects RX7 yX7_become yX7_become, Cond.code yX7_become cX7_become 4 none, Cond.methodLink RX7 26 arraycopyName, Cond.methodLink RL 103 yX9_image, Cond.instanceMethod yX9_image, Cond.selects RX9 yX9_image yX9_image, Cond.code yX9_image cX9_image 1 (some .int), Cond.methodLink RX9 259 yX1_becomeAs, Cond.instanceMethod yX1_becomeAs, Cond.selects RX1 yX1_becomeAs yX1_becomeAs, Cond.code yX1_becomeAs cX1_becomeAs 2 none, Cond.methodLink RX1 19 arraycopyName, Cond.methodLink RL 107 yX9_back, Cond.instanceMethod yX9_back, Cond.selects RX9 yX9_back yX9_back, Cond.code yX9_back cX9_back 1 (some .int), Cond.methodLink RL 111 yX9_sheet, Cond.instanceMethod yX9_sheet, Cond.selects RX9 yX9_sheet yX9_sheet, Cond.code yX9_sheet cX9_sheet 4 (some .int)]
def wsL_law_r25 : List Cond := [Cond.methodLink RX9 261 yX7_become, Cond.methodLink RL 115 yX9_put, Cond.instanceMethod yX9_put, Cond.selects RX9 yX9_put yX9_put, Cond.code yX9_put cX9_put 5 (some .int), Cond.methodLink RX9 264 yX7_hasPlace, Cond.instanceMethod yX7_hasPlace, Cond.selects RX7 yX7_hasPlace yX7_hasPlace, Cond.code yX7_hasPlace cX7_hasPlace 2 (some .boolean), Cond.methodLink RX9 267 yX7_write, Cond.instanceMethod yX7_write, Cond.selects RX7 yX7_write yX7_write, Cond.code yX7_write cX7_write 3 none, Cond.methodLink RL 119 yX9_copy, Cond.instanceMethod yX9_copy, Cond.selects RX9 yX9_copy yX9_copy, Cond.code yX9_copy cX9_copy 8 (some .int), Cond.methodLink RX9 273 yX7_hasStretch, Cond.instanceMethod yX7_hasStretch, Cond.selects RX7 yX7_hasStretch yX7_hasStretch, Cond.code yX7_hasStretch cX7_hasStretch 3 (some .boolean), Cond.methodLink RX9 279 arraycopyName, Cond.methodLink RL 124 yX9_load, Cond.instanceMethod yX9_load]
def wsL_law_r26 : List Cond := [Cond.selects RX9 yX9_load yX9_load, Cond.code yX9_load cX9_load 9 (some .int), Cond.methodLink RX9 285 yX9_owe, Cond.classLink RL 10 RX10, Cond.instantiable RX10 32, Cond.methodLink RL 12 yX10_init, Cond.instanceMethod yX10_init, Cond.code yX10_init cX10_init 1 none, Cond.methodLink RX10 5 objectInit, Cond.fieldLink RX10 11 "ClearingGatesModel" "s" "[I", Cond.fieldLink RX10 110 "ClearingGatesModel" "fees" "J", Cond.fieldLink RX10 15 "ClearingGatesModel" "thought" "[I", Cond.fieldLink RX10 233 "ClearingGatesModel" "thoughtFees" "J", Cond.fieldLink RX10 18 "ClearingGatesModel" "image" "[I", Cond.fieldLink RX10 286 "ClearingGatesModel" "imageFees" "J", Cond.fieldLink RX10 289 "ClearingGatesModel" "hasImage" "Z", Cond.fieldLink RX10 21 "ClearingGatesModel" "tape" "[I", Cond.fieldLink RX10 107 "ClearingGatesModel" "taped" "I", Cond.fieldLink RX10 24 "ClearingGatesModel" "texts" "[I", Cond.fieldLink RX10 27 "ClearingGatesModel" "sizes" "[I", Cond.fieldLink RX10 100 "ClearingGatesModel" "programs" "I", Cond.fieldLink RX10 30 "ClearingGatesModel" "imageTexts" "[I", Cond.fieldLink RX10 33 "ClearingGatesModel" "imageSizes" "[I", Cond.fieldLink RX10 283 "ClearingGatesModel" "imagePrograms" "I"]
def wsL_law_r27 : List Cond := [Cond.fieldLink RX10 124 "ClearingGatesModel" "here" "I", Cond.fieldLink RX10 131 "ClearingGatesModel" "open" "I", Cond.fieldLink RX10 157 "ClearingGatesModel" "running" "I", Cond.fieldLink RX10 197 "ClearingGatesModel" "begun" "I", Cond.fieldLink RX10 36 "ClearingGatesModel" "held" "[I", Cond.fieldLink RX10 39 "ClearingGatesModel" "marks" "[I", Cond.fieldLink RX10 154 "ClearingGatesModel" "markMany" "I", Cond.fieldLink RX10 42 "ClearingGatesModel" "trace" "[I", Cond.fieldLink RX10 104 "ClearingGatesModel" "traced" "I", Cond.fieldLink RX10 45 "ClearingGatesModel" "keptBalances" "[I", Cond.fieldLink RX10 48 "ClearingGatesModel" "keptFees" "[J", Cond.fieldLink RX10 172 "ClearingGatesModel" "deep" "I", Cond.fieldLink RX10 52 "ClearingGatesModel" "way" "[I", Cond.fieldLink RX10 55 "ClearingGatesModel" "sorts" "[I", Cond.fieldLink RX10 58 "ClearingGatesModel" "rowMany" "[I", Cond.fieldLink RX10 61 "ClearingGatesModel" "items" "[I", Cond.fieldLink RX10 64 "ClearingGatesModel" "moved" "[I", Cond.methodLink RL 17 yX10_account, Cond.instanceMethod yX10_account, Cond.selects RX10 yX10_account yX10_account, Cond.code yX10_account cX10_account 4 (some .int), Cond.constantLong RX10 71 (4), Cond.methodLink RX10 67 yX10_isIn, Cond.static yX10_isIn]
def wsL_law_r28 : List Cond := [Cond.code yX10_isIn cX10_isIn 6 (some .boolean), Cond.constantLong RX10 73 (1000000000), Cond.methodLink RL 22 yX10_set, Cond.instanceMethod yX10_set, Cond.selects RX10 yX10_set yX10_set, Cond.code yX10_set cX10_set 6 (some .long), Cond.methodLink RX10 75 yX10_isAccount, Cond.instanceMethod yX10_isAccount, Cond.code yX10_isAccount cX10_isAccount 2 (some .boolean), Cond.constantLong RX10 79 (9999), Cond.constantLong RX10 81 (-9223372036854775808), Cond.methodLink RL 27 yX10_gate, Cond.instanceMethod yX10_gate, Cond.selects RX10 yX10_gate yX10_gate, Cond.code yX10_gate cX10_gate 4 (some .int), Cond.methodLink RL 31 yX10_told, Cond.instanceMethod yX10_told, Cond.selects RX10 yX10_told yX10_told, Cond.code yX10_told cX10_told 3 (some .int), Cond.methodLink RX10 83 yX10_feeOf, Cond.instanceMethod yX10_feeOf, Cond.code yX10_feeOf cX10_feeOf 4 (some .int), Cond.methodLink RL 36 yX10_of, Cond.instanceMethod yX10_of]
def wsL_law_r29 : List Cond := [Cond.selects RX10 yX10_of yX10_of, Cond.code yX10_of cX10_of 3 (some .long), Cond.constantLong RX10 90 (2), Cond.methodLink RX10 92 yX10_floorOf, Cond.instanceMethod yX10_floorOf, Cond.code yX10_floorOf cX10_floorOf 2 (some .int), Cond.methodLink RX10 96 yX10_positionOf, Cond.instanceMethod yX10_positionOf, Cond.code yX10_positionOf cX10_positionOf 5 (some .long), Cond.methodLink RX10 87 yX10_owedTo, Cond.instanceMethod yX10_owedTo, Cond.code yX10_owedTo cX10_owedTo 3 (some .int), Cond.methodLink RL 41 yX10_count, Cond.instanceMethod yX10_count, Cond.selects RX10 yX10_count yX10_count, Cond.code yX10_count cX10_count 2 (some .int), Cond.methodLink RL 46 yX10_sum, Cond.instanceMethod yX10_sum, Cond.selects RX10 yX10_sum yX10_sum, Cond.code yX10_sum cX10_sum 5 (some .long), Cond.methodLink RL 50 yX10_taken, Cond.instanceMethod yX10_taken, Cond.selects RX10 yX10_taken yX10_taken, Cond.code yX10_taken cX10_taken 4 (some .int)]
def wsL_law_r30 : List Cond := [Cond.methodLink RX10 114 yX10_above, Cond.static yX10_above, Cond.code yX10_above cX10_above 1 (some .int), Cond.methodLink RL 55 yX10_feed, Cond.instanceMethod yX10_feed, Cond.selects RX10 yX10_feed yX10_feed, Cond.code yX10_feed cX10_feed 8 (some .int), Cond.constantLong RX10 119 (5), Cond.methodLink RX10 121 yX10_isByte, Cond.static yX10_isByte, Cond.code yX10_isByte cX10_isByte 1 (some .boolean), Cond.constantLong RX10 117 (255), Cond.methodLink RL 60 yX10_program, Cond.instanceMethod yX10_program, Cond.selects RX10 yX10_program yX10_program, Cond.code yX10_program cX10_program 4 (some .int), Cond.methodLink RX10 138 yX10_takesItem, Cond.instanceMethod yX10_takesItem, Cond.code yX10_takesItem cX10_takesItem 3 (some .boolean), Cond.methodLink RX10 127 yX10_byteAt, Cond.instanceMethod yX10_byteAt, Cond.code yX10_byteAt cX10_byteAt 1 (some .int), Cond.methodLink RX10 146 yX10_takesBracket, Cond.instanceMethod yX10_takesBracket]
def wsL_law_r31 : List Cond := [Cond.code yX10_takesBracket cX10_takesBracket 5 (some .boolean), Cond.methodLink RX10 134 yX10_takesFigure, Cond.instanceMethod yX10_takesFigure, Cond.code yX10_takesFigure cX10_takesFigure 3 (some .boolean), Cond.methodLink RX10 150 yX10_takesPayment, Cond.instanceMethod yX10_takesPayment, Cond.code yX10_takesPayment cX10_takesPayment 2 (some .boolean), Cond.constantLong RX10 142 (48), Cond.constantLong RX10 144 (57), Cond.methodLink RL 64 yX10_run, Cond.instanceMethod yX10_run, Cond.selects RX10 yX10_run yX10_run, Cond.code yX10_run cX10_run 4 (some .int), Cond.methodLink RX10 216 yX10_isProgram, Cond.instanceMethod yX10_isProgram, Cond.code yX10_isProgram cX10_isProgram 2 (some .boolean), Cond.methodLink RX10 219 yX10_runs, Cond.instanceMethod yX10_runs, Cond.code yX10_runs cX10_runs 3 (some .int), Cond.methodLink RX10 190 yX10_keepsBooks, Cond.instanceMethod yX10_keepsBooks, Cond.code yX10_keepsBooks cX10_keepsBooks 2 none, Cond.methodLink RX10 187 yX10_does, Cond.instanceMethod yX10_does]
def wsL_law_r32 : List Cond := [Cond.code yX10_does cX10_does 4 (some .int), Cond.methodLink RX10 166 yX10_isClosed, Cond.instanceMethod yX10_isClosed, Cond.code yX10_isClosed cX10_isClosed 2 (some .boolean), Cond.methodLink RX10 160 yX10_signAt, Cond.instanceMethod yX10_signAt, Cond.code yX10_signAt cX10_signAt 2 (some .int), Cond.methodLink RX10 175 yX10_doesItem, Cond.instanceMethod yX10_doesItem, Cond.code yX10_doesItem cX10_doesItem 2 (some .int), Cond.methodLink RX10 200 yX10_block, Cond.instanceMethod yX10_block, Cond.code yX10_block cX10_block 4 (some .int), Cond.methodLink RX10 178 yX10_figureAt, Cond.instanceMethod yX10_figureAt, Cond.code yX10_figureAt cX10_figureAt 2 (some .int), Cond.methodLink RX10 181 yX10_hasGate, Cond.instanceMethod yX10_hasGate, Cond.code yX10_hasGate cX10_hasGate 2 (some .boolean), Cond.methodLink RX10 184 yX10_marks, Cond.instanceMethod yX10_marks, Cond.code yX10_marks cX10_marks 2 none, Cond.methodLink RX10 163 yX10_insideOf, Cond.instanceMethod yX10_insideOf]
def wsL_law_r33 : List Cond := [Cond.code yX10_insideOf cX10_insideOf 2 (some .int), Cond.methodLink RX10 203 yX10_tries, Cond.instanceMethod yX10_tries, Cond.code yX10_tries cX10_tries 5 (some .int), Cond.methodLink RX10 193 yX10_forgetsBooks, Cond.instanceMethod yX10_forgetsBooks, Cond.code yX10_forgetsBooks cX10_forgetsBooks 3 none, Cond.methodLink RX10 207 yX10_loops, Cond.instanceMethod yX10_loops, Cond.code yX10_loops cX10_loops 4 (some .int), Cond.methodLink RX10 210 yX10_pays, Cond.instanceMethod yX10_pays, Cond.code yX10_pays cX10_pays 7 (some .int), Cond.methodLink RX10 169 yX10_behind, Cond.instanceMethod yX10_behind, Cond.code yX10_behind cX10_behind 4 (some .int), Cond.methodLink RX10 213 yX10_rings, Cond.instanceMethod yX10_rings, Cond.code yX10_rings cX10_rings 3 (some .int), Cond.methodLink RX10 222 Lib.Math.min.name, Cond.methodLink RL 68 yX10_trace, Cond.instanceMethod yX10_trace, Cond.selects RX10 yX10_trace yX10_trace, Cond.code yX10_trace cX10_trace 2 (some .int)]
def wsL_law_r34 : List Cond := [Cond.methodLink RL 72 yX10_would, Cond.instanceMethod yX10_would, Cond.selects RX10 yX10_would yX10_would, Cond.code yX10_would cX10_would 8 (some .long), Cond.constantLong RX10 236 (3), Cond.constantLong RX10 238 (10), Cond.methodLink RX10 240 yX10_entries, Cond.instanceMethod yX10_entries, Cond.code yX10_entries cX10_entries 4 (some .long), Cond.methodLink RX10 244 yX10_thinks, Cond.instanceMethod yX10_thinks, Cond.code yX10_thinks cX10_thinks 1 none, Cond.methodLink RX10 227 arraycopyName, Cond.methodLink RX10 247 yX10_wakes, Cond.instanceMethod yX10_wakes, Cond.code yX10_wakes cX10_wakes 1 none, Cond.methodLink RL 76 yX10_needed, Cond.instanceMethod yX10_needed, Cond.selects RX10 yX10_needed yX10_needed, Cond.code yX10_needed cX10_needed 6 (some .int), Cond.constant RX10 254 (1048576), Cond.methodLink RX10 255 yX10_outcomeOf, Cond.instanceMethod yX10_outcomeOf, Cond.code yX10_outcomeOf cX10_outcomeOf 2 (some .int)]
def wsL_law_r35 : List Cond := [Cond.methodLink RX10 250 yX10_would, Cond.methodLink RL 80 yX10_hinges, Cond.instanceMethod yX10_hinges, Cond.selects RX10 yX10_hinges yX10_hinges, Cond.code yX10_hinges cX10_hinges 5 (some .int), Cond.methodLink RL 85 yX10_owe, Cond.instanceMethod yX10_owe, Cond.selects RX10 yX10_owe yX10_owe, Cond.code yX10_owe cX10_owe 5 (some .int), Cond.methodLink RX10 258 yX10_areTwo, Cond.instanceMethod yX10_areTwo, Cond.code yX10_areTwo cX10_areTwo 3 (some .boolean), Cond.constantLong RX10 261 (99999), Cond.methodLink RL 89 yX10_owed, Cond.instanceMethod yX10_owed, Cond.selects RX10 yX10_owed yX10_owed, Cond.code yX10_owed cX10_owed 3 (some .int), Cond.methodLink RL 93 yX10_net, Cond.instanceMethod yX10_net, Cond.selects RX10 yX10_net yX10_net, Cond.code yX10_net cX10_net 5 (some .int), Cond.methodLink RX10 266 yX10_firstRing, Cond.instanceMethod yX10_firstRing, Cond.code yX10_firstRing cX10_firstRing 3 (some .int)]
def wsL_law_r36 : List Cond := [Cond.methodLink RX10 263 yX10_ringFrom, Cond.instanceMethod yX10_ringFrom, Cond.code yX10_ringFrom cX10_ringFrom 6 (some .int), Cond.constant RX10 269 (99999), Cond.methodLink RL 98 yX10_tells, Cond.instanceMethod yX10_tells, Cond.selects RX10 yX10_tells yX10_tells, Cond.code yX10_tells cX10_tells 8 (some .int), Cond.methodLink RX10 273 yX10_isSheet, Cond.static yX10_isSheet, Cond.code yX10_isSheet cX10_isSheet 1 (some .boolean), Cond.methodLink RX10 276 yX10_otherIn, Cond.instanceMethod yX10_otherIn, Cond.code yX10_otherIn cX10_otherIn 6 (some .int), Cond.methodLink RX10 270 yX10_itemOf, Cond.instanceMethod yX10_itemOf, Cond.code yX10_itemOf cX10_itemOf 3 (some .int), Cond.methodLink RL 102 yX10_film, Cond.instanceMethod yX10_film, Cond.selects RX10 yX10_film yX10_film, Cond.code yX10_film cX10_film 6 (some .int), Cond.methodLink RX10 279 yX10_sheet, Cond.instanceMethod yX10_sheet, Cond.selects RX10 yX10_sheet yX10_sheet]
def wsL_law_r37 : List Cond := [Cond.code yX10_sheet cX10_sheet 5 (some .int), Cond.constantLong RX10 293 (-1), Cond.methodLink RL 106 yX10_image, Cond.instanceMethod yX10_image, Cond.selects RX10 yX10_image yX10_image, Cond.code yX10_image cX10_image 1 (some .int), Cond.methodLink RL 110 yX10_back, Cond.instanceMethod yX10_back, Cond.selects RX10 yX10_back yX10_back, Cond.code yX10_back cX10_back 1 (some .int), Cond.methodLink RL 114 yX10_sheet, Cond.methodLink RL 118 yX10_put, Cond.instanceMethod yX10_put, Cond.selects RX10 yX10_put yX10_put, Cond.code yX10_put cX10_put 4 (some .int), Cond.methodLink RL 123 yX10_copy, Cond.instanceMethod yX10_copy, Cond.selects RX10 yX10_copy yX10_copy, Cond.code yX10_copy cX10_copy 6 (some .int), Cond.methodLink RL 127 yX10_load, Cond.instanceMethod yX10_load, Cond.selects RX10 yX10_load yX10_load, Cond.code yX10_load cX10_load 10 (some .int), Cond.constantLong RX10 295 (20)]
def wsL_law_r38 : List Cond := [Cond.methodLink RX10 297 yX10_owe]
def wsL_law : List Cond := (wsL_law_r1 ++ (wsL_law_r2 ++ (wsL_law_r3 ++ (wsL_law_r4 ++ (wsL_law_r5 ++ (wsL_law_r6 ++ (wsL_law_r7 ++ (wsL_law_r8 ++ (wsL_law_r9 ++ (wsL_law_r10 ++ (wsL_law_r11 ++ (wsL_law_r12 ++ (wsL_law_r13 ++ (wsL_law_r14 ++ (wsL_law_r15 ++ (wsL_law_r16 ++ (wsL_law_r17 ++ (wsL_law_r18 ++ (wsL_law_r19 ++ (wsL_law_r20 ++ (wsL_law_r21 ++ (wsL_law_r22 ++ (wsL_law_r23 ++ (wsL_law_r24 ++ (wsL_law_r25 ++ (wsL_law_r26 ++ (wsL_law_r27 ++ (wsL_law_r28 ++ (wsL_law_r29 ++ (wsL_law_r30 ++ (wsL_law_r31 ++ (wsL_law_r32 ++ (wsL_law_r33 ++ (wsL_law_r34 ++ (wsL_law_r35 ++ (wsL_law_r36 ++ (wsL_law_r37 ++ (wsL_law_r38)))))))))))))))))))))))))))))))))))))) ++ wsX90 ++ wsX100 ++ wsX00 ++ wsX10 ++ wsX50 ++ wsX30 ++ wsX80 ++ wsX40 ++ wsX60 ++ wsX70 ++ ([] : List Cond)
def slG : List Nat → List Cond → List Cond
  | [], _ => []
  | g :: gs, l => match l.drop g with
    | [] => []
    | a :: t => a :: slG gs t
theorem slG_mem : ∀ (gs : List Nat) (l : List Cond) (w : Cond), w ∈ slG gs l → w ∈ l := by
  intro gs
  induction gs with
  | nil => intro l w h; exact absurd h List.not_mem_nil
  | cons g gs ih =>
    intro l w h
    have e : slG (g :: gs) l = (match l.drop g with | [] => [] | a :: t => a :: slG gs t) := rfl
    rw [e] at h
    cases hd : l.drop g with
    | nil => rw [hd] at h; exact absurd h List.not_mem_nil
    | cons a t =>
      rw [hd] at h
      have h2 : w ∈ a :: slG gs t := h
      have hm : w ∈ l.drop g := by
        rw [hd]
        rcases List.mem_cons.mp h2 with q | q
        · exact List.mem_cons.mpr (Or.inl q)
        · exact List.mem_cons.mpr (Or.inr (ih t w q))
      exact List.mem_of_mem_drop hm
theorem mem_g {big : List Cond} (ws : List Cond) (gs : List Nat) (h : slG gs big = ws) : ∀ w ∈ ws, w ∈ big := by
  intro w hw
  subst h
  exact slG_mem gs big w hw
set_option maxRecDepth 100000 in
theorem in_wsL_law_r1 : ∀ w ∈ wsL_law_r1, w ∈ lw_tbl := mem_g _ [0, 0, 0, 0, 0, 0, 0, 0, 0, 0, 0, 0, 0, 0, 0, 0, 0, 0, 0, 0, 0, 0, 0, 0] rfl
set_option maxRecDepth 100000 in
theorem in_wsL_law_r2 : ∀ w ∈ wsL_law_r2, w ∈ lw_tbl := mem_g _ [24, 0, 0, 0, 0, 0, 0, 0, 0, 0, 0, 0, 0, 0, 0, 0, 0, 0, 0, 0, 0, 0, 0, 0] rfl
set_option maxRecDepth 100000 in
theorem in_wsL_law_r3 : ∀ w ∈ wsL_law_r3, w ∈ lw_tbl := mem_g _ [48, 0, 0, 0, 0, 0, 0, 0, 0, 0, 0, 0, 0, 0, 0, 0, 0, 0, 0, 0, 1, 0, 0, 0] rfl
set_option maxRecDepth 100000 in
theorem in_wsL_law_r4 : ∀ w ∈ wsL_law_r4, w ∈ lw_tbl := mem_g _ [73, 0, 0, 0, 0, 0, 0, 0, 0, 0, 0, 0, 0, 0, 0, 0, 0, 0, 0, 1, 0, 0, 0, 0] rfl
set_option maxRecDepth 100000 in
theorem in_wsL_law_r5 : ∀ w ∈ wsL_law_r5, w ∈ lw_tbl := mem_g _ [98, 0, 0, 0, 0, 0, 0, 0, 0, 0, 0, 0, 0, 0, 0, 0, 0, 0, 0, 0, 0, 0, 0, 0] rfl
set_option maxRecDepth 100000 in
theorem in_wsL_law_r6 : ∀ w ∈ wsL_law_r6, w ∈ lw_tbl := mem_g _ [122, 0, 0, 0, 0, 0, 0, 0, 0, 27, 0, 0, 0, 1, 0, 0, 0, 3, 0, 0, 0, 0, 0, 0] rfl
set_option maxRecDepth 100000 in
theorem in_wsL_law_r7 : ∀ w ∈ wsL_law_r7, w ∈ lw_tbl := mem_g _ [177, 0, 0, 9, 1, 1, 0, 0, 0, 0, 0, 0, 0, 0, 7, 0, 1, 0, 0, 0, 0, 0, 0, 0] rfl
set_option maxRecDepth 100000 in
theorem in_wsL_law_r8 : ∀ w ∈ wsL_law_r8, w ∈ lw_tbl := mem_g _ [225, 0, 1, 0, 0, 0, 0, 0, 0, 0, 11, 0, 0, 0, 0, 0, 0, 1, 0, 0, 0, 0, 0, 0] rfl
set_option maxRecDepth 100000 in
theorem in_wsL_law_r9 : ∀ w ∈ wsL_law_r9, w ∈ lw_tbl := mem_g _ [262, 0, 0, 0, 17, 0, 1, 1, 0, 0, 0, 0, 0, 0, 0, 0, 7, 0, 0, 0, 0, 0, 0, 0] rfl
set_option maxRecDepth 100000 in
theorem in_wsL_law_r10 : ∀ w ∈ wsL_law_r10, w ∈ lw_tbl := mem_g _ [312, 0, 0, 0, 0, 27, 0, 0, 0, 0, 0, 0, 0, 0, 0, 0, 0, 0, 0, 0, 0, 0, 0, 0] rfl
set_option maxRecDepth 100000 in
theorem in_wsL_law_r11 : ∀ w ∈ wsL_law_r11, w ∈ lw_tbl := mem_g _ [363, 0, 0, 0, 0, 0, 0, 0, 0, 0, 0, 0, 0, 0, 0, 0, 0, 0, 0, 0, 0, 0, 0, 0] rfl
set_option maxRecDepth 100000 in
theorem in_wsL_law_r12 : ∀ w ∈ wsL_law_r12, w ∈ lw_tbl := mem_g _ [387, 0, 0, 0, 0, 0, 0, 0, 0, 0, 0, 0, 0, 0, 0, 0, 0, 0, 0, 0, 0, 0, 0, 0] rfl
set_option maxRecDepth 100000 in
theorem in_wsL_law_r13 : ∀ w ∈ wsL_law_r13, w ∈ lw_tbl := mem_g _ [411, 0, 0, 0, 0, 0, 0, 0, 0, 0, 0, 0, 0, 0, 0, 0, 0, 0, 0, 0, 0, 0, 0, 0] rfl
set_option maxRecDepth 100000 in
theorem in_wsL_law_r14 : ∀ w ∈ wsL_law_r14, w ∈ lw_tbl := mem_g _ [435, 0, 0, 0, 0, 0, 0, 0, 0, 0, 0, 0, 0, 0, 0, 0, 0, 0, 0, 0, 0, 0, 0, 0] rfl
set_option maxRecDepth 100000 in
theorem in_wsL_law_r15 : ∀ w ∈ wsL_law_r15, w ∈ lw_tbl := mem_g _ [460, 0, 0, 0, 0, 0, 0, 1, 0, 0, 1, 0, 0, 1, 0, 0, 1, 0, 0, 1, 0, 0, 1, 0] rfl
set_option maxRecDepth 100000 in
theorem in_wsL_law_r16 : ∀ w ∈ wsL_law_r16, w ∈ lw_tbl := mem_g _ [490, 1, 0, 0, 1, 0, 0, 0, 0, 0, 0, 1, 0, 0, 0, 0, 0, 0, 1, 0, 0, 0, 1, 0] rfl
set_option maxRecDepth 100000 in
theorem in_wsL_law_r17 : ∀ w ∈ wsL_law_r17, w ∈ lw_tbl := mem_g _ [519, 1, 0, 0, 0, 1, 0, 0, 0, 0, 0, 0, 0, 0, 0, 0, 0, 0, 1, 0, 0, 1, 0, 0] rfl
set_option maxRecDepth 100000 in
theorem in_wsL_law_r18 : ∀ w ∈ wsL_law_r18, w ∈ lw_tbl := mem_g _ [548, 0, 0, 0, 0, 0, 0, 1, 0, 0, 1, 0, 0, 1, 0, 0, 1, 0, 0, 1, 0, 0, 0, 0] rfl
set_option maxRecDepth 100000 in
theorem in_wsL_law_r19 : ∀ w ∈ wsL_law_r19, w ∈ lw_tbl := mem_g _ [577, 0, 0, 0, 0, 0, 1, 0, 0, 0, 0, 0, 0, 0, 0, 0, 0, 0, 0, 0, 1, 0, 0, 1] rfl
set_option maxRecDepth 100000 in
theorem in_wsL_law_r20 : ∀ w ∈ wsL_law_r20, w ∈ lw_tbl := mem_g _ [604, 0, 0, 0, 0, 0, 0, 0, 0, 0, 0, 0, 0, 0, 0, 0, 0, 0, 0, 0, 0, 0, 0, 1] rfl
set_option maxRecDepth 100000 in
theorem in_wsL_law_r21 : ∀ w ∈ wsL_law_r21, w ∈ lw_tbl := mem_g _ [629, 0, 0, 0, 0, 0, 0, 0, 0, 0, 0, 0, 0, 0, 0, 0, 0, 0, 0, 0, 0, 0, 0, 0] rfl
set_option maxRecDepth 100000 in
theorem in_wsL_law_r22 : ∀ w ∈ wsL_law_r22, w ∈ lw_tbl := mem_g _ [653, 0, 0, 0, 1, 0, 0, 1, 0, 0, 0, 1, 0, 0, 0, 1, 0, 0, 0, 0, 0, 0, 0, 0] rfl
set_option maxRecDepth 100000 in
theorem in_wsL_law_r23 : ∀ w ∈ wsL_law_r23, w ∈ lw_tbl := mem_g _ [681, 0, 0, 0, 0, 0, 0, 0, 0, 0, 0, 1, 0, 0, 0, 0, 0, 0, 0, 0, 0, 0, 0, 0] rfl
set_option maxRecDepth 100000 in
theorem in_wsL_law_r24 : ∀ w ∈ wsL_law_r24, w ∈ lw_tbl := mem_g _ [706, 0, 0, 0, 0, 0, 0, 0, 0, 0, 0, 0, 0, 0, 0, 0, 0, 0, 0, 0, 0, 0, 0, 0] rfl
set_option maxRecDepth 100000 in
theorem in_wsL_law_r25 : ∀ w ∈ wsL_law_r25, w ∈ lw_tbl := mem_g _ [730, 0, 0, 0, 0, 0, 0, 0, 0, 0, 0, 0, 0, 0, 0, 0, 0, 0, 0, 0, 0, 0, 0, 0] rfl
set_option maxRecDepth 100000 in
theorem in_wsL_law_r26 : ∀ w ∈ wsL_law_r26, w ∈ lw_tbl := mem_g _ [754, 0, 0, 0, 0, 0, 0, 0, 0, 0, 0, 0, 0, 0, 0, 0, 0, 0, 0, 0, 0, 0, 0, 0] rfl
set_option maxRecDepth 100000 in
theorem in_wsL_law_r27 : ∀ w ∈ wsL_law_r27, w ∈ lw_tbl := mem_g _ [778, 0, 0, 0, 0, 0, 0, 0, 0, 0, 0, 0, 0, 0, 0, 0, 0, 65, 0, 0, 0, 0, 0, 0] rfl
set_option maxRecDepth 100000 in
theorem in_wsL_law_r28 : ∀ w ∈ wsL_law_r28, w ∈ lw_tbl := mem_g _ [867, 0, 0, 0, 0, 0, 0, 1, 0, 0, 0, 0, 0, 0, 0, 0, 0, 0, 0, 0, 1, 0, 0, 0] rfl
set_option maxRecDepth 100000 in
theorem in_wsL_law_r29 : ∀ w ∈ wsL_law_r29, w ∈ lw_tbl := mem_g _ [893, 0, 0, 0, 1, 0, 0, 1, 0, 0, 1, 0, 0, 0, 0, 0, 0, 0, 0, 0, 0, 0, 0, 0] rfl
set_option maxRecDepth 100000 in
theorem in_wsL_law_r30 : ∀ w ∈ wsL_law_r30, w ∈ lw_tbl := mem_g _ [920, 0, 0, 0, 0, 0, 0, 0, 0, 0, 0, 0, 0, 0, 0, 0, 0, 1, 0, 0, 1, 0, 0, 1] rfl
set_option maxRecDepth 100000 in
theorem in_wsL_law_r31 : ∀ w ∈ wsL_law_r31, w ∈ lw_tbl := mem_g _ [947, 0, 1, 0, 0, 1, 0, 0, 0, 0, 0, 0, 0, 0, 1, 0, 0, 1, 0, 0, 1, 0, 0, 1] rfl
set_option maxRecDepth 100000 in
theorem in_wsL_law_r32 : ∀ w ∈ wsL_law_r32, w ∈ lw_tbl := mem_g _ [977, 0, 1, 0, 0, 1, 0, 0, 1, 0, 0, 1, 0, 0, 1, 0, 0, 1, 0, 0, 1, 0, 0, 1] rfl
set_option maxRecDepth 100000 in
theorem in_wsL_law_r33 : ∀ w ∈ wsL_law_r33, w ∈ lw_tbl := mem_g _ [1009, 0, 1, 0, 0, 1, 0, 0, 1, 0, 0, 1, 0, 0, 1, 0, 0, 1, 0, 0, 0, 0, 0, 0] rfl
set_option maxRecDepth 100000 in
theorem in_wsL_law_r34 : ∀ w ∈ wsL_law_r34, w ∈ lw_tbl := mem_g _ [1039, 0, 0, 0, 0, 0, 0, 1, 0, 0, 1, 0, 0, 0, 1, 0, 0, 0, 0, 0, 0, 0, 1, 0] rfl
set_option maxRecDepth 100000 in
theorem in_wsL_law_r35 : ∀ w ∈ wsL_law_r35, w ∈ lw_tbl := mem_g _ [1067, 0, 0, 0, 0, 0, 0, 0, 0, 0, 1, 0, 0, 0, 0, 0, 0, 0, 0, 0, 0, 0, 1, 0] rfl
set_option maxRecDepth 100000 in
theorem in_wsL_law_r36 : ∀ w ∈ wsL_law_r36, w ∈ lw_tbl := mem_g _ [1093, 1, 0, 0, 0, 0, 0, 0, 0, 0, 0, 0, 1, 0, 0, 1, 0, 0, 0, 0, 0, 0, 0, 0] rfl
set_option maxRecDepth 100000 in
theorem in_wsL_law_r37 : ∀ w ∈ wsL_law_r37, w ∈ lw_tbl := mem_g _ [1120, 0, 0, 0, 0, 0, 0, 0, 0, 0, 0, 0, 0, 0, 0, 0, 0, 0, 0, 0, 0, 0, 0, 0] rfl
set_option maxRecDepth 100000 in
theorem in_wsL_law_r38 : ∀ w ∈ wsL_law_r38, w ∈ lw_tbl := mem_g _ [1144] rfl
set_option maxRecDepth 100000 in
theorem in_wsX90 : ∀ w ∈ wsX90, w ∈ lw_tbl := mem_g _ [317, 1, 1, 1, 1, 1, 1, 1, 1, 1, 1, 1, 1] rfl
set_option maxRecDepth 100000 in
theorem in_wsX100 : ∀ w ∈ wsX100, w ∈ lw_tbl := mem_g _ [795, 1, 1, 1, 1, 1, 1, 1, 1, 1, 1, 1, 1, 1, 1, 1, 1, 1, 1, 1, 1, 1, 1, 1, 1, 1, 1, 1, 1, 1, 1, 1] rfl
set_option maxRecDepth 100000 in
theorem in_wsX00 : ∀ w ∈ wsX00, w ∈ lw_tbl := mem_g _ [131, 1, 1, 1, 1, 1, 1, 1, 1, 1, 1, 1, 1] rfl
set_option maxRecDepth 100000 in
theorem in_wsX10 : ∀ w ∈ wsX10, w ∈ lw_tbl := mem_g _ [167] rfl
set_option maxRecDepth 100000 in
theorem in_wsX50 : ∀ w ∈ wsX50, w ∈ lw_tbl := mem_g _ [180, 1, 1, 1] rfl
set_option maxRecDepth 100000 in
theorem in_wsX30 : ∀ w ∈ wsX30, w ∈ lw_tbl := mem_g _ [202, 1, 1] rfl
set_option maxRecDepth 100000 in
theorem in_wsX80 : ∀ w ∈ wsX80, w ∈ lw_tbl := mem_g _ [220, 1] rfl
set_option maxRecDepth 100000 in
theorem in_wsX40 : ∀ w ∈ wsX40, w ∈ lw_tbl := mem_g _ [236, 1, 1, 1, 1] rfl
set_option maxRecDepth 100000 in
theorem in_wsX60 : ∀ w ∈ wsX60, w ∈ lw_tbl := mem_g _ [266, 1, 1, 1, 1, 1, 1, 1] rfl
set_option maxRecDepth 100000 in
theorem in_wsX70 : ∀ w ∈ wsX70, w ∈ lw_tbl := mem_g _ [297, 1, 1] rfl
theorem wsL_law_in : ∀ w ∈ wsL_law, w ∈ lw_tbl := by
  unfold wsL_law
  exact List.forall_mem_append.mpr ⟨List.forall_mem_append.mpr ⟨List.forall_mem_append.mpr ⟨List.forall_mem_append.mpr ⟨List.forall_mem_append.mpr ⟨List.forall_mem_append.mpr ⟨List.forall_mem_append.mpr ⟨List.forall_mem_append.mpr ⟨List.forall_mem_append.mpr ⟨List.forall_mem_append.mpr ⟨List.forall_mem_append.mpr ⟨List.forall_mem_append.mpr ⟨in_wsL_law_r1, List.forall_mem_append.mpr ⟨in_wsL_law_r2, List.forall_mem_append.mpr ⟨in_wsL_law_r3, List.forall_mem_append.mpr ⟨in_wsL_law_r4, List.forall_mem_append.mpr ⟨in_wsL_law_r5, List.forall_mem_append.mpr ⟨in_wsL_law_r6, List.forall_mem_append.mpr ⟨in_wsL_law_r7, List.forall_mem_append.mpr ⟨in_wsL_law_r8, List.forall_mem_append.mpr ⟨in_wsL_law_r9, List.forall_mem_append.mpr ⟨in_wsL_law_r10, List.forall_mem_append.mpr ⟨in_wsL_law_r11, List.forall_mem_append.mpr ⟨in_wsL_law_r12, List.forall_mem_append.mpr ⟨in_wsL_law_r13, List.forall_mem_append.mpr ⟨in_wsL_law_r14, List.forall_mem_append.mpr ⟨in_wsL_law_r15, List.forall_mem_append.mpr ⟨in_wsL_law_r16, List.forall_mem_append.mpr ⟨in_wsL_law_r17, List.forall_mem_append.mpr ⟨in_wsL_law_r18, List.forall_mem_append.mpr ⟨in_wsL_law_r19, List.forall_mem_append.mpr ⟨in_wsL_law_r20, List.forall_mem_append.mpr ⟨in_wsL_law_r21, List.forall_mem_append.mpr ⟨in_wsL_law_r22, List.forall_mem_append.mpr ⟨in_wsL_law_r23, List.forall_mem_append.mpr ⟨in_wsL_law_r24, List.forall_mem_append.mpr ⟨in_wsL_law_r25, List.forall_mem_append.mpr ⟨in_wsL_law_r26, List.forall_mem_append.mpr ⟨in_wsL_law_r27, List.forall_mem_append.mpr ⟨in_wsL_law_r28, List.forall_mem_append.mpr ⟨in_wsL_law_r29, List.forall_mem_append.mpr ⟨in_wsL_law_r30, List.forall_mem_append.mpr ⟨in_wsL_law_r31, List.forall_mem_append.mpr ⟨in_wsL_law_r32, List.forall_mem_append.mpr ⟨in_wsL_law_r33, List.forall_mem_append.mpr ⟨in_wsL_law_r34, List.forall_mem_append.mpr ⟨in_wsL_law_r35, List.forall_mem_append.mpr ⟨in_wsL_law_r36, List.forall_mem_append.mpr ⟨in_wsL_law_r37, in_wsL_law_r38⟩⟩⟩⟩⟩⟩⟩⟩⟩⟩⟩⟩⟩⟩⟩⟩⟩⟩⟩⟩⟩⟩⟩⟩⟩⟩⟩⟩⟩⟩⟩⟩⟩⟩⟩⟩⟩, in_wsX90⟩, in_wsX100⟩, in_wsX00⟩, in_wsX10⟩, in_wsX50⟩, in_wsX30⟩, in_wsX80⟩, in_wsX40⟩, in_wsX60⟩, in_wsX70⟩, fun _ h => absurd h List.not_mem_nil⟩

theorem goodIn_r {big : List Cond} (ws : List Cond) (ps : List Nat) (hp : ws = ps.filterMap (fun i => big[i]?)) (h : ws.all goodWord = true) : GoodIn big ws := by
  intro w hw
  have h1 := List.all_eq_true.mp h w hw
  rw [hp] at hw
  obtain ⟨i, -, hi⟩ := List.mem_filterMap.mp hw
  have hm : w ∈ big := by first | exact List.mem_of_getElem? hi | exact List.getElem?_mem hi
  exact ⟨hm, good_of_word h1⟩
theorem goodIn_app {big a b : List Cond} (ha : GoodIn big a) (hb : GoodIn big b) : GoodIn big (a ++ b) := fun w h => (List.mem_append.mp h).elim (ha w) (hb w)
theorem goodIn_ca {big a b : List Cond} {c : Cond} (ha : GoodIn big (c :: a)) (hb : GoodIn big b) : GoodIn big (c :: (a ++ b)) := fun w h => (List.mem_cons.mp h).elim (fun e => ha w (List.mem_cons.mpr (Or.inl e))) (fun h => (List.mem_append.mp h).elim (fun h => ha w (List.mem_cons.mpr (Or.inr h))) (hb w))
theorem goodIn_sub {big ws : List Cond} (hm : ∀ w ∈ ws, w ∈ big) (h : ws.all goodWord = true) : GoodIn big ws := fun w hw => ⟨hm w hw, good_of_word (List.all_eq_true.mp h w hw)⟩
/-! ===== BEGIN printed: names, fields, word lists, decode rows ===== -/
def RX0 : String := "ClearingGates$Books"
def TX0 : u_T := fun k => match k with
  | 0 => ("ClearingGates$Books", "kinds", "[I", true)
  | 1 => ("ClearingGates$Books", "balances", "[I", true)
  | 2 => ("ClearingGates$Books", "limits", "[I", true)
  | 3 => ("ClearingGates$Books", "gates", "[Z", true)
  | 4 => ("ClearingGates$Books", "entries", "[I", true)
  | 5 => ("ClearingGates$Books", "leavings", "[I", true)
  | 6 => ("ClearingGates$Books", "agains", "[I", true)
  | 7 => ("ClearingGates$Books", "accounts", "I", false)
  | 8 => ("ClearingGates$Books", "fees", "J", false)
  | 9 => ("ClearingGates$Books", "missed", "I", false)
  | 10 => ("ClearingGates$Books", "bells", "I", false)
  | 11 => ("ClearingGates$Books", "refused", "I", false)
  | _ => ("ClearingGates$Books", "caught", "I", false)
def tyX0 : Nat → FieldType := fun k => match k with
  | 0 => .array .int
  | 1 => .array .int
  | 2 => .array .int
  | 3 => .array .boolean
  | 4 => .array .int
  | 5 => .array .int
  | 6 => .array .int
  | 7 => .int
  | 8 => .long
  | 9 => .int
  | 10 => .int
  | 11 => .int
  | _ => .int
abbrev wsX00 : List Cond := u_ws RX0 TX0 13
theorem nmX0 : ∀ a, a < 13 → ∀ b, b < 13 → a ≠ b → (TX0 a).2.1 ≠ (TX0 b).2.1 := by decide +kernel
theorem tyX0_ok : ∀ k, k < 13 → parseFieldDescriptor (TX0 k).2.2.1 = some (tyX0 k) := by decide +kernel
abbrev cX0_init : ByteArray := prog_2_method_1_code
def yX0_init : MethodName := ⟨RX0, "<init>", "()V"⟩
abbrev cX0_has : ByteArray := prog_2_method_2_code
def yX0_has : MethodName := ⟨RX0, "has", "(I)Z"⟩
abbrev cX0_hasGate : ByteArray := prog_2_method_3_code
def yX0_hasGate : MethodName := ⟨RX0, "hasGate", "(I)Z"⟩
abbrev cX0_hasAllGates : ByteArray := prog_2_method_4_code
def yX0_hasAllGates : MethodName := ⟨RX0, "hasAllGates", "()Z"⟩
abbrev cX0_open : ByteArray := prog_2_method_5_code
def yX0_open : MethodName := ⟨RX0, "open", "(II)I"⟩
abbrev cX0_feeOf : ByteArray := prog_2_method_6_code
def yX0_feeOf : MethodName := ⟨RX0, "feeOf", "(II)I"⟩
abbrev cX0_floorOf : ByteArray := prog_2_method_7_code
def yX0_floorOf : MethodName := ⟨RX0, "floorOf", "(I)I"⟩
abbrev cX0_allMoney : ByteArray := prog_2_method_8_code
def yX0_allMoney : MethodName := ⟨RX0, "allMoney", "()J"⟩
abbrev cX0_allEntries : ByteArray := prog_2_method_9_code
def yX0_allEntries : MethodName := ⟨RX0, "allEntries", "()I"⟩
abbrev cX0_enterAll : ByteArray := prog_2_method_10_code
def yX0_enterAll : MethodName := ⟨RX0, "enterAll", "()V"⟩
abbrev cX0_leaveAll : ByteArray := prog_2_method_11_code
def yX0_leaveAll : MethodName := ⟨RX0, "leaveAll", "()V"⟩
abbrev cX0_becomeAs : ByteArray := prog_2_method_12_code
def yX0_becomeAs : MethodName := ⟨RX0, "becomeAs", "(LClearingGates$Books;)V"⟩
def RX1 : String := "ClearingGates$Debts"
def TX1 : u_T := fun k => match k with
  | _ => ("ClearingGates$Debts", "row", "[I", true)
def tyX1 : Nat → FieldType := fun k => match k with
  | _ => .array .int
abbrev wsX10 : List Cond := u_ws RX1 TX1 1
theorem nmX1 : ∀ a, a < 1 → ∀ b, b < 1 → a ≠ b → (TX1 a).2.1 ≠ (TX1 b).2.1 := by decide +kernel
theorem tyX1_ok : ∀ k, k < 1 → parseFieldDescriptor (TX1 k).2.2.1 = some (tyX1 k) := by decide +kernel
abbrev cX1_init : ByteArray := prog_3_method_1_code
def yX1_init : MethodName := ⟨RX1, "<init>", "()V"⟩
abbrev cX1_between : ByteArray := prog_3_method_2_code
def yX1_between : MethodName := ⟨RX1, "between", "(II)I"⟩
abbrev cX1_become : ByteArray := prog_3_method_3_code
def yX1_become : MethodName := ⟨RX1, "become", "(III)V"⟩
abbrev cX1_total : ByteArray := prog_3_method_4_code
def yX1_total : MethodName := ⟨RX1, "total", "()J"⟩
abbrev cX1_positionOf : ByteArray := prog_3_method_5_code
def yX1_positionOf : MethodName := ⟨RX1, "positionOf", "(I)J"⟩
abbrev cX1_becomeAs : ByteArray := prog_3_method_6_code
def yX1_becomeAs : MethodName := ⟨RX1, "becomeAs", "(LClearingGates$Debts;)V"⟩
def RX2 : String := "ClearingGates$Kinds"
def TX2 : u_T := fun k => match k with
  | _ => ("", "", "", false)
def tyX2 : Nat → FieldType := fun k => match k with
  | _ => .int
abbrev wsX20 : List Cond := u_ws RX2 TX2 0
theorem nmX2 : ∀ a, a < 0 → ∀ b, b < 0 → a ≠ b → (TX2 a).2.1 ≠ (TX2 b).2.1 := by decide +kernel
theorem tyX2_ok : ∀ k, k < 0 → parseFieldDescriptor (TX2 k).2.2.1 = some (tyX2 k) := by decide +kernel
abbrev cX2_isKind : ByteArray := prog_4_method_2_code
def yX2_isKind : MethodName := ⟨RX2, "isKind", "(I)Z"⟩
abbrev cX2_feeOf : ByteArray := prog_4_method_3_code
def yX2_feeOf : MethodName := ⟨RX2, "feeOf", "(II)I"⟩
abbrev cX2_floorOf : ByteArray := prog_4_method_4_code
def yX2_floorOf : MethodName := ⟨RX2, "floorOf", "(II)I"⟩
abbrev cX2_isOrIsUnder : ByteArray := prog_4_method_5_code
def yX2_isOrIsUnder : MethodName := ⟨RX2, "isOrIsUnder", "(II)Z"⟩
def RX3 : String := "ClearingGates$Program"
def TX3 : u_T := fun k => match k with
  | 0 => ("ClearingGates$Program", "bytes", "[I", true)
  | 1 => ("ClearingGates$Program", "behind", "[I", true)
  | _ => ("ClearingGates$Program", "size", "I", false)
def tyX3 : Nat → FieldType := fun k => match k with
  | 0 => .array .int
  | 1 => .array .int
  | _ => .int
abbrev wsX30 : List Cond := u_ws RX3 TX3 3
theorem nmX3 : ∀ a, a < 3 → ∀ b, b < 3 → a ≠ b → (TX3 a).2.1 ≠ (TX3 b).2.1 := by decide +kernel
theorem tyX3_ok : ∀ k, k < 3 → parseFieldDescriptor (TX3 k).2.2.1 = some (tyX3 k) := by decide +kernel
abbrev cX3_init : ByteArray := prog_5_method_1_code
def yX3_init : MethodName := ⟨RX3, "<init>", "()V"⟩
abbrev cX3_takeOver : ByteArray := prog_5_method_2_code
def yX3_takeOver : MethodName := ⟨RX3, "takeOver", "(LClearingGates$Tape;)V"⟩
abbrev cX3_byteAt : ByteArray := prog_5_method_3_code
def yX3_byteAt : MethodName := ⟨RX3, "byteAt", "(I)I"⟩
abbrev cX3_behindItem : ByteArray := prog_5_method_4_code
def yX3_behindItem : MethodName := ⟨RX3, "behindItem", "(I)I"⟩
abbrev cX3_figureAt : ByteArray := prog_5_method_5_code
def yX3_figureAt : MethodName := ⟨RX3, "figureAt", "(I)I"⟩
abbrev cX3_numberBetween : ByteArray := prog_5_method_6_code
def yX3_numberBetween : MethodName := ⟨RX3, "numberBetween", "(II)I"⟩
def RX4 : String := "ClearingGates$Reader"
def TX4 : u_T := fun k => match k with
  | 0 => ("ClearingGates$Reader", "opened", "[I", true)
  | 1 => ("ClearingGates$Reader", "open", "I", false)
  | 2 => ("ClearingGates$Reader", "loops", "I", false)
  | 3 => ("ClearingGates$Reader", "fault", "I", false)
  | _ => ("ClearingGates$Reader", "program", "LClearingGates$Program;", false)
def tyX4 : Nat → FieldType := fun k => match k with
  | 0 => .array .int
  | 1 => .int
  | 2 => .int
  | 3 => .int
  | _ => .object "ClearingGates$Program"
abbrev wsX40 : List Cond := u_ws RX4 TX4 5
theorem nmX4 : ∀ a, a < 5 → ∀ b, b < 5 → a ≠ b → (TX4 a).2.1 ≠ (TX4 b).2.1 := by decide +kernel
theorem tyX4_ok : ∀ k, k < 5 → parseFieldDescriptor (TX4 k).2.2.1 = some (tyX4 k) := by decide +kernel
abbrev cX4_init : ByteArray := prog_6_method_1_code
def yX4_init : MethodName := ⟨RX4, "<init>", "()V"⟩
abbrev cX4_faultOf : ByteArray := prog_6_method_2_code
def yX4_faultOf : MethodName := ⟨RX4, "faultOf", "(LClearingGates$Program;)I"⟩
abbrev cX4_step : ByteArray := prog_6_method_3_code
def yX4_step : MethodName := ⟨RX4, "step", "(I)I"⟩
abbrev cX4_openingWithFigure : ByteArray := prog_6_method_4_code
def yX4_openingWithFigure : MethodName := ⟨RX4, "openingWithFigure", "(III)I"⟩
abbrev cX4_opening : ByteArray := prog_6_method_5_code
def yX4_opening : MethodName := ⟨RX4, "opening", "(I)I"⟩
abbrev cX4_closing : ByteArray := prog_6_method_6_code
def yX4_closing : MethodName := ⟨RX4, "closing", "(II)I"⟩
abbrev cX4_payment : ByteArray := prog_6_method_7_code
def yX4_payment : MethodName := ⟨RX4, "payment", "(I)I"⟩
abbrev cX4_bell : ByteArray := prog_6_method_8_code
def yX4_bell : MethodName := ⟨RX4, "bell", "(I)I"⟩
abbrev cX4_isFigure : ByteArray := prog_6_method_9_code
def yX4_isFigure : MethodName := ⟨RX4, "isFigure", "(III)Z"⟩
abbrev cX4_ends : ByteArray := prog_6_method_10_code
def yX4_ends : MethodName := ⟨RX4, "ends", "(II)I"⟩
abbrev cX4_faultAt : ByteArray := prog_6_method_11_code
def yX4_faultAt : MethodName := ⟨RX4, "faultAt", "(I)I"⟩
def RX5 : String := "ClearingGates$Rings"
def TX5 : u_T := fun k => match k with
  | 0 => ("ClearingGates$Rings", "debts", "LClearingGates$Debts;", true)
  | 1 => ("ClearingGates$Rings", "way", "[I", true)
  | 2 => ("ClearingGates$Rings", "wayLength", "I", false)
  | _ => ("ClearingGates$Rings", "tried", "[Z", true)
def tyX5 : Nat → FieldType := fun k => match k with
  | 0 => .object "ClearingGates$Debts"
  | 1 => .array .int
  | 2 => .int
  | _ => .array .boolean
abbrev wsX50 : List Cond := u_ws RX5 TX5 4
theorem nmX5 : ∀ a, a < 4 → ∀ b, b < 4 → a ≠ b → (TX5 a).2.1 ≠ (TX5 b).2.1 := by decide +kernel
theorem tyX5_ok : ∀ k, k < 4 → parseFieldDescriptor (TX5 k).2.2.1 = some (tyX5 k) := by decide +kernel
abbrev cX5_init : ByteArray := prog_7_method_1_code
def yX5_init : MethodName := ⟨RX5, "<init>", "(LClearingGates$Debts;)V"⟩
abbrev cX5_cutAll : ByteArray := prog_7_method_2_code
def yX5_cutAll : MethodName := ⟨RX5, "cutAll", "(I)I"⟩
abbrev cX5_findsFirst : ByteArray := prog_7_method_3_code
def yX5_findsFirst : MethodName := ⟨RX5, "findsFirst", "(I)Z"⟩
abbrev cX5_leadsBack : ByteArray := prog_7_method_4_code
def yX5_leadsBack : MethodName := ⟨RX5, "leadsBack", "(IIII)Z"⟩
abbrev cX5_cutFound : ByteArray := prog_7_method_5_code
def yX5_cutFound : MethodName := ⟨RX5, "cutFound", "()V"⟩
abbrev cX5_behind : ByteArray := prog_7_method_6_code
def yX5_behind : MethodName := ⟨RX5, "behind", "(I)I"⟩
def RX6 : String := "ClearingGates$Runner"
def TX6 : u_T := fun k => match k with
  | 0 => ("ClearingGates$Runner", "books", "LClearingGates$Books;", true)
  | 1 => ("ClearingGates$Runner", "marks", "[I", true)
  | 2 => ("ClearingGates$Runner", "markCount", "I", false)
  | 3 => ("ClearingGates$Runner", "held", "[I", true)
  | 4 => ("ClearingGates$Runner", "keptBalances", "[[I", true)
  | 5 => ("ClearingGates$Runner", "keptFees", "[J", true)
  | 6 => ("ClearingGates$Runner", "begun", "I", false)
  | _ => ("ClearingGates$Runner", "program", "LClearingGates$Program;", false)
def tyX6 : Nat → FieldType := fun k => match k with
  | 0 => .object "ClearingGates$Books"
  | 1 => .array .int
  | 2 => .int
  | 3 => .array .int
  | 4 => .array (.array .int)
  | 5 => .array .long
  | 6 => .int
  | _ => .object "ClearingGates$Program"
abbrev wsX60 : List Cond := u_ws RX6 TX6 8
theorem nmX6 : ∀ a, a < 8 → ∀ b, b < 8 → a ≠ b → (TX6 a).2.1 ≠ (TX6 b).2.1 := by decide +kernel
theorem tyX6_ok : ∀ k, k < 8 → parseFieldDescriptor (TX6 k).2.2.1 = some (tyX6 k) := by decide +kernel
abbrev cX6_init : ByteArray := prog_8_method_1_code
def yX6_init : MethodName := ⟨RX6, "<init>", "(LClearingGates$Books;)V"⟩
abbrev cX6_keptMarks : ByteArray := prog_8_method_2_code
def yX6_keptMarks : MethodName := ⟨RX6, "keptMarks", "()I"⟩
abbrev cX6_outcomeOf : ByteArray := prog_8_method_3_code
def yX6_outcomeOf : MethodName := ⟨RX6, "outcomeOf", "(LClearingGates$Program;)I"⟩
abbrev cX6_items : ByteArray := prog_8_method_4_code
def yX6_items : MethodName := ⟨RX6, "items", "(III)I"⟩
abbrev cX6_item : ByteArray := prog_8_method_5_code
def yX6_item : MethodName := ⟨RX6, "item", "(II)I"⟩
abbrev cX6_inside : ByteArray := prog_8_method_6_code
def yX6_inside : MethodName := ⟨RX6, "inside", "(III)I"⟩
abbrev cX6_block : ByteArray := prog_8_method_7_code
def yX6_block : MethodName := ⟨RX6, "block", "(II)I"⟩
abbrev cX6_attempt : ByteArray := prog_8_method_8_code
def yX6_attempt : MethodName := ⟨RX6, "attempt", "(III)I"⟩
abbrev cX6_loop : ByteArray := prog_8_method_9_code
def yX6_loop : MethodName := ⟨RX6, "loop", "(II)I"⟩
abbrev cX6_payment : ByteArray := prog_8_method_10_code
def yX6_payment : MethodName := ⟨RX6, "payment", "(I)I"⟩
abbrev cX6_bell : ByteArray := prog_8_method_11_code
def yX6_bell : MethodName := ⟨RX6, "bell", "(II)I"⟩
abbrev cX6_isHeld : ByteArray := prog_8_method_12_code
def yX6_isHeld : MethodName := ⟨RX6, "isHeld", "(I)Z"⟩
abbrev cX6_isGreaterHeld : ByteArray := prog_8_method_13_code
def yX6_isGreaterHeld : MethodName := ⟨RX6, "isGreaterHeld", "(I)Z"⟩
abbrev cX6_mark : ByteArray := prog_8_method_14_code
def yX6_mark : MethodName := ⟨RX6, "mark", "(I)V"⟩
abbrev cX6_keep : ByteArray := prog_8_method_15_code
def yX6_keep : MethodName := ⟨RX6, "keep", "(I)V"⟩
abbrev cX6_undo : ByteArray := prog_8_method_16_code
def yX6_undo : MethodName := ⟨RX6, "undo", "(I)V"⟩
def RX7 : String := "ClearingGates$Sheet"
def TX7 : u_T := fun k => match k with
  | 0 => ("ClearingGates$Sheet", "sort", "I", false)
  | 1 => ("ClearingGates$Sheet", "size", "I", false)
  | _ => ("ClearingGates$Sheet", "items", "[I", true)
def tyX7 : Nat → FieldType := fun k => match k with
  | 0 => .int
  | 1 => .int
  | _ => .array .int
abbrev wsX70 : List Cond := u_ws RX7 TX7 3
theorem nmX7 : ∀ a, a < 3 → ∀ b, b < 3 → a ≠ b → (TX7 a).2.1 ≠ (TX7 b).2.1 := by decide +kernel
theorem tyX7_ok : ∀ k, k < 3 → parseFieldDescriptor (TX7 k).2.2.1 = some (tyX7 k) := by decide +kernel
abbrev cX7_init : ByteArray := prog_9_method_1_code
def yX7_init : MethodName := ⟨RX7, "<init>", "()V"⟩
abbrev cX7_isMissing : ByteArray := prog_9_method_2_code
def yX7_isMissing : MethodName := ⟨RX7, "isMissing", "()Z"⟩
abbrev cX7_hasPlace : ByteArray := prog_9_method_3_code
def yX7_hasPlace : MethodName := ⟨RX7, "hasPlace", "(I)Z"⟩
abbrev cX7_hasStretch : ByteArray := prog_9_method_4_code
def yX7_hasStretch : MethodName := ⟨RX7, "hasStretch", "(II)Z"⟩
abbrev cX7_become : ByteArray := prog_9_method_5_code
def yX7_become : MethodName := ⟨RX7, "become", "(II)V"⟩
abbrev cX7_write : ByteArray := prog_9_method_6_code
def yX7_write : MethodName := ⟨RX7, "write", "(II)V"⟩
abbrev cX7_takeOver : ByteArray := prog_9_method_7_code
def yX7_takeOver : MethodName := ⟨RX7, "takeOver", "([II)V"⟩
abbrev cX7_firstUnlike : ByteArray := prog_9_method_8_code
def yX7_firstUnlike : MethodName := ⟨RX7, "firstUnlike", "([II)I"⟩
def RX8 : String := "ClearingGates$Tape"
def TX8 : u_T := fun k => match k with
  | 0 => ("ClearingGates$Tape", "bytes", "[I", true)
  | _ => ("ClearingGates$Tape", "size", "I", false)
def tyX8 : Nat → FieldType := fun k => match k with
  | 0 => .array .int
  | _ => .int
abbrev wsX80 : List Cond := u_ws RX8 TX8 2
theorem nmX8 : ∀ a, a < 2 → ∀ b, b < 2 → a ≠ b → (TX8 a).2.1 ≠ (TX8 b).2.1 := by decide +kernel
theorem tyX8_ok : ∀ k, k < 2 → parseFieldDescriptor (TX8 k).2.2.1 = some (tyX8 k) := by decide +kernel
abbrev cX8_init : ByteArray := prog_10_method_1_code
def yX8_init : MethodName := ⟨RX8, "<init>", "()V"⟩
abbrev cX8_add : ByteArray := prog_10_method_2_code
def yX8_add : MethodName := ⟨RX8, "add", "(I)V"⟩
def RX9 : String := "ClearingGates"
def TX9 : u_T := fun k => match k with
  | 0 => ("ClearingGates", "books", "LClearingGates$Books;", true)
  | 1 => ("ClearingGates", "imageBooks", "LClearingGates$Books;", true)
  | 2 => ("ClearingGates", "debts", "LClearingGates$Debts;", true)
  | 3 => ("ClearingGates", "imageDebts", "LClearingGates$Debts;", true)
  | 4 => ("ClearingGates", "rings", "LClearingGates$Rings;", true)
  | 5 => ("ClearingGates", "programs", "[LClearingGates$Program;", true)
  | 6 => ("ClearingGates", "programCount", "I", false)
  | 7 => ("ClearingGates", "imagePrograms", "I", false)
  | 8 => ("ClearingGates", "tape", "LClearingGates$Tape;", true)
  | 9 => ("ClearingGates", "reader", "LClearingGates$Reader;", true)
  | 10 => ("ClearingGates", "truly", "LClearingGates$Runner;", true)
  | 11 => ("ClearingGates", "thought", "LClearingGates$Runner;", true)
  | _ => ("ClearingGates", "sheets", "[LClearingGates$Sheet;", true)
def tyX9 : Nat → FieldType := fun k => match k with
  | 0 => .object "ClearingGates$Books"
  | 1 => .object "ClearingGates$Books"
  | 2 => .object "ClearingGates$Debts"
  | 3 => .object "ClearingGates$Debts"
  | 4 => .object "ClearingGates$Rings"
  | 5 => .array (.object "ClearingGates$Program")
  | 6 => .int
  | 7 => .int
  | 8 => .object "ClearingGates$Tape"
  | 9 => .object "ClearingGates$Reader"
  | 10 => .object "ClearingGates$Runner"
  | 11 => .object "ClearingGates$Runner"
  | _ => .array (.object "ClearingGates$Sheet")
abbrev wsX90 : List Cond := u_ws RX9 TX9 13
theorem nmX9 : ∀ a, a < 13 → ∀ b, b < 13 → a ≠ b → (TX9 a).2.1 ≠ (TX9 b).2.1 := by decide +kernel
theorem tyX9_ok : ∀ k, k < 13 → parseFieldDescriptor (TX9 k).2.2.1 = some (tyX9 k) := by decide +kernel
abbrev cX9_init : ByteArray := prog_1_method_1_code
def yX9_init : MethodName := ⟨RX9, "<init>", "()V"⟩
abbrev cX9_account : ByteArray := prog_1_method_2_code
def yX9_account : MethodName := ⟨RX9, "account", "(II)I"⟩
abbrev cX9_set : ByteArray := prog_1_method_3_code
def yX9_set : MethodName := ⟨RX9, "set", "(III)J"⟩
abbrev cX9_gate : ByteArray := prog_1_method_4_code
def yX9_gate : MethodName := ⟨RX9, "gate", "(IZ)I"⟩
abbrev cX9_told : ByteArray := prog_1_method_5_code
def yX9_told : MethodName := ⟨RX9, "told", "(II)I"⟩
abbrev cX9_of : ByteArray := prog_1_method_6_code
def yX9_of : MethodName := ⟨RX9, "of", "(II)J"⟩
abbrev cX9_count : ByteArray := prog_1_method_7_code
def yX9_count : MethodName := ⟨RX9, "count", "(I)I"⟩
abbrev cX9_sum : ByteArray := prog_1_method_8_code
def yX9_sum : MethodName := ⟨RX9, "sum", "(I)J"⟩
abbrev cX9_taken : ByteArray := prog_1_method_9_code
def yX9_taken : MethodName := ⟨RX9, "taken", "(II)I"⟩
abbrev cX9_feed : ByteArray := prog_1_method_10_code
def yX9_feed : MethodName := ⟨RX9, "feed", "(IIIIII)I"⟩
abbrev cX9_program : ByteArray := prog_1_method_11_code
def yX9_program : MethodName := ⟨RX9, "program", "()I"⟩
abbrev cX9_run : ByteArray := prog_1_method_12_code
def yX9_run : MethodName := ⟨RX9, "run", "(I)I"⟩
abbrev cX9_trace : ByteArray := prog_1_method_13_code
def yX9_trace : MethodName := ⟨RX9, "trace", "(I)I"⟩
abbrev cX9_would : ByteArray := prog_1_method_14_code
def yX9_would : MethodName := ⟨RX9, "would", "(II)J"⟩
abbrev cX9_needed : ByteArray := prog_1_method_15_code
def yX9_needed : MethodName := ⟨RX9, "needed", "(II)I"⟩
abbrev cX9_hinges : ByteArray := prog_1_method_16_code
def yX9_hinges : MethodName := ⟨RX9, "hinges", "(I)I"⟩
abbrev cX9_owe : ByteArray := prog_1_method_17_code
def yX9_owe : MethodName := ⟨RX9, "owe", "(III)I"⟩
abbrev cX9_owed : ByteArray := prog_1_method_18_code
def yX9_owed : MethodName := ⟨RX9, "owed", "(II)I"⟩
abbrev cX9_net : ByteArray := prog_1_method_19_code
def yX9_net : MethodName := ⟨RX9, "net", "()I"⟩
abbrev cX9_tells : ByteArray := prog_1_method_20_code
def yX9_tells : MethodName := ⟨RX9, "tells", "(IIII)I"⟩
abbrev cX9_film : ByteArray := prog_1_method_21_code
def yX9_film : MethodName := ⟨RX9, "film", "(II)I"⟩
abbrev cX9_image : ByteArray := prog_1_method_22_code
def yX9_image : MethodName := ⟨RX9, "image", "()I"⟩
abbrev cX9_back : ByteArray := prog_1_method_23_code
def yX9_back : MethodName := ⟨RX9, "back", "()I"⟩
abbrev cX9_sheet : ByteArray := prog_1_method_24_code
def yX9_sheet : MethodName := ⟨RX9, "sheet", "(III)I"⟩
abbrev cX9_put : ByteArray := prog_1_method_25_code
def yX9_put : MethodName := ⟨RX9, "put", "(III)I"⟩
abbrev cX9_copy : ByteArray := prog_1_method_26_code
def yX9_copy : MethodName := ⟨RX9, "copy", "(IIIII)I"⟩
abbrev cX9_load : ByteArray := prog_1_method_27_code
def yX9_load : MethodName := ⟨RX9, "load", "(IIII)I"⟩
abbrev cX9_isWithin : ByteArray := prog_1_method_28_code
def yX9_isWithin : MethodName := ⟨RX9, "isWithin", "(II)Z"⟩
abbrev cX9_isByte : ByteArray := prog_1_method_29_code
def yX9_isByte : MethodName := ⟨RX9, "isByte", "(I)Z"⟩
abbrev cX9_isSheet : ByteArray := prog_1_method_30_code
def yX9_isSheet : MethodName := ⟨RX9, "isSheet", "(I)Z"⟩
abbrev cX9_isProgram : ByteArray := prog_1_method_31_code
def yX9_isProgram : MethodName := ⟨RX9, "isProgram", "(I)Z"⟩
abbrev cX9_isPair : ByteArray := prog_1_method_32_code
def yX9_isPair : MethodName := ⟨RX9, "isPair", "(II)Z"⟩
abbrev cX9_isOfWould : ByteArray := prog_1_method_33_code
def yX9_isOfWould : MethodName := ⟨RX9, "isOfWould", "(I)Z"⟩
abbrev cX9_outcomeInThought : ByteArray := prog_1_method_34_code
def yX9_outcomeInThought : MethodName := ⟨RX9, "outcomeInThought", "(I)I"⟩
abbrev cX9_kindsToldBy : ByteArray := prog_1_method_35_code
def yX9_kindsToldBy : MethodName := ⟨RX9, "kindsToldBy", "(LClearingGates$Sheet;II)I"⟩
def RX10 : String := "ClearingGatesModel"
def TX10 : u_T := fun k => match k with
  | 0 => ("ClearingGatesModel", "s", "[I", true)
  | 1 => ("ClearingGatesModel", "fees", "J", false)
  | 2 => ("ClearingGatesModel", "thought", "[I", true)
  | 3 => ("ClearingGatesModel", "thoughtFees", "J", false)
  | 4 => ("ClearingGatesModel", "image", "[I", true)
  | 5 => ("ClearingGatesModel", "imageFees", "J", false)
  | 6 => ("ClearingGatesModel", "hasImage", "Z", false)
  | 7 => ("ClearingGatesModel", "tape", "[I", true)
  | 8 => ("ClearingGatesModel", "taped", "I", false)
  | 9 => ("ClearingGatesModel", "texts", "[I", true)
  | 10 => ("ClearingGatesModel", "sizes", "[I", true)
  | 11 => ("ClearingGatesModel", "programs", "I", false)
  | 12 => ("ClearingGatesModel", "imageTexts", "[I", true)
  | 13 => ("ClearingGatesModel", "imageSizes", "[I", true)
  | 14 => ("ClearingGatesModel", "imagePrograms", "I", false)
  | 15 => ("ClearingGatesModel", "here", "I", false)
  | 16 => ("ClearingGatesModel", "open", "I", false)
  | 17 => ("ClearingGatesModel", "running", "I", false)
  | 18 => ("ClearingGatesModel", "begun", "I", false)
  | 19 => ("ClearingGatesModel", "held", "[I", true)
  | 20 => ("ClearingGatesModel", "marks", "[I", true)
  | 21 => ("ClearingGatesModel", "markMany", "I", false)
  | 22 => ("ClearingGatesModel", "trace", "[I", true)
  | 23 => ("ClearingGatesModel", "traced", "I", false)
  | 24 => ("ClearingGatesModel", "keptBalances", "[I", true)
  | 25 => ("ClearingGatesModel", "keptFees", "[J", true)
  | 26 => ("ClearingGatesModel", "deep", "I", false)
  | 27 => ("ClearingGatesModel", "way", "[I", true)
  | 28 => ("ClearingGatesModel", "sorts", "[I", true)
  | 29 => ("ClearingGatesModel", "rowMany", "[I", true)
  | 30 => ("ClearingGatesModel", "items", "[I", true)
  | _ => ("ClearingGatesModel", "moved", "[I", true)
def tyX10 : Nat → FieldType := fun k => match k with
  | 0 => .array .int
  | 1 => .long
  | 2 => .array .int
  | 3 => .long
  | 4 => .array .int
  | 5 => .long
  | 6 => .boolean
  | 7 => .array .int
  | 8 => .int
  | 9 => .array .int
  | 10 => .array .int
  | 11 => .int
  | 12 => .array .int
  | 13 => .array .int
  | 14 => .int
  | 15 => .int
  | 16 => .int
  | 17 => .int
  | 18 => .int
  | 19 => .array .int
  | 20 => .array .int
  | 21 => .int
  | 22 => .array .int
  | 23 => .int
  | 24 => .array .int
  | 25 => .array .long
  | 26 => .int
  | 27 => .array .int
  | 28 => .array .int
  | 29 => .array .int
  | 30 => .array .int
  | _ => .array .int
abbrev wsX100 : List Cond := u_ws RX10 TX10 32
theorem nmX10 : ∀ a, a < 32 → ∀ b, b < 32 → a ≠ b → (TX10 a).2.1 ≠ (TX10 b).2.1 := by decide +kernel
theorem tyX10_ok : ∀ k, k < 32 → parseFieldDescriptor (TX10 k).2.2.1 = some (tyX10 k) := by decide +kernel
abbrev cX10_init : ByteArray := prog_12_method_1_code
def yX10_init : MethodName := ⟨RX10, "<init>", "()V"⟩
abbrev cX10_isIn : ByteArray := prog_12_method_2_code
def yX10_isIn : MethodName := ⟨RX10, "isIn", "(JJJ)Z"⟩
abbrev cX10_isAccount : ByteArray := prog_12_method_3_code
def yX10_isAccount : MethodName := ⟨RX10, "isAccount", "(I)Z"⟩
abbrev cX10_account : ByteArray := prog_12_method_4_code
def yX10_account : MethodName := ⟨RX10, "account", "(II)I"⟩
abbrev cX10_set : ByteArray := prog_12_method_5_code
def yX10_set : MethodName := ⟨RX10, "set", "(III)J"⟩
abbrev cX10_gate : ByteArray := prog_12_method_6_code
def yX10_gate : MethodName := ⟨RX10, "gate", "(IZ)I"⟩
abbrev cX10_feeOf : ByteArray := prog_12_method_7_code
def yX10_feeOf : MethodName := ⟨RX10, "feeOf", "(II)I"⟩
abbrev cX10_floorOf : ByteArray := prog_12_method_8_code
def yX10_floorOf : MethodName := ⟨RX10, "floorOf", "(I)I"⟩
abbrev cX10_told : ByteArray := prog_12_method_9_code
def yX10_told : MethodName := ⟨RX10, "told", "(II)I"⟩
abbrev cX10_owedTo : ByteArray := prog_12_method_10_code
def yX10_owedTo : MethodName := ⟨RX10, "owedTo", "(II)I"⟩
abbrev cX10_positionOf : ByteArray := prog_12_method_11_code
def yX10_positionOf : MethodName := ⟨RX10, "positionOf", "(I)J"⟩
abbrev cX10_of : ByteArray := prog_12_method_12_code
def yX10_of : MethodName := ⟨RX10, "of", "(II)J"⟩
abbrev cX10_count : ByteArray := prog_12_method_13_code
def yX10_count : MethodName := ⟨RX10, "count", "(I)I"⟩
abbrev cX10_sum : ByteArray := prog_12_method_14_code
def yX10_sum : MethodName := ⟨RX10, "sum", "(I)J"⟩
abbrev cX10_above : ByteArray := prog_12_method_15_code
def yX10_above : MethodName := ⟨RX10, "above", "(I)I"⟩
abbrev cX10_taken : ByteArray := prog_12_method_16_code
def yX10_taken : MethodName := ⟨RX10, "taken", "(II)I"⟩
abbrev cX10_isByte : ByteArray := prog_12_method_17_code
def yX10_isByte : MethodName := ⟨RX10, "isByte", "(I)Z"⟩
abbrev cX10_feed : ByteArray := prog_12_method_18_code
def yX10_feed : MethodName := ⟨RX10, "feed", "(IIIIII)I"⟩
abbrev cX10_byteAt : ByteArray := prog_12_method_19_code
def yX10_byteAt : MethodName := ⟨RX10, "byteAt", "()I"⟩
abbrev cX10_takesFigure : ByteArray := prog_12_method_20_code
def yX10_takesFigure : MethodName := ⟨RX10, "takesFigure", "(II)Z"⟩
abbrev cX10_takesBracket : ByteArray := prog_12_method_21_code
def yX10_takesBracket : MethodName := ⟨RX10, "takesBracket", "(IZ)Z"⟩
abbrev cX10_takesPayment : ByteArray := prog_12_method_22_code
def yX10_takesPayment : MethodName := ⟨RX10, "takesPayment", "()Z"⟩
abbrev cX10_takesItem : ByteArray := prog_12_method_23_code
def yX10_takesItem : MethodName := ⟨RX10, "takesItem", "(Z)Z"⟩
abbrev cX10_program : ByteArray := prog_12_method_24_code
def yX10_program : MethodName := ⟨RX10, "program", "()I"⟩
abbrev cX10_marks : ByteArray := prog_12_method_25_code
def yX10_marks : MethodName := ⟨RX10, "marks", "(I)V"⟩
abbrev cX10_signAt : ByteArray := prog_12_method_26_code
def yX10_signAt : MethodName := ⟨RX10, "signAt", "(I)I"⟩
abbrev cX10_figureAt : ByteArray := prog_12_method_27_code
def yX10_figureAt : MethodName := ⟨RX10, "figureAt", "(I)I"⟩
abbrev cX10_hasGate : ByteArray := prog_12_method_28_code
def yX10_hasGate : MethodName := ⟨RX10, "hasGate", "(I)Z"⟩
abbrev cX10_behind : ByteArray := prog_12_method_29_code
def yX10_behind : MethodName := ⟨RX10, "behind", "(I)I"⟩
abbrev cX10_insideOf : ByteArray := prog_12_method_30_code
def yX10_insideOf : MethodName := ⟨RX10, "insideOf", "(I)I"⟩
abbrev cX10_isClosed : ByteArray := prog_12_method_31_code
def yX10_isClosed : MethodName := ⟨RX10, "isClosed", "(I)Z"⟩
abbrev cX10_keepsBooks : ByteArray := prog_12_method_32_code
def yX10_keepsBooks : MethodName := ⟨RX10, "keepsBooks", "()V"⟩
abbrev cX10_forgetsBooks : ByteArray := prog_12_method_33_code
def yX10_forgetsBooks : MethodName := ⟨RX10, "forgetsBooks", "(Z)V"⟩
abbrev cX10_does : ByteArray := prog_12_method_34_code
def yX10_does : MethodName := ⟨RX10, "does", "(I)I"⟩
abbrev cX10_block : ByteArray := prog_12_method_35_code
def yX10_block : MethodName := ⟨RX10, "block", "(I)I"⟩
abbrev cX10_pays : ByteArray := prog_12_method_36_code
def yX10_pays : MethodName := ⟨RX10, "pays", "(I)I"⟩
abbrev cX10_rings : ByteArray := prog_12_method_37_code
def yX10_rings : MethodName := ⟨RX10, "rings", "(II)I"⟩
abbrev cX10_loops : ByteArray := prog_12_method_38_code
def yX10_loops : MethodName := ⟨RX10, "loops", "(I)I"⟩
abbrev cX10_tries : ByteArray := prog_12_method_39_code
def yX10_tries : MethodName := ⟨RX10, "tries", "(IZ)I"⟩
abbrev cX10_doesItem : ByteArray := prog_12_method_40_code
def yX10_doesItem : MethodName := ⟨RX10, "doesItem", "(I)I"⟩
abbrev cX10_runs : ByteArray := prog_12_method_41_code
def yX10_runs : MethodName := ⟨RX10, "runs", "(I)I"⟩
abbrev cX10_isProgram : ByteArray := prog_12_method_42_code
def yX10_isProgram : MethodName := ⟨RX10, "isProgram", "(I)Z"⟩
abbrev cX10_run : ByteArray := prog_12_method_43_code
def yX10_run : MethodName := ⟨RX10, "run", "(I)I"⟩
abbrev cX10_trace : ByteArray := prog_12_method_44_code
def yX10_trace : MethodName := ⟨RX10, "trace", "(I)I"⟩
abbrev cX10_thinks : ByteArray := prog_12_method_45_code
def yX10_thinks : MethodName := ⟨RX10, "thinks", "()V"⟩
abbrev cX10_wakes : ByteArray := prog_12_method_46_code
def yX10_wakes : MethodName := ⟨RX10, "wakes", "()V"⟩
abbrev cX10_entries : ByteArray := prog_12_method_47_code
def yX10_entries : MethodName := ⟨RX10, "entries", "()J"⟩
abbrev cX10_would : ByteArray := prog_12_method_48_code
def yX10_would : MethodName := ⟨RX10, "would", "(II)J"⟩
abbrev cX10_outcomeOf : ByteArray := prog_12_method_49_code
def yX10_outcomeOf : MethodName := ⟨RX10, "outcomeOf", "(I)I"⟩
abbrev cX10_needed : ByteArray := prog_12_method_50_code
def yX10_needed : MethodName := ⟨RX10, "needed", "(II)I"⟩
abbrev cX10_hinges : ByteArray := prog_12_method_51_code
def yX10_hinges : MethodName := ⟨RX10, "hinges", "(I)I"⟩
abbrev cX10_areTwo : ByteArray := prog_12_method_52_code
def yX10_areTwo : MethodName := ⟨RX10, "areTwo", "(II)Z"⟩
abbrev cX10_owe : ByteArray := prog_12_method_53_code
def yX10_owe : MethodName := ⟨RX10, "owe", "(III)I"⟩
abbrev cX10_owed : ByteArray := prog_12_method_54_code
def yX10_owed : MethodName := ⟨RX10, "owed", "(II)I"⟩
abbrev cX10_ringFrom : ByteArray := prog_12_method_55_code
def yX10_ringFrom : MethodName := ⟨RX10, "ringFrom", "(II)I"⟩
abbrev cX10_firstRing : ByteArray := prog_12_method_56_code
def yX10_firstRing : MethodName := ⟨RX10, "firstRing", "()I"⟩
abbrev cX10_net : ByteArray := prog_12_method_57_code
def yX10_net : MethodName := ⟨RX10, "net", "()I"⟩
abbrev cX10_isSheet : ByteArray := prog_12_method_58_code
def yX10_isSheet : MethodName := ⟨RX10, "isSheet", "(I)Z"⟩
abbrev cX10_itemOf : ByteArray := prog_12_method_59_code
def yX10_itemOf : MethodName := ⟨RX10, "itemOf", "(II)I"⟩
abbrev cX10_otherIn : ByteArray := prog_12_method_60_code
def yX10_otherIn : MethodName := ⟨RX10, "otherIn", "(II)I"⟩
abbrev cX10_tells : ByteArray := prog_12_method_61_code
def yX10_tells : MethodName := ⟨RX10, "tells", "(IIII)I"⟩
abbrev cX10_film : ByteArray := prog_12_method_62_code
def yX10_film : MethodName := ⟨RX10, "film", "(II)I"⟩
abbrev cX10_image : ByteArray := prog_12_method_63_code
def yX10_image : MethodName := ⟨RX10, "image", "()I"⟩
abbrev cX10_back : ByteArray := prog_12_method_64_code
def yX10_back : MethodName := ⟨RX10, "back", "()I"⟩
abbrev cX10_sheet : ByteArray := prog_12_method_65_code
def yX10_sheet : MethodName := ⟨RX10, "sheet", "(III)I"⟩
abbrev cX10_put : ByteArray := prog_12_method_66_code
def yX10_put : MethodName := ⟨RX10, "put", "(III)I"⟩
abbrev cX10_copy : ByteArray := prog_12_method_67_code
def yX10_copy : MethodName := ⟨RX10, "copy", "(IIIII)I"⟩
abbrev cX10_load : ByteArray := prog_12_method_68_code
def yX10_load : MethodName := ⟨RX10, "load", "(IIII)I"⟩
def RJ9 : String := "java/lang/Math"
def TJ9 : u_T := fun k => match k with
  | _ => ("", "", "", false)
def tyJ9 : Nat → FieldType := fun k => match k with
  | _ => .int
abbrev wsJ90 : List Cond := u_ws RJ9 TJ9 0
theorem nmJ9 : ∀ a, a < 0 → ∀ b, b < 0 → a ≠ b → (TJ9 a).2.1 ≠ (TJ9 b).2.1 := by decide +kernel
theorem tyJ9_ok : ∀ k, k < 0 → parseFieldDescriptor (TJ9 k).2.2.1 = some (tyJ9 k) := by decide +kernel
abbrev cJ9_max_7cf53 : ByteArray := prog_13_method_65_code
def yJ9_max_7cf53 : MethodName := ⟨RJ9, "max", "(II)I"⟩
abbrev cJ9_min_7cf53 : ByteArray := prog_13_method_69_code
def yJ9_min_7cf53 : MethodName := ⟨RJ9, "min", "(II)I"⟩
def RJ10 : String := "java/lang/System"
def TJ10 : u_T := fun k => match k with
  | _ => ("", "", "", false)
def tyJ10 : Nat → FieldType := fun k => match k with
  | _ => .int
abbrev wsJ100 : List Cond := u_ws RJ10 TJ10 0
theorem nmJ10 : ∀ a, a < 0 → ∀ b, b < 0 → a ≠ b → (TJ10 a).2.1 ≠ (TJ10 b).2.1 := by decide +kernel
theorem tyJ10_ok : ∀ k, k < 0 → parseFieldDescriptor (TJ10 k).2.2.1 = some (tyJ10 k) := by decide +kernel
def RL : String := "ClearingGatesLaw"
abbrev cL_law : ByteArray := code
def yL_law : MethodName := ⟨RL, "law", "([I)Z"⟩
def wsJ9_max_7cf53 : List Cond := .code yJ9_max_7cf53 cJ9_max_7cf53 2 (some .int) :: ([])
def wsJ9_min_7cf53 : List Cond := .code yJ9_min_7cf53 cJ9_min_7cf53 2 (some .int) :: ([])
abbrev vwCl : List vw_C := [(RX0, TX0, 13), (RX1, TX1, 1), (RX3, TX3, 3), (RX4, TX4, 5), (RX5, TX5, 4), (RX6, TX6, 8), (RX7, TX7, 3), (RX8, TX8, 2), (RX9, TX9, 13), (RX10, TX10, 32)]
def wsL_law_r1 : List Cond := [Cond.classLink RL 7 RX9, Cond.instantiable RX9 13, Cond.initialized RX9, Cond.classLink RL 10 RX10, Cond.instantiable RX10 32, Cond.initialized RX10, Cond.methodLink RL 9 yX9_init, Cond.instanceMethod yX9_init, Cond.code yX9_init cX9_init 2 none, Cond.methodLink RX9 3 objectInit, Cond.instanceMethod objectInit, Cond.code objectInit ⟨#[0xb1]⟩ 1 none, Cond.classLink RX9 9 RX0, Cond.instantiable RX0 13, Cond.initialized RX0, Cond.fieldLink RX9 12 "ClearingGates" "books" "LClearingGates$Books;", Cond.fieldLink RX9 18 "ClearingGates" "imageBooks" "LClearingGates$Books;", Cond.classLink RX9 21 RX1, Cond.instantiable RX1 1, Cond.initialized RX1, Cond.fieldLink RX9 24 "ClearingGates" "debts" "LClearingGates$Debts;", Cond.fieldLink RX9 28 "ClearingGates" "imageDebts" "LClearingGates$Debts;", Cond.classLink RX9 31 RX5, Cond.instantiable RX5 4]
def wsL_law_r2 : List Cond := [Cond.initialized RX5, Cond.fieldLink RX9 36 "ClearingGates" "rings" "LClearingGates$Rings;", Cond.classLink RX9 40 RX3, Cond.fieldLink RX9 42 "ClearingGates" "programs" "[LClearingGates$Program;", Cond.instantiable RX3 3, Cond.initialized RX3, Cond.fieldLink RX9 47 "ClearingGates" "imagePrograms" "I", Cond.classLink RX9 51 RX8, Cond.instantiable RX8 2, Cond.initialized RX8, Cond.fieldLink RX9 54 "ClearingGates" "tape" "LClearingGates$Tape;", Cond.classLink RX9 58 RX4, Cond.instantiable RX4 5, Cond.initialized RX4, Cond.fieldLink RX9 61 "ClearingGates" "reader" "LClearingGates$Reader;", Cond.classLink RX9 65 RX6, Cond.instantiable RX6 8, Cond.initialized RX6, Cond.fieldLink RX9 70 "ClearingGates" "truly" "LClearingGates$Runner;", Cond.fieldLink RX9 74 "ClearingGates" "thought" "LClearingGates$Runner;", Cond.classLink RX9 77 RX7, Cond.fieldLink RX9 79 "ClearingGates" "sheets" "[LClearingGates$Sheet;", Cond.instantiable RX7 3, Cond.initialized RX7]
def wsL_law_r3 : List Cond := [Cond.instanceMethod yX0_init, Cond.code yX0_init cX0_init 1 none, Cond.methodLink RX0 3 objectInit, Cond.arrayClass .int, Cond.fieldLink RX0 9 "ClearingGates$Books" "kinds" "[I", Cond.fieldLink RX0 15 "ClearingGates$Books" "balances" "[I", Cond.fieldLink RX0 18 "ClearingGates$Books" "limits" "[I", Cond.arrayClass .boolean, Cond.fieldLink RX0 21 "ClearingGates$Books" "gates" "[Z", Cond.fieldLink RX0 25 "ClearingGates$Books" "entries" "[I", Cond.fieldLink RX0 28 "ClearingGates$Books" "leavings" "[I", Cond.fieldLink RX0 31 "ClearingGates$Books" "agains" "[I", Cond.instanceMethod yX1_init, Cond.code yX1_init cX1_init 1 none, Cond.methodLink RX1 3 objectInit, Cond.fieldLink RX1 9 "ClearingGates$Debts" "row" "[I", Cond.methodLink RX9 33 yX5_init, Cond.instanceMethod yX5_init, Cond.code yX5_init cX5_init 2 none, Cond.methodLink RX5 3 objectInit, Cond.fieldLink RX5 9 "ClearingGates$Rings" "way" "[I", Cond.fieldLink RX5 15 "ClearingGates$Rings" "tried" "[Z", Cond.fieldLink RX5 19 "ClearingGates$Rings" "debts" "LClearingGates$Debts;", Cond.instanceMethod yX3_init]
def wsL_law_r4 : List Cond := [Cond.code yX3_init cX3_init 1 none, Cond.methodLink RX3 3 objectInit, Cond.fieldLink RX3 9 "ClearingGates$Program" "bytes" "[I", Cond.fieldLink RX3 15 "ClearingGates$Program" "behind" "[I", Cond.instanceMethod yX8_init, Cond.code yX8_init cX8_init 1 none, Cond.methodLink RX8 3 objectInit, Cond.fieldLink RX8 9 "ClearingGates$Tape" "bytes" "[I", Cond.instanceMethod yX4_init, Cond.code yX4_init cX4_init 1 none, Cond.methodLink RX4 3 objectInit, Cond.fieldLink RX4 9 "ClearingGates$Reader" "opened" "[I", Cond.methodLink RX9 67 yX6_init, Cond.instanceMethod yX6_init, Cond.code yX6_init cX6_init 2 none, Cond.methodLink RX6 3 objectInit, Cond.fieldLink RX6 9 "ClearingGates$Runner" "marks" "[I", Cond.fieldLink RX6 15 "ClearingGates$Runner" "held" "[I", Cond.classLink RX6 18 "[[I", Cond.fieldLink RX6 20 "ClearingGates$Runner" "keptBalances" "[[I", Cond.arrayClass .long, Cond.fieldLink RX6 23 "ClearingGates$Runner" "keptFees" "[J", Cond.fieldLink RX6 27 "ClearingGates$Runner" "books" "LClearingGates$Books;", Cond.instanceMethod yX7_init]
def wsL_law_r5 : List Cond := [Cond.code yX7_init cX7_init 1 none, Cond.methodLink RX7 3 objectInit, Cond.fieldLink RX7 11 "ClearingGates$Sheet" "sort" "I", Cond.fieldLink RX7 15 "ClearingGates$Sheet" "items" "[I", Cond.methodLink RL 12 yX10_init, Cond.instanceMethod yX10_init, Cond.code yX10_init cX10_init 1 none, Cond.methodLink RX10 5 objectInit, Cond.fieldLink RX10 11 "ClearingGatesModel" "s" "[I", Cond.fieldLink RX10 15 "ClearingGatesModel" "thought" "[I", Cond.fieldLink RX10 18 "ClearingGatesModel" "image" "[I", Cond.fieldLink RX10 21 "ClearingGatesModel" "tape" "[I", Cond.fieldLink RX10 24 "ClearingGatesModel" "texts" "[I", Cond.fieldLink RX10 27 "ClearingGatesModel" "sizes" "[I", Cond.fieldLink RX10 30 "ClearingGatesModel" "imageTexts" "[I", Cond.fieldLink RX10 33 "ClearingGatesModel" "imageSizes" "[I", Cond.fieldLink RX10 36 "ClearingGatesModel" "held" "[I", Cond.fieldLink RX10 39 "ClearingGatesModel" "marks" "[I", Cond.fieldLink RX10 42 "ClearingGatesModel" "trace" "[I", Cond.fieldLink RX10 45 "ClearingGatesModel" "keptBalances" "[I", Cond.fieldLink RX10 48 "ClearingGatesModel" "keptFees" "[J", Cond.fieldLink RX10 52 "ClearingGatesModel" "way" "[I", Cond.fieldLink RX10 55 "ClearingGatesModel" "sorts" "[I", Cond.fieldLink RX10 58 "ClearingGatesModel" "rowMany" "[I"]
def wsL_law_r6 : List Cond := [Cond.fieldLink RX10 61 "ClearingGatesModel" "items" "[I", Cond.fieldLink RX10 64 "ClearingGatesModel" "moved" "[I", Cond.methodLink RL 13 yX9_account, Cond.instanceMethod yX9_account, Cond.selects RX9 yX9_account yX9_account, Cond.code yX9_account cX9_account 3 (some .int), Cond.constant RX9 90 (1000000000), Cond.fieldLink RX9 95 "ClearingGates$Books" "accounts" "I", Cond.methodLink RX9 84 yX2_isKind, Cond.static yX2_isKind, Cond.initialized RX2, Cond.code yX2_isKind cX2_isKind 1 (some .boolean), Cond.methodLink RX9 91 yX9_isWithin, Cond.static yX9_isWithin, Cond.code yX9_isWithin cX9_isWithin 2 (some .boolean), Cond.methodLink RX9 98 yX0_open, Cond.instanceMethod yX0_open, Cond.selects RX0 yX0_open yX0_open, Cond.code yX0_open cX0_open 4 (some .int), Cond.fieldLink RX0 34 "ClearingGates$Books" "accounts" "I", Cond.methodLink RL 17 yX10_account, Cond.instanceMethod yX10_account, Cond.selects RX10 yX10_account yX10_account, Cond.code yX10_account cX10_account 4 (some .int)]
def wsL_law_r7 : List Cond := [Cond.constantLong RX10 71 (4), Cond.constantLong RX10 73 (1000000000), Cond.methodLink RX10 67 yX10_isIn, Cond.static yX10_isIn, Cond.code yX10_isIn cX10_isIn 6 (some .boolean), Cond.methodLink RL 18 yX9_set, Cond.instanceMethod yX9_set, Cond.selects RX9 yX9_set yX9_set, Cond.code yX9_set cX9_set 5 (some .long), Cond.constantLong RX9 105 (-9223372036854775808), Cond.fieldLink RX9 107 "ClearingGates$Books" "balances" "[I", Cond.fieldLink RX9 111 "ClearingGates$Books" "limits" "[I", Cond.methodLink RX9 102 yX0_has, Cond.instanceMethod yX0_has, Cond.selects RX0 yX0_has yX0_has, Cond.code yX0_has cX0_has 2 (some .boolean), Cond.methodLink RL 22 yX10_set, Cond.instanceMethod yX10_set, Cond.selects RX10 yX10_set yX10_set, Cond.code yX10_set cX10_set 6 (some .long), Cond.constantLong RX10 79 (9999), Cond.constantLong RX10 81 (-9223372036854775808), Cond.methodLink RX10 75 yX10_isAccount, Cond.instanceMethod yX10_isAccount]
def wsL_law_r8 : List Cond := [Cond.selects RX10 yX10_isAccount yX10_isAccount, Cond.code yX10_isAccount cX10_isAccount 2 (some .boolean), Cond.methodLink RL 23 yX9_gate, Cond.instanceMethod yX9_gate, Cond.selects RX9 yX9_gate yX9_gate, Cond.code yX9_gate cX9_gate 4 (some .int), Cond.fieldLink RX9 114 "ClearingGates$Books" "gates" "[Z", Cond.methodLink RL 27 yX10_gate, Cond.instanceMethod yX10_gate, Cond.selects RX10 yX10_gate yX10_gate, Cond.code yX10_gate cX10_gate 4 (some .int), Cond.methodLink RL 28 yX9_told, Cond.instanceMethod yX9_told, Cond.selects RX9 yX9_told yX9_told, Cond.code yX9_told cX9_told 3 (some .int), Cond.fieldLink RX9 118 "ClearingGates$Books" "kinds" "[I", Cond.fieldLink RX9 121 "ClearingGates$Books" "entries" "[I", Cond.fieldLink RX9 124 "ClearingGates$Books" "leavings" "[I", Cond.fieldLink RX9 127 "ClearingGates$Books" "agains" "[I", Cond.methodLink RX9 130 yX0_feeOf, Cond.instanceMethod yX0_feeOf, Cond.selects RX0 yX0_feeOf yX0_feeOf, Cond.code yX0_feeOf cX0_feeOf 3 (some .int), Cond.methodLink RX0 42 yX2_feeOf]
def wsL_law_r9 : List Cond := [Cond.static yX2_feeOf, Cond.code yX2_feeOf cX2_feeOf 2 (some .int), Cond.methodLink RL 31 yX10_told, Cond.instanceMethod yX10_told, Cond.selects RX10 yX10_told yX10_told, Cond.code yX10_told cX10_told 3 (some .int), Cond.methodLink RX10 83 yX10_feeOf, Cond.instanceMethod yX10_feeOf, Cond.selects RX10 yX10_feeOf yX10_feeOf, Cond.code yX10_feeOf cX10_feeOf 4 (some .int), Cond.methodLink RL 32 yX9_of, Cond.instanceMethod yX9_of, Cond.selects RX9 yX9_of yX9_of, Cond.code yX9_of cX9_of 3 (some .long), Cond.methodLink RX9 133 yX0_floorOf, Cond.instanceMethod yX0_floorOf, Cond.selects RX0 yX0_floorOf yX0_floorOf, Cond.code yX0_floorOf cX0_floorOf 2 (some .int), Cond.methodLink RX0 48 yX2_floorOf, Cond.static yX2_floorOf, Cond.code yX2_floorOf cX2_floorOf 2 (some .int), Cond.methodLink RX9 137 yX1_positionOf, Cond.instanceMethod yX1_positionOf, Cond.selects RX1 yX1_positionOf yX1_positionOf]
def wsL_law_r10 : List Cond := [Cond.code yX1_positionOf cX1_positionOf 5 (some .long), Cond.methodLink RX1 15 yX1_between, Cond.instanceMethod yX1_between, Cond.selects RX1 yX1_between yX1_between, Cond.code yX1_between cX1_between 3 (some .int), Cond.methodLink RL 36 yX10_of, Cond.instanceMethod yX10_of, Cond.selects RX10 yX10_of yX10_of, Cond.code yX10_of cX10_of 3 (some .long), Cond.constantLong RX10 90 (2), Cond.methodLink RX10 92 yX10_floorOf, Cond.instanceMethod yX10_floorOf, Cond.selects RX10 yX10_floorOf yX10_floorOf, Cond.code yX10_floorOf cX10_floorOf 2 (some .int), Cond.methodLink RX10 96 yX10_positionOf, Cond.instanceMethod yX10_positionOf, Cond.selects RX10 yX10_positionOf yX10_positionOf, Cond.code yX10_positionOf cX10_positionOf 5 (some .long), Cond.methodLink RX10 87 yX10_owedTo, Cond.instanceMethod yX10_owedTo, Cond.selects RX10 yX10_owedTo yX10_owedTo, Cond.code yX10_owedTo cX10_owedTo 3 (some .int), Cond.methodLink RL 37 yX9_count, Cond.instanceMethod yX9_count]
def wsL_law_r11 : List Cond := [Cond.selects RX9 yX9_count yX9_count, Cond.code yX9_count cX9_count 2 (some .int), Cond.fieldLink RX9 141 "ClearingGates" "programCount" "I", Cond.fieldLink RX9 144 "ClearingGates$Books" "missed" "I", Cond.fieldLink RX9 147 "ClearingGates$Books" "bells" "I", Cond.fieldLink RX9 150 "ClearingGates$Books" "refused" "I", Cond.fieldLink RX9 153 "ClearingGates$Books" "caught" "I", Cond.fieldLink RX9 160 "ClearingGates$Tape" "size" "I", Cond.methodLink RX9 156 yX6_keptMarks, Cond.instanceMethod yX6_keptMarks, Cond.selects RX6 yX6_keptMarks yX6_keptMarks, Cond.code yX6_keptMarks cX6_keptMarks 1 (some .int), Cond.fieldLink RX6 31 "ClearingGates$Runner" "markCount" "I", Cond.methodLink RX6 35 Lib.Math.min.name, Cond.static Lib.Math.min.name, Cond.initialized "java/lang/Math", Cond.code Lib.Math.min.name Lib.Math.min.code 2 (some .int), Cond.methodLink RL 41 yX10_count, Cond.instanceMethod yX10_count, Cond.selects RX10 yX10_count yX10_count, Cond.code yX10_count cX10_count 2 (some .int), Cond.fieldLink RX10 100 "ClearingGatesModel" "programs" "I", Cond.fieldLink RX10 104 "ClearingGatesModel" "traced" "I", Cond.fieldLink RX10 107 "ClearingGatesModel" "taped" "I"]
def wsL_law_r12 : List Cond := [Cond.methodLink RL 42 yX9_sum, Cond.instanceMethod yX9_sum, Cond.selects RX9 yX9_sum yX9_sum, Cond.code yX9_sum cX9_sum 2 (some .long), Cond.fieldLink RX9 163 "ClearingGates$Books" "fees" "J", Cond.methodLink RX9 167 yX0_allMoney, Cond.instanceMethod yX0_allMoney, Cond.selects RX0 yX0_allMoney yX0_allMoney, Cond.code yX0_allMoney cX0_allMoney 4 (some .long), Cond.fieldLink RX0 51 "ClearingGates$Books" "fees" "J", Cond.methodLink RX9 171 yX1_total, Cond.instanceMethod yX1_total, Cond.selects RX1 yX1_total yX1_total, Cond.code yX1_total cX1_total 4 (some .long), Cond.methodLink RL 46 yX10_sum, Cond.instanceMethod yX10_sum, Cond.selects RX10 yX10_sum yX10_sum, Cond.code yX10_sum cX10_sum 5 (some .long), Cond.fieldLink RX10 110 "ClearingGatesModel" "fees" "J", Cond.methodLink RL 47 yX9_taken, Cond.instanceMethod yX9_taken, Cond.selects RX9 yX9_taken yX9_taken, Cond.code yX9_taken cX9_taken 3 (some .int), Cond.methodLink RX9 174 yX2_isOrIsUnder]
def wsL_law_r13 : List Cond := [Cond.static yX2_isOrIsUnder, Cond.code yX2_isOrIsUnder cX2_isOrIsUnder 2 (some .boolean), Cond.methodLink RL 50 yX10_taken, Cond.instanceMethod yX10_taken, Cond.selects RX10 yX10_taken yX10_taken, Cond.code yX10_taken cX10_taken 4 (some .int), Cond.methodLink RX10 114 yX10_above, Cond.static yX10_above, Cond.code yX10_above cX10_above 1 (some .int), Cond.methodLink RL 51 yX9_feed, Cond.instanceMethod yX9_feed, Cond.selects RX9 yX9_feed yX9_feed, Cond.code yX9_feed cX9_feed 7 (some .int), Cond.methodLink RX9 177 yX9_isByte, Cond.static yX9_isByte, Cond.code yX9_isByte cX9_isByte 1 (some .boolean), Cond.methodLink RX9 180 yX8_add, Cond.instanceMethod yX8_add, Cond.selects RX8 yX8_add yX8_add, Cond.code yX8_add cX8_add 2 none, Cond.fieldLink RX8 15 "ClearingGates$Tape" "size" "I", Cond.methodLink RL 55 yX10_feed, Cond.instanceMethod yX10_feed, Cond.selects RX10 yX10_feed yX10_feed]
def wsL_law_r14 : List Cond := [Cond.code yX10_feed cX10_feed 8 (some .int), Cond.constantLong RX10 119 (5), Cond.methodLink RX10 121 yX10_isByte, Cond.static yX10_isByte, Cond.code yX10_isByte cX10_isByte 1 (some .boolean), Cond.constantLong RX10 117 (255), Cond.methodLink RL 56 yX9_program, Cond.instanceMethod yX9_program, Cond.selects RX9 yX9_program yX9_program, Cond.code yX9_program cX9_program 3 (some .int), Cond.methodLink RX9 184 yX3_takeOver, Cond.instanceMethod yX3_takeOver, Cond.selects RX3 yX3_takeOver yX3_takeOver, Cond.code yX3_takeOver cX3_takeOver 2 none, Cond.fieldLink RX3 18 "ClearingGates$Tape" "bytes" "[I", Cond.methodLink RX3 21 arraycopyName, Cond.native arraycopyName, Cond.static arraycopyName, Cond.initialized "java/lang/System", Cond.fieldLink RX3 27 "ClearingGates$Tape" "size" "I", Cond.fieldLink RX3 31 "ClearingGates$Program" "size" "I", Cond.methodLink RX9 188 yX4_faultOf, Cond.instanceMethod yX4_faultOf, Cond.selects RX4 yX4_faultOf yX4_faultOf]
def wsL_law_r15 : List Cond := [Cond.code yX4_faultOf cX4_faultOf 4 (some .int), Cond.fieldLink RX4 15 "ClearingGates$Reader" "program" "LClearingGates$Program;", Cond.fieldLink RX4 19 "ClearingGates$Reader" "open" "I", Cond.fieldLink RX4 23 "ClearingGates$Reader" "loops" "I", Cond.fieldLink RX4 26 "ClearingGates$Reader" "fault" "I", Cond.fieldLink RX4 29 "ClearingGates$Program" "size" "I", Cond.methodLink RX4 34 yX4_step, Cond.instanceMethod yX4_step, Cond.selects RX4 yX4_step yX4_step, Cond.code yX4_step cX4_step 2 (some .int), Cond.methodLink RX4 38 yX3_byteAt, Cond.instanceMethod yX3_byteAt, Cond.selects RX3 yX3_byteAt yX3_byteAt, Cond.code yX3_byteAt cX3_byteAt 2 (some .int), Cond.methodLink RX4 41 yX4_openingWithFigure, Cond.instanceMethod yX4_openingWithFigure, Cond.selects RX4 yX4_openingWithFigure yX4_openingWithFigure, Cond.code yX4_openingWithFigure cX4_openingWithFigure 5 (some .int), Cond.methodLink RX4 45 yX4_opening, Cond.instanceMethod yX4_opening, Cond.selects RX4 yX4_opening yX4_opening, Cond.code yX4_opening cX4_opening 2 (some .int), Cond.methodLink RX4 61 yX4_faultAt, Cond.instanceMethod yX4_faultAt]
def wsL_law_r16 : List Cond := [Cond.selects RX4 yX4_faultAt yX4_faultAt, Cond.code yX4_faultAt cX4_faultAt 2 (some .int), Cond.methodLink RX4 64 yX4_isFigure, Cond.instanceMethod yX4_isFigure, Cond.selects RX4 yX4_isFigure yX4_isFigure, Cond.code yX4_isFigure cX4_isFigure 4 (some .boolean), Cond.methodLink RX4 48 yX4_closing, Cond.instanceMethod yX4_closing, Cond.selects RX4 yX4_closing yX4_closing, Cond.code yX4_closing cX4_closing 3 (some .int), Cond.methodLink RX4 58 yX4_ends, Cond.instanceMethod yX4_ends, Cond.selects RX4 yX4_ends yX4_ends, Cond.code yX4_ends cX4_ends 3 (some .int), Cond.fieldLink RX4 68 "ClearingGates$Program" "behind" "[I", Cond.methodLink RX4 52 yX4_payment, Cond.instanceMethod yX4_payment, Cond.selects RX4 yX4_payment yX4_payment, Cond.code yX4_payment cX4_payment 4 (some .int), Cond.methodLink RX4 55 yX4_bell, Cond.instanceMethod yX4_bell, Cond.selects RX4 yX4_bell yX4_bell, Cond.code yX4_bell cX4_bell 2 (some .int), Cond.methodLink RL 60 yX10_program]
def wsL_law_r17 : List Cond := [Cond.instanceMethod yX10_program, Cond.selects RX10 yX10_program yX10_program, Cond.code yX10_program cX10_program 4 (some .int), Cond.fieldLink RX10 124 "ClearingGatesModel" "here" "I", Cond.fieldLink RX10 131 "ClearingGatesModel" "open" "I", Cond.methodLink RX10 138 yX10_takesItem, Cond.instanceMethod yX10_takesItem, Cond.selects RX10 yX10_takesItem yX10_takesItem, Cond.code yX10_takesItem cX10_takesItem 3 (some .boolean), Cond.methodLink RX10 127 yX10_byteAt, Cond.instanceMethod yX10_byteAt, Cond.selects RX10 yX10_byteAt yX10_byteAt, Cond.code yX10_byteAt cX10_byteAt 1 (some .int), Cond.methodLink RX10 146 yX10_takesBracket, Cond.instanceMethod yX10_takesBracket, Cond.selects RX10 yX10_takesBracket yX10_takesBracket, Cond.methodLink RX10 150 yX10_takesPayment, Cond.instanceMethod yX10_takesPayment, Cond.selects RX10 yX10_takesPayment yX10_takesPayment, Cond.code yX10_takesPayment cX10_takesPayment 2 (some .boolean), Cond.constantLong RX10 142 (48), Cond.constantLong RX10 144 (57), Cond.methodLink RX10 134 yX10_takesFigure, Cond.instanceMethod yX10_takesFigure]
def wsL_law_r18 : List Cond := [Cond.selects RX10 yX10_takesFigure yX10_takesFigure, Cond.code yX10_takesFigure cX10_takesFigure 3 (some .boolean), Cond.code yX10_takesBracket cX10_takesBracket 5 (some .boolean), Cond.methodLink RL 61 yX9_run, Cond.instanceMethod yX9_run, Cond.selects RX9 yX9_run yX9_run, Cond.code yX9_run cX9_run 2 (some .int), Cond.methodLink RX9 192 yX9_isProgram, Cond.instanceMethod yX9_isProgram, Cond.selects RX9 yX9_isProgram yX9_isProgram, Cond.code yX9_isProgram cX9_isProgram 2 (some .boolean), Cond.methodLink RX9 195 yX6_outcomeOf, Cond.instanceMethod yX6_outcomeOf, Cond.selects RX6 yX6_outcomeOf yX6_outcomeOf, Cond.code yX6_outcomeOf cX6_outcomeOf 3 (some .int), Cond.fieldLink RX6 41 "ClearingGates$Runner" "program" "LClearingGates$Program;", Cond.fieldLink RX6 45 "ClearingGates$Runner" "begun" "I", Cond.fieldLink RX6 52 "ClearingGates$Program" "size" "I", Cond.methodLink RX6 48 yX6_keep, Cond.instanceMethod yX6_keep, Cond.selects RX6 yX6_keep yX6_keep, Cond.code yX6_keep cX6_keep 2 none, Cond.fieldLink RX6 134 "ClearingGates$Books" "balances" "[I", Cond.methodLink RX6 154 arraycopyName]
def wsL_law_r19 : List Cond := [Cond.fieldLink RX6 141 "ClearingGates$Books" "fees" "J", Cond.methodLink RX6 57 yX6_items, Cond.instanceMethod yX6_items, Cond.selects RX6 yX6_items yX6_items, Cond.code yX6_items cX6_items 6 (some .int), Cond.methodLink RX6 71 Lib.Math.max.name, Cond.static Lib.Math.max.name, Cond.code Lib.Math.max.name Lib.Math.max.code 2 (some .int), Cond.methodLink RX6 64 yX6_item, Cond.instanceMethod yX6_item, Cond.selects RX6 yX6_item yX6_item, Cond.methodLink RX6 67 yX3_behindItem, Cond.instanceMethod yX3_behindItem, Cond.selects RX3 yX3_behindItem yX3_behindItem, Cond.code yX3_behindItem cX3_behindItem 2 (some .int), Cond.code yX6_attempt cX6_attempt 5 (some .int), Cond.fieldLink RX6 122 "ClearingGates$Books" "caught" "I", Cond.methodLink RX6 116 yX6_inside, Cond.instanceMethod yX6_inside, Cond.selects RX6 yX6_inside yX6_inside, Cond.methodLink RX6 61 yX6_undo, Cond.instanceMethod yX6_undo, Cond.selects RX6 yX6_undo yX6_undo, Cond.code yX6_undo cX6_undo 2 none]
def wsL_law_r20 : List Cond := [Cond.methodLink RX6 113 yX6_mark, Cond.instanceMethod yX6_mark, Cond.selects RX6 yX6_mark yX6_mark, Cond.code yX6_mark cX6_mark 2 none, Cond.code yX6_block cX6_block 5 (some .int), Cond.fieldLink RX6 101 "ClearingGates$Books" "missed" "I", Cond.fieldLink RX6 107 "ClearingGates$Books" "entries" "[I", Cond.fieldLink RX6 110 "ClearingGates$Books" "agains" "[I", Cond.fieldLink RX6 119 "ClearingGates$Books" "leavings" "[I", Cond.methodLink RX6 89 yX3_figureAt, Cond.instanceMethod yX3_figureAt, Cond.selects RX3 yX3_figureAt yX3_figureAt, Cond.code yX3_figureAt cX3_figureAt 2 (some .int), Cond.methodLink RX3 32 yX3_byteAt, Cond.methodLink RX6 95 yX0_hasGate, Cond.instanceMethod yX0_hasGate, Cond.selects RX0 yX0_hasGate yX0_hasGate, Cond.code yX0_hasGate cX0_hasGate 2 (some .boolean), Cond.methodLink RX0 38 yX0_has, Cond.methodLink RX6 104 yX6_isGreaterHeld, Cond.instanceMethod yX6_isGreaterHeld, Cond.selects RX6 yX6_isGreaterHeld yX6_isGreaterHeld, Cond.code yX6_isGreaterHeld cX6_isGreaterHeld 3 (some .boolean), Cond.code yX6_inside cX6_inside 4 (some .int)]
def wsL_law_r21 : List Cond := [Cond.code yX6_item cX6_item 3 (some .int), Cond.methodLink RX6 74 yX3_byteAt, Cond.methodLink RX6 77 yX6_block, Cond.instanceMethod yX6_block, Cond.selects RX6 yX6_block yX6_block, Cond.methodLink RX6 80 yX6_attempt, Cond.instanceMethod yX6_attempt, Cond.selects RX6 yX6_attempt yX6_attempt, Cond.methodLink RX6 83 yX6_loop, Cond.instanceMethod yX6_loop, Cond.selects RX6 yX6_loop yX6_loop, Cond.methodLink RX6 86 yX6_payment, Cond.instanceMethod yX6_payment, Cond.selects RX6 yX6_payment yX6_payment, Cond.code yX6_payment cX6_payment 7 (some .int), Cond.constant RX6 140 (1000000000), Cond.methodLink RX6 125 yX6_isHeld, Cond.instanceMethod yX6_isHeld, Cond.selects RX6 yX6_isHeld yX6_isHeld, Cond.code yX6_isHeld cX6_isHeld 2 (some .boolean), Cond.methodLink RX6 151 yX0_has, Cond.methodLink RX6 128 yX3_numberBetween, Cond.instanceMethod yX3_numberBetween, Cond.selects RX3 yX3_numberBetween yX3_numberBetween]
def wsL_law_r22 : List Cond := [Cond.code yX3_numberBetween cX3_numberBetween 5 (some .int), Cond.methodLink RX6 131 yX0_feeOf, Cond.methodLink RX6 137 yX0_floorOf, Cond.methodLink RX6 92 yX6_bell, Cond.instanceMethod yX6_bell, Cond.selects RX6 yX6_bell yX6_bell, Cond.code yX6_bell cX6_bell 3 (some .int), Cond.fieldLink RX6 145 "ClearingGates$Books" "bells" "I", Cond.fieldLink RX6 148 "ClearingGates$Books" "refused" "I", Cond.code yX6_loop cX6_loop 6 (some .int), Cond.methodLink RL 64 yX10_run, Cond.instanceMethod yX10_run, Cond.selects RX10 yX10_run yX10_run, Cond.code yX10_run cX10_run 4 (some .int), Cond.fieldLink RX10 154 "ClearingGatesModel" "markMany" "I", Cond.methodLink RX10 222 Lib.Math.min.name, Cond.methodLink RX10 216 yX10_isProgram, Cond.instanceMethod yX10_isProgram, Cond.selects RX10 yX10_isProgram yX10_isProgram, Cond.code yX10_isProgram cX10_isProgram 2 (some .boolean), Cond.methodLink RX10 219 yX10_runs, Cond.instanceMethod yX10_runs, Cond.selects RX10 yX10_runs yX10_runs, Cond.code yX10_runs cX10_runs 3 (some .int)]
def wsL_law_r23 : List Cond := [Cond.fieldLink RX10 157 "ClearingGatesModel" "running" "I", Cond.fieldLink RX10 197 "ClearingGatesModel" "begun" "I", Cond.fieldLink RX10 172 "ClearingGatesModel" "deep" "I", Cond.methodLink RX10 190 yX10_keepsBooks, Cond.instanceMethod yX10_keepsBooks, Cond.selects RX10 yX10_keepsBooks yX10_keepsBooks, Cond.code yX10_keepsBooks cX10_keepsBooks 2 none, Cond.methodLink RX10 187 yX10_does, Cond.instanceMethod yX10_does, Cond.selects RX10 yX10_does yX10_does, Cond.code yX10_does cX10_does 4 (some .int), Cond.methodLink RX10 166 yX10_isClosed, Cond.instanceMethod yX10_isClosed, Cond.selects RX10 yX10_isClosed yX10_isClosed, Cond.code yX10_isClosed cX10_isClosed 2 (some .boolean), Cond.methodLink RX10 160 yX10_signAt, Cond.instanceMethod yX10_signAt, Cond.selects RX10 yX10_signAt yX10_signAt, Cond.code yX10_signAt cX10_signAt 2 (some .int), Cond.methodLink RX10 175 yX10_doesItem, Cond.instanceMethod yX10_doesItem, Cond.selects RX10 yX10_doesItem yX10_doesItem, Cond.methodLink RX10 169 yX10_behind, Cond.instanceMethod yX10_behind]
def wsL_law_r24 : List Cond := [Cond.selects RX10 yX10_behind yX10_behind, Cond.code yX10_behind cX10_behind 4 (some .int), Cond.methodLink RX10 163 yX10_insideOf, Cond.instanceMethod yX10_insideOf, Cond.selects RX10 yX10_insideOf yX10_insideOf, Cond.code yX10_insideOf cX10_insideOf 2 (some .int), Cond.code yX10_block cX10_block 4 (some .int), Cond.methodLink RX10 178 yX10_figureAt, Cond.instanceMethod yX10_figureAt, Cond.selects RX10 yX10_figureAt yX10_figureAt, Cond.code yX10_figureAt cX10_figureAt 2 (some .int), Cond.methodLink RX10 181 yX10_hasGate, Cond.instanceMethod yX10_hasGate, Cond.selects RX10 yX10_hasGate yX10_hasGate, Cond.code yX10_hasGate cX10_hasGate 2 (some .boolean), Cond.methodLink RX10 184 yX10_marks, Cond.instanceMethod yX10_marks, Cond.selects RX10 yX10_marks yX10_marks, Cond.code yX10_marks cX10_marks 2 none, Cond.code yX10_doesItem cX10_doesItem 2 (some .int), Cond.methodLink RX10 200 yX10_block, Cond.instanceMethod yX10_block, Cond.selects RX10 yX10_block yX10_block, Cond.methodLink RX10 203 yX10_tries]
def wsL_law_r25 : List Cond := [Cond.instanceMethod yX10_tries, Cond.selects RX10 yX10_tries yX10_tries, Cond.methodLink RX10 207 yX10_loops, Cond.instanceMethod yX10_loops, Cond.selects RX10 yX10_loops yX10_loops, Cond.methodLink RX10 210 yX10_pays, Cond.instanceMethod yX10_pays, Cond.selects RX10 yX10_pays yX10_pays, Cond.code yX10_pays cX10_pays 7 (some .int), Cond.methodLink RX10 213 yX10_rings, Cond.instanceMethod yX10_rings, Cond.selects RX10 yX10_rings yX10_rings, Cond.code yX10_rings cX10_rings 3 (some .int), Cond.code yX10_loops cX10_loops 4 (some .int), Cond.code yX10_tries cX10_tries 5 (some .int), Cond.methodLink RX10 193 yX10_forgetsBooks, Cond.instanceMethod yX10_forgetsBooks, Cond.selects RX10 yX10_forgetsBooks yX10_forgetsBooks, Cond.code yX10_forgetsBooks cX10_forgetsBooks 3 none, Cond.methodLink RL 65 yX9_trace, Cond.instanceMethod yX9_trace, Cond.selects RX9 yX9_trace yX9_trace, Cond.code yX9_trace cX9_trace 2 (some .int), Cond.fieldLink RX9 198 "ClearingGates$Runner" "marks" "[I"]
def wsL_law_r26 : List Cond := [Cond.methodLink RL 68 yX10_trace, Cond.instanceMethod yX10_trace, Cond.selects RX10 yX10_trace yX10_trace, Cond.code yX10_trace cX10_trace 2 (some .int), Cond.methodLink RL 69 yX9_would, Cond.instanceMethod yX9_would, Cond.selects RX9 yX9_would yX9_would, Cond.code yX9_would cX9_would 4 (some .long), Cond.fieldLink RX9 207 "ClearingGates$Runner" "books" "LClearingGates$Books;", Cond.fieldLink RX9 208 "ClearingGates$Runner" "markCount" "I", Cond.methodLink RX9 201 yX9_isOfWould, Cond.instanceMethod yX9_isOfWould, Cond.selects RX9 yX9_isOfWould yX9_isOfWould, Cond.code yX9_isOfWould cX9_isOfWould 2 (some .boolean), Cond.methodLink RX9 204 yX9_outcomeInThought, Cond.instanceMethod yX9_outcomeInThought, Cond.selects RX9 yX9_outcomeInThought yX9_outcomeInThought, Cond.code yX9_outcomeInThought cX9_outcomeInThought 2 (some .int), Cond.methodLink RX9 214 yX0_becomeAs, Cond.instanceMethod yX0_becomeAs, Cond.selects RX0 yX0_becomeAs yX0_becomeAs, Cond.code yX0_becomeAs cX0_becomeAs 3 none, Cond.methodLink RX0 55 arraycopyName, Cond.fieldLink RX0 61 "ClearingGates$Books" "missed" "I"]
def wsL_law_r27 : List Cond := [Cond.fieldLink RX0 64 "ClearingGates$Books" "bells" "I", Cond.fieldLink RX0 67 "ClearingGates$Books" "refused" "I", Cond.fieldLink RX0 70 "ClearingGates$Books" "caught" "I", Cond.methodLink RX9 211 yX0_allEntries, Cond.instanceMethod yX0_allEntries, Cond.selects RX0 yX0_allEntries yX0_allEntries, Cond.code yX0_allEntries cX0_allEntries 3 (some .int), Cond.methodLink RL 72 yX10_would, Cond.instanceMethod yX10_would, Cond.selects RX10 yX10_would yX10_would, Cond.code yX10_would cX10_would 8 (some .long), Cond.constantLong RX10 236 (3), Cond.constantLong RX10 238 (10), Cond.methodLink RX10 240 yX10_entries, Cond.instanceMethod yX10_entries, Cond.selects RX10 yX10_entries yX10_entries, Cond.code yX10_entries cX10_entries 4 (some .long), Cond.methodLink RX10 244 yX10_thinks, Cond.instanceMethod yX10_thinks, Cond.selects RX10 yX10_thinks yX10_thinks, Cond.code yX10_thinks cX10_thinks 1 none, Cond.methodLink RX10 227 arraycopyName, Cond.fieldLink RX10 233 "ClearingGatesModel" "thoughtFees" "J", Cond.methodLink RX10 247 yX10_wakes]
def wsL_law_r28 : List Cond := [Cond.instanceMethod yX10_wakes, Cond.selects RX10 yX10_wakes yX10_wakes, Cond.code yX10_wakes cX10_wakes 1 none, Cond.methodLink RL 73 yX9_needed, Cond.instanceMethod yX9_needed, Cond.selects RX9 yX9_needed yX9_needed, Cond.code yX9_needed cX9_needed 5 (some .int), Cond.methodLink RL 76 yX10_needed, Cond.instanceMethod yX10_needed, Cond.selects RX10 yX10_needed yX10_needed, Cond.code yX10_needed cX10_needed 6 (some .int), Cond.constant RX10 254 (1048576), Cond.methodLink RX10 255 yX10_outcomeOf, Cond.instanceMethod yX10_outcomeOf, Cond.selects RX10 yX10_outcomeOf yX10_outcomeOf, Cond.code yX10_outcomeOf cX10_outcomeOf 2 (some .int), Cond.methodLink RX10 250 yX10_would, Cond.methodLink RL 77 yX9_hinges, Cond.instanceMethod yX9_hinges, Cond.selects RX9 yX9_hinges yX9_hinges, Cond.code yX9_hinges cX9_hinges 5 (some .int), Cond.methodLink RL 80 yX10_hinges, Cond.instanceMethod yX10_hinges, Cond.selects RX10 yX10_hinges yX10_hinges]
def wsL_law_r29 : List Cond := [Cond.code yX10_hinges cX10_hinges 5 (some .int), Cond.methodLink RL 81 yX9_owe, Cond.instanceMethod yX9_owe, Cond.selects RX9 yX9_owe yX9_owe, Cond.code yX9_owe cX9_owe 5 (some .int), Cond.constant RX9 220 (99999), Cond.methodLink RX9 217 yX9_isPair, Cond.instanceMethod yX9_isPair, Cond.selects RX9 yX9_isPair yX9_isPair, Cond.code yX9_isPair cX9_isPair 3 (some .boolean), Cond.methodLink RX9 221 yX1_between, Cond.methodLink RX9 224 yX1_become, Cond.instanceMethod yX1_become, Cond.selects RX1 yX1_become yX1_become, Cond.code yX1_become cX1_become 4 none, Cond.methodLink RL 85 yX10_owe, Cond.instanceMethod yX10_owe, Cond.selects RX10 yX10_owe yX10_owe, Cond.code yX10_owe cX10_owe 5 (some .int), Cond.constantLong RX10 261 (99999), Cond.methodLink RX10 258 yX10_areTwo, Cond.instanceMethod yX10_areTwo, Cond.selects RX10 yX10_areTwo yX10_areTwo, Cond.code yX10_areTwo cX10_areTwo 3 (some .boolean)]
def wsL_law_r30 : List Cond := [Cond.methodLink RL 86 yX9_owed, Cond.instanceMethod yX9_owed, Cond.selects RX9 yX9_owed yX9_owed, Cond.code yX9_owed cX9_owed 3 (some .int), Cond.methodLink RL 89 yX10_owed, Cond.instanceMethod yX10_owed, Cond.selects RX10 yX10_owed yX10_owed, Cond.code yX10_owed cX10_owed 3 (some .int), Cond.methodLink RL 90 yX9_net, Cond.instanceMethod yX9_net, Cond.selects RX9 yX9_net yX9_net, Cond.code yX9_net cX9_net 2 (some .int), Cond.methodLink RX9 228 yX0_hasAllGates, Cond.instanceMethod yX0_hasAllGates, Cond.selects RX0 yX0_hasAllGates yX0_hasAllGates, Cond.code yX0_hasAllGates cX0_hasAllGates 2 (some .boolean), Cond.methodLink RX9 232 yX0_enterAll, Cond.instanceMethod yX0_enterAll, Cond.selects RX0 yX0_enterAll yX0_enterAll, Cond.code yX0_enterAll cX0_enterAll 2 none, Cond.methodLink RX9 235 yX5_cutAll, Cond.instanceMethod yX5_cutAll, Cond.selects RX5 yX5_cutAll yX5_cutAll, Cond.code yX5_cutAll cX5_cutAll 3 (some .int)]
def wsL_law_r31 : List Cond := [Cond.methodLink RX5 23 yX5_findsFirst, Cond.instanceMethod yX5_findsFirst, Cond.selects RX5 yX5_findsFirst yX5_findsFirst, Cond.code yX5_findsFirst cX5_findsFirst 4 (some .boolean), Cond.methodLink RX5 30 yX5_leadsBack, Cond.instanceMethod yX5_leadsBack, Cond.selects RX5 yX5_leadsBack yX5_leadsBack, Cond.code yX5_leadsBack cX5_leadsBack 6 (some .boolean), Cond.fieldLink RX5 40 "ClearingGates$Rings" "wayLength" "I", Cond.methodLink RX5 34 yX1_between, Cond.methodLink RX5 27 yX5_cutFound, Cond.instanceMethod yX5_cutFound, Cond.selects RX5 yX5_cutFound yX5_cutFound, Cond.code yX5_cutFound cX5_cutFound 4 none, Cond.constant RX5 44 (99999), Cond.methodLink RX5 49 Lib.Math.min.name, Cond.methodLink RX5 45 yX5_behind, Cond.instanceMethod yX5_behind, Cond.selects RX5 yX5_behind yX5_behind, Cond.code yX5_behind cX5_behind 2 (some .int), Cond.methodLink RX5 54 yX1_become, Cond.methodLink RX9 238 yX0_leaveAll, Cond.instanceMethod yX0_leaveAll, Cond.selects RX0 yX0_leaveAll yX0_leaveAll]
def wsL_law_r32 : List Cond := [Cond.code yX0_leaveAll cX0_leaveAll 2 none, Cond.methodLink RL 93 yX10_net, Cond.instanceMethod yX10_net, Cond.selects RX10 yX10_net yX10_net, Cond.code yX10_net cX10_net 5 (some .int), Cond.constant RX10 269 (99999), Cond.methodLink RX10 266 yX10_firstRing, Cond.instanceMethod yX10_firstRing, Cond.selects RX10 yX10_firstRing yX10_firstRing, Cond.code yX10_firstRing cX10_firstRing 3 (some .int), Cond.methodLink RX10 263 yX10_ringFrom, Cond.instanceMethod yX10_ringFrom, Cond.selects RX10 yX10_ringFrom yX10_ringFrom, Cond.code yX10_ringFrom cX10_ringFrom 6 (some .int), Cond.methodLink RL 94 yX9_tells, Cond.instanceMethod yX9_tells, Cond.selects RX9 yX9_tells yX9_tells, Cond.code yX9_tells cX9_tells 6 (some .int), Cond.fieldLink RX9 247 "ClearingGates$Sheet" "size" "I", Cond.methodLink RX9 241 yX9_isSheet, Cond.static yX9_isSheet, Cond.code yX9_isSheet cX9_isSheet 1 (some .boolean), Cond.methodLink RX9 244 yX7_isMissing, Cond.instanceMethod yX7_isMissing]
def wsL_law_r33 : List Cond := [Cond.selects RX7 yX7_isMissing yX7_isMissing, Cond.code yX7_isMissing cX7_isMissing 1 (some .boolean), Cond.methodLink RX9 248 yX9_kindsToldBy, Cond.instanceMethod yX9_kindsToldBy, Cond.selects RX9 yX9_kindsToldBy yX9_kindsToldBy, Cond.code yX9_kindsToldBy cX9_kindsToldBy 6 (some .int), Cond.methodLink RX9 252 yX7_firstUnlike, Cond.instanceMethod yX7_firstUnlike, Cond.selects RX7 yX7_firstUnlike yX7_firstUnlike, Cond.code yX7_firstUnlike cX7_firstUnlike 5 (some .int), Cond.fieldLink RX7 19 "ClearingGates$Sheet" "size" "I", Cond.methodLink RX7 32 Lib.Math.min.name, Cond.methodLink RL 98 yX10_tells, Cond.instanceMethod yX10_tells, Cond.selects RX10 yX10_tells yX10_tells, Cond.code yX10_tells cX10_tells 8 (some .int), Cond.methodLink RX10 273 yX10_isSheet, Cond.static yX10_isSheet, Cond.code yX10_isSheet cX10_isSheet 1 (some .boolean), Cond.methodLink RX10 276 yX10_otherIn, Cond.instanceMethod yX10_otherIn, Cond.selects RX10 yX10_otherIn yX10_otherIn, Cond.code yX10_otherIn cX10_otherIn 6 (some .int), Cond.methodLink RX10 270 yX10_itemOf]
def wsL_law_r34 : List Cond := [Cond.instanceMethod yX10_itemOf, Cond.selects RX10 yX10_itemOf yX10_itemOf, Cond.code yX10_itemOf cX10_itemOf 3 (some .int), Cond.methodLink RL 99 yX9_film, Cond.instanceMethod yX9_film, Cond.selects RX9 yX9_film yX9_film, Cond.code yX9_film cX9_film 3 (some .int), Cond.methodLink RX9 256 yX7_takeOver, Cond.instanceMethod yX7_takeOver, Cond.selects RX7 yX7_takeOver yX7_takeOver, Cond.code yX7_takeOver cX7_takeOver 3 none, Cond.methodLink RX7 26 arraycopyName, Cond.methodLink RX7 22 yX7_become, Cond.instanceMethod yX7_become, Cond.selects RX7 yX7_become yX7_become, Cond.code yX7_become cX7_become 4 none, Cond.methodLink RL 102 yX10_film, Cond.instanceMethod yX10_film, Cond.selects RX10 yX10_film yX10_film, Cond.code yX10_film cX10_film 6 (some .int), Cond.methodLink RX10 279 yX10_sheet, Cond.instanceMethod yX10_sheet, Cond.selects RX10 yX10_sheet yX10_sheet, Cond.code yX10_sheet cX10_sheet 5 (some .int)]
def wsL_law_r35 : List Cond := [Cond.constantLong RX10 293 (-1), Cond.methodLink RL 103 yX9_image, Cond.instanceMethod yX9_image, Cond.selects RX9 yX9_image yX9_image, Cond.code yX9_image cX9_image 1 (some .int), Cond.methodLink RX9 259 yX1_becomeAs, Cond.instanceMethod yX1_becomeAs, Cond.selects RX1 yX1_becomeAs yX1_becomeAs, Cond.code yX1_becomeAs cX1_becomeAs 2 none, Cond.methodLink RX1 19 arraycopyName, Cond.methodLink RL 106 yX10_image, Cond.instanceMethod yX10_image, Cond.selects RX10 yX10_image yX10_image, Cond.code yX10_image cX10_image 1 (some .int), Cond.fieldLink RX10 283 "ClearingGatesModel" "imagePrograms" "I", Cond.fieldLink RX10 286 "ClearingGatesModel" "imageFees" "J", Cond.fieldLink RX10 289 "ClearingGatesModel" "hasImage" "Z", Cond.methodLink RL 107 yX9_back, Cond.instanceMethod yX9_back, Cond.selects RX9 yX9_back yX9_back, Cond.code yX9_back cX9_back 1 (some .int), Cond.methodLink RL 110 yX10_back, Cond.instanceMethod yX10_back, Cond.selects RX10 yX10_back yX10_back]
def wsL_law_r36 : List Cond := [Cond.code yX10_back cX10_back 1 (some .int), Cond.methodLink RL 111 yX9_sheet, Cond.instanceMethod yX9_sheet, Cond.selects RX9 yX9_sheet yX9_sheet, Cond.code yX9_sheet cX9_sheet 4 (some .int), Cond.methodLink RX9 261 yX7_become, Cond.methodLink RL 114 yX10_sheet, Cond.methodLink RL 115 yX9_put, Cond.instanceMethod yX9_put, Cond.selects RX9 yX9_put yX9_put, Cond.code yX9_put cX9_put 5 (some .int), Cond.methodLink RX9 264 yX7_hasPlace, Cond.instanceMethod yX7_hasPlace, Cond.selects RX7 yX7_hasPlace yX7_hasPlace, Cond.code yX7_hasPlace cX7_hasPlace 2 (some .boolean), Cond.methodLink RX9 267 yX7_write, Cond.instanceMethod yX7_write, Cond.selects RX7 yX7_write yX7_write, Cond.code yX7_write cX7_write 3 none, Cond.methodLink RL 118 yX10_put, Cond.instanceMethod yX10_put, Cond.selects RX10 yX10_put yX10_put, Cond.code yX10_put cX10_put 4 (some .int), Cond.methodLink RL 119 yX9_copy]
def wsL_law_r37 : List Cond := [Cond.instanceMethod yX9_copy, Cond.selects RX9 yX9_copy yX9_copy, Cond.code yX9_copy cX9_copy 8 (some .int), Cond.fieldLink RX9 270 "ClearingGates$Sheet" "sort" "I", Cond.fieldLink RX9 276 "ClearingGates$Sheet" "items" "[I", Cond.methodLink RX9 279 arraycopyName, Cond.methodLink RX9 273 yX7_hasStretch, Cond.instanceMethod yX7_hasStretch, Cond.selects RX7 yX7_hasStretch yX7_hasStretch, Cond.code yX7_hasStretch cX7_hasStretch 3 (some .boolean), Cond.methodLink RL 123 yX10_copy, Cond.instanceMethod yX10_copy, Cond.selects RX10 yX10_copy yX10_copy, Cond.code yX10_copy cX10_copy 6 (some .int), Cond.methodLink RL 124 yX9_load, Cond.instanceMethod yX9_load, Cond.selects RX9 yX9_load yX9_load, Cond.code yX9_load cX9_load 9 (some .int), Cond.methodLink RX9 285 yX9_owe, Cond.methodLink RL 127 yX10_load, Cond.instanceMethod yX10_load, Cond.selects RX10 yX10_load yX10_load, Cond.code yX10_load cX10_load 10 (some .int), Cond.constantLong RX10 295 (20)]
def wsL_law_r38 : List Cond := [Cond.methodLink RX10 297 yX10_owe]
def wsL_law : List Cond := (wsL_law_r1 ++ (wsL_law_r2 ++ (wsL_law_r3 ++ (wsL_law_r4 ++ (wsL_law_r5 ++ (wsL_law_r6 ++ (wsL_law_r7 ++ (wsL_law_r8 ++ (wsL_law_r9 ++ (wsL_law_r10 ++ (wsL_law_r11 ++ (wsL_law_r12 ++ (wsL_law_r13 ++ (wsL_law_r14 ++ (wsL_law_r15 ++ (wsL_law_r16 ++ (wsL_law_r17 ++ (wsL_law_r18 ++ (wsL_law_r19 ++ (wsL_law_r20 ++ (wsL_law_r21 ++ (wsL_law_r22 ++ (wsL_law_r23 ++ (wsL_law_r24 ++ (wsL_law_r25 ++ (wsL_law_r26 ++ (wsL_law_r27 ++ (wsL_law_r28 ++ (wsL_law_r29 ++ (wsL_law_r30 ++ (wsL_law_r31 ++ (wsL_law_r32 ++ (wsL_law_r33 ++ (wsL_law_r34 ++ (wsL_law_r35 ++ (wsL_law_r36 ++ (wsL_law_r37 ++ wsL_law_r38))))))))))))))))))))))))))))))))))))) ++ wsX90 ++ wsX100 ++ wsX00 ++ wsX10 ++ wsX50 ++ wsX30 ++ wsX80 ++ wsX40 ++ wsX60 ++ wsX70 ++ ([] : List Cond)
theorem mem_r {big : List Cond} (ws : List Cond) (ps : List Nat) (hp : ws = ps.filterMap (fun i => big[i]?)) : ∀ w ∈ ws, w ∈ big := by
  intro w hw
  rw [hp] at hw
  obtain ⟨i, -, hi⟩ := List.mem_filterMap.mp hw
  exact List.mem_of_getElem? hi
theorem in_wsL_law_r1 : ∀ w ∈ wsL_law_r1, w ∈ lw_tbl := mem_r _ [82, 83, 69, 757, 758, 78, 84, 85, 86, 87, 88, 89, 90, 91, 70, 304, 305, 160, 161, 71, 306, 307, 170, 171] (by decide +kernel)
theorem in_wsL_law_r2 : ∀ w ∈ wsL_law_r2, w ∈ lw_tbl := mem_r _ [72, 308, 189, 309, 191, 73, 311, 209, 210, 74, 312, 225, 226, 75, 313, 247, 248, 76, 314, 315, 284, 316, 286, 77] (by decide +kernel)
theorem in_wsL_law_r3 : ∀ w ∈ wsL_law_r3, w ∈ lw_tbl := mem_r _ [93, 94, 95, 158, 96, 98, 101, 159, 103, 105, 108, 111, 163, 164, 165, 166, 172, 173, 174, 175, 177, 179, 176, 193] (by decide +kernel)
theorem in_wsL_law_r4 : ∀ w ∈ wsL_law_r4, w ∈ lw_tbl := mem_r _ [194, 195, 196, 197, 212, 213, 214, 215, 228, 229, 230, 231, 249, 250, 251, 252, 257, 261, 253, 262, 283, 263, 255, 288] (by decide +kernel)
theorem in_wsL_law_r5 : ∀ w ∈ wsL_law_r5, w ∈ lw_tbl := mem_r _ [289, 290, 291, 295, 759, 760, 761, 762, 763, 765, 767, 770, 772, 773, 775, 776, 782, 783, 785, 787, 788, 790, 791, 792] (by decide +kernel)
theorem in_wsL_law_r6 : ∀ w ∈ wsL_law_r6, w ∈ lw_tbl := mem_r _ [793, 794, 344, 345, 346, 347, 351, 115, 348, 349, 79, 350, 352, 353, 354, 355, 356, 357, 358, 114, 860, 861, 862, 863] (by decide +kernel)
theorem in_wsL_law_r7 : ∀ w ∈ wsL_law_r7, w ∈ lw_tbl := mem_r _ [864, 868, 865, 866, 867, 359, 360, 361, 362, 367, 99, 102, 363, 364, 365, 366, 869, 870, 871, 872, 877, 878, 873, 875] (by decide +kernel)
theorem in_wsL_law_r8 : ∀ w ∈ wsL_law_r8, w ∈ lw_tbl := mem_r _ [31, 876, 368, 369, 370, 371, 104, 879, 880, 881, 882, 372, 373, 374, 375, 97, 106, 109, 112, 376, 377, 378, 379, 380] (by decide +kernel)
theorem in_wsL_law_r9 : ∀ w ∈ wsL_law_r9, w ∈ lw_tbl := mem_r _ [381, 382, 883, 884, 885, 886, 887, 889, 32, 890, 383, 384, 385, 386, 387, 388, 389, 390, 391, 392, 393, 394, 395, 396] (by decide +kernel)
theorem in_wsL_law_r10 : ∀ w ∈ wsL_law_r10, w ∈ lw_tbl := mem_r _ [397, 398, 399, 400, 401, 891, 892, 893, 894, 895, 896, 898, 33, 899, 900, 902, 34, 903, 904, 906, 35, 907, 402, 403] (by decide +kernel)
theorem in_wsL_law_r11 : ∀ w ∈ wsL_law_r11, w ∈ lw_tbl := mem_r _ [404, 405, 310, 120, 122, 125, 128, 219, 406, 407, 408, 409, 259, 410, 411, 80, 412, 908, 909, 910, 911, 774, 786, 771] (by decide +kernel)
theorem in_wsL_law_r12 : ∀ w ∈ wsL_law_r12, w ∈ lw_tbl := mem_r _ [413, 414, 415, 416, 117, 417, 418, 419, 420, 116, 421, 422, 423, 424, 912, 913, 914, 915, 764, 425, 426, 427, 428, 429] (by decide +kernel)
theorem in_wsL_law_r13 : ∀ w ∈ wsL_law_r13, w ∈ lw_tbl := mem_r _ [430, 431, 916, 917, 918, 919, 920, 921, 922, 432, 433, 434, 435, 436, 437, 438, 439, 440, 441, 442, 217, 923, 924, 925] (by decide +kernel)
theorem in_wsL_law_r14 : ∀ w ∈ wsL_law_r14, w ∈ lw_tbl := mem_r _ [926, 927, 928, 929, 930, 931, 443, 444, 445, 446, 447, 448, 449, 450, 216, 451, 453, 452, 81, 218, 199, 454, 455, 456] (by decide +kernel)
theorem in_wsL_law_r15 : ∀ w ∈ wsL_law_r15, w ∈ lw_tbl := mem_r _ [457, 235, 232, 233, 234, 200, 458, 460, 0, 461, 462, 463, 464, 465, 466, 468, 1, 469, 470, 472, 2, 473, 474, 476] (by decide +kernel)
theorem in_wsL_law_r16 : ∀ w ∈ wsL_law_r16, w ∈ lw_tbl := mem_r _ [3, 477, 478, 480, 4, 481, 482, 484, 5, 485, 486, 488, 6, 489, 198, 490, 492, 7, 493, 494, 496, 8, 497, 932] (by decide +kernel)
theorem in_wsL_law_r17 : ∀ w ∈ wsL_law_r17, w ∈ lw_tbl := mem_r _ [933, 934, 935, 778, 779, 936, 938, 36, 939, 940, 942, 37, 943, 944, 946, 38, 952, 954, 40, 955, 956, 957, 948, 950] (by decide +kernel)
theorem in_wsL_law_r18 : ∀ w ∈ wsL_law_r18, w ∈ lw_tbl := mem_r _ [39, 951, 947, 498, 499, 500, 501, 502, 504, 9, 505, 506, 507, 508, 509, 265, 264, 201, 510, 512, 10, 513, 100, 514] (by decide +kernel)
theorem in_wsL_law_r19 : ∀ w ∈ wsL_law_r19, w ∈ lw_tbl := mem_r _ [118, 515, 517, 11, 518, 586, 587, 588, 519, 521, 12, 550, 551, 552, 553, 557, 129, 546, 548, 16, 558, 560, 18, 561] (by decide +kernel)
theorem in_wsL_law_r20 : ∀ w ∈ wsL_law_r20, w ∈ lw_tbl := mem_r _ [542, 544, 15, 545, 527, 119, 107, 113, 110, 528, 529, 530, 531, 532, 533, 534, 535, 536, 537, 538, 540, 14, 541, 549] (by decide +kernel)
theorem in_wsL_law_r21 : ∀ w ∈ wsL_law_r21, w ∈ lw_tbl := mem_r _ [522, 523, 524, 526, 13, 554, 556, 17, 562, 564, 19, 566, 568, 20, 569, 581, 570, 572, 21, 573, 574, 575, 576, 577] (by decide +kernel)
theorem in_wsL_law_r22 : ∀ w ∈ wsL_law_r22, w ∈ lw_tbl := mem_r _ [578, 579, 580, 582, 584, 22, 585, 123, 126, 565, 958, 959, 960, 961, 784, 1034, 962, 964, 41, 965, 966, 968, 42, 969] (by decide +kernel)
theorem in_wsL_law_r23 : ∀ w ∈ wsL_law_r23, w ∈ lw_tbl := mem_r _ [780, 781, 789, 970, 972, 43, 973, 974, 976, 44, 977, 978, 980, 45, 981, 982, 984, 46, 985, 986, 988, 47, 1026, 1028] (by decide +kernel)
theorem in_wsL_law_r24 : ∀ w ∈ wsL_law_r24, w ∈ lw_tbl := mem_r _ [57, 1029, 1006, 1008, 52, 1009, 993, 994, 996, 49, 997, 998, 1000, 50, 1001, 1002, 1004, 51, 1005, 989, 990, 992, 48, 1010] (by decide +kernel)
theorem in_wsL_law_r25 : ∀ w ∈ wsL_law_r25, w ∈ lw_tbl := mem_r _ [1012, 53, 1018, 1020, 55, 1022, 1024, 56, 1025, 1030, 1032, 58, 1033, 1021, 1013, 1014, 1016, 54, 1017, 589, 590, 591, 592, 258] (by decide +kernel)
theorem in_wsL_law_r26 : ∀ w ∈ wsL_law_r26, w ∈ lw_tbl := mem_r _ [1035, 1036, 1037, 1038, 593, 594, 595, 596, 256, 260, 597, 599, 23, 600, 601, 603, 24, 604, 605, 606, 607, 608, 609, 121] (by decide +kernel)
theorem in_wsL_law_r27 : ∀ w ∈ wsL_law_r27, w ∈ lw_tbl := mem_r _ [124, 127, 130, 610, 611, 612, 613, 1039, 1040, 1041, 1042, 1043, 1044, 1045, 1047, 59, 1048, 1049, 1051, 60, 1052, 1053, 766, 1054] (by decide +kernel)
theorem in_wsL_law_r28 : ∀ w ∈ wsL_law_r28, w ∈ lw_tbl := mem_r _ [1056, 61, 1057, 614, 615, 616, 617, 1058, 1059, 1060, 1061, 1062, 1063, 1065, 62, 1066, 1067, 618, 619, 620, 621, 1068, 1069, 1070] (by decide +kernel)
theorem in_wsL_law_r29 : ∀ w ∈ wsL_law_r29, w ∈ lw_tbl := mem_r _ [1071, 622, 623, 624, 625, 630, 626, 628, 25, 629, 631, 632, 633, 634, 635, 1072, 1073, 1074, 1075, 1080, 1076, 1078, 63, 1079] (by decide +kernel)
theorem in_wsL_law_r30 : ∀ w ∈ wsL_law_r30, w ∈ lw_tbl := mem_r _ [636, 637, 638, 639, 1081, 1082, 1083, 1084, 640, 641, 642, 643, 644, 645, 646, 647, 648, 649, 650, 651, 652, 653, 654, 655] (by decide +kernel)
theorem in_wsL_law_r31 : ∀ w ∈ wsL_law_r31, w ∈ lw_tbl := mem_r _ [656, 658, 26, 659, 660, 662, 27, 663, 178, 664, 665, 667, 28, 668, 669, 674, 670, 672, 29, 673, 675, 676, 677, 678] (by decide +kernel)
theorem in_wsL_law_r32 : ∀ w ∈ wsL_law_r32, w ∈ lw_tbl := mem_r _ [679, 1085, 1086, 1087, 1088, 1097, 1089, 1091, 64, 1092, 1093, 1095, 65, 1096, 680, 681, 682, 683, 294, 684, 685, 686, 687, 688] (by decide +kernel)
theorem in_wsL_law_r33 : ∀ w ∈ wsL_law_r33, w ∈ lw_tbl := mem_r _ [689, 690, 691, 693, 30, 694, 695, 696, 697, 698, 293, 699, 1098, 1099, 1100, 1101, 1102, 1103, 1104, 1105, 1107, 66, 1108, 1109] (by decide +kernel)
theorem in_wsL_law_r34 : ∀ w ∈ wsL_law_r34, w ∈ lw_tbl := mem_r _ [1111, 67, 1112, 700, 701, 702, 703, 704, 705, 706, 707, 712, 708, 709, 710, 711, 1113, 1114, 1115, 1116, 1117, 1118, 1119, 1120] (by decide +kernel)
theorem in_wsL_law_r35 : ∀ w ∈ wsL_law_r35, w ∈ lw_tbl := mem_r _ [1121, 713, 714, 715, 716, 717, 718, 719, 720, 721, 1122, 1123, 1124, 1125, 777, 768, 769, 722, 723, 724, 725, 1126, 1127, 1128] (by decide +kernel)
theorem in_wsL_law_r36 : ∀ w ∈ wsL_law_r36, w ∈ lw_tbl := mem_r _ [1129, 726, 727, 728, 729, 730, 1130, 731, 732, 733, 734, 735, 736, 737, 738, 739, 740, 741, 742, 1131, 1132, 1133, 1134, 743] (by decide +kernel)
theorem in_wsL_law_r37 : ∀ w ∈ wsL_law_r37, w ∈ lw_tbl := mem_r _ [744, 745, 746, 292, 296, 751, 747, 748, 749, 750, 1135, 1136, 1137, 1138, 752, 753, 754, 755, 756, 1139, 1140, 1141, 1142, 1143] (by decide +kernel)
theorem in_wsL_law_r38 : ∀ w ∈ wsL_law_r38, w ∈ lw_tbl := mem_r _ [1144] (by decide +kernel)
theorem in_wsX90 : ∀ w ∈ wsX90, w ∈ lw_tbl := mem_r _ [317, 319, 321, 323, 325, 327, 329, 331, 333, 335, 337, 339, 341] (by decide +kernel)
theorem in_wsX100 : ∀ w ∈ wsX100, w ∈ lw_tbl := mem_r _ [795, 797, 799, 801, 803, 805, 807, 809, 811, 813, 815, 817, 819, 821, 823, 825, 827, 829, 831, 833, 835, 837, 839, 841, 843, 845, 847, 849, 851, 853, 855, 857] (by decide +kernel)
theorem in_wsX00 : ∀ w ∈ wsX00, w ∈ lw_tbl := mem_r _ [131, 133, 135, 137, 139, 141, 143, 145, 147, 149, 151, 153, 155] (by decide +kernel)
theorem in_wsX10 : ∀ w ∈ wsX10, w ∈ lw_tbl := mem_r _ [167] (by decide +kernel)
theorem in_wsX50 : ∀ w ∈ wsX50, w ∈ lw_tbl := mem_r _ [180, 182, 184, 186] (by decide +kernel)
theorem in_wsX30 : ∀ w ∈ wsX30, w ∈ lw_tbl := mem_r _ [202, 204, 206] (by decide +kernel)
theorem in_wsX80 : ∀ w ∈ wsX80, w ∈ lw_tbl := mem_r _ [220, 222] (by decide +kernel)
theorem in_wsX40 : ∀ w ∈ wsX40, w ∈ lw_tbl := mem_r _ [236, 238, 240, 242, 244] (by decide +kernel)
theorem in_wsX60 : ∀ w ∈ wsX60, w ∈ lw_tbl := mem_r _ [266, 268, 270, 272, 274, 276, 278, 280] (by decide +kernel)
theorem in_wsX70 : ∀ w ∈ wsX70, w ∈ lw_tbl := mem_r _ [297, 299, 301] (by decide +kernel)
theorem wsL_law_in : ∀ w ∈ wsL_law, w ∈ lw_tbl := by
  unfold wsL_law
  exact List.forall_mem_append.mpr ⟨List.forall_mem_append.mpr ⟨List.forall_mem_append.mpr ⟨List.forall_mem_append.mpr ⟨List.forall_mem_append.mpr ⟨List.forall_mem_append.mpr ⟨List.forall_mem_append.mpr ⟨List.forall_mem_append.mpr ⟨List.forall_mem_append.mpr ⟨List.forall_mem_append.mpr ⟨List.forall_mem_append.mpr ⟨List.forall_mem_append.mpr ⟨in_wsL_law_r1, List.forall_mem_append.mpr ⟨in_wsL_law_r2, List.forall_mem_append.mpr ⟨in_wsL_law_r3, List.forall_mem_append.mpr ⟨in_wsL_law_r4, List.forall_mem_append.mpr ⟨in_wsL_law_r5, List.forall_mem_append.mpr ⟨in_wsL_law_r6, List.forall_mem_append.mpr ⟨in_wsL_law_r7, List.forall_mem_append.mpr ⟨in_wsL_law_r8, List.forall_mem_append.mpr ⟨in_wsL_law_r9, List.forall_mem_append.mpr ⟨in_wsL_law_r10, List.forall_mem_append.mpr ⟨in_wsL_law_r11, List.forall_mem_append.mpr ⟨in_wsL_law_r12, List.forall_mem_append.mpr ⟨in_wsL_law_r13, List.forall_mem_append.mpr ⟨in_wsL_law_r14, List.forall_mem_append.mpr ⟨in_wsL_law_r15, List.forall_mem_append.mpr ⟨in_wsL_law_r16, List.forall_mem_append.mpr ⟨in_wsL_law_r17, List.forall_mem_append.mpr ⟨in_wsL_law_r18, List.forall_mem_append.mpr ⟨in_wsL_law_r19, List.forall_mem_append.mpr ⟨in_wsL_law_r20, List.forall_mem_append.mpr ⟨in_wsL_law_r21, List.forall_mem_append.mpr ⟨in_wsL_law_r22, List.forall_mem_append.mpr ⟨in_wsL_law_r23, List.forall_mem_append.mpr ⟨in_wsL_law_r24, List.forall_mem_append.mpr ⟨in_wsL_law_r25, List.forall_mem_append.mpr ⟨in_wsL_law_r26, List.forall_mem_append.mpr ⟨in_wsL_law_r27, List.forall_mem_append.mpr ⟨in_wsL_law_r28, List.forall_mem_append.mpr ⟨in_wsL_law_r29, List.forall_mem_append.mpr ⟨in_wsL_law_r30, List.forall_mem_append.mpr ⟨in_wsL_law_r31, List.forall_mem_append.mpr ⟨in_wsL_law_r32, List.forall_mem_append.mpr ⟨in_wsL_law_r33, List.forall_mem_append.mpr ⟨in_wsL_law_r34, List.forall_mem_append.mpr ⟨in_wsL_law_r35, List.forall_mem_append.mpr ⟨in_wsL_law_r36, List.forall_mem_append.mpr ⟨in_wsL_law_r37, in_wsL_law_r38⟩⟩⟩⟩⟩⟩⟩⟩⟩⟩⟩⟩⟩⟩⟩⟩⟩⟩⟩⟩⟩⟩⟩⟩⟩⟩⟩⟩⟩⟩⟩⟩⟩⟩⟩⟩⟩, in_wsX90⟩, in_wsX100⟩, in_wsX00⟩, in_wsX10⟩, in_wsX50⟩, in_wsX30⟩, in_wsX80⟩, in_wsX40⟩, in_wsX60⟩, in_wsX70⟩, fun _ h => absurd h List.not_mem_nil⟩
theorem pr_1 : ∀ w ∈ wsL_law_r1, w ∈ wsL_law := fun _ h => List.mem_append_left _ (List.mem_append_left _ (List.mem_append_left _ (List.mem_append_left _ (List.mem_append_left _ (List.mem_append_left _ (List.mem_append_left _ (List.mem_append_left _ (List.mem_append_left _ (List.mem_append_left _ (List.mem_append_left _ (List.mem_append_left _ h)))))))))))
theorem pr_2 : ∀ w ∈ wsL_law_r2, w ∈ wsL_law := fun _ h => List.mem_append_left _ (List.mem_append_left _ (List.mem_append_left _ (List.mem_append_left _ (List.mem_append_left _ (List.mem_append_left _ (List.mem_append_left _ (List.mem_append_left _ (List.mem_append_left _ (List.mem_append_left _ (List.mem_append_left _ (List.mem_append_right _ (List.mem_append_left _ h))))))))))))
theorem pr_3 : ∀ w ∈ wsL_law_r3, w ∈ wsL_law := fun _ h => List.mem_append_left _ (List.mem_append_left _ (List.mem_append_left _ (List.mem_append_left _ (List.mem_append_left _ (List.mem_append_left _ (List.mem_append_left _ (List.mem_append_left _ (List.mem_append_left _ (List.mem_append_left _ (List.mem_append_left _ (List.mem_append_right _ (List.mem_append_right _ (List.mem_append_left _ h)))))))))))))
theorem pr_4 : ∀ w ∈ wsL_law_r4, w ∈ wsL_law := fun _ h => List.mem_append_left _ (List.mem_append_left _ (List.mem_append_left _ (List.mem_append_left _ (List.mem_append_left _ (List.mem_append_left _ (List.mem_append_left _ (List.mem_append_left _ (List.mem_append_left _ (List.mem_append_left _ (List.mem_append_left _ (List.mem_append_right _ (List.mem_append_right _ (List.mem_append_right _ (List.mem_append_left _ h))))))))))))))
theorem pr_5 : ∀ w ∈ wsL_law_r5, w ∈ wsL_law := fun _ h => List.mem_append_left _ (List.mem_append_left _ (List.mem_append_left _ (List.mem_append_left _ (List.mem_append_left _ (List.mem_append_left _ (List.mem_append_left _ (List.mem_append_left _ (List.mem_append_left _ (List.mem_append_left _ (List.mem_append_left _ (List.mem_append_right _ (List.mem_append_right _ (List.mem_append_right _ (List.mem_append_right _ (List.mem_append_left _ h)))))))))))))))
theorem pr_6 : ∀ w ∈ wsL_law_r6, w ∈ wsL_law := fun _ h => List.mem_append_left _ (List.mem_append_left _ (List.mem_append_left _ (List.mem_append_left _ (List.mem_append_left _ (List.mem_append_left _ (List.mem_append_left _ (List.mem_append_left _ (List.mem_append_left _ (List.mem_append_left _ (List.mem_append_left _ (List.mem_append_right _ (List.mem_append_right _ (List.mem_append_right _ (List.mem_append_right _ (List.mem_append_right _ (List.mem_append_left _ h))))))))))))))))
theorem pr_7 : ∀ w ∈ wsL_law_r7, w ∈ wsL_law := fun _ h => List.mem_append_left _ (List.mem_append_left _ (List.mem_append_left _ (List.mem_append_left _ (List.mem_append_left _ (List.mem_append_left _ (List.mem_append_left _ (List.mem_append_left _ (List.mem_append_left _ (List.mem_append_left _ (List.mem_append_left _ (List.mem_append_right _ (List.mem_append_right _ (List.mem_append_right _ (List.mem_append_right _ (List.mem_append_right _ (List.mem_append_right _ (List.mem_append_left _ h)))))))))))))))))
theorem pr_8 : ∀ w ∈ wsL_law_r8, w ∈ wsL_law := fun _ h => List.mem_append_left _ (List.mem_append_left _ (List.mem_append_left _ (List.mem_append_left _ (List.mem_append_left _ (List.mem_append_left _ (List.mem_append_left _ (List.mem_append_left _ (List.mem_append_left _ (List.mem_append_left _ (List.mem_append_left _ (List.mem_append_right _ (List.mem_append_right _ (List.mem_append_right _ (List.mem_append_right _ (List.mem_append_right _ (List.mem_append_right _ (List.mem_append_right _ (List.mem_append_left _ h))))))))))))))))))
theorem pr_9 : ∀ w ∈ wsL_law_r9, w ∈ wsL_law := fun _ h => List.mem_append_left _ (List.mem_append_left _ (List.mem_append_left _ (List.mem_append_left _ (List.mem_append_left _ (List.mem_append_left _ (List.mem_append_left _ (List.mem_append_left _ (List.mem_append_left _ (List.mem_append_left _ (List.mem_append_left _ (List.mem_append_right _ (List.mem_append_right _ (List.mem_append_right _ (List.mem_append_right _ (List.mem_append_right _ (List.mem_append_right _ (List.mem_append_right _ (List.mem_append_right _ (List.mem_append_left _ h)))))))))))))))))))
theorem pr_10 : ∀ w ∈ wsL_law_r10, w ∈ wsL_law := fun _ h => List.mem_append_left _ (List.mem_append_left _ (List.mem_append_left _ (List.mem_append_left _ (List.mem_append_left _ (List.mem_append_left _ (List.mem_append_left _ (List.mem_append_left _ (List.mem_append_left _ (List.mem_append_left _ (List.mem_append_left _ (List.mem_append_right _ (List.mem_append_right _ (List.mem_append_right _ (List.mem_append_right _ (List.mem_append_right _ (List.mem_append_right _ (List.mem_append_right _ (List.mem_append_right _ (List.mem_append_right _ (List.mem_append_left _ h))))))))))))))))))))
theorem pr_11 : ∀ w ∈ wsL_law_r11, w ∈ wsL_law := fun _ h => List.mem_append_left _ (List.mem_append_left _ (List.mem_append_left _ (List.mem_append_left _ (List.mem_append_left _ (List.mem_append_left _ (List.mem_append_left _ (List.mem_append_left _ (List.mem_append_left _ (List.mem_append_left _ (List.mem_append_left _ (List.mem_append_right _ (List.mem_append_right _ (List.mem_append_right _ (List.mem_append_right _ (List.mem_append_right _ (List.mem_append_right _ (List.mem_append_right _ (List.mem_append_right _ (List.mem_append_right _ (List.mem_append_right _ (List.mem_append_left _ h)))))))))))))))))))))
theorem pr_12 : ∀ w ∈ wsL_law_r12, w ∈ wsL_law := fun _ h => List.mem_append_left _ (List.mem_append_left _ (List.mem_append_left _ (List.mem_append_left _ (List.mem_append_left _ (List.mem_append_left _ (List.mem_append_left _ (List.mem_append_left _ (List.mem_append_left _ (List.mem_append_left _ (List.mem_append_left _ (List.mem_append_right _ (List.mem_append_right _ (List.mem_append_right _ (List.mem_append_right _ (List.mem_append_right _ (List.mem_append_right _ (List.mem_append_right _ (List.mem_append_right _ (List.mem_append_right _ (List.mem_append_right _ (List.mem_append_right _ (List.mem_append_left _ h))))))))))))))))))))))
theorem pr_13 : ∀ w ∈ wsL_law_r13, w ∈ wsL_law := fun _ h => List.mem_append_left _ (List.mem_append_left _ (List.mem_append_left _ (List.mem_append_left _ (List.mem_append_left _ (List.mem_append_left _ (List.mem_append_left _ (List.mem_append_left _ (List.mem_append_left _ (List.mem_append_left _ (List.mem_append_left _ (List.mem_append_right _ (List.mem_append_right _ (List.mem_append_right _ (List.mem_append_right _ (List.mem_append_right _ (List.mem_append_right _ (List.mem_append_right _ (List.mem_append_right _ (List.mem_append_right _ (List.mem_append_right _ (List.mem_append_right _ (List.mem_append_right _ (List.mem_append_left _ h)))))))))))))))))))))))
theorem pr_14 : ∀ w ∈ wsL_law_r14, w ∈ wsL_law := fun _ h => List.mem_append_left _ (List.mem_append_left _ (List.mem_append_left _ (List.mem_append_left _ (List.mem_append_left _ (List.mem_append_left _ (List.mem_append_left _ (List.mem_append_left _ (List.mem_append_left _ (List.mem_append_left _ (List.mem_append_left _ (List.mem_append_right _ (List.mem_append_right _ (List.mem_append_right _ (List.mem_append_right _ (List.mem_append_right _ (List.mem_append_right _ (List.mem_append_right _ (List.mem_append_right _ (List.mem_append_right _ (List.mem_append_right _ (List.mem_append_right _ (List.mem_append_right _ (List.mem_append_right _ (List.mem_append_left _ h))))))))))))))))))))))))
theorem pr_15 : ∀ w ∈ wsL_law_r15, w ∈ wsL_law := fun _ h => List.mem_append_left _ (List.mem_append_left _ (List.mem_append_left _ (List.mem_append_left _ (List.mem_append_left _ (List.mem_append_left _ (List.mem_append_left _ (List.mem_append_left _ (List.mem_append_left _ (List.mem_append_left _ (List.mem_append_left _ (List.mem_append_right _ (List.mem_append_right _ (List.mem_append_right _ (List.mem_append_right _ (List.mem_append_right _ (List.mem_append_right _ (List.mem_append_right _ (List.mem_append_right _ (List.mem_append_right _ (List.mem_append_right _ (List.mem_append_right _ (List.mem_append_right _ (List.mem_append_right _ (List.mem_append_right _ (List.mem_append_left _ h)))))))))))))))))))))))))
theorem pr_16 : ∀ w ∈ wsL_law_r16, w ∈ wsL_law := fun _ h => List.mem_append_left _ (List.mem_append_left _ (List.mem_append_left _ (List.mem_append_left _ (List.mem_append_left _ (List.mem_append_left _ (List.mem_append_left _ (List.mem_append_left _ (List.mem_append_left _ (List.mem_append_left _ (List.mem_append_left _ (List.mem_append_right _ (List.mem_append_right _ (List.mem_append_right _ (List.mem_append_right _ (List.mem_append_right _ (List.mem_append_right _ (List.mem_append_right _ (List.mem_append_right _ (List.mem_append_right _ (List.mem_append_right _ (List.mem_append_right _ (List.mem_append_right _ (List.mem_append_right _ (List.mem_append_right _ (List.mem_append_right _ (List.mem_append_left _ h))))))))))))))))))))))))))
theorem pr_17 : ∀ w ∈ wsL_law_r17, w ∈ wsL_law := fun _ h => List.mem_append_left _ (List.mem_append_left _ (List.mem_append_left _ (List.mem_append_left _ (List.mem_append_left _ (List.mem_append_left _ (List.mem_append_left _ (List.mem_append_left _ (List.mem_append_left _ (List.mem_append_left _ (List.mem_append_left _ (List.mem_append_right _ (List.mem_append_right _ (List.mem_append_right _ (List.mem_append_right _ (List.mem_append_right _ (List.mem_append_right _ (List.mem_append_right _ (List.mem_append_right _ (List.mem_append_right _ (List.mem_append_right _ (List.mem_append_right _ (List.mem_append_right _ (List.mem_append_right _ (List.mem_append_right _ (List.mem_append_right _ (List.mem_append_right _ (List.mem_append_left _ h)))))))))))))))))))))))))))
theorem pr_18 : ∀ w ∈ wsL_law_r18, w ∈ wsL_law := fun _ h => List.mem_append_left _ (List.mem_append_left _ (List.mem_append_left _ (List.mem_append_left _ (List.mem_append_left _ (List.mem_append_left _ (List.mem_append_left _ (List.mem_append_left _ (List.mem_append_left _ (List.mem_append_left _ (List.mem_append_left _ (List.mem_append_right _ (List.mem_append_right _ (List.mem_append_right _ (List.mem_append_right _ (List.mem_append_right _ (List.mem_append_right _ (List.mem_append_right _ (List.mem_append_right _ (List.mem_append_right _ (List.mem_append_right _ (List.mem_append_right _ (List.mem_append_right _ (List.mem_append_right _ (List.mem_append_right _ (List.mem_append_right _ (List.mem_append_right _ (List.mem_append_right _ (List.mem_append_left _ h))))))))))))))))))))))))))))
theorem pr_19 : ∀ w ∈ wsL_law_r19, w ∈ wsL_law := fun _ h => List.mem_append_left _ (List.mem_append_left _ (List.mem_append_left _ (List.mem_append_left _ (List.mem_append_left _ (List.mem_append_left _ (List.mem_append_left _ (List.mem_append_left _ (List.mem_append_left _ (List.mem_append_left _ (List.mem_append_left _ (List.mem_append_right _ (List.mem_append_right _ (List.mem_append_right _ (List.mem_append_right _ (List.mem_append_right _ (List.mem_append_right _ (List.mem_append_right _ (List.mem_append_right _ (List.mem_append_right _ (List.mem_append_right _ (List.mem_append_right _ (List.mem_append_right _ (List.mem_append_right _ (List.mem_append_right _ (List.mem_append_right _ (List.mem_append_right _ (List.mem_append_right _ (List.mem_append_right _ (List.mem_append_left _ h)))))))))))))))))))))))))))))
theorem pr_20 : ∀ w ∈ wsL_law_r20, w ∈ wsL_law := fun _ h => List.mem_append_left _ (List.mem_append_left _ (List.mem_append_left _ (List.mem_append_left _ (List.mem_append_left _ (List.mem_append_left _ (List.mem_append_left _ (List.mem_append_left _ (List.mem_append_left _ (List.mem_append_left _ (List.mem_append_left _ (List.mem_append_right _ (List.mem_append_right _ (List.mem_append_right _ (List.mem_append_right _ (List.mem_append_right _ (List.mem_append_right _ (List.mem_append_right _ (List.mem_append_right _ (List.mem_append_right _ (List.mem_append_right _ (List.mem_append_right _ (List.mem_append_right _ (List.mem_append_right _ (List.mem_append_right _ (List.mem_append_right _ (List.mem_append_right _ (List.mem_append_right _ (List.mem_append_right _ (List.mem_append_right _ (List.mem_append_left _ h))))))))))))))))))))))))))))))
theorem pr_21 : ∀ w ∈ wsL_law_r21, w ∈ wsL_law := fun _ h => List.mem_append_left _ (List.mem_append_left _ (List.mem_append_left _ (List.mem_append_left _ (List.mem_append_left _ (List.mem_append_left _ (List.mem_append_left _ (List.mem_append_left _ (List.mem_append_left _ (List.mem_append_left _ (List.mem_append_left _ (List.mem_append_right _ (List.mem_append_right _ (List.mem_append_right _ (List.mem_append_right _ (List.mem_append_right _ (List.mem_append_right _ (List.mem_append_right _ (List.mem_append_right _ (List.mem_append_right _ (List.mem_append_right _ (List.mem_append_right _ (List.mem_append_right _ (List.mem_append_right _ (List.mem_append_right _ (List.mem_append_right _ (List.mem_append_right _ (List.mem_append_right _ (List.mem_append_right _ (List.mem_append_right _ (List.mem_append_right _ (List.mem_append_left _ h)))))))))))))))))))))))))))))))
theorem pr_22 : ∀ w ∈ wsL_law_r22, w ∈ wsL_law := fun _ h => List.mem_append_left _ (List.mem_append_left _ (List.mem_append_left _ (List.mem_append_left _ (List.mem_append_left _ (List.mem_append_left _ (List.mem_append_left _ (List.mem_append_left _ (List.mem_append_left _ (List.mem_append_left _ (List.mem_append_left _ (List.mem_append_right _ (List.mem_append_right _ (List.mem_append_right _ (List.mem_append_right _ (List.mem_append_right _ (List.mem_append_right _ (List.mem_append_right _ (List.mem_append_right _ (List.mem_append_right _ (List.mem_append_right _ (List.mem_append_right _ (List.mem_append_right _ (List.mem_append_right _ (List.mem_append_right _ (List.mem_append_right _ (List.mem_append_right _ (List.mem_append_right _ (List.mem_append_right _ (List.mem_append_right _ (List.mem_append_right _ (List.mem_append_right _ (List.mem_append_left _ h))))))))))))))))))))))))))))))))
theorem pr_23 : ∀ w ∈ wsL_law_r23, w ∈ wsL_law := fun _ h => List.mem_append_left _ (List.mem_append_left _ (List.mem_append_left _ (List.mem_append_left _ (List.mem_append_left _ (List.mem_append_left _ (List.mem_append_left _ (List.mem_append_left _ (List.mem_append_left _ (List.mem_append_left _ (List.mem_append_left _ (List.mem_append_right _ (List.mem_append_right _ (List.mem_append_right _ (List.mem_append_right _ (List.mem_append_right _ (List.mem_append_right _ (List.mem_append_right _ (List.mem_append_right _ (List.mem_append_right _ (List.mem_append_right _ (List.mem_append_right _ (List.mem_append_right _ (List.mem_append_right _ (List.mem_append_right _ (List.mem_append_right _ (List.mem_append_right _ (List.mem_append_right _ (List.mem_append_right _ (List.mem_append_right _ (List.mem_append_right _ (List.mem_append_right _ (List.mem_append_right _ (List.mem_append_left _ h)))))))))))))))))))))))))))))))))
theorem pr_24 : ∀ w ∈ wsL_law_r24, w ∈ wsL_law := fun _ h => List.mem_append_left _ (List.mem_append_left _ (List.mem_append_left _ (List.mem_append_left _ (List.mem_append_left _ (List.mem_append_left _ (List.mem_append_left _ (List.mem_append_left _ (List.mem_append_left _ (List.mem_append_left _ (List.mem_append_left _ (List.mem_append_right _ (List.mem_append_right _ (List.mem_append_right _ (List.mem_append_right _ (List.mem_append_right _ (List.mem_append_right _ (List.mem_append_right _ (List.mem_append_right _ (List.mem_append_right _ (List.mem_append_right _ (List.mem_append_right _ (List.mem_append_right _ (List.mem_append_right _ (List.mem_append_right _ (List.mem_append_right _ (List.mem_append_right _ (List.mem_append_right _ (List.mem_append_right _ (List.mem_append_right _ (List.mem_append_right _ (List.mem_append_right _ (List.mem_append_right _ (List.mem_append_right _ (List.mem_append_left _ h))))))))))))))))))))))))))))))))))
theorem pr_25 : ∀ w ∈ wsL_law_r25, w ∈ wsL_law := fun _ h => List.mem_append_left _ (List.mem_append_left _ (List.mem_append_left _ (List.mem_append_left _ (List.mem_append_left _ (List.mem_append_left _ (List.mem_append_left _ (List.mem_append_left _ (List.mem_append_left _ (List.mem_append_left _ (List.mem_append_left _ (List.mem_append_right _ (List.mem_append_right _ (List.mem_append_right _ (List.mem_append_right _ (List.mem_append_right _ (List.mem_append_right _ (List.mem_append_right _ (List.mem_append_right _ (List.mem_append_right _ (List.mem_append_right _ (List.mem_append_right _ (List.mem_append_right _ (List.mem_append_right _ (List.mem_append_right _ (List.mem_append_right _ (List.mem_append_right _ (List.mem_append_right _ (List.mem_append_right _ (List.mem_append_right _ (List.mem_append_right _ (List.mem_append_right _ (List.mem_append_right _ (List.mem_append_right _ (List.mem_append_right _ (List.mem_append_left _ h)))))))))))))))))))))))))))))))))))
theorem pr_26 : ∀ w ∈ wsL_law_r26, w ∈ wsL_law := fun _ h => List.mem_append_left _ (List.mem_append_left _ (List.mem_append_left _ (List.mem_append_left _ (List.mem_append_left _ (List.mem_append_left _ (List.mem_append_left _ (List.mem_append_left _ (List.mem_append_left _ (List.mem_append_left _ (List.mem_append_left _ (List.mem_append_right _ (List.mem_append_right _ (List.mem_append_right _ (List.mem_append_right _ (List.mem_append_right _ (List.mem_append_right _ (List.mem_append_right _ (List.mem_append_right _ (List.mem_append_right _ (List.mem_append_right _ (List.mem_append_right _ (List.mem_append_right _ (List.mem_append_right _ (List.mem_append_right _ (List.mem_append_right _ (List.mem_append_right _ (List.mem_append_right _ (List.mem_append_right _ (List.mem_append_right _ (List.mem_append_right _ (List.mem_append_right _ (List.mem_append_right _ (List.mem_append_right _ (List.mem_append_right _ (List.mem_append_right _ (List.mem_append_left _ h))))))))))))))))))))))))))))))))))))
theorem pr_27 : ∀ w ∈ wsL_law_r27, w ∈ wsL_law := fun _ h => List.mem_append_left _ (List.mem_append_left _ (List.mem_append_left _ (List.mem_append_left _ (List.mem_append_left _ (List.mem_append_left _ (List.mem_append_left _ (List.mem_append_left _ (List.mem_append_left _ (List.mem_append_left _ (List.mem_append_left _ (List.mem_append_right _ (List.mem_append_right _ (List.mem_append_right _ (List.mem_append_right _ (List.mem_append_right _ (List.mem_append_right _ (List.mem_append_right _ (List.mem_append_right _ (List.mem_append_right _ (List.mem_append_right _ (List.mem_append_right _ (List.mem_append_right _ (List.mem_append_right _ (List.mem_append_right _ (List.mem_append_right _ (List.mem_append_right _ (List.mem_append_right _ (List.mem_append_right _ (List.mem_append_right _ (List.mem_append_right _ (List.mem_append_right _ (List.mem_append_right _ (List.mem_append_right _ (List.mem_append_right _ (List.mem_append_right _ (List.mem_append_right _ (List.mem_append_left _ h)))))))))))))))))))))))))))))))))))))
theorem pr_28 : ∀ w ∈ wsL_law_r28, w ∈ wsL_law := fun _ h => List.mem_append_left _ (List.mem_append_left _ (List.mem_append_left _ (List.mem_append_left _ (List.mem_append_left _ (List.mem_append_left _ (List.mem_append_left _ (List.mem_append_left _ (List.mem_append_left _ (List.mem_append_left _ (List.mem_append_left _ (List.mem_append_right _ (List.mem_append_right _ (List.mem_append_right _ (List.mem_append_right _ (List.mem_append_right _ (List.mem_append_right _ (List.mem_append_right _ (List.mem_append_right _ (List.mem_append_right _ (List.mem_append_right _ (List.mem_append_right _ (List.mem_append_right _ (List.mem_append_right _ (List.mem_append_right _ (List.mem_append_right _ (List.mem_append_right _ (List.mem_append_right _ (List.mem_append_right _ (List.mem_append_right _ (List.mem_append_right _ (List.mem_append_right _ (List.mem_append_right _ (List.mem_append_right _ (List.mem_append_right _ (List.mem_append_right _ (List.mem_append_right _ (List.mem_append_right _ (List.mem_append_left _ h))))))))))))))))))))))))))))))))))))))
theorem pr_29 : ∀ w ∈ wsL_law_r29, w ∈ wsL_law := fun _ h => List.mem_append_left _ (List.mem_append_left _ (List.mem_append_left _ (List.mem_append_left _ (List.mem_append_left _ (List.mem_append_left _ (List.mem_append_left _ (List.mem_append_left _ (List.mem_append_left _ (List.mem_append_left _ (List.mem_append_left _ (List.mem_append_right _ (List.mem_append_right _ (List.mem_append_right _ (List.mem_append_right _ (List.mem_append_right _ (List.mem_append_right _ (List.mem_append_right _ (List.mem_append_right _ (List.mem_append_right _ (List.mem_append_right _ (List.mem_append_right _ (List.mem_append_right _ (List.mem_append_right _ (List.mem_append_right _ (List.mem_append_right _ (List.mem_append_right _ (List.mem_append_right _ (List.mem_append_right _ (List.mem_append_right _ (List.mem_append_right _ (List.mem_append_right _ (List.mem_append_right _ (List.mem_append_right _ (List.mem_append_right _ (List.mem_append_right _ (List.mem_append_right _ (List.mem_append_right _ (List.mem_append_right _ (List.mem_append_left _ h)))))))))))))))))))))))))))))))))))))))
theorem pr_30 : ∀ w ∈ wsL_law_r30, w ∈ wsL_law := fun _ h => List.mem_append_left _ (List.mem_append_left _ (List.mem_append_left _ (List.mem_append_left _ (List.mem_append_left _ (List.mem_append_left _ (List.mem_append_left _ (List.mem_append_left _ (List.mem_append_left _ (List.mem_append_left _ (List.mem_append_left _ (List.mem_append_right _ (List.mem_append_right _ (List.mem_append_right _ (List.mem_append_right _ (List.mem_append_right _ (List.mem_append_right _ (List.mem_append_right _ (List.mem_append_right _ (List.mem_append_right _ (List.mem_append_right _ (List.mem_append_right _ (List.mem_append_right _ (List.mem_append_right _ (List.mem_append_right _ (List.mem_append_right _ (List.mem_append_right _ (List.mem_append_right _ (List.mem_append_right _ (List.mem_append_right _ (List.mem_append_right _ (List.mem_append_right _ (List.mem_append_right _ (List.mem_append_right _ (List.mem_append_right _ (List.mem_append_right _ (List.mem_append_right _ (List.mem_append_right _ (List.mem_append_right _ (List.mem_append_right _ (List.mem_append_left _ h))))))))))))))))))))))))))))))))))))))))
theorem pr_31 : ∀ w ∈ wsL_law_r31, w ∈ wsL_law := fun _ h => List.mem_append_left _ (List.mem_append_left _ (List.mem_append_left _ (List.mem_append_left _ (List.mem_append_left _ (List.mem_append_left _ (List.mem_append_left _ (List.mem_append_left _ (List.mem_append_left _ (List.mem_append_left _ (List.mem_append_left _ (List.mem_append_right _ (List.mem_append_right _ (List.mem_append_right _ (List.mem_append_right _ (List.mem_append_right _ (List.mem_append_right _ (List.mem_append_right _ (List.mem_append_right _ (List.mem_append_right _ (List.mem_append_right _ (List.mem_append_right _ (List.mem_append_right _ (List.mem_append_right _ (List.mem_append_right _ (List.mem_append_right _ (List.mem_append_right _ (List.mem_append_right _ (List.mem_append_right _ (List.mem_append_right _ (List.mem_append_right _ (List.mem_append_right _ (List.mem_append_right _ (List.mem_append_right _ (List.mem_append_right _ (List.mem_append_right _ (List.mem_append_right _ (List.mem_append_right _ (List.mem_append_right _ (List.mem_append_right _ (List.mem_append_right _ (List.mem_append_left _ h)))))))))))))))))))))))))))))))))))))))))
theorem pr_32 : ∀ w ∈ wsL_law_r32, w ∈ wsL_law := fun _ h => List.mem_append_left _ (List.mem_append_left _ (List.mem_append_left _ (List.mem_append_left _ (List.mem_append_left _ (List.mem_append_left _ (List.mem_append_left _ (List.mem_append_left _ (List.mem_append_left _ (List.mem_append_left _ (List.mem_append_left _ (List.mem_append_right _ (List.mem_append_right _ (List.mem_append_right _ (List.mem_append_right _ (List.mem_append_right _ (List.mem_append_right _ (List.mem_append_right _ (List.mem_append_right _ (List.mem_append_right _ (List.mem_append_right _ (List.mem_append_right _ (List.mem_append_right _ (List.mem_append_right _ (List.mem_append_right _ (List.mem_append_right _ (List.mem_append_right _ (List.mem_append_right _ (List.mem_append_right _ (List.mem_append_right _ (List.mem_append_right _ (List.mem_append_right _ (List.mem_append_right _ (List.mem_append_right _ (List.mem_append_right _ (List.mem_append_right _ (List.mem_append_right _ (List.mem_append_right _ (List.mem_append_right _ (List.mem_append_right _ (List.mem_append_right _ (List.mem_append_right _ (List.mem_append_left _ h))))))))))))))))))))))))))))))))))))))))))
theorem pr_33 : ∀ w ∈ wsL_law_r33, w ∈ wsL_law := fun _ h => List.mem_append_left _ (List.mem_append_left _ (List.mem_append_left _ (List.mem_append_left _ (List.mem_append_left _ (List.mem_append_left _ (List.mem_append_left _ (List.mem_append_left _ (List.mem_append_left _ (List.mem_append_left _ (List.mem_append_left _ (List.mem_append_right _ (List.mem_append_right _ (List.mem_append_right _ (List.mem_append_right _ (List.mem_append_right _ (List.mem_append_right _ (List.mem_append_right _ (List.mem_append_right _ (List.mem_append_right _ (List.mem_append_right _ (List.mem_append_right _ (List.mem_append_right _ (List.mem_append_right _ (List.mem_append_right _ (List.mem_append_right _ (List.mem_append_right _ (List.mem_append_right _ (List.mem_append_right _ (List.mem_append_right _ (List.mem_append_right _ (List.mem_append_right _ (List.mem_append_right _ (List.mem_append_right _ (List.mem_append_right _ (List.mem_append_right _ (List.mem_append_right _ (List.mem_append_right _ (List.mem_append_right _ (List.mem_append_right _ (List.mem_append_right _ (List.mem_append_right _ (List.mem_append_right _ (List.mem_append_left _ h)))))))))))))))))))))))))))))))))))))))))))
theorem pr_34 : ∀ w ∈ wsL_law_r34, w ∈ wsL_law := fun _ h => List.mem_append_left _ (List.mem_append_left _ (List.mem_append_left _ (List.mem_append_left _ (List.mem_append_left _ (List.mem_append_left _ (List.mem_append_left _ (List.mem_append_left _ (List.mem_append_left _ (List.mem_append_left _ (List.mem_append_left _ (List.mem_append_right _ (List.mem_append_right _ (List.mem_append_right _ (List.mem_append_right _ (List.mem_append_right _ (List.mem_append_right _ (List.mem_append_right _ (List.mem_append_right _ (List.mem_append_right _ (List.mem_append_right _ (List.mem_append_right _ (List.mem_append_right _ (List.mem_append_right _ (List.mem_append_right _ (List.mem_append_right _ (List.mem_append_right _ (List.mem_append_right _ (List.mem_append_right _ (List.mem_append_right _ (List.mem_append_right _ (List.mem_append_right _ (List.mem_append_right _ (List.mem_append_right _ (List.mem_append_right _ (List.mem_append_right _ (List.mem_append_right _ (List.mem_append_right _ (List.mem_append_right _ (List.mem_append_right _ (List.mem_append_right _ (List.mem_append_right _ (List.mem_append_right _ (List.mem_append_right _ (List.mem_append_left _ h))))))))))))))))))))))))))))))))))))))))))))
theorem pr_35 : ∀ w ∈ wsL_law_r35, w ∈ wsL_law := fun _ h => List.mem_append_left _ (List.mem_append_left _ (List.mem_append_left _ (List.mem_append_left _ (List.mem_append_left _ (List.mem_append_left _ (List.mem_append_left _ (List.mem_append_left _ (List.mem_append_left _ (List.mem_append_left _ (List.mem_append_left _ (List.mem_append_right _ (List.mem_append_right _ (List.mem_append_right _ (List.mem_append_right _ (List.mem_append_right _ (List.mem_append_right _ (List.mem_append_right _ (List.mem_append_right _ (List.mem_append_right _ (List.mem_append_right _ (List.mem_append_right _ (List.mem_append_right _ (List.mem_append_right _ (List.mem_append_right _ (List.mem_append_right _ (List.mem_append_right _ (List.mem_append_right _ (List.mem_append_right _ (List.mem_append_right _ (List.mem_append_right _ (List.mem_append_right _ (List.mem_append_right _ (List.mem_append_right _ (List.mem_append_right _ (List.mem_append_right _ (List.mem_append_right _ (List.mem_append_right _ (List.mem_append_right _ (List.mem_append_right _ (List.mem_append_right _ (List.mem_append_right _ (List.mem_append_right _ (List.mem_append_right _ (List.mem_append_right _ (List.mem_append_left _ h)))))))))))))))))))))))))))))))))))))))))))))
theorem pr_36 : ∀ w ∈ wsL_law_r36, w ∈ wsL_law := fun _ h => List.mem_append_left _ (List.mem_append_left _ (List.mem_append_left _ (List.mem_append_left _ (List.mem_append_left _ (List.mem_append_left _ (List.mem_append_left _ (List.mem_append_left _ (List.mem_append_left _ (List.mem_append_left _ (List.mem_append_left _ (List.mem_append_right _ (List.mem_append_right _ (List.mem_append_right _ (List.mem_append_right _ (List.mem_append_right _ (List.mem_append_right _ (List.mem_append_right _ (List.mem_append_right _ (List.mem_append_right _ (List.mem_append_right _ (List.mem_append_right _ (List.mem_append_right _ (List.mem_append_right _ (List.mem_append_right _ (List.mem_append_right _ (List.mem_append_right _ (List.mem_append_right _ (List.mem_append_right _ (List.mem_append_right _ (List.mem_append_right _ (List.mem_append_right _ (List.mem_append_right _ (List.mem_append_right _ (List.mem_append_right _ (List.mem_append_right _ (List.mem_append_right _ (List.mem_append_right _ (List.mem_append_right _ (List.mem_append_right _ (List.mem_append_right _ (List.mem_append_right _ (List.mem_append_right _ (List.mem_append_right _ (List.mem_append_right _ (List.mem_append_right _ (List.mem_append_left _ h))))))))))))))))))))))))))))))))))))))))))))))
theorem pr_37 : ∀ w ∈ wsL_law_r37, w ∈ wsL_law := fun _ h => List.mem_append_left _ (List.mem_append_left _ (List.mem_append_left _ (List.mem_append_left _ (List.mem_append_left _ (List.mem_append_left _ (List.mem_append_left _ (List.mem_append_left _ (List.mem_append_left _ (List.mem_append_left _ (List.mem_append_left _ (List.mem_append_right _ (List.mem_append_right _ (List.mem_append_right _ (List.mem_append_right _ (List.mem_append_right _ (List.mem_append_right _ (List.mem_append_right _ (List.mem_append_right _ (List.mem_append_right _ (List.mem_append_right _ (List.mem_append_right _ (List.mem_append_right _ (List.mem_append_right _ (List.mem_append_right _ (List.mem_append_right _ (List.mem_append_right _ (List.mem_append_right _ (List.mem_append_right _ (List.mem_append_right _ (List.mem_append_right _ (List.mem_append_right _ (List.mem_append_right _ (List.mem_append_right _ (List.mem_append_right _ (List.mem_append_right _ (List.mem_append_right _ (List.mem_append_right _ (List.mem_append_right _ (List.mem_append_right _ (List.mem_append_right _ (List.mem_append_right _ (List.mem_append_right _ (List.mem_append_right _ (List.mem_append_right _ (List.mem_append_right _ (List.mem_append_right _ (List.mem_append_left _ h)))))))))))))))))))))))))))))))))))))))))))))))
theorem pr_38 : ∀ w ∈ wsL_law_r38, w ∈ wsL_law := fun _ h => List.mem_append_left _ (List.mem_append_left _ (List.mem_append_left _ (List.mem_append_left _ (List.mem_append_left _ (List.mem_append_left _ (List.mem_append_left _ (List.mem_append_left _ (List.mem_append_left _ (List.mem_append_left _ (List.mem_append_left _ (List.mem_append_right _ (List.mem_append_right _ (List.mem_append_right _ (List.mem_append_right _ (List.mem_append_right _ (List.mem_append_right _ (List.mem_append_right _ (List.mem_append_right _ (List.mem_append_right _ (List.mem_append_right _ (List.mem_append_right _ (List.mem_append_right _ (List.mem_append_right _ (List.mem_append_right _ (List.mem_append_right _ (List.mem_append_right _ (List.mem_append_right _ (List.mem_append_right _ (List.mem_append_right _ (List.mem_append_right _ (List.mem_append_right _ (List.mem_append_right _ (List.mem_append_right _ (List.mem_append_right _ (List.mem_append_right _ (List.mem_append_right _ (List.mem_append_right _ (List.mem_append_right _ (List.mem_append_right _ (List.mem_append_right _ (List.mem_append_right _ (List.mem_append_right _ (List.mem_append_right _ (List.mem_append_right _ (List.mem_append_right _ (List.mem_append_right _ (List.mem_append_right _ (h))))))))))))))))))))))))))))))))))))))))))))))))
theorem mw_0 : (Cond.classLink RL 7 RX9 : Cond) ∈ wsL_law := pr_1 _ (List.mem_of_getElem? (i := 0) rfl)
theorem mw_1 : (Cond.instantiable RX9 13 : Cond) ∈ wsL_law := pr_1 _ (List.mem_of_getElem? (i := 1) rfl)
theorem mw_2 : (Cond.initialized RX9 : Cond) ∈ wsL_law := pr_1 _ (List.mem_of_getElem? (i := 2) rfl)
theorem mw_3 : (Cond.classLink RL 10 RX10 : Cond) ∈ wsL_law := pr_1 _ (List.mem_of_getElem? (i := 3) rfl)
theorem mw_4 : (Cond.instantiable RX10 32 : Cond) ∈ wsL_law := pr_1 _ (List.mem_of_getElem? (i := 4) rfl)
theorem mw_5 : (Cond.initialized RX10 : Cond) ∈ wsL_law := pr_1 _ (List.mem_of_getElem? (i := 5) rfl)
theorem mw_6 : (Cond.methodLink RL 9 yX9_init : Cond) ∈ wsL_law := pr_1 _ (List.mem_of_getElem? (i := 6) rfl)
theorem mw_7 : (Cond.instanceMethod yX9_init : Cond) ∈ wsL_law := pr_1 _ (List.mem_of_getElem? (i := 7) rfl)
theorem mw_8 : (Cond.code yX9_init cX9_init 2 none : Cond) ∈ wsL_law := pr_1 _ (List.mem_of_getElem? (i := 8) rfl)
theorem mw_9 : (Cond.methodLink RX9 3 objectInit : Cond) ∈ wsL_law := pr_1 _ (List.mem_of_getElem? (i := 9) rfl)
theorem mw_10 : (Cond.instanceMethod objectInit : Cond) ∈ wsL_law := pr_1 _ (List.mem_of_getElem? (i := 10) rfl)
theorem mw_11 : (Cond.code objectInit ⟨#[0xb1]⟩ 1 none : Cond) ∈ wsL_law := pr_1 _ (List.mem_of_getElem? (i := 11) rfl)
theorem mw_12 : (Cond.classLink RX9 9 RX0 : Cond) ∈ wsL_law := pr_1 _ (List.mem_of_getElem? (i := 12) rfl)
theorem mw_13 : (Cond.instantiable RX0 13 : Cond) ∈ wsL_law := pr_1 _ (List.mem_of_getElem? (i := 13) rfl)
theorem mw_14 : (Cond.initialized RX0 : Cond) ∈ wsL_law := pr_1 _ (List.mem_of_getElem? (i := 14) rfl)
theorem mw_15 : (Cond.fieldLink RX9 12 "ClearingGates" "books" "LClearingGates$Books;" : Cond) ∈ wsL_law := pr_1 _ (List.mem_of_getElem? (i := 15) rfl)
theorem mw_16 : (Cond.fieldLink RX9 18 "ClearingGates" "imageBooks" "LClearingGates$Books;" : Cond) ∈ wsL_law := pr_1 _ (List.mem_of_getElem? (i := 16) rfl)
theorem mw_17 : (Cond.classLink RX9 21 RX1 : Cond) ∈ wsL_law := pr_1 _ (List.mem_of_getElem? (i := 17) rfl)
theorem mw_18 : (Cond.instantiable RX1 1 : Cond) ∈ wsL_law := pr_1 _ (List.mem_of_getElem? (i := 18) rfl)
theorem mw_19 : (Cond.initialized RX1 : Cond) ∈ wsL_law := pr_1 _ (List.mem_of_getElem? (i := 19) rfl)
theorem mw_20 : (Cond.fieldLink RX9 24 "ClearingGates" "debts" "LClearingGates$Debts;" : Cond) ∈ wsL_law := pr_1 _ (List.mem_of_getElem? (i := 20) rfl)
theorem mw_21 : (Cond.fieldLink RX9 28 "ClearingGates" "imageDebts" "LClearingGates$Debts;" : Cond) ∈ wsL_law := pr_1 _ (List.mem_of_getElem? (i := 21) rfl)
theorem mw_22 : (Cond.classLink RX9 31 RX5 : Cond) ∈ wsL_law := pr_1 _ (List.mem_of_getElem? (i := 22) rfl)
theorem mw_23 : (Cond.instantiable RX5 4 : Cond) ∈ wsL_law := pr_1 _ (List.mem_of_getElem? (i := 23) rfl)
theorem mw_24 : (Cond.initialized RX5 : Cond) ∈ wsL_law := pr_2 _ (List.mem_of_getElem? (i := 0) rfl)
theorem mw_25 : (Cond.fieldLink RX9 36 "ClearingGates" "rings" "LClearingGates$Rings;" : Cond) ∈ wsL_law := pr_2 _ (List.mem_of_getElem? (i := 1) rfl)
theorem mw_26 : (Cond.classLink RX9 40 RX3 : Cond) ∈ wsL_law := pr_2 _ (List.mem_of_getElem? (i := 2) rfl)
theorem mw_27 : (Cond.fieldLink RX9 42 "ClearingGates" "programs" "[LClearingGates$Program;" : Cond) ∈ wsL_law := pr_2 _ (List.mem_of_getElem? (i := 3) rfl)
theorem mw_28 : (Cond.instantiable RX3 3 : Cond) ∈ wsL_law := pr_2 _ (List.mem_of_getElem? (i := 4) rfl)
theorem mw_29 : (Cond.initialized RX3 : Cond) ∈ wsL_law := pr_2 _ (List.mem_of_getElem? (i := 5) rfl)
theorem mw_30 : (Cond.fieldLink RX9 47 "ClearingGates" "imagePrograms" "I" : Cond) ∈ wsL_law := pr_2 _ (List.mem_of_getElem? (i := 6) rfl)
theorem mw_31 : (Cond.classLink RX9 51 RX8 : Cond) ∈ wsL_law := pr_2 _ (List.mem_of_getElem? (i := 7) rfl)
theorem mw_32 : (Cond.instantiable RX8 2 : Cond) ∈ wsL_law := pr_2 _ (List.mem_of_getElem? (i := 8) rfl)
theorem mw_33 : (Cond.initialized RX8 : Cond) ∈ wsL_law := pr_2 _ (List.mem_of_getElem? (i := 9) rfl)
theorem mw_34 : (Cond.fieldLink RX9 54 "ClearingGates" "tape" "LClearingGates$Tape;" : Cond) ∈ wsL_law := pr_2 _ (List.mem_of_getElem? (i := 10) rfl)
theorem mw_35 : (Cond.classLink RX9 58 RX4 : Cond) ∈ wsL_law := pr_2 _ (List.mem_of_getElem? (i := 11) rfl)
theorem mw_36 : (Cond.instantiable RX4 5 : Cond) ∈ wsL_law := pr_2 _ (List.mem_of_getElem? (i := 12) rfl)
theorem mw_37 : (Cond.initialized RX4 : Cond) ∈ wsL_law := pr_2 _ (List.mem_of_getElem? (i := 13) rfl)
theorem mw_38 : (Cond.fieldLink RX9 61 "ClearingGates" "reader" "LClearingGates$Reader;" : Cond) ∈ wsL_law := pr_2 _ (List.mem_of_getElem? (i := 14) rfl)
theorem mw_39 : (Cond.classLink RX9 65 RX6 : Cond) ∈ wsL_law := pr_2 _ (List.mem_of_getElem? (i := 15) rfl)
theorem mw_40 : (Cond.instantiable RX6 8 : Cond) ∈ wsL_law := pr_2 _ (List.mem_of_getElem? (i := 16) rfl)
theorem mw_41 : (Cond.initialized RX6 : Cond) ∈ wsL_law := pr_2 _ (List.mem_of_getElem? (i := 17) rfl)
theorem mw_42 : (Cond.fieldLink RX9 70 "ClearingGates" "truly" "LClearingGates$Runner;" : Cond) ∈ wsL_law := pr_2 _ (List.mem_of_getElem? (i := 18) rfl)
theorem mw_43 : (Cond.fieldLink RX9 74 "ClearingGates" "thought" "LClearingGates$Runner;" : Cond) ∈ wsL_law := pr_2 _ (List.mem_of_getElem? (i := 19) rfl)
theorem mw_44 : (Cond.classLink RX9 77 RX7 : Cond) ∈ wsL_law := pr_2 _ (List.mem_of_getElem? (i := 20) rfl)
theorem mw_45 : (Cond.fieldLink RX9 79 "ClearingGates" "sheets" "[LClearingGates$Sheet;" : Cond) ∈ wsL_law := pr_2 _ (List.mem_of_getElem? (i := 21) rfl)
theorem mw_46 : (Cond.instantiable RX7 3 : Cond) ∈ wsL_law := pr_2 _ (List.mem_of_getElem? (i := 22) rfl)
theorem mw_47 : (Cond.initialized RX7 : Cond) ∈ wsL_law := pr_2 _ (List.mem_of_getElem? (i := 23) rfl)
theorem mw_48 : (Cond.instanceMethod yX0_init : Cond) ∈ wsL_law := pr_3 _ (List.mem_of_getElem? (i := 0) rfl)
theorem mw_49 : (Cond.code yX0_init cX0_init 1 none : Cond) ∈ wsL_law := pr_3 _ (List.mem_of_getElem? (i := 1) rfl)
theorem mw_50 : (Cond.methodLink RX0 3 objectInit : Cond) ∈ wsL_law := pr_3 _ (List.mem_of_getElem? (i := 2) rfl)
theorem mw_51 : (Cond.arrayClass .int : Cond) ∈ wsL_law := pr_3 _ (List.mem_of_getElem? (i := 3) rfl)
theorem mw_52 : (Cond.fieldLink RX0 9 "ClearingGates$Books" "kinds" "[I" : Cond) ∈ wsL_law := pr_3 _ (List.mem_of_getElem? (i := 4) rfl)
theorem mw_53 : (Cond.fieldLink RX0 15 "ClearingGates$Books" "balances" "[I" : Cond) ∈ wsL_law := pr_3 _ (List.mem_of_getElem? (i := 5) rfl)
theorem mw_54 : (Cond.fieldLink RX0 18 "ClearingGates$Books" "limits" "[I" : Cond) ∈ wsL_law := pr_3 _ (List.mem_of_getElem? (i := 6) rfl)
theorem mw_55 : (Cond.arrayClass .boolean : Cond) ∈ wsL_law := pr_3 _ (List.mem_of_getElem? (i := 7) rfl)
theorem mw_56 : (Cond.fieldLink RX0 21 "ClearingGates$Books" "gates" "[Z" : Cond) ∈ wsL_law := pr_3 _ (List.mem_of_getElem? (i := 8) rfl)
theorem mw_57 : (Cond.fieldLink RX0 25 "ClearingGates$Books" "entries" "[I" : Cond) ∈ wsL_law := pr_3 _ (List.mem_of_getElem? (i := 9) rfl)
theorem mw_58 : (Cond.fieldLink RX0 28 "ClearingGates$Books" "leavings" "[I" : Cond) ∈ wsL_law := pr_3 _ (List.mem_of_getElem? (i := 10) rfl)
theorem mw_59 : (Cond.fieldLink RX0 31 "ClearingGates$Books" "agains" "[I" : Cond) ∈ wsL_law := pr_3 _ (List.mem_of_getElem? (i := 11) rfl)
theorem mw_60 : (Cond.instanceMethod yX1_init : Cond) ∈ wsL_law := pr_3 _ (List.mem_of_getElem? (i := 12) rfl)
theorem mw_61 : (Cond.code yX1_init cX1_init 1 none : Cond) ∈ wsL_law := pr_3 _ (List.mem_of_getElem? (i := 13) rfl)
theorem mw_62 : (Cond.methodLink RX1 3 objectInit : Cond) ∈ wsL_law := pr_3 _ (List.mem_of_getElem? (i := 14) rfl)
theorem mw_63 : (Cond.fieldLink RX1 9 "ClearingGates$Debts" "row" "[I" : Cond) ∈ wsL_law := pr_3 _ (List.mem_of_getElem? (i := 15) rfl)
theorem mw_64 : (Cond.methodLink RX9 33 yX5_init : Cond) ∈ wsL_law := pr_3 _ (List.mem_of_getElem? (i := 16) rfl)
theorem mw_65 : (Cond.instanceMethod yX5_init : Cond) ∈ wsL_law := pr_3 _ (List.mem_of_getElem? (i := 17) rfl)
theorem mw_66 : (Cond.code yX5_init cX5_init 2 none : Cond) ∈ wsL_law := pr_3 _ (List.mem_of_getElem? (i := 18) rfl)
theorem mw_67 : (Cond.methodLink RX5 3 objectInit : Cond) ∈ wsL_law := pr_3 _ (List.mem_of_getElem? (i := 19) rfl)
theorem mw_68 : (Cond.fieldLink RX5 9 "ClearingGates$Rings" "way" "[I" : Cond) ∈ wsL_law := pr_3 _ (List.mem_of_getElem? (i := 20) rfl)
theorem mw_69 : (Cond.fieldLink RX5 15 "ClearingGates$Rings" "tried" "[Z" : Cond) ∈ wsL_law := pr_3 _ (List.mem_of_getElem? (i := 21) rfl)
theorem mw_70 : (Cond.fieldLink RX5 19 "ClearingGates$Rings" "debts" "LClearingGates$Debts;" : Cond) ∈ wsL_law := pr_3 _ (List.mem_of_getElem? (i := 22) rfl)
theorem mw_71 : (Cond.instanceMethod yX3_init : Cond) ∈ wsL_law := pr_3 _ (List.mem_of_getElem? (i := 23) rfl)
theorem mw_72 : (Cond.code yX3_init cX3_init 1 none : Cond) ∈ wsL_law := pr_4 _ (List.mem_of_getElem? (i := 0) rfl)
theorem mw_73 : (Cond.methodLink RX3 3 objectInit : Cond) ∈ wsL_law := pr_4 _ (List.mem_of_getElem? (i := 1) rfl)
theorem mw_74 : (Cond.fieldLink RX3 9 "ClearingGates$Program" "bytes" "[I" : Cond) ∈ wsL_law := pr_4 _ (List.mem_of_getElem? (i := 2) rfl)
theorem mw_75 : (Cond.fieldLink RX3 15 "ClearingGates$Program" "behind" "[I" : Cond) ∈ wsL_law := pr_4 _ (List.mem_of_getElem? (i := 3) rfl)
theorem mw_76 : (Cond.instanceMethod yX8_init : Cond) ∈ wsL_law := pr_4 _ (List.mem_of_getElem? (i := 4) rfl)
theorem mw_77 : (Cond.code yX8_init cX8_init 1 none : Cond) ∈ wsL_law := pr_4 _ (List.mem_of_getElem? (i := 5) rfl)
theorem mw_78 : (Cond.methodLink RX8 3 objectInit : Cond) ∈ wsL_law := pr_4 _ (List.mem_of_getElem? (i := 6) rfl)
theorem mw_79 : (Cond.fieldLink RX8 9 "ClearingGates$Tape" "bytes" "[I" : Cond) ∈ wsL_law := pr_4 _ (List.mem_of_getElem? (i := 7) rfl)
theorem mw_80 : (Cond.instanceMethod yX4_init : Cond) ∈ wsL_law := pr_4 _ (List.mem_of_getElem? (i := 8) rfl)
theorem mw_81 : (Cond.code yX4_init cX4_init 1 none : Cond) ∈ wsL_law := pr_4 _ (List.mem_of_getElem? (i := 9) rfl)
theorem mw_82 : (Cond.methodLink RX4 3 objectInit : Cond) ∈ wsL_law := pr_4 _ (List.mem_of_getElem? (i := 10) rfl)
theorem mw_83 : (Cond.fieldLink RX4 9 "ClearingGates$Reader" "opened" "[I" : Cond) ∈ wsL_law := pr_4 _ (List.mem_of_getElem? (i := 11) rfl)
theorem mw_84 : (Cond.methodLink RX9 67 yX6_init : Cond) ∈ wsL_law := pr_4 _ (List.mem_of_getElem? (i := 12) rfl)
theorem mw_85 : (Cond.instanceMethod yX6_init : Cond) ∈ wsL_law := pr_4 _ (List.mem_of_getElem? (i := 13) rfl)
theorem mw_86 : (Cond.code yX6_init cX6_init 2 none : Cond) ∈ wsL_law := pr_4 _ (List.mem_of_getElem? (i := 14) rfl)
theorem mw_87 : (Cond.methodLink RX6 3 objectInit : Cond) ∈ wsL_law := pr_4 _ (List.mem_of_getElem? (i := 15) rfl)
theorem mw_88 : (Cond.fieldLink RX6 9 "ClearingGates$Runner" "marks" "[I" : Cond) ∈ wsL_law := pr_4 _ (List.mem_of_getElem? (i := 16) rfl)
theorem mw_89 : (Cond.fieldLink RX6 15 "ClearingGates$Runner" "held" "[I" : Cond) ∈ wsL_law := pr_4 _ (List.mem_of_getElem? (i := 17) rfl)
theorem mw_90 : (Cond.classLink RX6 18 "[[I" : Cond) ∈ wsL_law := pr_4 _ (List.mem_of_getElem? (i := 18) rfl)
theorem mw_91 : (Cond.fieldLink RX6 20 "ClearingGates$Runner" "keptBalances" "[[I" : Cond) ∈ wsL_law := pr_4 _ (List.mem_of_getElem? (i := 19) rfl)
theorem mw_92 : (Cond.arrayClass .long : Cond) ∈ wsL_law := pr_4 _ (List.mem_of_getElem? (i := 20) rfl)
theorem mw_93 : (Cond.fieldLink RX6 23 "ClearingGates$Runner" "keptFees" "[J" : Cond) ∈ wsL_law := pr_4 _ (List.mem_of_getElem? (i := 21) rfl)
theorem mw_94 : (Cond.fieldLink RX6 27 "ClearingGates$Runner" "books" "LClearingGates$Books;" : Cond) ∈ wsL_law := pr_4 _ (List.mem_of_getElem? (i := 22) rfl)
theorem mw_95 : (Cond.instanceMethod yX7_init : Cond) ∈ wsL_law := pr_4 _ (List.mem_of_getElem? (i := 23) rfl)
theorem mw_96 : (Cond.code yX7_init cX7_init 1 none : Cond) ∈ wsL_law := pr_5 _ (List.mem_of_getElem? (i := 0) rfl)
theorem mw_97 : (Cond.methodLink RX7 3 objectInit : Cond) ∈ wsL_law := pr_5 _ (List.mem_of_getElem? (i := 1) rfl)
theorem mw_98 : (Cond.fieldLink RX7 11 "ClearingGates$Sheet" "sort" "I" : Cond) ∈ wsL_law := pr_5 _ (List.mem_of_getElem? (i := 2) rfl)
theorem mw_99 : (Cond.fieldLink RX7 15 "ClearingGates$Sheet" "items" "[I" : Cond) ∈ wsL_law := pr_5 _ (List.mem_of_getElem? (i := 3) rfl)
theorem mw_100 : (Cond.methodLink RL 12 yX10_init : Cond) ∈ wsL_law := pr_5 _ (List.mem_of_getElem? (i := 4) rfl)
theorem mw_101 : (Cond.instanceMethod yX10_init : Cond) ∈ wsL_law := pr_5 _ (List.mem_of_getElem? (i := 5) rfl)
theorem mw_102 : (Cond.code yX10_init cX10_init 1 none : Cond) ∈ wsL_law := pr_5 _ (List.mem_of_getElem? (i := 6) rfl)
theorem mw_103 : (Cond.methodLink RX10 5 objectInit : Cond) ∈ wsL_law := pr_5 _ (List.mem_of_getElem? (i := 7) rfl)
theorem mw_104 : (Cond.fieldLink RX10 11 "ClearingGatesModel" "s" "[I" : Cond) ∈ wsL_law := pr_5 _ (List.mem_of_getElem? (i := 8) rfl)
theorem mw_105 : (Cond.fieldLink RX10 15 "ClearingGatesModel" "thought" "[I" : Cond) ∈ wsL_law := pr_5 _ (List.mem_of_getElem? (i := 9) rfl)
theorem mw_106 : (Cond.fieldLink RX10 18 "ClearingGatesModel" "image" "[I" : Cond) ∈ wsL_law := pr_5 _ (List.mem_of_getElem? (i := 10) rfl)
theorem mw_107 : (Cond.fieldLink RX10 21 "ClearingGatesModel" "tape" "[I" : Cond) ∈ wsL_law := pr_5 _ (List.mem_of_getElem? (i := 11) rfl)
theorem mw_108 : (Cond.fieldLink RX10 24 "ClearingGatesModel" "texts" "[I" : Cond) ∈ wsL_law := pr_5 _ (List.mem_of_getElem? (i := 12) rfl)
theorem mw_109 : (Cond.fieldLink RX10 27 "ClearingGatesModel" "sizes" "[I" : Cond) ∈ wsL_law := pr_5 _ (List.mem_of_getElem? (i := 13) rfl)
theorem mw_110 : (Cond.fieldLink RX10 30 "ClearingGatesModel" "imageTexts" "[I" : Cond) ∈ wsL_law := pr_5 _ (List.mem_of_getElem? (i := 14) rfl)
theorem mw_111 : (Cond.fieldLink RX10 33 "ClearingGatesModel" "imageSizes" "[I" : Cond) ∈ wsL_law := pr_5 _ (List.mem_of_getElem? (i := 15) rfl)
theorem mw_112 : (Cond.fieldLink RX10 36 "ClearingGatesModel" "held" "[I" : Cond) ∈ wsL_law := pr_5 _ (List.mem_of_getElem? (i := 16) rfl)
theorem mw_113 : (Cond.fieldLink RX10 39 "ClearingGatesModel" "marks" "[I" : Cond) ∈ wsL_law := pr_5 _ (List.mem_of_getElem? (i := 17) rfl)
theorem mw_114 : (Cond.fieldLink RX10 42 "ClearingGatesModel" "trace" "[I" : Cond) ∈ wsL_law := pr_5 _ (List.mem_of_getElem? (i := 18) rfl)
theorem mw_115 : (Cond.fieldLink RX10 45 "ClearingGatesModel" "keptBalances" "[I" : Cond) ∈ wsL_law := pr_5 _ (List.mem_of_getElem? (i := 19) rfl)
theorem mw_116 : (Cond.fieldLink RX10 48 "ClearingGatesModel" "keptFees" "[J" : Cond) ∈ wsL_law := pr_5 _ (List.mem_of_getElem? (i := 20) rfl)
theorem mw_117 : (Cond.fieldLink RX10 52 "ClearingGatesModel" "way" "[I" : Cond) ∈ wsL_law := pr_5 _ (List.mem_of_getElem? (i := 21) rfl)
theorem mw_118 : (Cond.fieldLink RX10 55 "ClearingGatesModel" "sorts" "[I" : Cond) ∈ wsL_law := pr_5 _ (List.mem_of_getElem? (i := 22) rfl)
theorem mw_119 : (Cond.fieldLink RX10 58 "ClearingGatesModel" "rowMany" "[I" : Cond) ∈ wsL_law := pr_5 _ (List.mem_of_getElem? (i := 23) rfl)
theorem mw_120 : (Cond.fieldLink RX10 61 "ClearingGatesModel" "items" "[I" : Cond) ∈ wsL_law := pr_6 _ (List.mem_of_getElem? (i := 0) rfl)
theorem mw_121 : (Cond.fieldLink RX10 64 "ClearingGatesModel" "moved" "[I" : Cond) ∈ wsL_law := pr_6 _ (List.mem_of_getElem? (i := 1) rfl)
theorem mw_122 : (Cond.methodLink RL 13 yX9_account : Cond) ∈ wsL_law := pr_6 _ (List.mem_of_getElem? (i := 2) rfl)
theorem mw_123 : (Cond.instanceMethod yX9_account : Cond) ∈ wsL_law := pr_6 _ (List.mem_of_getElem? (i := 3) rfl)
theorem mw_124 : (Cond.selects RX9 yX9_account yX9_account : Cond) ∈ wsL_law := pr_6 _ (List.mem_of_getElem? (i := 4) rfl)
theorem mw_125 : (Cond.code yX9_account cX9_account 3 (some .int) : Cond) ∈ wsL_law := pr_6 _ (List.mem_of_getElem? (i := 5) rfl)
theorem mw_126 : (Cond.constant RX9 90 (1000000000) : Cond) ∈ wsL_law := pr_6 _ (List.mem_of_getElem? (i := 6) rfl)
theorem mw_127 : (Cond.fieldLink RX9 95 "ClearingGates$Books" "accounts" "I" : Cond) ∈ wsL_law := pr_6 _ (List.mem_of_getElem? (i := 7) rfl)
theorem mw_128 : (Cond.methodLink RX9 84 yX2_isKind : Cond) ∈ wsL_law := pr_6 _ (List.mem_of_getElem? (i := 8) rfl)
theorem mw_129 : (Cond.static yX2_isKind : Cond) ∈ wsL_law := pr_6 _ (List.mem_of_getElem? (i := 9) rfl)
theorem mw_130 : (Cond.initialized RX2 : Cond) ∈ wsL_law := pr_6 _ (List.mem_of_getElem? (i := 10) rfl)
theorem mw_131 : (Cond.code yX2_isKind cX2_isKind 1 (some .boolean) : Cond) ∈ wsL_law := pr_6 _ (List.mem_of_getElem? (i := 11) rfl)
theorem mw_132 : (Cond.methodLink RX9 91 yX9_isWithin : Cond) ∈ wsL_law := pr_6 _ (List.mem_of_getElem? (i := 12) rfl)
theorem mw_133 : (Cond.static yX9_isWithin : Cond) ∈ wsL_law := pr_6 _ (List.mem_of_getElem? (i := 13) rfl)
theorem mw_134 : (Cond.code yX9_isWithin cX9_isWithin 2 (some .boolean) : Cond) ∈ wsL_law := pr_6 _ (List.mem_of_getElem? (i := 14) rfl)
theorem mw_135 : (Cond.methodLink RX9 98 yX0_open : Cond) ∈ wsL_law := pr_6 _ (List.mem_of_getElem? (i := 15) rfl)
theorem mw_136 : (Cond.instanceMethod yX0_open : Cond) ∈ wsL_law := pr_6 _ (List.mem_of_getElem? (i := 16) rfl)
theorem mw_137 : (Cond.selects RX0 yX0_open yX0_open : Cond) ∈ wsL_law := pr_6 _ (List.mem_of_getElem? (i := 17) rfl)
theorem mw_138 : (Cond.code yX0_open cX0_open 4 (some .int) : Cond) ∈ wsL_law := pr_6 _ (List.mem_of_getElem? (i := 18) rfl)
theorem mw_139 : (Cond.fieldLink RX0 34 "ClearingGates$Books" "accounts" "I" : Cond) ∈ wsL_law := pr_6 _ (List.mem_of_getElem? (i := 19) rfl)
theorem mw_140 : (Cond.methodLink RL 17 yX10_account : Cond) ∈ wsL_law := pr_6 _ (List.mem_of_getElem? (i := 20) rfl)
theorem mw_141 : (Cond.instanceMethod yX10_account : Cond) ∈ wsL_law := pr_6 _ (List.mem_of_getElem? (i := 21) rfl)
theorem mw_142 : (Cond.selects RX10 yX10_account yX10_account : Cond) ∈ wsL_law := pr_6 _ (List.mem_of_getElem? (i := 22) rfl)
theorem mw_143 : (Cond.code yX10_account cX10_account 4 (some .int) : Cond) ∈ wsL_law := pr_6 _ (List.mem_of_getElem? (i := 23) rfl)
theorem mw_144 : (Cond.constantLong RX10 71 (4) : Cond) ∈ wsL_law := pr_7 _ (List.mem_of_getElem? (i := 0) rfl)
theorem mw_145 : (Cond.constantLong RX10 73 (1000000000) : Cond) ∈ wsL_law := pr_7 _ (List.mem_of_getElem? (i := 1) rfl)
theorem mw_146 : (Cond.methodLink RX10 67 yX10_isIn : Cond) ∈ wsL_law := pr_7 _ (List.mem_of_getElem? (i := 2) rfl)
theorem mw_147 : (Cond.static yX10_isIn : Cond) ∈ wsL_law := pr_7 _ (List.mem_of_getElem? (i := 3) rfl)
theorem mw_148 : (Cond.code yX10_isIn cX10_isIn 6 (some .boolean) : Cond) ∈ wsL_law := pr_7 _ (List.mem_of_getElem? (i := 4) rfl)
theorem mw_149 : (Cond.methodLink RL 18 yX9_set : Cond) ∈ wsL_law := pr_7 _ (List.mem_of_getElem? (i := 5) rfl)
theorem mw_150 : (Cond.instanceMethod yX9_set : Cond) ∈ wsL_law := pr_7 _ (List.mem_of_getElem? (i := 6) rfl)
theorem mw_151 : (Cond.selects RX9 yX9_set yX9_set : Cond) ∈ wsL_law := pr_7 _ (List.mem_of_getElem? (i := 7) rfl)
theorem mw_152 : (Cond.code yX9_set cX9_set 5 (some .long) : Cond) ∈ wsL_law := pr_7 _ (List.mem_of_getElem? (i := 8) rfl)
theorem mw_153 : (Cond.constantLong RX9 105 (-9223372036854775808) : Cond) ∈ wsL_law := pr_7 _ (List.mem_of_getElem? (i := 9) rfl)
theorem mw_154 : (Cond.fieldLink RX9 107 "ClearingGates$Books" "balances" "[I" : Cond) ∈ wsL_law := pr_7 _ (List.mem_of_getElem? (i := 10) rfl)
theorem mw_155 : (Cond.fieldLink RX9 111 "ClearingGates$Books" "limits" "[I" : Cond) ∈ wsL_law := pr_7 _ (List.mem_of_getElem? (i := 11) rfl)
theorem mw_156 : (Cond.methodLink RX9 102 yX0_has : Cond) ∈ wsL_law := pr_7 _ (List.mem_of_getElem? (i := 12) rfl)
theorem mw_157 : (Cond.instanceMethod yX0_has : Cond) ∈ wsL_law := pr_7 _ (List.mem_of_getElem? (i := 13) rfl)
theorem mw_158 : (Cond.selects RX0 yX0_has yX0_has : Cond) ∈ wsL_law := pr_7 _ (List.mem_of_getElem? (i := 14) rfl)
theorem mw_159 : (Cond.code yX0_has cX0_has 2 (some .boolean) : Cond) ∈ wsL_law := pr_7 _ (List.mem_of_getElem? (i := 15) rfl)
theorem mw_160 : (Cond.methodLink RL 22 yX10_set : Cond) ∈ wsL_law := pr_7 _ (List.mem_of_getElem? (i := 16) rfl)
theorem mw_161 : (Cond.instanceMethod yX10_set : Cond) ∈ wsL_law := pr_7 _ (List.mem_of_getElem? (i := 17) rfl)
theorem mw_162 : (Cond.selects RX10 yX10_set yX10_set : Cond) ∈ wsL_law := pr_7 _ (List.mem_of_getElem? (i := 18) rfl)
theorem mw_163 : (Cond.code yX10_set cX10_set 6 (some .long) : Cond) ∈ wsL_law := pr_7 _ (List.mem_of_getElem? (i := 19) rfl)
theorem mw_164 : (Cond.constantLong RX10 79 (9999) : Cond) ∈ wsL_law := pr_7 _ (List.mem_of_getElem? (i := 20) rfl)
theorem mw_165 : (Cond.constantLong RX10 81 (-9223372036854775808) : Cond) ∈ wsL_law := pr_7 _ (List.mem_of_getElem? (i := 21) rfl)
theorem mw_166 : (Cond.methodLink RX10 75 yX10_isAccount : Cond) ∈ wsL_law := pr_7 _ (List.mem_of_getElem? (i := 22) rfl)
theorem mw_167 : (Cond.instanceMethod yX10_isAccount : Cond) ∈ wsL_law := pr_7 _ (List.mem_of_getElem? (i := 23) rfl)
theorem mw_168 : (Cond.selects RX10 yX10_isAccount yX10_isAccount : Cond) ∈ wsL_law := pr_8 _ (List.mem_of_getElem? (i := 0) rfl)
theorem mw_169 : (Cond.code yX10_isAccount cX10_isAccount 2 (some .boolean) : Cond) ∈ wsL_law := pr_8 _ (List.mem_of_getElem? (i := 1) rfl)
theorem mw_170 : (Cond.methodLink RL 23 yX9_gate : Cond) ∈ wsL_law := pr_8 _ (List.mem_of_getElem? (i := 2) rfl)
theorem mw_171 : (Cond.instanceMethod yX9_gate : Cond) ∈ wsL_law := pr_8 _ (List.mem_of_getElem? (i := 3) rfl)
theorem mw_172 : (Cond.selects RX9 yX9_gate yX9_gate : Cond) ∈ wsL_law := pr_8 _ (List.mem_of_getElem? (i := 4) rfl)
theorem mw_173 : (Cond.code yX9_gate cX9_gate 4 (some .int) : Cond) ∈ wsL_law := pr_8 _ (List.mem_of_getElem? (i := 5) rfl)
theorem mw_174 : (Cond.fieldLink RX9 114 "ClearingGates$Books" "gates" "[Z" : Cond) ∈ wsL_law := pr_8 _ (List.mem_of_getElem? (i := 6) rfl)
theorem mw_175 : (Cond.methodLink RL 27 yX10_gate : Cond) ∈ wsL_law := pr_8 _ (List.mem_of_getElem? (i := 7) rfl)
theorem mw_176 : (Cond.instanceMethod yX10_gate : Cond) ∈ wsL_law := pr_8 _ (List.mem_of_getElem? (i := 8) rfl)
theorem mw_177 : (Cond.selects RX10 yX10_gate yX10_gate : Cond) ∈ wsL_law := pr_8 _ (List.mem_of_getElem? (i := 9) rfl)
theorem mw_178 : (Cond.code yX10_gate cX10_gate 4 (some .int) : Cond) ∈ wsL_law := pr_8 _ (List.mem_of_getElem? (i := 10) rfl)
theorem mw_179 : (Cond.methodLink RL 28 yX9_told : Cond) ∈ wsL_law := pr_8 _ (List.mem_of_getElem? (i := 11) rfl)
theorem mw_180 : (Cond.instanceMethod yX9_told : Cond) ∈ wsL_law := pr_8 _ (List.mem_of_getElem? (i := 12) rfl)
theorem mw_181 : (Cond.selects RX9 yX9_told yX9_told : Cond) ∈ wsL_law := pr_8 _ (List.mem_of_getElem? (i := 13) rfl)
theorem mw_182 : (Cond.code yX9_told cX9_told 3 (some .int) : Cond) ∈ wsL_law := pr_8 _ (List.mem_of_getElem? (i := 14) rfl)
theorem mw_183 : (Cond.fieldLink RX9 118 "ClearingGates$Books" "kinds" "[I" : Cond) ∈ wsL_law := pr_8 _ (List.mem_of_getElem? (i := 15) rfl)
theorem mw_184 : (Cond.fieldLink RX9 121 "ClearingGates$Books" "entries" "[I" : Cond) ∈ wsL_law := pr_8 _ (List.mem_of_getElem? (i := 16) rfl)
theorem mw_185 : (Cond.fieldLink RX9 124 "ClearingGates$Books" "leavings" "[I" : Cond) ∈ wsL_law := pr_8 _ (List.mem_of_getElem? (i := 17) rfl)
theorem mw_186 : (Cond.fieldLink RX9 127 "ClearingGates$Books" "agains" "[I" : Cond) ∈ wsL_law := pr_8 _ (List.mem_of_getElem? (i := 18) rfl)
theorem mw_187 : (Cond.methodLink RX9 130 yX0_feeOf : Cond) ∈ wsL_law := pr_8 _ (List.mem_of_getElem? (i := 19) rfl)
theorem mw_188 : (Cond.instanceMethod yX0_feeOf : Cond) ∈ wsL_law := pr_8 _ (List.mem_of_getElem? (i := 20) rfl)
theorem mw_189 : (Cond.selects RX0 yX0_feeOf yX0_feeOf : Cond) ∈ wsL_law := pr_8 _ (List.mem_of_getElem? (i := 21) rfl)
theorem mw_190 : (Cond.code yX0_feeOf cX0_feeOf 3 (some .int) : Cond) ∈ wsL_law := pr_8 _ (List.mem_of_getElem? (i := 22) rfl)
theorem mw_191 : (Cond.methodLink RX0 42 yX2_feeOf : Cond) ∈ wsL_law := pr_8 _ (List.mem_of_getElem? (i := 23) rfl)
theorem mw_192 : (Cond.static yX2_feeOf : Cond) ∈ wsL_law := pr_9 _ (List.mem_of_getElem? (i := 0) rfl)
theorem mw_193 : (Cond.code yX2_feeOf cX2_feeOf 2 (some .int) : Cond) ∈ wsL_law := pr_9 _ (List.mem_of_getElem? (i := 1) rfl)
theorem mw_194 : (Cond.methodLink RL 31 yX10_told : Cond) ∈ wsL_law := pr_9 _ (List.mem_of_getElem? (i := 2) rfl)
theorem mw_195 : (Cond.instanceMethod yX10_told : Cond) ∈ wsL_law := pr_9 _ (List.mem_of_getElem? (i := 3) rfl)
theorem mw_196 : (Cond.selects RX10 yX10_told yX10_told : Cond) ∈ wsL_law := pr_9 _ (List.mem_of_getElem? (i := 4) rfl)
theorem mw_197 : (Cond.code yX10_told cX10_told 3 (some .int) : Cond) ∈ wsL_law := pr_9 _ (List.mem_of_getElem? (i := 5) rfl)
theorem mw_198 : (Cond.methodLink RX10 83 yX10_feeOf : Cond) ∈ wsL_law := pr_9 _ (List.mem_of_getElem? (i := 6) rfl)
theorem mw_199 : (Cond.instanceMethod yX10_feeOf : Cond) ∈ wsL_law := pr_9 _ (List.mem_of_getElem? (i := 7) rfl)
theorem mw_200 : (Cond.selects RX10 yX10_feeOf yX10_feeOf : Cond) ∈ wsL_law := pr_9 _ (List.mem_of_getElem? (i := 8) rfl)
theorem mw_201 : (Cond.code yX10_feeOf cX10_feeOf 4 (some .int) : Cond) ∈ wsL_law := pr_9 _ (List.mem_of_getElem? (i := 9) rfl)
theorem mw_202 : (Cond.methodLink RL 32 yX9_of : Cond) ∈ wsL_law := pr_9 _ (List.mem_of_getElem? (i := 10) rfl)
theorem mw_203 : (Cond.instanceMethod yX9_of : Cond) ∈ wsL_law := pr_9 _ (List.mem_of_getElem? (i := 11) rfl)
theorem mw_204 : (Cond.selects RX9 yX9_of yX9_of : Cond) ∈ wsL_law := pr_9 _ (List.mem_of_getElem? (i := 12) rfl)
theorem mw_205 : (Cond.code yX9_of cX9_of 3 (some .long) : Cond) ∈ wsL_law := pr_9 _ (List.mem_of_getElem? (i := 13) rfl)
theorem mw_206 : (Cond.methodLink RX9 133 yX0_floorOf : Cond) ∈ wsL_law := pr_9 _ (List.mem_of_getElem? (i := 14) rfl)
theorem mw_207 : (Cond.instanceMethod yX0_floorOf : Cond) ∈ wsL_law := pr_9 _ (List.mem_of_getElem? (i := 15) rfl)
theorem mw_208 : (Cond.selects RX0 yX0_floorOf yX0_floorOf : Cond) ∈ wsL_law := pr_9 _ (List.mem_of_getElem? (i := 16) rfl)
theorem mw_209 : (Cond.code yX0_floorOf cX0_floorOf 2 (some .int) : Cond) ∈ wsL_law := pr_9 _ (List.mem_of_getElem? (i := 17) rfl)
theorem mw_210 : (Cond.methodLink RX0 48 yX2_floorOf : Cond) ∈ wsL_law := pr_9 _ (List.mem_of_getElem? (i := 18) rfl)
theorem mw_211 : (Cond.static yX2_floorOf : Cond) ∈ wsL_law := pr_9 _ (List.mem_of_getElem? (i := 19) rfl)
theorem mw_212 : (Cond.code yX2_floorOf cX2_floorOf 2 (some .int) : Cond) ∈ wsL_law := pr_9 _ (List.mem_of_getElem? (i := 20) rfl)
theorem mw_213 : (Cond.methodLink RX9 137 yX1_positionOf : Cond) ∈ wsL_law := pr_9 _ (List.mem_of_getElem? (i := 21) rfl)
theorem mw_214 : (Cond.instanceMethod yX1_positionOf : Cond) ∈ wsL_law := pr_9 _ (List.mem_of_getElem? (i := 22) rfl)
theorem mw_215 : (Cond.selects RX1 yX1_positionOf yX1_positionOf : Cond) ∈ wsL_law := pr_9 _ (List.mem_of_getElem? (i := 23) rfl)
theorem mw_216 : (Cond.code yX1_positionOf cX1_positionOf 5 (some .long) : Cond) ∈ wsL_law := pr_10 _ (List.mem_of_getElem? (i := 0) rfl)
theorem mw_217 : (Cond.methodLink RX1 15 yX1_between : Cond) ∈ wsL_law := pr_10 _ (List.mem_of_getElem? (i := 1) rfl)
theorem mw_218 : (Cond.instanceMethod yX1_between : Cond) ∈ wsL_law := pr_10 _ (List.mem_of_getElem? (i := 2) rfl)
theorem mw_219 : (Cond.selects RX1 yX1_between yX1_between : Cond) ∈ wsL_law := pr_10 _ (List.mem_of_getElem? (i := 3) rfl)
theorem mw_220 : (Cond.code yX1_between cX1_between 3 (some .int) : Cond) ∈ wsL_law := pr_10 _ (List.mem_of_getElem? (i := 4) rfl)
theorem mw_221 : (Cond.methodLink RL 36 yX10_of : Cond) ∈ wsL_law := pr_10 _ (List.mem_of_getElem? (i := 5) rfl)
theorem mw_222 : (Cond.instanceMethod yX10_of : Cond) ∈ wsL_law := pr_10 _ (List.mem_of_getElem? (i := 6) rfl)
theorem mw_223 : (Cond.selects RX10 yX10_of yX10_of : Cond) ∈ wsL_law := pr_10 _ (List.mem_of_getElem? (i := 7) rfl)
theorem mw_224 : (Cond.code yX10_of cX10_of 3 (some .long) : Cond) ∈ wsL_law := pr_10 _ (List.mem_of_getElem? (i := 8) rfl)
theorem mw_225 : (Cond.constantLong RX10 90 (2) : Cond) ∈ wsL_law := pr_10 _ (List.mem_of_getElem? (i := 9) rfl)
theorem mw_226 : (Cond.methodLink RX10 92 yX10_floorOf : Cond) ∈ wsL_law := pr_10 _ (List.mem_of_getElem? (i := 10) rfl)
theorem mw_227 : (Cond.instanceMethod yX10_floorOf : Cond) ∈ wsL_law := pr_10 _ (List.mem_of_getElem? (i := 11) rfl)
theorem mw_228 : (Cond.selects RX10 yX10_floorOf yX10_floorOf : Cond) ∈ wsL_law := pr_10 _ (List.mem_of_getElem? (i := 12) rfl)
theorem mw_229 : (Cond.code yX10_floorOf cX10_floorOf 2 (some .int) : Cond) ∈ wsL_law := pr_10 _ (List.mem_of_getElem? (i := 13) rfl)
theorem mw_230 : (Cond.methodLink RX10 96 yX10_positionOf : Cond) ∈ wsL_law := pr_10 _ (List.mem_of_getElem? (i := 14) rfl)
theorem mw_231 : (Cond.instanceMethod yX10_positionOf : Cond) ∈ wsL_law := pr_10 _ (List.mem_of_getElem? (i := 15) rfl)
theorem mw_232 : (Cond.selects RX10 yX10_positionOf yX10_positionOf : Cond) ∈ wsL_law := pr_10 _ (List.mem_of_getElem? (i := 16) rfl)
theorem mw_233 : (Cond.code yX10_positionOf cX10_positionOf 5 (some .long) : Cond) ∈ wsL_law := pr_10 _ (List.mem_of_getElem? (i := 17) rfl)
theorem mw_234 : (Cond.methodLink RX10 87 yX10_owedTo : Cond) ∈ wsL_law := pr_10 _ (List.mem_of_getElem? (i := 18) rfl)
theorem mw_235 : (Cond.instanceMethod yX10_owedTo : Cond) ∈ wsL_law := pr_10 _ (List.mem_of_getElem? (i := 19) rfl)
theorem mw_236 : (Cond.selects RX10 yX10_owedTo yX10_owedTo : Cond) ∈ wsL_law := pr_10 _ (List.mem_of_getElem? (i := 20) rfl)
theorem mw_237 : (Cond.code yX10_owedTo cX10_owedTo 3 (some .int) : Cond) ∈ wsL_law := pr_10 _ (List.mem_of_getElem? (i := 21) rfl)
theorem mw_238 : (Cond.methodLink RL 37 yX9_count : Cond) ∈ wsL_law := pr_10 _ (List.mem_of_getElem? (i := 22) rfl)
theorem mw_239 : (Cond.instanceMethod yX9_count : Cond) ∈ wsL_law := pr_10 _ (List.mem_of_getElem? (i := 23) rfl)
theorem mw_240 : (Cond.selects RX9 yX9_count yX9_count : Cond) ∈ wsL_law := pr_11 _ (List.mem_of_getElem? (i := 0) rfl)
theorem mw_241 : (Cond.code yX9_count cX9_count 2 (some .int) : Cond) ∈ wsL_law := pr_11 _ (List.mem_of_getElem? (i := 1) rfl)
theorem mw_242 : (Cond.fieldLink RX9 141 "ClearingGates" "programCount" "I" : Cond) ∈ wsL_law := pr_11 _ (List.mem_of_getElem? (i := 2) rfl)
theorem mw_243 : (Cond.fieldLink RX9 144 "ClearingGates$Books" "missed" "I" : Cond) ∈ wsL_law := pr_11 _ (List.mem_of_getElem? (i := 3) rfl)
theorem mw_244 : (Cond.fieldLink RX9 147 "ClearingGates$Books" "bells" "I" : Cond) ∈ wsL_law := pr_11 _ (List.mem_of_getElem? (i := 4) rfl)
theorem mw_245 : (Cond.fieldLink RX9 150 "ClearingGates$Books" "refused" "I" : Cond) ∈ wsL_law := pr_11 _ (List.mem_of_getElem? (i := 5) rfl)
theorem mw_246 : (Cond.fieldLink RX9 153 "ClearingGates$Books" "caught" "I" : Cond) ∈ wsL_law := pr_11 _ (List.mem_of_getElem? (i := 6) rfl)
theorem mw_247 : (Cond.fieldLink RX9 160 "ClearingGates$Tape" "size" "I" : Cond) ∈ wsL_law := pr_11 _ (List.mem_of_getElem? (i := 7) rfl)
theorem mw_248 : (Cond.methodLink RX9 156 yX6_keptMarks : Cond) ∈ wsL_law := pr_11 _ (List.mem_of_getElem? (i := 8) rfl)
theorem mw_249 : (Cond.instanceMethod yX6_keptMarks : Cond) ∈ wsL_law := pr_11 _ (List.mem_of_getElem? (i := 9) rfl)
theorem mw_250 : (Cond.selects RX6 yX6_keptMarks yX6_keptMarks : Cond) ∈ wsL_law := pr_11 _ (List.mem_of_getElem? (i := 10) rfl)
theorem mw_251 : (Cond.code yX6_keptMarks cX6_keptMarks 1 (some .int) : Cond) ∈ wsL_law := pr_11 _ (List.mem_of_getElem? (i := 11) rfl)
theorem mw_252 : (Cond.fieldLink RX6 31 "ClearingGates$Runner" "markCount" "I" : Cond) ∈ wsL_law := pr_11 _ (List.mem_of_getElem? (i := 12) rfl)
theorem mw_253 : (Cond.methodLink RX6 35 Lib.Math.min.name : Cond) ∈ wsL_law := pr_11 _ (List.mem_of_getElem? (i := 13) rfl)
theorem mw_254 : (Cond.static Lib.Math.min.name : Cond) ∈ wsL_law := pr_11 _ (List.mem_of_getElem? (i := 14) rfl)
theorem mw_255 : (Cond.initialized "java/lang/Math" : Cond) ∈ wsL_law := pr_11 _ (List.mem_of_getElem? (i := 15) rfl)
theorem mw_256 : (Cond.code Lib.Math.min.name Lib.Math.min.code 2 (some .int) : Cond) ∈ wsL_law := pr_11 _ (List.mem_of_getElem? (i := 16) rfl)
theorem mw_257 : (Cond.methodLink RL 41 yX10_count : Cond) ∈ wsL_law := pr_11 _ (List.mem_of_getElem? (i := 17) rfl)
theorem mw_258 : (Cond.instanceMethod yX10_count : Cond) ∈ wsL_law := pr_11 _ (List.mem_of_getElem? (i := 18) rfl)
theorem mw_259 : (Cond.selects RX10 yX10_count yX10_count : Cond) ∈ wsL_law := pr_11 _ (List.mem_of_getElem? (i := 19) rfl)
theorem mw_260 : (Cond.code yX10_count cX10_count 2 (some .int) : Cond) ∈ wsL_law := pr_11 _ (List.mem_of_getElem? (i := 20) rfl)
theorem mw_261 : (Cond.fieldLink RX10 100 "ClearingGatesModel" "programs" "I" : Cond) ∈ wsL_law := pr_11 _ (List.mem_of_getElem? (i := 21) rfl)
theorem mw_262 : (Cond.fieldLink RX10 104 "ClearingGatesModel" "traced" "I" : Cond) ∈ wsL_law := pr_11 _ (List.mem_of_getElem? (i := 22) rfl)
theorem mw_263 : (Cond.fieldLink RX10 107 "ClearingGatesModel" "taped" "I" : Cond) ∈ wsL_law := pr_11 _ (List.mem_of_getElem? (i := 23) rfl)
theorem mw_264 : (Cond.methodLink RL 42 yX9_sum : Cond) ∈ wsL_law := pr_12 _ (List.mem_of_getElem? (i := 0) rfl)
theorem mw_265 : (Cond.instanceMethod yX9_sum : Cond) ∈ wsL_law := pr_12 _ (List.mem_of_getElem? (i := 1) rfl)
theorem mw_266 : (Cond.selects RX9 yX9_sum yX9_sum : Cond) ∈ wsL_law := pr_12 _ (List.mem_of_getElem? (i := 2) rfl)
theorem mw_267 : (Cond.code yX9_sum cX9_sum 2 (some .long) : Cond) ∈ wsL_law := pr_12 _ (List.mem_of_getElem? (i := 3) rfl)
theorem mw_268 : (Cond.fieldLink RX9 163 "ClearingGates$Books" "fees" "J" : Cond) ∈ wsL_law := pr_12 _ (List.mem_of_getElem? (i := 4) rfl)
theorem mw_269 : (Cond.methodLink RX9 167 yX0_allMoney : Cond) ∈ wsL_law := pr_12 _ (List.mem_of_getElem? (i := 5) rfl)
theorem mw_270 : (Cond.instanceMethod yX0_allMoney : Cond) ∈ wsL_law := pr_12 _ (List.mem_of_getElem? (i := 6) rfl)
theorem mw_271 : (Cond.selects RX0 yX0_allMoney yX0_allMoney : Cond) ∈ wsL_law := pr_12 _ (List.mem_of_getElem? (i := 7) rfl)
theorem mw_272 : (Cond.code yX0_allMoney cX0_allMoney 4 (some .long) : Cond) ∈ wsL_law := pr_12 _ (List.mem_of_getElem? (i := 8) rfl)
theorem mw_273 : (Cond.fieldLink RX0 51 "ClearingGates$Books" "fees" "J" : Cond) ∈ wsL_law := pr_12 _ (List.mem_of_getElem? (i := 9) rfl)
theorem mw_274 : (Cond.methodLink RX9 171 yX1_total : Cond) ∈ wsL_law := pr_12 _ (List.mem_of_getElem? (i := 10) rfl)
theorem mw_275 : (Cond.instanceMethod yX1_total : Cond) ∈ wsL_law := pr_12 _ (List.mem_of_getElem? (i := 11) rfl)
theorem mw_276 : (Cond.selects RX1 yX1_total yX1_total : Cond) ∈ wsL_law := pr_12 _ (List.mem_of_getElem? (i := 12) rfl)
theorem mw_277 : (Cond.code yX1_total cX1_total 4 (some .long) : Cond) ∈ wsL_law := pr_12 _ (List.mem_of_getElem? (i := 13) rfl)
theorem mw_278 : (Cond.methodLink RL 46 yX10_sum : Cond) ∈ wsL_law := pr_12 _ (List.mem_of_getElem? (i := 14) rfl)
theorem mw_279 : (Cond.instanceMethod yX10_sum : Cond) ∈ wsL_law := pr_12 _ (List.mem_of_getElem? (i := 15) rfl)
theorem mw_280 : (Cond.selects RX10 yX10_sum yX10_sum : Cond) ∈ wsL_law := pr_12 _ (List.mem_of_getElem? (i := 16) rfl)
theorem mw_281 : (Cond.code yX10_sum cX10_sum 5 (some .long) : Cond) ∈ wsL_law := pr_12 _ (List.mem_of_getElem? (i := 17) rfl)
theorem mw_282 : (Cond.fieldLink RX10 110 "ClearingGatesModel" "fees" "J" : Cond) ∈ wsL_law := pr_12 _ (List.mem_of_getElem? (i := 18) rfl)
theorem mw_283 : (Cond.methodLink RL 47 yX9_taken : Cond) ∈ wsL_law := pr_12 _ (List.mem_of_getElem? (i := 19) rfl)
theorem mw_284 : (Cond.instanceMethod yX9_taken : Cond) ∈ wsL_law := pr_12 _ (List.mem_of_getElem? (i := 20) rfl)
theorem mw_285 : (Cond.selects RX9 yX9_taken yX9_taken : Cond) ∈ wsL_law := pr_12 _ (List.mem_of_getElem? (i := 21) rfl)
theorem mw_286 : (Cond.code yX9_taken cX9_taken 3 (some .int) : Cond) ∈ wsL_law := pr_12 _ (List.mem_of_getElem? (i := 22) rfl)
theorem mw_287 : (Cond.methodLink RX9 174 yX2_isOrIsUnder : Cond) ∈ wsL_law := pr_12 _ (List.mem_of_getElem? (i := 23) rfl)
theorem mw_288 : (Cond.static yX2_isOrIsUnder : Cond) ∈ wsL_law := pr_13 _ (List.mem_of_getElem? (i := 0) rfl)
theorem mw_289 : (Cond.code yX2_isOrIsUnder cX2_isOrIsUnder 2 (some .boolean) : Cond) ∈ wsL_law := pr_13 _ (List.mem_of_getElem? (i := 1) rfl)
theorem mw_290 : (Cond.methodLink RL 50 yX10_taken : Cond) ∈ wsL_law := pr_13 _ (List.mem_of_getElem? (i := 2) rfl)
theorem mw_291 : (Cond.instanceMethod yX10_taken : Cond) ∈ wsL_law := pr_13 _ (List.mem_of_getElem? (i := 3) rfl)
theorem mw_292 : (Cond.selects RX10 yX10_taken yX10_taken : Cond) ∈ wsL_law := pr_13 _ (List.mem_of_getElem? (i := 4) rfl)
theorem mw_293 : (Cond.code yX10_taken cX10_taken 4 (some .int) : Cond) ∈ wsL_law := pr_13 _ (List.mem_of_getElem? (i := 5) rfl)
theorem mw_294 : (Cond.methodLink RX10 114 yX10_above : Cond) ∈ wsL_law := pr_13 _ (List.mem_of_getElem? (i := 6) rfl)
theorem mw_295 : (Cond.static yX10_above : Cond) ∈ wsL_law := pr_13 _ (List.mem_of_getElem? (i := 7) rfl)
theorem mw_296 : (Cond.code yX10_above cX10_above 1 (some .int) : Cond) ∈ wsL_law := pr_13 _ (List.mem_of_getElem? (i := 8) rfl)
theorem mw_297 : (Cond.methodLink RL 51 yX9_feed : Cond) ∈ wsL_law := pr_13 _ (List.mem_of_getElem? (i := 9) rfl)
theorem mw_298 : (Cond.instanceMethod yX9_feed : Cond) ∈ wsL_law := pr_13 _ (List.mem_of_getElem? (i := 10) rfl)
theorem mw_299 : (Cond.selects RX9 yX9_feed yX9_feed : Cond) ∈ wsL_law := pr_13 _ (List.mem_of_getElem? (i := 11) rfl)
theorem mw_300 : (Cond.code yX9_feed cX9_feed 7 (some .int) : Cond) ∈ wsL_law := pr_13 _ (List.mem_of_getElem? (i := 12) rfl)
theorem mw_301 : (Cond.methodLink RX9 177 yX9_isByte : Cond) ∈ wsL_law := pr_13 _ (List.mem_of_getElem? (i := 13) rfl)
theorem mw_302 : (Cond.static yX9_isByte : Cond) ∈ wsL_law := pr_13 _ (List.mem_of_getElem? (i := 14) rfl)
theorem mw_303 : (Cond.code yX9_isByte cX9_isByte 1 (some .boolean) : Cond) ∈ wsL_law := pr_13 _ (List.mem_of_getElem? (i := 15) rfl)
theorem mw_304 : (Cond.methodLink RX9 180 yX8_add : Cond) ∈ wsL_law := pr_13 _ (List.mem_of_getElem? (i := 16) rfl)
theorem mw_305 : (Cond.instanceMethod yX8_add : Cond) ∈ wsL_law := pr_13 _ (List.mem_of_getElem? (i := 17) rfl)
theorem mw_306 : (Cond.selects RX8 yX8_add yX8_add : Cond) ∈ wsL_law := pr_13 _ (List.mem_of_getElem? (i := 18) rfl)
theorem mw_307 : (Cond.code yX8_add cX8_add 2 none : Cond) ∈ wsL_law := pr_13 _ (List.mem_of_getElem? (i := 19) rfl)
theorem mw_308 : (Cond.fieldLink RX8 15 "ClearingGates$Tape" "size" "I" : Cond) ∈ wsL_law := pr_13 _ (List.mem_of_getElem? (i := 20) rfl)
theorem mw_309 : (Cond.methodLink RL 55 yX10_feed : Cond) ∈ wsL_law := pr_13 _ (List.mem_of_getElem? (i := 21) rfl)
theorem mw_310 : (Cond.instanceMethod yX10_feed : Cond) ∈ wsL_law := pr_13 _ (List.mem_of_getElem? (i := 22) rfl)
theorem mw_311 : (Cond.selects RX10 yX10_feed yX10_feed : Cond) ∈ wsL_law := pr_13 _ (List.mem_of_getElem? (i := 23) rfl)
theorem mw_312 : (Cond.code yX10_feed cX10_feed 8 (some .int) : Cond) ∈ wsL_law := pr_14 _ (List.mem_of_getElem? (i := 0) rfl)
theorem mw_313 : (Cond.constantLong RX10 119 (5) : Cond) ∈ wsL_law := pr_14 _ (List.mem_of_getElem? (i := 1) rfl)
theorem mw_314 : (Cond.methodLink RX10 121 yX10_isByte : Cond) ∈ wsL_law := pr_14 _ (List.mem_of_getElem? (i := 2) rfl)
theorem mw_315 : (Cond.static yX10_isByte : Cond) ∈ wsL_law := pr_14 _ (List.mem_of_getElem? (i := 3) rfl)
theorem mw_316 : (Cond.code yX10_isByte cX10_isByte 1 (some .boolean) : Cond) ∈ wsL_law := pr_14 _ (List.mem_of_getElem? (i := 4) rfl)
theorem mw_317 : (Cond.constantLong RX10 117 (255) : Cond) ∈ wsL_law := pr_14 _ (List.mem_of_getElem? (i := 5) rfl)
theorem mw_318 : (Cond.methodLink RL 56 yX9_program : Cond) ∈ wsL_law := pr_14 _ (List.mem_of_getElem? (i := 6) rfl)
theorem mw_319 : (Cond.instanceMethod yX9_program : Cond) ∈ wsL_law := pr_14 _ (List.mem_of_getElem? (i := 7) rfl)
theorem mw_320 : (Cond.selects RX9 yX9_program yX9_program : Cond) ∈ wsL_law := pr_14 _ (List.mem_of_getElem? (i := 8) rfl)
theorem mw_321 : (Cond.code yX9_program cX9_program 3 (some .int) : Cond) ∈ wsL_law := pr_14 _ (List.mem_of_getElem? (i := 9) rfl)
theorem mw_322 : (Cond.methodLink RX9 184 yX3_takeOver : Cond) ∈ wsL_law := pr_14 _ (List.mem_of_getElem? (i := 10) rfl)
theorem mw_323 : (Cond.instanceMethod yX3_takeOver : Cond) ∈ wsL_law := pr_14 _ (List.mem_of_getElem? (i := 11) rfl)
theorem mw_324 : (Cond.selects RX3 yX3_takeOver yX3_takeOver : Cond) ∈ wsL_law := pr_14 _ (List.mem_of_getElem? (i := 12) rfl)
theorem mw_325 : (Cond.code yX3_takeOver cX3_takeOver 2 none : Cond) ∈ wsL_law := pr_14 _ (List.mem_of_getElem? (i := 13) rfl)
theorem mw_326 : (Cond.fieldLink RX3 18 "ClearingGates$Tape" "bytes" "[I" : Cond) ∈ wsL_law := pr_14 _ (List.mem_of_getElem? (i := 14) rfl)
theorem mw_327 : (Cond.methodLink RX3 21 arraycopyName : Cond) ∈ wsL_law := pr_14 _ (List.mem_of_getElem? (i := 15) rfl)
theorem mw_328 : (Cond.native arraycopyName : Cond) ∈ wsL_law := pr_14 _ (List.mem_of_getElem? (i := 16) rfl)
theorem mw_329 : (Cond.static arraycopyName : Cond) ∈ wsL_law := pr_14 _ (List.mem_of_getElem? (i := 17) rfl)
theorem mw_330 : (Cond.initialized "java/lang/System" : Cond) ∈ wsL_law := pr_14 _ (List.mem_of_getElem? (i := 18) rfl)
theorem mw_331 : (Cond.fieldLink RX3 27 "ClearingGates$Tape" "size" "I" : Cond) ∈ wsL_law := pr_14 _ (List.mem_of_getElem? (i := 19) rfl)
theorem mw_332 : (Cond.fieldLink RX3 31 "ClearingGates$Program" "size" "I" : Cond) ∈ wsL_law := pr_14 _ (List.mem_of_getElem? (i := 20) rfl)
theorem mw_333 : (Cond.methodLink RX9 188 yX4_faultOf : Cond) ∈ wsL_law := pr_14 _ (List.mem_of_getElem? (i := 21) rfl)
theorem mw_334 : (Cond.instanceMethod yX4_faultOf : Cond) ∈ wsL_law := pr_14 _ (List.mem_of_getElem? (i := 22) rfl)
theorem mw_335 : (Cond.selects RX4 yX4_faultOf yX4_faultOf : Cond) ∈ wsL_law := pr_14 _ (List.mem_of_getElem? (i := 23) rfl)
theorem mw_336 : (Cond.code yX4_faultOf cX4_faultOf 4 (some .int) : Cond) ∈ wsL_law := pr_15 _ (List.mem_of_getElem? (i := 0) rfl)
theorem mw_337 : (Cond.fieldLink RX4 15 "ClearingGates$Reader" "program" "LClearingGates$Program;" : Cond) ∈ wsL_law := pr_15 _ (List.mem_of_getElem? (i := 1) rfl)
theorem mw_338 : (Cond.fieldLink RX4 19 "ClearingGates$Reader" "open" "I" : Cond) ∈ wsL_law := pr_15 _ (List.mem_of_getElem? (i := 2) rfl)
theorem mw_339 : (Cond.fieldLink RX4 23 "ClearingGates$Reader" "loops" "I" : Cond) ∈ wsL_law := pr_15 _ (List.mem_of_getElem? (i := 3) rfl)
theorem mw_340 : (Cond.fieldLink RX4 26 "ClearingGates$Reader" "fault" "I" : Cond) ∈ wsL_law := pr_15 _ (List.mem_of_getElem? (i := 4) rfl)
theorem mw_341 : (Cond.fieldLink RX4 29 "ClearingGates$Program" "size" "I" : Cond) ∈ wsL_law := pr_15 _ (List.mem_of_getElem? (i := 5) rfl)
theorem mw_342 : (Cond.methodLink RX4 34 yX4_step : Cond) ∈ wsL_law := pr_15 _ (List.mem_of_getElem? (i := 6) rfl)
theorem mw_343 : (Cond.instanceMethod yX4_step : Cond) ∈ wsL_law := pr_15 _ (List.mem_of_getElem? (i := 7) rfl)
theorem mw_344 : (Cond.selects RX4 yX4_step yX4_step : Cond) ∈ wsL_law := pr_15 _ (List.mem_of_getElem? (i := 8) rfl)
theorem mw_345 : (Cond.code yX4_step cX4_step 2 (some .int) : Cond) ∈ wsL_law := pr_15 _ (List.mem_of_getElem? (i := 9) rfl)
theorem mw_346 : (Cond.methodLink RX4 38 yX3_byteAt : Cond) ∈ wsL_law := pr_15 _ (List.mem_of_getElem? (i := 10) rfl)
theorem mw_347 : (Cond.instanceMethod yX3_byteAt : Cond) ∈ wsL_law := pr_15 _ (List.mem_of_getElem? (i := 11) rfl)
theorem mw_348 : (Cond.selects RX3 yX3_byteAt yX3_byteAt : Cond) ∈ wsL_law := pr_15 _ (List.mem_of_getElem? (i := 12) rfl)
theorem mw_349 : (Cond.code yX3_byteAt cX3_byteAt 2 (some .int) : Cond) ∈ wsL_law := pr_15 _ (List.mem_of_getElem? (i := 13) rfl)
theorem mw_350 : (Cond.methodLink RX4 41 yX4_openingWithFigure : Cond) ∈ wsL_law := pr_15 _ (List.mem_of_getElem? (i := 14) rfl)
theorem mw_351 : (Cond.instanceMethod yX4_openingWithFigure : Cond) ∈ wsL_law := pr_15 _ (List.mem_of_getElem? (i := 15) rfl)
theorem mw_352 : (Cond.selects RX4 yX4_openingWithFigure yX4_openingWithFigure : Cond) ∈ wsL_law := pr_15 _ (List.mem_of_getElem? (i := 16) rfl)
theorem mw_353 : (Cond.code yX4_openingWithFigure cX4_openingWithFigure 5 (some .int) : Cond) ∈ wsL_law := pr_15 _ (List.mem_of_getElem? (i := 17) rfl)
theorem mw_354 : (Cond.methodLink RX4 45 yX4_opening : Cond) ∈ wsL_law := pr_15 _ (List.mem_of_getElem? (i := 18) rfl)
theorem mw_355 : (Cond.instanceMethod yX4_opening : Cond) ∈ wsL_law := pr_15 _ (List.mem_of_getElem? (i := 19) rfl)
theorem mw_356 : (Cond.selects RX4 yX4_opening yX4_opening : Cond) ∈ wsL_law := pr_15 _ (List.mem_of_getElem? (i := 20) rfl)
theorem mw_357 : (Cond.code yX4_opening cX4_opening 2 (some .int) : Cond) ∈ wsL_law := pr_15 _ (List.mem_of_getElem? (i := 21) rfl)
theorem mw_358 : (Cond.methodLink RX4 61 yX4_faultAt : Cond) ∈ wsL_law := pr_15 _ (List.mem_of_getElem? (i := 22) rfl)
theorem mw_359 : (Cond.instanceMethod yX4_faultAt : Cond) ∈ wsL_law := pr_15 _ (List.mem_of_getElem? (i := 23) rfl)
theorem mw_360 : (Cond.selects RX4 yX4_faultAt yX4_faultAt : Cond) ∈ wsL_law := pr_16 _ (List.mem_of_getElem? (i := 0) rfl)
theorem mw_361 : (Cond.code yX4_faultAt cX4_faultAt 2 (some .int) : Cond) ∈ wsL_law := pr_16 _ (List.mem_of_getElem? (i := 1) rfl)
theorem mw_362 : (Cond.methodLink RX4 64 yX4_isFigure : Cond) ∈ wsL_law := pr_16 _ (List.mem_of_getElem? (i := 2) rfl)
theorem mw_363 : (Cond.instanceMethod yX4_isFigure : Cond) ∈ wsL_law := pr_16 _ (List.mem_of_getElem? (i := 3) rfl)
theorem mw_364 : (Cond.selects RX4 yX4_isFigure yX4_isFigure : Cond) ∈ wsL_law := pr_16 _ (List.mem_of_getElem? (i := 4) rfl)
theorem mw_365 : (Cond.code yX4_isFigure cX4_isFigure 4 (some .boolean) : Cond) ∈ wsL_law := pr_16 _ (List.mem_of_getElem? (i := 5) rfl)
theorem mw_366 : (Cond.methodLink RX4 48 yX4_closing : Cond) ∈ wsL_law := pr_16 _ (List.mem_of_getElem? (i := 6) rfl)
theorem mw_367 : (Cond.instanceMethod yX4_closing : Cond) ∈ wsL_law := pr_16 _ (List.mem_of_getElem? (i := 7) rfl)
theorem mw_368 : (Cond.selects RX4 yX4_closing yX4_closing : Cond) ∈ wsL_law := pr_16 _ (List.mem_of_getElem? (i := 8) rfl)
theorem mw_369 : (Cond.code yX4_closing cX4_closing 3 (some .int) : Cond) ∈ wsL_law := pr_16 _ (List.mem_of_getElem? (i := 9) rfl)
theorem mw_370 : (Cond.methodLink RX4 58 yX4_ends : Cond) ∈ wsL_law := pr_16 _ (List.mem_of_getElem? (i := 10) rfl)
theorem mw_371 : (Cond.instanceMethod yX4_ends : Cond) ∈ wsL_law := pr_16 _ (List.mem_of_getElem? (i := 11) rfl)
theorem mw_372 : (Cond.selects RX4 yX4_ends yX4_ends : Cond) ∈ wsL_law := pr_16 _ (List.mem_of_getElem? (i := 12) rfl)
theorem mw_373 : (Cond.code yX4_ends cX4_ends 3 (some .int) : Cond) ∈ wsL_law := pr_16 _ (List.mem_of_getElem? (i := 13) rfl)
theorem mw_374 : (Cond.fieldLink RX4 68 "ClearingGates$Program" "behind" "[I" : Cond) ∈ wsL_law := pr_16 _ (List.mem_of_getElem? (i := 14) rfl)
theorem mw_375 : (Cond.methodLink RX4 52 yX4_payment : Cond) ∈ wsL_law := pr_16 _ (List.mem_of_getElem? (i := 15) rfl)
theorem mw_376 : (Cond.instanceMethod yX4_payment : Cond) ∈ wsL_law := pr_16 _ (List.mem_of_getElem? (i := 16) rfl)
theorem mw_377 : (Cond.selects RX4 yX4_payment yX4_payment : Cond) ∈ wsL_law := pr_16 _ (List.mem_of_getElem? (i := 17) rfl)
theorem mw_378 : (Cond.code yX4_payment cX4_payment 4 (some .int) : Cond) ∈ wsL_law := pr_16 _ (List.mem_of_getElem? (i := 18) rfl)
theorem mw_379 : (Cond.methodLink RX4 55 yX4_bell : Cond) ∈ wsL_law := pr_16 _ (List.mem_of_getElem? (i := 19) rfl)
theorem mw_380 : (Cond.instanceMethod yX4_bell : Cond) ∈ wsL_law := pr_16 _ (List.mem_of_getElem? (i := 20) rfl)
theorem mw_381 : (Cond.selects RX4 yX4_bell yX4_bell : Cond) ∈ wsL_law := pr_16 _ (List.mem_of_getElem? (i := 21) rfl)
theorem mw_382 : (Cond.code yX4_bell cX4_bell 2 (some .int) : Cond) ∈ wsL_law := pr_16 _ (List.mem_of_getElem? (i := 22) rfl)
theorem mw_383 : (Cond.methodLink RL 60 yX10_program : Cond) ∈ wsL_law := pr_16 _ (List.mem_of_getElem? (i := 23) rfl)
theorem mw_384 : (Cond.instanceMethod yX10_program : Cond) ∈ wsL_law := pr_17 _ (List.mem_of_getElem? (i := 0) rfl)
theorem mw_385 : (Cond.selects RX10 yX10_program yX10_program : Cond) ∈ wsL_law := pr_17 _ (List.mem_of_getElem? (i := 1) rfl)
theorem mw_386 : (Cond.code yX10_program cX10_program 4 (some .int) : Cond) ∈ wsL_law := pr_17 _ (List.mem_of_getElem? (i := 2) rfl)
theorem mw_387 : (Cond.fieldLink RX10 124 "ClearingGatesModel" "here" "I" : Cond) ∈ wsL_law := pr_17 _ (List.mem_of_getElem? (i := 3) rfl)
theorem mw_388 : (Cond.fieldLink RX10 131 "ClearingGatesModel" "open" "I" : Cond) ∈ wsL_law := pr_17 _ (List.mem_of_getElem? (i := 4) rfl)
theorem mw_389 : (Cond.methodLink RX10 138 yX10_takesItem : Cond) ∈ wsL_law := pr_17 _ (List.mem_of_getElem? (i := 5) rfl)
theorem mw_390 : (Cond.instanceMethod yX10_takesItem : Cond) ∈ wsL_law := pr_17 _ (List.mem_of_getElem? (i := 6) rfl)
theorem mw_391 : (Cond.selects RX10 yX10_takesItem yX10_takesItem : Cond) ∈ wsL_law := pr_17 _ (List.mem_of_getElem? (i := 7) rfl)
theorem mw_392 : (Cond.code yX10_takesItem cX10_takesItem 3 (some .boolean) : Cond) ∈ wsL_law := pr_17 _ (List.mem_of_getElem? (i := 8) rfl)
theorem mw_393 : (Cond.methodLink RX10 127 yX10_byteAt : Cond) ∈ wsL_law := pr_17 _ (List.mem_of_getElem? (i := 9) rfl)
theorem mw_394 : (Cond.instanceMethod yX10_byteAt : Cond) ∈ wsL_law := pr_17 _ (List.mem_of_getElem? (i := 10) rfl)
theorem mw_395 : (Cond.selects RX10 yX10_byteAt yX10_byteAt : Cond) ∈ wsL_law := pr_17 _ (List.mem_of_getElem? (i := 11) rfl)
theorem mw_396 : (Cond.code yX10_byteAt cX10_byteAt 1 (some .int) : Cond) ∈ wsL_law := pr_17 _ (List.mem_of_getElem? (i := 12) rfl)
theorem mw_397 : (Cond.methodLink RX10 146 yX10_takesBracket : Cond) ∈ wsL_law := pr_17 _ (List.mem_of_getElem? (i := 13) rfl)
theorem mw_398 : (Cond.instanceMethod yX10_takesBracket : Cond) ∈ wsL_law := pr_17 _ (List.mem_of_getElem? (i := 14) rfl)
theorem mw_399 : (Cond.selects RX10 yX10_takesBracket yX10_takesBracket : Cond) ∈ wsL_law := pr_17 _ (List.mem_of_getElem? (i := 15) rfl)
theorem mw_400 : (Cond.methodLink RX10 150 yX10_takesPayment : Cond) ∈ wsL_law := pr_17 _ (List.mem_of_getElem? (i := 16) rfl)
theorem mw_401 : (Cond.instanceMethod yX10_takesPayment : Cond) ∈ wsL_law := pr_17 _ (List.mem_of_getElem? (i := 17) rfl)
theorem mw_402 : (Cond.selects RX10 yX10_takesPayment yX10_takesPayment : Cond) ∈ wsL_law := pr_17 _ (List.mem_of_getElem? (i := 18) rfl)
theorem mw_403 : (Cond.code yX10_takesPayment cX10_takesPayment 2 (some .boolean) : Cond) ∈ wsL_law := pr_17 _ (List.mem_of_getElem? (i := 19) rfl)
theorem mw_404 : (Cond.constantLong RX10 142 (48) : Cond) ∈ wsL_law := pr_17 _ (List.mem_of_getElem? (i := 20) rfl)
theorem mw_405 : (Cond.constantLong RX10 144 (57) : Cond) ∈ wsL_law := pr_17 _ (List.mem_of_getElem? (i := 21) rfl)
theorem mw_406 : (Cond.methodLink RX10 134 yX10_takesFigure : Cond) ∈ wsL_law := pr_17 _ (List.mem_of_getElem? (i := 22) rfl)
theorem mw_407 : (Cond.instanceMethod yX10_takesFigure : Cond) ∈ wsL_law := pr_17 _ (List.mem_of_getElem? (i := 23) rfl)
theorem mw_408 : (Cond.selects RX10 yX10_takesFigure yX10_takesFigure : Cond) ∈ wsL_law := pr_18 _ (List.mem_of_getElem? (i := 0) rfl)
theorem mw_409 : (Cond.code yX10_takesFigure cX10_takesFigure 3 (some .boolean) : Cond) ∈ wsL_law := pr_18 _ (List.mem_of_getElem? (i := 1) rfl)
theorem mw_410 : (Cond.code yX10_takesBracket cX10_takesBracket 5 (some .boolean) : Cond) ∈ wsL_law := pr_18 _ (List.mem_of_getElem? (i := 2) rfl)
theorem mw_411 : (Cond.methodLink RL 61 yX9_run : Cond) ∈ wsL_law := pr_18 _ (List.mem_of_getElem? (i := 3) rfl)
theorem mw_412 : (Cond.instanceMethod yX9_run : Cond) ∈ wsL_law := pr_18 _ (List.mem_of_getElem? (i := 4) rfl)
theorem mw_413 : (Cond.selects RX9 yX9_run yX9_run : Cond) ∈ wsL_law := pr_18 _ (List.mem_of_getElem? (i := 5) rfl)
theorem mw_414 : (Cond.code yX9_run cX9_run 2 (some .int) : Cond) ∈ wsL_law := pr_18 _ (List.mem_of_getElem? (i := 6) rfl)
theorem mw_415 : (Cond.methodLink RX9 192 yX9_isProgram : Cond) ∈ wsL_law := pr_18 _ (List.mem_of_getElem? (i := 7) rfl)
theorem mw_416 : (Cond.instanceMethod yX9_isProgram : Cond) ∈ wsL_law := pr_18 _ (List.mem_of_getElem? (i := 8) rfl)
theorem mw_417 : (Cond.selects RX9 yX9_isProgram yX9_isProgram : Cond) ∈ wsL_law := pr_18 _ (List.mem_of_getElem? (i := 9) rfl)
theorem mw_418 : (Cond.code yX9_isProgram cX9_isProgram 2 (some .boolean) : Cond) ∈ wsL_law := pr_18 _ (List.mem_of_getElem? (i := 10) rfl)
theorem mw_419 : (Cond.methodLink RX9 195 yX6_outcomeOf : Cond) ∈ wsL_law := pr_18 _ (List.mem_of_getElem? (i := 11) rfl)
theorem mw_420 : (Cond.instanceMethod yX6_outcomeOf : Cond) ∈ wsL_law := pr_18 _ (List.mem_of_getElem? (i := 12) rfl)
theorem mw_421 : (Cond.selects RX6 yX6_outcomeOf yX6_outcomeOf : Cond) ∈ wsL_law := pr_18 _ (List.mem_of_getElem? (i := 13) rfl)
theorem mw_422 : (Cond.code yX6_outcomeOf cX6_outcomeOf 3 (some .int) : Cond) ∈ wsL_law := pr_18 _ (List.mem_of_getElem? (i := 14) rfl)
theorem mw_423 : (Cond.fieldLink RX6 41 "ClearingGates$Runner" "program" "LClearingGates$Program;" : Cond) ∈ wsL_law := pr_18 _ (List.mem_of_getElem? (i := 15) rfl)
theorem mw_424 : (Cond.fieldLink RX6 45 "ClearingGates$Runner" "begun" "I" : Cond) ∈ wsL_law := pr_18 _ (List.mem_of_getElem? (i := 16) rfl)
theorem mw_425 : (Cond.fieldLink RX6 52 "ClearingGates$Program" "size" "I" : Cond) ∈ wsL_law := pr_18 _ (List.mem_of_getElem? (i := 17) rfl)
theorem mw_426 : (Cond.methodLink RX6 48 yX6_keep : Cond) ∈ wsL_law := pr_18 _ (List.mem_of_getElem? (i := 18) rfl)
theorem mw_427 : (Cond.instanceMethod yX6_keep : Cond) ∈ wsL_law := pr_18 _ (List.mem_of_getElem? (i := 19) rfl)
theorem mw_428 : (Cond.selects RX6 yX6_keep yX6_keep : Cond) ∈ wsL_law := pr_18 _ (List.mem_of_getElem? (i := 20) rfl)
theorem mw_429 : (Cond.code yX6_keep cX6_keep 2 none : Cond) ∈ wsL_law := pr_18 _ (List.mem_of_getElem? (i := 21) rfl)
theorem mw_430 : (Cond.fieldLink RX6 134 "ClearingGates$Books" "balances" "[I" : Cond) ∈ wsL_law := pr_18 _ (List.mem_of_getElem? (i := 22) rfl)
theorem mw_431 : (Cond.methodLink RX6 154 arraycopyName : Cond) ∈ wsL_law := pr_18 _ (List.mem_of_getElem? (i := 23) rfl)
theorem mw_432 : (Cond.fieldLink RX6 141 "ClearingGates$Books" "fees" "J" : Cond) ∈ wsL_law := pr_19 _ (List.mem_of_getElem? (i := 0) rfl)
theorem mw_433 : (Cond.methodLink RX6 57 yX6_items : Cond) ∈ wsL_law := pr_19 _ (List.mem_of_getElem? (i := 1) rfl)
theorem mw_434 : (Cond.instanceMethod yX6_items : Cond) ∈ wsL_law := pr_19 _ (List.mem_of_getElem? (i := 2) rfl)
theorem mw_435 : (Cond.selects RX6 yX6_items yX6_items : Cond) ∈ wsL_law := pr_19 _ (List.mem_of_getElem? (i := 3) rfl)
theorem mw_436 : (Cond.code yX6_items cX6_items 6 (some .int) : Cond) ∈ wsL_law := pr_19 _ (List.mem_of_getElem? (i := 4) rfl)
theorem mw_437 : (Cond.methodLink RX6 71 Lib.Math.max.name : Cond) ∈ wsL_law := pr_19 _ (List.mem_of_getElem? (i := 5) rfl)
theorem mw_438 : (Cond.static Lib.Math.max.name : Cond) ∈ wsL_law := pr_19 _ (List.mem_of_getElem? (i := 6) rfl)
theorem mw_439 : (Cond.code Lib.Math.max.name Lib.Math.max.code 2 (some .int) : Cond) ∈ wsL_law := pr_19 _ (List.mem_of_getElem? (i := 7) rfl)
theorem mw_440 : (Cond.methodLink RX6 64 yX6_item : Cond) ∈ wsL_law := pr_19 _ (List.mem_of_getElem? (i := 8) rfl)
theorem mw_441 : (Cond.instanceMethod yX6_item : Cond) ∈ wsL_law := pr_19 _ (List.mem_of_getElem? (i := 9) rfl)
theorem mw_442 : (Cond.selects RX6 yX6_item yX6_item : Cond) ∈ wsL_law := pr_19 _ (List.mem_of_getElem? (i := 10) rfl)
theorem mw_443 : (Cond.methodLink RX6 67 yX3_behindItem : Cond) ∈ wsL_law := pr_19 _ (List.mem_of_getElem? (i := 11) rfl)
theorem mw_444 : (Cond.instanceMethod yX3_behindItem : Cond) ∈ wsL_law := pr_19 _ (List.mem_of_getElem? (i := 12) rfl)
theorem mw_445 : (Cond.selects RX3 yX3_behindItem yX3_behindItem : Cond) ∈ wsL_law := pr_19 _ (List.mem_of_getElem? (i := 13) rfl)
theorem mw_446 : (Cond.code yX3_behindItem cX3_behindItem 2 (some .int) : Cond) ∈ wsL_law := pr_19 _ (List.mem_of_getElem? (i := 14) rfl)
theorem mw_447 : (Cond.code yX6_attempt cX6_attempt 5 (some .int) : Cond) ∈ wsL_law := pr_19 _ (List.mem_of_getElem? (i := 15) rfl)
theorem mw_448 : (Cond.fieldLink RX6 122 "ClearingGates$Books" "caught" "I" : Cond) ∈ wsL_law := pr_19 _ (List.mem_of_getElem? (i := 16) rfl)
theorem mw_449 : (Cond.methodLink RX6 116 yX6_inside : Cond) ∈ wsL_law := pr_19 _ (List.mem_of_getElem? (i := 17) rfl)
theorem mw_450 : (Cond.instanceMethod yX6_inside : Cond) ∈ wsL_law := pr_19 _ (List.mem_of_getElem? (i := 18) rfl)
theorem mw_451 : (Cond.selects RX6 yX6_inside yX6_inside : Cond) ∈ wsL_law := pr_19 _ (List.mem_of_getElem? (i := 19) rfl)
theorem mw_452 : (Cond.methodLink RX6 61 yX6_undo : Cond) ∈ wsL_law := pr_19 _ (List.mem_of_getElem? (i := 20) rfl)
theorem mw_453 : (Cond.instanceMethod yX6_undo : Cond) ∈ wsL_law := pr_19 _ (List.mem_of_getElem? (i := 21) rfl)
theorem mw_454 : (Cond.selects RX6 yX6_undo yX6_undo : Cond) ∈ wsL_law := pr_19 _ (List.mem_of_getElem? (i := 22) rfl)
theorem mw_455 : (Cond.code yX6_undo cX6_undo 2 none : Cond) ∈ wsL_law := pr_19 _ (List.mem_of_getElem? (i := 23) rfl)
theorem mw_456 : (Cond.methodLink RX6 113 yX6_mark : Cond) ∈ wsL_law := pr_20 _ (List.mem_of_getElem? (i := 0) rfl)
theorem mw_457 : (Cond.instanceMethod yX6_mark : Cond) ∈ wsL_law := pr_20 _ (List.mem_of_getElem? (i := 1) rfl)
theorem mw_458 : (Cond.selects RX6 yX6_mark yX6_mark : Cond) ∈ wsL_law := pr_20 _ (List.mem_of_getElem? (i := 2) rfl)
theorem mw_459 : (Cond.code yX6_mark cX6_mark 2 none : Cond) ∈ wsL_law := pr_20 _ (List.mem_of_getElem? (i := 3) rfl)
theorem mw_460 : (Cond.code yX6_block cX6_block 5 (some .int) : Cond) ∈ wsL_law := pr_20 _ (List.mem_of_getElem? (i := 4) rfl)
theorem mw_461 : (Cond.fieldLink RX6 101 "ClearingGates$Books" "missed" "I" : Cond) ∈ wsL_law := pr_20 _ (List.mem_of_getElem? (i := 5) rfl)
theorem mw_462 : (Cond.fieldLink RX6 107 "ClearingGates$Books" "entries" "[I" : Cond) ∈ wsL_law := pr_20 _ (List.mem_of_getElem? (i := 6) rfl)
theorem mw_463 : (Cond.fieldLink RX6 110 "ClearingGates$Books" "agains" "[I" : Cond) ∈ wsL_law := pr_20 _ (List.mem_of_getElem? (i := 7) rfl)
theorem mw_464 : (Cond.fieldLink RX6 119 "ClearingGates$Books" "leavings" "[I" : Cond) ∈ wsL_law := pr_20 _ (List.mem_of_getElem? (i := 8) rfl)
theorem mw_465 : (Cond.methodLink RX6 89 yX3_figureAt : Cond) ∈ wsL_law := pr_20 _ (List.mem_of_getElem? (i := 9) rfl)
theorem mw_466 : (Cond.instanceMethod yX3_figureAt : Cond) ∈ wsL_law := pr_20 _ (List.mem_of_getElem? (i := 10) rfl)
theorem mw_467 : (Cond.selects RX3 yX3_figureAt yX3_figureAt : Cond) ∈ wsL_law := pr_20 _ (List.mem_of_getElem? (i := 11) rfl)
theorem mw_468 : (Cond.code yX3_figureAt cX3_figureAt 2 (some .int) : Cond) ∈ wsL_law := pr_20 _ (List.mem_of_getElem? (i := 12) rfl)
theorem mw_469 : (Cond.methodLink RX3 32 yX3_byteAt : Cond) ∈ wsL_law := pr_20 _ (List.mem_of_getElem? (i := 13) rfl)
theorem mw_470 : (Cond.methodLink RX6 95 yX0_hasGate : Cond) ∈ wsL_law := pr_20 _ (List.mem_of_getElem? (i := 14) rfl)
theorem mw_471 : (Cond.instanceMethod yX0_hasGate : Cond) ∈ wsL_law := pr_20 _ (List.mem_of_getElem? (i := 15) rfl)
theorem mw_472 : (Cond.selects RX0 yX0_hasGate yX0_hasGate : Cond) ∈ wsL_law := pr_20 _ (List.mem_of_getElem? (i := 16) rfl)
theorem mw_473 : (Cond.code yX0_hasGate cX0_hasGate 2 (some .boolean) : Cond) ∈ wsL_law := pr_20 _ (List.mem_of_getElem? (i := 17) rfl)
theorem mw_474 : (Cond.methodLink RX0 38 yX0_has : Cond) ∈ wsL_law := pr_20 _ (List.mem_of_getElem? (i := 18) rfl)
theorem mw_475 : (Cond.methodLink RX6 104 yX6_isGreaterHeld : Cond) ∈ wsL_law := pr_20 _ (List.mem_of_getElem? (i := 19) rfl)
theorem mw_476 : (Cond.instanceMethod yX6_isGreaterHeld : Cond) ∈ wsL_law := pr_20 _ (List.mem_of_getElem? (i := 20) rfl)
theorem mw_477 : (Cond.selects RX6 yX6_isGreaterHeld yX6_isGreaterHeld : Cond) ∈ wsL_law := pr_20 _ (List.mem_of_getElem? (i := 21) rfl)
theorem mw_478 : (Cond.code yX6_isGreaterHeld cX6_isGreaterHeld 3 (some .boolean) : Cond) ∈ wsL_law := pr_20 _ (List.mem_of_getElem? (i := 22) rfl)
theorem mw_479 : (Cond.code yX6_inside cX6_inside 4 (some .int) : Cond) ∈ wsL_law := pr_20 _ (List.mem_of_getElem? (i := 23) rfl)
theorem mw_480 : (Cond.code yX6_item cX6_item 3 (some .int) : Cond) ∈ wsL_law := pr_21 _ (List.mem_of_getElem? (i := 0) rfl)
theorem mw_481 : (Cond.methodLink RX6 74 yX3_byteAt : Cond) ∈ wsL_law := pr_21 _ (List.mem_of_getElem? (i := 1) rfl)
theorem mw_482 : (Cond.methodLink RX6 77 yX6_block : Cond) ∈ wsL_law := pr_21 _ (List.mem_of_getElem? (i := 2) rfl)
theorem mw_483 : (Cond.instanceMethod yX6_block : Cond) ∈ wsL_law := pr_21 _ (List.mem_of_getElem? (i := 3) rfl)
theorem mw_484 : (Cond.selects RX6 yX6_block yX6_block : Cond) ∈ wsL_law := pr_21 _ (List.mem_of_getElem? (i := 4) rfl)
theorem mw_485 : (Cond.methodLink RX6 80 yX6_attempt : Cond) ∈ wsL_law := pr_21 _ (List.mem_of_getElem? (i := 5) rfl)
theorem mw_486 : (Cond.instanceMethod yX6_attempt : Cond) ∈ wsL_law := pr_21 _ (List.mem_of_getElem? (i := 6) rfl)
theorem mw_487 : (Cond.selects RX6 yX6_attempt yX6_attempt : Cond) ∈ wsL_law := pr_21 _ (List.mem_of_getElem? (i := 7) rfl)
theorem mw_488 : (Cond.methodLink RX6 83 yX6_loop : Cond) ∈ wsL_law := pr_21 _ (List.mem_of_getElem? (i := 8) rfl)
theorem mw_489 : (Cond.instanceMethod yX6_loop : Cond) ∈ wsL_law := pr_21 _ (List.mem_of_getElem? (i := 9) rfl)
theorem mw_490 : (Cond.selects RX6 yX6_loop yX6_loop : Cond) ∈ wsL_law := pr_21 _ (List.mem_of_getElem? (i := 10) rfl)
theorem mw_491 : (Cond.methodLink RX6 86 yX6_payment : Cond) ∈ wsL_law := pr_21 _ (List.mem_of_getElem? (i := 11) rfl)
theorem mw_492 : (Cond.instanceMethod yX6_payment : Cond) ∈ wsL_law := pr_21 _ (List.mem_of_getElem? (i := 12) rfl)
theorem mw_493 : (Cond.selects RX6 yX6_payment yX6_payment : Cond) ∈ wsL_law := pr_21 _ (List.mem_of_getElem? (i := 13) rfl)
theorem mw_494 : (Cond.code yX6_payment cX6_payment 7 (some .int) : Cond) ∈ wsL_law := pr_21 _ (List.mem_of_getElem? (i := 14) rfl)
theorem mw_495 : (Cond.constant RX6 140 (1000000000) : Cond) ∈ wsL_law := pr_21 _ (List.mem_of_getElem? (i := 15) rfl)
theorem mw_496 : (Cond.methodLink RX6 125 yX6_isHeld : Cond) ∈ wsL_law := pr_21 _ (List.mem_of_getElem? (i := 16) rfl)
theorem mw_497 : (Cond.instanceMethod yX6_isHeld : Cond) ∈ wsL_law := pr_21 _ (List.mem_of_getElem? (i := 17) rfl)
theorem mw_498 : (Cond.selects RX6 yX6_isHeld yX6_isHeld : Cond) ∈ wsL_law := pr_21 _ (List.mem_of_getElem? (i := 18) rfl)
theorem mw_499 : (Cond.code yX6_isHeld cX6_isHeld 2 (some .boolean) : Cond) ∈ wsL_law := pr_21 _ (List.mem_of_getElem? (i := 19) rfl)
theorem mw_500 : (Cond.methodLink RX6 151 yX0_has : Cond) ∈ wsL_law := pr_21 _ (List.mem_of_getElem? (i := 20) rfl)
theorem mw_501 : (Cond.methodLink RX6 128 yX3_numberBetween : Cond) ∈ wsL_law := pr_21 _ (List.mem_of_getElem? (i := 21) rfl)
theorem mw_502 : (Cond.instanceMethod yX3_numberBetween : Cond) ∈ wsL_law := pr_21 _ (List.mem_of_getElem? (i := 22) rfl)
theorem mw_503 : (Cond.selects RX3 yX3_numberBetween yX3_numberBetween : Cond) ∈ wsL_law := pr_21 _ (List.mem_of_getElem? (i := 23) rfl)
theorem mw_504 : (Cond.code yX3_numberBetween cX3_numberBetween 5 (some .int) : Cond) ∈ wsL_law := pr_22 _ (List.mem_of_getElem? (i := 0) rfl)
theorem mw_505 : (Cond.methodLink RX6 131 yX0_feeOf : Cond) ∈ wsL_law := pr_22 _ (List.mem_of_getElem? (i := 1) rfl)
theorem mw_506 : (Cond.methodLink RX6 137 yX0_floorOf : Cond) ∈ wsL_law := pr_22 _ (List.mem_of_getElem? (i := 2) rfl)
theorem mw_507 : (Cond.methodLink RX6 92 yX6_bell : Cond) ∈ wsL_law := pr_22 _ (List.mem_of_getElem? (i := 3) rfl)
theorem mw_508 : (Cond.instanceMethod yX6_bell : Cond) ∈ wsL_law := pr_22 _ (List.mem_of_getElem? (i := 4) rfl)
theorem mw_509 : (Cond.selects RX6 yX6_bell yX6_bell : Cond) ∈ wsL_law := pr_22 _ (List.mem_of_getElem? (i := 5) rfl)
theorem mw_510 : (Cond.code yX6_bell cX6_bell 3 (some .int) : Cond) ∈ wsL_law := pr_22 _ (List.mem_of_getElem? (i := 6) rfl)
theorem mw_511 : (Cond.fieldLink RX6 145 "ClearingGates$Books" "bells" "I" : Cond) ∈ wsL_law := pr_22 _ (List.mem_of_getElem? (i := 7) rfl)
theorem mw_512 : (Cond.fieldLink RX6 148 "ClearingGates$Books" "refused" "I" : Cond) ∈ wsL_law := pr_22 _ (List.mem_of_getElem? (i := 8) rfl)
theorem mw_513 : (Cond.code yX6_loop cX6_loop 6 (some .int) : Cond) ∈ wsL_law := pr_22 _ (List.mem_of_getElem? (i := 9) rfl)
theorem mw_514 : (Cond.methodLink RL 64 yX10_run : Cond) ∈ wsL_law := pr_22 _ (List.mem_of_getElem? (i := 10) rfl)
theorem mw_515 : (Cond.instanceMethod yX10_run : Cond) ∈ wsL_law := pr_22 _ (List.mem_of_getElem? (i := 11) rfl)
theorem mw_516 : (Cond.selects RX10 yX10_run yX10_run : Cond) ∈ wsL_law := pr_22 _ (List.mem_of_getElem? (i := 12) rfl)
theorem mw_517 : (Cond.code yX10_run cX10_run 4 (some .int) : Cond) ∈ wsL_law := pr_22 _ (List.mem_of_getElem? (i := 13) rfl)
theorem mw_518 : (Cond.fieldLink RX10 154 "ClearingGatesModel" "markMany" "I" : Cond) ∈ wsL_law := pr_22 _ (List.mem_of_getElem? (i := 14) rfl)
theorem mw_519 : (Cond.methodLink RX10 222 Lib.Math.min.name : Cond) ∈ wsL_law := pr_22 _ (List.mem_of_getElem? (i := 15) rfl)
theorem mw_520 : (Cond.methodLink RX10 216 yX10_isProgram : Cond) ∈ wsL_law := pr_22 _ (List.mem_of_getElem? (i := 16) rfl)
theorem mw_521 : (Cond.instanceMethod yX10_isProgram : Cond) ∈ wsL_law := pr_22 _ (List.mem_of_getElem? (i := 17) rfl)
theorem mw_522 : (Cond.selects RX10 yX10_isProgram yX10_isProgram : Cond) ∈ wsL_law := pr_22 _ (List.mem_of_getElem? (i := 18) rfl)
theorem mw_523 : (Cond.code yX10_isProgram cX10_isProgram 2 (some .boolean) : Cond) ∈ wsL_law := pr_22 _ (List.mem_of_getElem? (i := 19) rfl)
theorem mw_524 : (Cond.methodLink RX10 219 yX10_runs : Cond) ∈ wsL_law := pr_22 _ (List.mem_of_getElem? (i := 20) rfl)
theorem mw_525 : (Cond.instanceMethod yX10_runs : Cond) ∈ wsL_law := pr_22 _ (List.mem_of_getElem? (i := 21) rfl)
theorem mw_526 : (Cond.selects RX10 yX10_runs yX10_runs : Cond) ∈ wsL_law := pr_22 _ (List.mem_of_getElem? (i := 22) rfl)
theorem mw_527 : (Cond.code yX10_runs cX10_runs 3 (some .int) : Cond) ∈ wsL_law := pr_22 _ (List.mem_of_getElem? (i := 23) rfl)
theorem mw_528 : (Cond.fieldLink RX10 157 "ClearingGatesModel" "running" "I" : Cond) ∈ wsL_law := pr_23 _ (List.mem_of_getElem? (i := 0) rfl)
theorem mw_529 : (Cond.fieldLink RX10 197 "ClearingGatesModel" "begun" "I" : Cond) ∈ wsL_law := pr_23 _ (List.mem_of_getElem? (i := 1) rfl)
theorem mw_530 : (Cond.fieldLink RX10 172 "ClearingGatesModel" "deep" "I" : Cond) ∈ wsL_law := pr_23 _ (List.mem_of_getElem? (i := 2) rfl)
theorem mw_531 : (Cond.methodLink RX10 190 yX10_keepsBooks : Cond) ∈ wsL_law := pr_23 _ (List.mem_of_getElem? (i := 3) rfl)
theorem mw_532 : (Cond.instanceMethod yX10_keepsBooks : Cond) ∈ wsL_law := pr_23 _ (List.mem_of_getElem? (i := 4) rfl)
theorem mw_533 : (Cond.selects RX10 yX10_keepsBooks yX10_keepsBooks : Cond) ∈ wsL_law := pr_23 _ (List.mem_of_getElem? (i := 5) rfl)
theorem mw_534 : (Cond.code yX10_keepsBooks cX10_keepsBooks 2 none : Cond) ∈ wsL_law := pr_23 _ (List.mem_of_getElem? (i := 6) rfl)
theorem mw_535 : (Cond.methodLink RX10 187 yX10_does : Cond) ∈ wsL_law := pr_23 _ (List.mem_of_getElem? (i := 7) rfl)
theorem mw_536 : (Cond.instanceMethod yX10_does : Cond) ∈ wsL_law := pr_23 _ (List.mem_of_getElem? (i := 8) rfl)
theorem mw_537 : (Cond.selects RX10 yX10_does yX10_does : Cond) ∈ wsL_law := pr_23 _ (List.mem_of_getElem? (i := 9) rfl)
theorem mw_538 : (Cond.code yX10_does cX10_does 4 (some .int) : Cond) ∈ wsL_law := pr_23 _ (List.mem_of_getElem? (i := 10) rfl)
theorem mw_539 : (Cond.methodLink RX10 166 yX10_isClosed : Cond) ∈ wsL_law := pr_23 _ (List.mem_of_getElem? (i := 11) rfl)
theorem mw_540 : (Cond.instanceMethod yX10_isClosed : Cond) ∈ wsL_law := pr_23 _ (List.mem_of_getElem? (i := 12) rfl)
theorem mw_541 : (Cond.selects RX10 yX10_isClosed yX10_isClosed : Cond) ∈ wsL_law := pr_23 _ (List.mem_of_getElem? (i := 13) rfl)
theorem mw_542 : (Cond.code yX10_isClosed cX10_isClosed 2 (some .boolean) : Cond) ∈ wsL_law := pr_23 _ (List.mem_of_getElem? (i := 14) rfl)
theorem mw_543 : (Cond.methodLink RX10 160 yX10_signAt : Cond) ∈ wsL_law := pr_23 _ (List.mem_of_getElem? (i := 15) rfl)
theorem mw_544 : (Cond.instanceMethod yX10_signAt : Cond) ∈ wsL_law := pr_23 _ (List.mem_of_getElem? (i := 16) rfl)
theorem mw_545 : (Cond.selects RX10 yX10_signAt yX10_signAt : Cond) ∈ wsL_law := pr_23 _ (List.mem_of_getElem? (i := 17) rfl)
theorem mw_546 : (Cond.code yX10_signAt cX10_signAt 2 (some .int) : Cond) ∈ wsL_law := pr_23 _ (List.mem_of_getElem? (i := 18) rfl)
theorem mw_547 : (Cond.methodLink RX10 175 yX10_doesItem : Cond) ∈ wsL_law := pr_23 _ (List.mem_of_getElem? (i := 19) rfl)
theorem mw_548 : (Cond.instanceMethod yX10_doesItem : Cond) ∈ wsL_law := pr_23 _ (List.mem_of_getElem? (i := 20) rfl)
theorem mw_549 : (Cond.selects RX10 yX10_doesItem yX10_doesItem : Cond) ∈ wsL_law := pr_23 _ (List.mem_of_getElem? (i := 21) rfl)
theorem mw_550 : (Cond.methodLink RX10 169 yX10_behind : Cond) ∈ wsL_law := pr_23 _ (List.mem_of_getElem? (i := 22) rfl)
theorem mw_551 : (Cond.instanceMethod yX10_behind : Cond) ∈ wsL_law := pr_23 _ (List.mem_of_getElem? (i := 23) rfl)
theorem mw_552 : (Cond.selects RX10 yX10_behind yX10_behind : Cond) ∈ wsL_law := pr_24 _ (List.mem_of_getElem? (i := 0) rfl)
theorem mw_553 : (Cond.code yX10_behind cX10_behind 4 (some .int) : Cond) ∈ wsL_law := pr_24 _ (List.mem_of_getElem? (i := 1) rfl)
theorem mw_554 : (Cond.methodLink RX10 163 yX10_insideOf : Cond) ∈ wsL_law := pr_24 _ (List.mem_of_getElem? (i := 2) rfl)
theorem mw_555 : (Cond.instanceMethod yX10_insideOf : Cond) ∈ wsL_law := pr_24 _ (List.mem_of_getElem? (i := 3) rfl)
theorem mw_556 : (Cond.selects RX10 yX10_insideOf yX10_insideOf : Cond) ∈ wsL_law := pr_24 _ (List.mem_of_getElem? (i := 4) rfl)
theorem mw_557 : (Cond.code yX10_insideOf cX10_insideOf 2 (some .int) : Cond) ∈ wsL_law := pr_24 _ (List.mem_of_getElem? (i := 5) rfl)
theorem mw_558 : (Cond.code yX10_block cX10_block 4 (some .int) : Cond) ∈ wsL_law := pr_24 _ (List.mem_of_getElem? (i := 6) rfl)
theorem mw_559 : (Cond.methodLink RX10 178 yX10_figureAt : Cond) ∈ wsL_law := pr_24 _ (List.mem_of_getElem? (i := 7) rfl)
theorem mw_560 : (Cond.instanceMethod yX10_figureAt : Cond) ∈ wsL_law := pr_24 _ (List.mem_of_getElem? (i := 8) rfl)
theorem mw_561 : (Cond.selects RX10 yX10_figureAt yX10_figureAt : Cond) ∈ wsL_law := pr_24 _ (List.mem_of_getElem? (i := 9) rfl)
theorem mw_562 : (Cond.code yX10_figureAt cX10_figureAt 2 (some .int) : Cond) ∈ wsL_law := pr_24 _ (List.mem_of_getElem? (i := 10) rfl)
theorem mw_563 : (Cond.methodLink RX10 181 yX10_hasGate : Cond) ∈ wsL_law := pr_24 _ (List.mem_of_getElem? (i := 11) rfl)
theorem mw_564 : (Cond.instanceMethod yX10_hasGate : Cond) ∈ wsL_law := pr_24 _ (List.mem_of_getElem? (i := 12) rfl)
theorem mw_565 : (Cond.selects RX10 yX10_hasGate yX10_hasGate : Cond) ∈ wsL_law := pr_24 _ (List.mem_of_getElem? (i := 13) rfl)
theorem mw_566 : (Cond.code yX10_hasGate cX10_hasGate 2 (some .boolean) : Cond) ∈ wsL_law := pr_24 _ (List.mem_of_getElem? (i := 14) rfl)
theorem mw_567 : (Cond.methodLink RX10 184 yX10_marks : Cond) ∈ wsL_law := pr_24 _ (List.mem_of_getElem? (i := 15) rfl)
theorem mw_568 : (Cond.instanceMethod yX10_marks : Cond) ∈ wsL_law := pr_24 _ (List.mem_of_getElem? (i := 16) rfl)
theorem mw_569 : (Cond.selects RX10 yX10_marks yX10_marks : Cond) ∈ wsL_law := pr_24 _ (List.mem_of_getElem? (i := 17) rfl)
theorem mw_570 : (Cond.code yX10_marks cX10_marks 2 none : Cond) ∈ wsL_law := pr_24 _ (List.mem_of_getElem? (i := 18) rfl)
theorem mw_571 : (Cond.code yX10_doesItem cX10_doesItem 2 (some .int) : Cond) ∈ wsL_law := pr_24 _ (List.mem_of_getElem? (i := 19) rfl)
theorem mw_572 : (Cond.methodLink RX10 200 yX10_block : Cond) ∈ wsL_law := pr_24 _ (List.mem_of_getElem? (i := 20) rfl)
theorem mw_573 : (Cond.instanceMethod yX10_block : Cond) ∈ wsL_law := pr_24 _ (List.mem_of_getElem? (i := 21) rfl)
theorem mw_574 : (Cond.selects RX10 yX10_block yX10_block : Cond) ∈ wsL_law := pr_24 _ (List.mem_of_getElem? (i := 22) rfl)
theorem mw_575 : (Cond.methodLink RX10 203 yX10_tries : Cond) ∈ wsL_law := pr_24 _ (List.mem_of_getElem? (i := 23) rfl)
theorem mw_576 : (Cond.instanceMethod yX10_tries : Cond) ∈ wsL_law := pr_25 _ (List.mem_of_getElem? (i := 0) rfl)
theorem mw_577 : (Cond.selects RX10 yX10_tries yX10_tries : Cond) ∈ wsL_law := pr_25 _ (List.mem_of_getElem? (i := 1) rfl)
theorem mw_578 : (Cond.methodLink RX10 207 yX10_loops : Cond) ∈ wsL_law := pr_25 _ (List.mem_of_getElem? (i := 2) rfl)
theorem mw_579 : (Cond.instanceMethod yX10_loops : Cond) ∈ wsL_law := pr_25 _ (List.mem_of_getElem? (i := 3) rfl)
theorem mw_580 : (Cond.selects RX10 yX10_loops yX10_loops : Cond) ∈ wsL_law := pr_25 _ (List.mem_of_getElem? (i := 4) rfl)
theorem mw_581 : (Cond.methodLink RX10 210 yX10_pays : Cond) ∈ wsL_law := pr_25 _ (List.mem_of_getElem? (i := 5) rfl)
theorem mw_582 : (Cond.instanceMethod yX10_pays : Cond) ∈ wsL_law := pr_25 _ (List.mem_of_getElem? (i := 6) rfl)
theorem mw_583 : (Cond.selects RX10 yX10_pays yX10_pays : Cond) ∈ wsL_law := pr_25 _ (List.mem_of_getElem? (i := 7) rfl)
theorem mw_584 : (Cond.code yX10_pays cX10_pays 7 (some .int) : Cond) ∈ wsL_law := pr_25 _ (List.mem_of_getElem? (i := 8) rfl)
theorem mw_585 : (Cond.methodLink RX10 213 yX10_rings : Cond) ∈ wsL_law := pr_25 _ (List.mem_of_getElem? (i := 9) rfl)
theorem mw_586 : (Cond.instanceMethod yX10_rings : Cond) ∈ wsL_law := pr_25 _ (List.mem_of_getElem? (i := 10) rfl)
theorem mw_587 : (Cond.selects RX10 yX10_rings yX10_rings : Cond) ∈ wsL_law := pr_25 _ (List.mem_of_getElem? (i := 11) rfl)
theorem mw_588 : (Cond.code yX10_rings cX10_rings 3 (some .int) : Cond) ∈ wsL_law := pr_25 _ (List.mem_of_getElem? (i := 12) rfl)
theorem mw_589 : (Cond.code yX10_loops cX10_loops 4 (some .int) : Cond) ∈ wsL_law := pr_25 _ (List.mem_of_getElem? (i := 13) rfl)
theorem mw_590 : (Cond.code yX10_tries cX10_tries 5 (some .int) : Cond) ∈ wsL_law := pr_25 _ (List.mem_of_getElem? (i := 14) rfl)
theorem mw_591 : (Cond.methodLink RX10 193 yX10_forgetsBooks : Cond) ∈ wsL_law := pr_25 _ (List.mem_of_getElem? (i := 15) rfl)
theorem mw_592 : (Cond.instanceMethod yX10_forgetsBooks : Cond) ∈ wsL_law := pr_25 _ (List.mem_of_getElem? (i := 16) rfl)
theorem mw_593 : (Cond.selects RX10 yX10_forgetsBooks yX10_forgetsBooks : Cond) ∈ wsL_law := pr_25 _ (List.mem_of_getElem? (i := 17) rfl)
theorem mw_594 : (Cond.code yX10_forgetsBooks cX10_forgetsBooks 3 none : Cond) ∈ wsL_law := pr_25 _ (List.mem_of_getElem? (i := 18) rfl)
theorem mw_595 : (Cond.methodLink RL 65 yX9_trace : Cond) ∈ wsL_law := pr_25 _ (List.mem_of_getElem? (i := 19) rfl)
theorem mw_596 : (Cond.instanceMethod yX9_trace : Cond) ∈ wsL_law := pr_25 _ (List.mem_of_getElem? (i := 20) rfl)
theorem mw_597 : (Cond.selects RX9 yX9_trace yX9_trace : Cond) ∈ wsL_law := pr_25 _ (List.mem_of_getElem? (i := 21) rfl)
theorem mw_598 : (Cond.code yX9_trace cX9_trace 2 (some .int) : Cond) ∈ wsL_law := pr_25 _ (List.mem_of_getElem? (i := 22) rfl)
theorem mw_599 : (Cond.fieldLink RX9 198 "ClearingGates$Runner" "marks" "[I" : Cond) ∈ wsL_law := pr_25 _ (List.mem_of_getElem? (i := 23) rfl)
theorem mw_600 : (Cond.methodLink RL 68 yX10_trace : Cond) ∈ wsL_law := pr_26 _ (List.mem_of_getElem? (i := 0) rfl)
theorem mw_601 : (Cond.instanceMethod yX10_trace : Cond) ∈ wsL_law := pr_26 _ (List.mem_of_getElem? (i := 1) rfl)
theorem mw_602 : (Cond.selects RX10 yX10_trace yX10_trace : Cond) ∈ wsL_law := pr_26 _ (List.mem_of_getElem? (i := 2) rfl)
theorem mw_603 : (Cond.code yX10_trace cX10_trace 2 (some .int) : Cond) ∈ wsL_law := pr_26 _ (List.mem_of_getElem? (i := 3) rfl)
theorem mw_604 : (Cond.methodLink RL 69 yX9_would : Cond) ∈ wsL_law := pr_26 _ (List.mem_of_getElem? (i := 4) rfl)
theorem mw_605 : (Cond.instanceMethod yX9_would : Cond) ∈ wsL_law := pr_26 _ (List.mem_of_getElem? (i := 5) rfl)
theorem mw_606 : (Cond.selects RX9 yX9_would yX9_would : Cond) ∈ wsL_law := pr_26 _ (List.mem_of_getElem? (i := 6) rfl)
theorem mw_607 : (Cond.code yX9_would cX9_would 4 (some .long) : Cond) ∈ wsL_law := pr_26 _ (List.mem_of_getElem? (i := 7) rfl)
theorem mw_608 : (Cond.fieldLink RX9 207 "ClearingGates$Runner" "books" "LClearingGates$Books;" : Cond) ∈ wsL_law := pr_26 _ (List.mem_of_getElem? (i := 8) rfl)
theorem mw_609 : (Cond.fieldLink RX9 208 "ClearingGates$Runner" "markCount" "I" : Cond) ∈ wsL_law := pr_26 _ (List.mem_of_getElem? (i := 9) rfl)
theorem mw_610 : (Cond.methodLink RX9 201 yX9_isOfWould : Cond) ∈ wsL_law := pr_26 _ (List.mem_of_getElem? (i := 10) rfl)
theorem mw_611 : (Cond.instanceMethod yX9_isOfWould : Cond) ∈ wsL_law := pr_26 _ (List.mem_of_getElem? (i := 11) rfl)
theorem mw_612 : (Cond.selects RX9 yX9_isOfWould yX9_isOfWould : Cond) ∈ wsL_law := pr_26 _ (List.mem_of_getElem? (i := 12) rfl)
theorem mw_613 : (Cond.code yX9_isOfWould cX9_isOfWould 2 (some .boolean) : Cond) ∈ wsL_law := pr_26 _ (List.mem_of_getElem? (i := 13) rfl)
theorem mw_614 : (Cond.methodLink RX9 204 yX9_outcomeInThought : Cond) ∈ wsL_law := pr_26 _ (List.mem_of_getElem? (i := 14) rfl)
theorem mw_615 : (Cond.instanceMethod yX9_outcomeInThought : Cond) ∈ wsL_law := pr_26 _ (List.mem_of_getElem? (i := 15) rfl)
theorem mw_616 : (Cond.selects RX9 yX9_outcomeInThought yX9_outcomeInThought : Cond) ∈ wsL_law := pr_26 _ (List.mem_of_getElem? (i := 16) rfl)
theorem mw_617 : (Cond.code yX9_outcomeInThought cX9_outcomeInThought 2 (some .int) : Cond) ∈ wsL_law := pr_26 _ (List.mem_of_getElem? (i := 17) rfl)
theorem mw_618 : (Cond.methodLink RX9 214 yX0_becomeAs : Cond) ∈ wsL_law := pr_26 _ (List.mem_of_getElem? (i := 18) rfl)
theorem mw_619 : (Cond.instanceMethod yX0_becomeAs : Cond) ∈ wsL_law := pr_26 _ (List.mem_of_getElem? (i := 19) rfl)
theorem mw_620 : (Cond.selects RX0 yX0_becomeAs yX0_becomeAs : Cond) ∈ wsL_law := pr_26 _ (List.mem_of_getElem? (i := 20) rfl)
theorem mw_621 : (Cond.code yX0_becomeAs cX0_becomeAs 3 none : Cond) ∈ wsL_law := pr_26 _ (List.mem_of_getElem? (i := 21) rfl)
theorem mw_622 : (Cond.methodLink RX0 55 arraycopyName : Cond) ∈ wsL_law := pr_26 _ (List.mem_of_getElem? (i := 22) rfl)
theorem mw_623 : (Cond.fieldLink RX0 61 "ClearingGates$Books" "missed" "I" : Cond) ∈ wsL_law := pr_26 _ (List.mem_of_getElem? (i := 23) rfl)
theorem mw_624 : (Cond.fieldLink RX0 64 "ClearingGates$Books" "bells" "I" : Cond) ∈ wsL_law := pr_27 _ (List.mem_of_getElem? (i := 0) rfl)
theorem mw_625 : (Cond.fieldLink RX0 67 "ClearingGates$Books" "refused" "I" : Cond) ∈ wsL_law := pr_27 _ (List.mem_of_getElem? (i := 1) rfl)
theorem mw_626 : (Cond.fieldLink RX0 70 "ClearingGates$Books" "caught" "I" : Cond) ∈ wsL_law := pr_27 _ (List.mem_of_getElem? (i := 2) rfl)
theorem mw_627 : (Cond.methodLink RX9 211 yX0_allEntries : Cond) ∈ wsL_law := pr_27 _ (List.mem_of_getElem? (i := 3) rfl)
theorem mw_628 : (Cond.instanceMethod yX0_allEntries : Cond) ∈ wsL_law := pr_27 _ (List.mem_of_getElem? (i := 4) rfl)
theorem mw_629 : (Cond.selects RX0 yX0_allEntries yX0_allEntries : Cond) ∈ wsL_law := pr_27 _ (List.mem_of_getElem? (i := 5) rfl)
theorem mw_630 : (Cond.code yX0_allEntries cX0_allEntries 3 (some .int) : Cond) ∈ wsL_law := pr_27 _ (List.mem_of_getElem? (i := 6) rfl)
theorem mw_631 : (Cond.methodLink RL 72 yX10_would : Cond) ∈ wsL_law := pr_27 _ (List.mem_of_getElem? (i := 7) rfl)
theorem mw_632 : (Cond.instanceMethod yX10_would : Cond) ∈ wsL_law := pr_27 _ (List.mem_of_getElem? (i := 8) rfl)
theorem mw_633 : (Cond.selects RX10 yX10_would yX10_would : Cond) ∈ wsL_law := pr_27 _ (List.mem_of_getElem? (i := 9) rfl)
theorem mw_634 : (Cond.code yX10_would cX10_would 8 (some .long) : Cond) ∈ wsL_law := pr_27 _ (List.mem_of_getElem? (i := 10) rfl)
theorem mw_635 : (Cond.constantLong RX10 236 (3) : Cond) ∈ wsL_law := pr_27 _ (List.mem_of_getElem? (i := 11) rfl)
theorem mw_636 : (Cond.constantLong RX10 238 (10) : Cond) ∈ wsL_law := pr_27 _ (List.mem_of_getElem? (i := 12) rfl)
theorem mw_637 : (Cond.methodLink RX10 240 yX10_entries : Cond) ∈ wsL_law := pr_27 _ (List.mem_of_getElem? (i := 13) rfl)
theorem mw_638 : (Cond.instanceMethod yX10_entries : Cond) ∈ wsL_law := pr_27 _ (List.mem_of_getElem? (i := 14) rfl)
theorem mw_639 : (Cond.selects RX10 yX10_entries yX10_entries : Cond) ∈ wsL_law := pr_27 _ (List.mem_of_getElem? (i := 15) rfl)
theorem mw_640 : (Cond.code yX10_entries cX10_entries 4 (some .long) : Cond) ∈ wsL_law := pr_27 _ (List.mem_of_getElem? (i := 16) rfl)
theorem mw_641 : (Cond.methodLink RX10 244 yX10_thinks : Cond) ∈ wsL_law := pr_27 _ (List.mem_of_getElem? (i := 17) rfl)
theorem mw_642 : (Cond.instanceMethod yX10_thinks : Cond) ∈ wsL_law := pr_27 _ (List.mem_of_getElem? (i := 18) rfl)
theorem mw_643 : (Cond.selects RX10 yX10_thinks yX10_thinks : Cond) ∈ wsL_law := pr_27 _ (List.mem_of_getElem? (i := 19) rfl)
theorem mw_644 : (Cond.code yX10_thinks cX10_thinks 1 none : Cond) ∈ wsL_law := pr_27 _ (List.mem_of_getElem? (i := 20) rfl)
theorem mw_645 : (Cond.methodLink RX10 227 arraycopyName : Cond) ∈ wsL_law := pr_27 _ (List.mem_of_getElem? (i := 21) rfl)
theorem mw_646 : (Cond.fieldLink RX10 233 "ClearingGatesModel" "thoughtFees" "J" : Cond) ∈ wsL_law := pr_27 _ (List.mem_of_getElem? (i := 22) rfl)
theorem mw_647 : (Cond.methodLink RX10 247 yX10_wakes : Cond) ∈ wsL_law := pr_27 _ (List.mem_of_getElem? (i := 23) rfl)
theorem mw_648 : (Cond.instanceMethod yX10_wakes : Cond) ∈ wsL_law := pr_28 _ (List.mem_of_getElem? (i := 0) rfl)
theorem mw_649 : (Cond.selects RX10 yX10_wakes yX10_wakes : Cond) ∈ wsL_law := pr_28 _ (List.mem_of_getElem? (i := 1) rfl)
theorem mw_650 : (Cond.code yX10_wakes cX10_wakes 1 none : Cond) ∈ wsL_law := pr_28 _ (List.mem_of_getElem? (i := 2) rfl)
theorem mw_651 : (Cond.methodLink RL 73 yX9_needed : Cond) ∈ wsL_law := pr_28 _ (List.mem_of_getElem? (i := 3) rfl)
theorem mw_652 : (Cond.instanceMethod yX9_needed : Cond) ∈ wsL_law := pr_28 _ (List.mem_of_getElem? (i := 4) rfl)
theorem mw_653 : (Cond.selects RX9 yX9_needed yX9_needed : Cond) ∈ wsL_law := pr_28 _ (List.mem_of_getElem? (i := 5) rfl)
theorem mw_654 : (Cond.code yX9_needed cX9_needed 5 (some .int) : Cond) ∈ wsL_law := pr_28 _ (List.mem_of_getElem? (i := 6) rfl)
theorem mw_655 : (Cond.methodLink RL 76 yX10_needed : Cond) ∈ wsL_law := pr_28 _ (List.mem_of_getElem? (i := 7) rfl)
theorem mw_656 : (Cond.instanceMethod yX10_needed : Cond) ∈ wsL_law := pr_28 _ (List.mem_of_getElem? (i := 8) rfl)
theorem mw_657 : (Cond.selects RX10 yX10_needed yX10_needed : Cond) ∈ wsL_law := pr_28 _ (List.mem_of_getElem? (i := 9) rfl)
theorem mw_658 : (Cond.code yX10_needed cX10_needed 6 (some .int) : Cond) ∈ wsL_law := pr_28 _ (List.mem_of_getElem? (i := 10) rfl)
theorem mw_659 : (Cond.constant RX10 254 (1048576) : Cond) ∈ wsL_law := pr_28 _ (List.mem_of_getElem? (i := 11) rfl)
theorem mw_660 : (Cond.methodLink RX10 255 yX10_outcomeOf : Cond) ∈ wsL_law := pr_28 _ (List.mem_of_getElem? (i := 12) rfl)
theorem mw_661 : (Cond.instanceMethod yX10_outcomeOf : Cond) ∈ wsL_law := pr_28 _ (List.mem_of_getElem? (i := 13) rfl)
theorem mw_662 : (Cond.selects RX10 yX10_outcomeOf yX10_outcomeOf : Cond) ∈ wsL_law := pr_28 _ (List.mem_of_getElem? (i := 14) rfl)
theorem mw_663 : (Cond.code yX10_outcomeOf cX10_outcomeOf 2 (some .int) : Cond) ∈ wsL_law := pr_28 _ (List.mem_of_getElem? (i := 15) rfl)
theorem mw_664 : (Cond.methodLink RX10 250 yX10_would : Cond) ∈ wsL_law := pr_28 _ (List.mem_of_getElem? (i := 16) rfl)
theorem mw_665 : (Cond.methodLink RL 77 yX9_hinges : Cond) ∈ wsL_law := pr_28 _ (List.mem_of_getElem? (i := 17) rfl)
theorem mw_666 : (Cond.instanceMethod yX9_hinges : Cond) ∈ wsL_law := pr_28 _ (List.mem_of_getElem? (i := 18) rfl)
theorem mw_667 : (Cond.selects RX9 yX9_hinges yX9_hinges : Cond) ∈ wsL_law := pr_28 _ (List.mem_of_getElem? (i := 19) rfl)
theorem mw_668 : (Cond.code yX9_hinges cX9_hinges 5 (some .int) : Cond) ∈ wsL_law := pr_28 _ (List.mem_of_getElem? (i := 20) rfl)
theorem mw_669 : (Cond.methodLink RL 80 yX10_hinges : Cond) ∈ wsL_law := pr_28 _ (List.mem_of_getElem? (i := 21) rfl)
theorem mw_670 : (Cond.instanceMethod yX10_hinges : Cond) ∈ wsL_law := pr_28 _ (List.mem_of_getElem? (i := 22) rfl)
theorem mw_671 : (Cond.selects RX10 yX10_hinges yX10_hinges : Cond) ∈ wsL_law := pr_28 _ (List.mem_of_getElem? (i := 23) rfl)
theorem mw_672 : (Cond.code yX10_hinges cX10_hinges 5 (some .int) : Cond) ∈ wsL_law := pr_29 _ (List.mem_of_getElem? (i := 0) rfl)
theorem mw_673 : (Cond.methodLink RL 81 yX9_owe : Cond) ∈ wsL_law := pr_29 _ (List.mem_of_getElem? (i := 1) rfl)
theorem mw_674 : (Cond.instanceMethod yX9_owe : Cond) ∈ wsL_law := pr_29 _ (List.mem_of_getElem? (i := 2) rfl)
theorem mw_675 : (Cond.selects RX9 yX9_owe yX9_owe : Cond) ∈ wsL_law := pr_29 _ (List.mem_of_getElem? (i := 3) rfl)
theorem mw_676 : (Cond.code yX9_owe cX9_owe 5 (some .int) : Cond) ∈ wsL_law := pr_29 _ (List.mem_of_getElem? (i := 4) rfl)
theorem mw_677 : (Cond.constant RX9 220 (99999) : Cond) ∈ wsL_law := pr_29 _ (List.mem_of_getElem? (i := 5) rfl)
theorem mw_678 : (Cond.methodLink RX9 217 yX9_isPair : Cond) ∈ wsL_law := pr_29 _ (List.mem_of_getElem? (i := 6) rfl)
theorem mw_679 : (Cond.instanceMethod yX9_isPair : Cond) ∈ wsL_law := pr_29 _ (List.mem_of_getElem? (i := 7) rfl)
theorem mw_680 : (Cond.selects RX9 yX9_isPair yX9_isPair : Cond) ∈ wsL_law := pr_29 _ (List.mem_of_getElem? (i := 8) rfl)
theorem mw_681 : (Cond.code yX9_isPair cX9_isPair 3 (some .boolean) : Cond) ∈ wsL_law := pr_29 _ (List.mem_of_getElem? (i := 9) rfl)
theorem mw_682 : (Cond.methodLink RX9 221 yX1_between : Cond) ∈ wsL_law := pr_29 _ (List.mem_of_getElem? (i := 10) rfl)
theorem mw_683 : (Cond.methodLink RX9 224 yX1_become : Cond) ∈ wsL_law := pr_29 _ (List.mem_of_getElem? (i := 11) rfl)
theorem mw_684 : (Cond.instanceMethod yX1_become : Cond) ∈ wsL_law := pr_29 _ (List.mem_of_getElem? (i := 12) rfl)
theorem mw_685 : (Cond.selects RX1 yX1_become yX1_become : Cond) ∈ wsL_law := pr_29 _ (List.mem_of_getElem? (i := 13) rfl)
theorem mw_686 : (Cond.code yX1_become cX1_become 4 none : Cond) ∈ wsL_law := pr_29 _ (List.mem_of_getElem? (i := 14) rfl)
theorem mw_687 : (Cond.methodLink RL 85 yX10_owe : Cond) ∈ wsL_law := pr_29 _ (List.mem_of_getElem? (i := 15) rfl)
theorem mw_688 : (Cond.instanceMethod yX10_owe : Cond) ∈ wsL_law := pr_29 _ (List.mem_of_getElem? (i := 16) rfl)
theorem mw_689 : (Cond.selects RX10 yX10_owe yX10_owe : Cond) ∈ wsL_law := pr_29 _ (List.mem_of_getElem? (i := 17) rfl)
theorem mw_690 : (Cond.code yX10_owe cX10_owe 5 (some .int) : Cond) ∈ wsL_law := pr_29 _ (List.mem_of_getElem? (i := 18) rfl)
theorem mw_691 : (Cond.constantLong RX10 261 (99999) : Cond) ∈ wsL_law := pr_29 _ (List.mem_of_getElem? (i := 19) rfl)
theorem mw_692 : (Cond.methodLink RX10 258 yX10_areTwo : Cond) ∈ wsL_law := pr_29 _ (List.mem_of_getElem? (i := 20) rfl)
theorem mw_693 : (Cond.instanceMethod yX10_areTwo : Cond) ∈ wsL_law := pr_29 _ (List.mem_of_getElem? (i := 21) rfl)
theorem mw_694 : (Cond.selects RX10 yX10_areTwo yX10_areTwo : Cond) ∈ wsL_law := pr_29 _ (List.mem_of_getElem? (i := 22) rfl)
theorem mw_695 : (Cond.code yX10_areTwo cX10_areTwo 3 (some .boolean) : Cond) ∈ wsL_law := pr_29 _ (List.mem_of_getElem? (i := 23) rfl)
theorem mw_696 : (Cond.methodLink RL 86 yX9_owed : Cond) ∈ wsL_law := pr_30 _ (List.mem_of_getElem? (i := 0) rfl)
theorem mw_697 : (Cond.instanceMethod yX9_owed : Cond) ∈ wsL_law := pr_30 _ (List.mem_of_getElem? (i := 1) rfl)
theorem mw_698 : (Cond.selects RX9 yX9_owed yX9_owed : Cond) ∈ wsL_law := pr_30 _ (List.mem_of_getElem? (i := 2) rfl)
theorem mw_699 : (Cond.code yX9_owed cX9_owed 3 (some .int) : Cond) ∈ wsL_law := pr_30 _ (List.mem_of_getElem? (i := 3) rfl)
theorem mw_700 : (Cond.methodLink RL 89 yX10_owed : Cond) ∈ wsL_law := pr_30 _ (List.mem_of_getElem? (i := 4) rfl)
theorem mw_701 : (Cond.instanceMethod yX10_owed : Cond) ∈ wsL_law := pr_30 _ (List.mem_of_getElem? (i := 5) rfl)
theorem mw_702 : (Cond.selects RX10 yX10_owed yX10_owed : Cond) ∈ wsL_law := pr_30 _ (List.mem_of_getElem? (i := 6) rfl)
theorem mw_703 : (Cond.code yX10_owed cX10_owed 3 (some .int) : Cond) ∈ wsL_law := pr_30 _ (List.mem_of_getElem? (i := 7) rfl)
theorem mw_704 : (Cond.methodLink RL 90 yX9_net : Cond) ∈ wsL_law := pr_30 _ (List.mem_of_getElem? (i := 8) rfl)
theorem mw_705 : (Cond.instanceMethod yX9_net : Cond) ∈ wsL_law := pr_30 _ (List.mem_of_getElem? (i := 9) rfl)
theorem mw_706 : (Cond.selects RX9 yX9_net yX9_net : Cond) ∈ wsL_law := pr_30 _ (List.mem_of_getElem? (i := 10) rfl)
theorem mw_707 : (Cond.code yX9_net cX9_net 2 (some .int) : Cond) ∈ wsL_law := pr_30 _ (List.mem_of_getElem? (i := 11) rfl)
theorem mw_708 : (Cond.methodLink RX9 228 yX0_hasAllGates : Cond) ∈ wsL_law := pr_30 _ (List.mem_of_getElem? (i := 12) rfl)
theorem mw_709 : (Cond.instanceMethod yX0_hasAllGates : Cond) ∈ wsL_law := pr_30 _ (List.mem_of_getElem? (i := 13) rfl)
theorem mw_710 : (Cond.selects RX0 yX0_hasAllGates yX0_hasAllGates : Cond) ∈ wsL_law := pr_30 _ (List.mem_of_getElem? (i := 14) rfl)
theorem mw_711 : (Cond.code yX0_hasAllGates cX0_hasAllGates 2 (some .boolean) : Cond) ∈ wsL_law := pr_30 _ (List.mem_of_getElem? (i := 15) rfl)
theorem mw_712 : (Cond.methodLink RX9 232 yX0_enterAll : Cond) ∈ wsL_law := pr_30 _ (List.mem_of_getElem? (i := 16) rfl)
theorem mw_713 : (Cond.instanceMethod yX0_enterAll : Cond) ∈ wsL_law := pr_30 _ (List.mem_of_getElem? (i := 17) rfl)
theorem mw_714 : (Cond.selects RX0 yX0_enterAll yX0_enterAll : Cond) ∈ wsL_law := pr_30 _ (List.mem_of_getElem? (i := 18) rfl)
theorem mw_715 : (Cond.code yX0_enterAll cX0_enterAll 2 none : Cond) ∈ wsL_law := pr_30 _ (List.mem_of_getElem? (i := 19) rfl)
theorem mw_716 : (Cond.methodLink RX9 235 yX5_cutAll : Cond) ∈ wsL_law := pr_30 _ (List.mem_of_getElem? (i := 20) rfl)
theorem mw_717 : (Cond.instanceMethod yX5_cutAll : Cond) ∈ wsL_law := pr_30 _ (List.mem_of_getElem? (i := 21) rfl)
theorem mw_718 : (Cond.selects RX5 yX5_cutAll yX5_cutAll : Cond) ∈ wsL_law := pr_30 _ (List.mem_of_getElem? (i := 22) rfl)
theorem mw_719 : (Cond.code yX5_cutAll cX5_cutAll 3 (some .int) : Cond) ∈ wsL_law := pr_30 _ (List.mem_of_getElem? (i := 23) rfl)
theorem mw_720 : (Cond.methodLink RX5 23 yX5_findsFirst : Cond) ∈ wsL_law := pr_31 _ (List.mem_of_getElem? (i := 0) rfl)
theorem mw_721 : (Cond.instanceMethod yX5_findsFirst : Cond) ∈ wsL_law := pr_31 _ (List.mem_of_getElem? (i := 1) rfl)
theorem mw_722 : (Cond.selects RX5 yX5_findsFirst yX5_findsFirst : Cond) ∈ wsL_law := pr_31 _ (List.mem_of_getElem? (i := 2) rfl)
theorem mw_723 : (Cond.code yX5_findsFirst cX5_findsFirst 4 (some .boolean) : Cond) ∈ wsL_law := pr_31 _ (List.mem_of_getElem? (i := 3) rfl)
theorem mw_724 : (Cond.methodLink RX5 30 yX5_leadsBack : Cond) ∈ wsL_law := pr_31 _ (List.mem_of_getElem? (i := 4) rfl)
theorem mw_725 : (Cond.instanceMethod yX5_leadsBack : Cond) ∈ wsL_law := pr_31 _ (List.mem_of_getElem? (i := 5) rfl)
theorem mw_726 : (Cond.selects RX5 yX5_leadsBack yX5_leadsBack : Cond) ∈ wsL_law := pr_31 _ (List.mem_of_getElem? (i := 6) rfl)
theorem mw_727 : (Cond.code yX5_leadsBack cX5_leadsBack 6 (some .boolean) : Cond) ∈ wsL_law := pr_31 _ (List.mem_of_getElem? (i := 7) rfl)
theorem mw_728 : (Cond.fieldLink RX5 40 "ClearingGates$Rings" "wayLength" "I" : Cond) ∈ wsL_law := pr_31 _ (List.mem_of_getElem? (i := 8) rfl)
theorem mw_729 : (Cond.methodLink RX5 34 yX1_between : Cond) ∈ wsL_law := pr_31 _ (List.mem_of_getElem? (i := 9) rfl)
theorem mw_730 : (Cond.methodLink RX5 27 yX5_cutFound : Cond) ∈ wsL_law := pr_31 _ (List.mem_of_getElem? (i := 10) rfl)
theorem mw_731 : (Cond.instanceMethod yX5_cutFound : Cond) ∈ wsL_law := pr_31 _ (List.mem_of_getElem? (i := 11) rfl)
theorem mw_732 : (Cond.selects RX5 yX5_cutFound yX5_cutFound : Cond) ∈ wsL_law := pr_31 _ (List.mem_of_getElem? (i := 12) rfl)
theorem mw_733 : (Cond.code yX5_cutFound cX5_cutFound 4 none : Cond) ∈ wsL_law := pr_31 _ (List.mem_of_getElem? (i := 13) rfl)
theorem mw_734 : (Cond.constant RX5 44 (99999) : Cond) ∈ wsL_law := pr_31 _ (List.mem_of_getElem? (i := 14) rfl)
theorem mw_735 : (Cond.methodLink RX5 49 Lib.Math.min.name : Cond) ∈ wsL_law := pr_31 _ (List.mem_of_getElem? (i := 15) rfl)
theorem mw_736 : (Cond.methodLink RX5 45 yX5_behind : Cond) ∈ wsL_law := pr_31 _ (List.mem_of_getElem? (i := 16) rfl)
theorem mw_737 : (Cond.instanceMethod yX5_behind : Cond) ∈ wsL_law := pr_31 _ (List.mem_of_getElem? (i := 17) rfl)
theorem mw_738 : (Cond.selects RX5 yX5_behind yX5_behind : Cond) ∈ wsL_law := pr_31 _ (List.mem_of_getElem? (i := 18) rfl)
theorem mw_739 : (Cond.code yX5_behind cX5_behind 2 (some .int) : Cond) ∈ wsL_law := pr_31 _ (List.mem_of_getElem? (i := 19) rfl)
theorem mw_740 : (Cond.methodLink RX5 54 yX1_become : Cond) ∈ wsL_law := pr_31 _ (List.mem_of_getElem? (i := 20) rfl)
theorem mw_741 : (Cond.methodLink RX9 238 yX0_leaveAll : Cond) ∈ wsL_law := pr_31 _ (List.mem_of_getElem? (i := 21) rfl)
theorem mw_742 : (Cond.instanceMethod yX0_leaveAll : Cond) ∈ wsL_law := pr_31 _ (List.mem_of_getElem? (i := 22) rfl)
theorem mw_743 : (Cond.selects RX0 yX0_leaveAll yX0_leaveAll : Cond) ∈ wsL_law := pr_31 _ (List.mem_of_getElem? (i := 23) rfl)
theorem mw_744 : (Cond.code yX0_leaveAll cX0_leaveAll 2 none : Cond) ∈ wsL_law := pr_32 _ (List.mem_of_getElem? (i := 0) rfl)
theorem mw_745 : (Cond.methodLink RL 93 yX10_net : Cond) ∈ wsL_law := pr_32 _ (List.mem_of_getElem? (i := 1) rfl)
theorem mw_746 : (Cond.instanceMethod yX10_net : Cond) ∈ wsL_law := pr_32 _ (List.mem_of_getElem? (i := 2) rfl)
theorem mw_747 : (Cond.selects RX10 yX10_net yX10_net : Cond) ∈ wsL_law := pr_32 _ (List.mem_of_getElem? (i := 3) rfl)
theorem mw_748 : (Cond.code yX10_net cX10_net 5 (some .int) : Cond) ∈ wsL_law := pr_32 _ (List.mem_of_getElem? (i := 4) rfl)
theorem mw_749 : (Cond.constant RX10 269 (99999) : Cond) ∈ wsL_law := pr_32 _ (List.mem_of_getElem? (i := 5) rfl)
theorem mw_750 : (Cond.methodLink RX10 266 yX10_firstRing : Cond) ∈ wsL_law := pr_32 _ (List.mem_of_getElem? (i := 6) rfl)
theorem mw_751 : (Cond.instanceMethod yX10_firstRing : Cond) ∈ wsL_law := pr_32 _ (List.mem_of_getElem? (i := 7) rfl)
theorem mw_752 : (Cond.selects RX10 yX10_firstRing yX10_firstRing : Cond) ∈ wsL_law := pr_32 _ (List.mem_of_getElem? (i := 8) rfl)
theorem mw_753 : (Cond.code yX10_firstRing cX10_firstRing 3 (some .int) : Cond) ∈ wsL_law := pr_32 _ (List.mem_of_getElem? (i := 9) rfl)
theorem mw_754 : (Cond.methodLink RX10 263 yX10_ringFrom : Cond) ∈ wsL_law := pr_32 _ (List.mem_of_getElem? (i := 10) rfl)
theorem mw_755 : (Cond.instanceMethod yX10_ringFrom : Cond) ∈ wsL_law := pr_32 _ (List.mem_of_getElem? (i := 11) rfl)
theorem mw_756 : (Cond.selects RX10 yX10_ringFrom yX10_ringFrom : Cond) ∈ wsL_law := pr_32 _ (List.mem_of_getElem? (i := 12) rfl)
theorem mw_757 : (Cond.code yX10_ringFrom cX10_ringFrom 6 (some .int) : Cond) ∈ wsL_law := pr_32 _ (List.mem_of_getElem? (i := 13) rfl)
theorem mw_758 : (Cond.methodLink RL 94 yX9_tells : Cond) ∈ wsL_law := pr_32 _ (List.mem_of_getElem? (i := 14) rfl)
theorem mw_759 : (Cond.instanceMethod yX9_tells : Cond) ∈ wsL_law := pr_32 _ (List.mem_of_getElem? (i := 15) rfl)
theorem mw_760 : (Cond.selects RX9 yX9_tells yX9_tells : Cond) ∈ wsL_law := pr_32 _ (List.mem_of_getElem? (i := 16) rfl)
theorem mw_761 : (Cond.code yX9_tells cX9_tells 6 (some .int) : Cond) ∈ wsL_law := pr_32 _ (List.mem_of_getElem? (i := 17) rfl)
theorem mw_762 : (Cond.fieldLink RX9 247 "ClearingGates$Sheet" "size" "I" : Cond) ∈ wsL_law := pr_32 _ (List.mem_of_getElem? (i := 18) rfl)
theorem mw_763 : (Cond.methodLink RX9 241 yX9_isSheet : Cond) ∈ wsL_law := pr_32 _ (List.mem_of_getElem? (i := 19) rfl)
theorem mw_764 : (Cond.static yX9_isSheet : Cond) ∈ wsL_law := pr_32 _ (List.mem_of_getElem? (i := 20) rfl)
theorem mw_765 : (Cond.code yX9_isSheet cX9_isSheet 1 (some .boolean) : Cond) ∈ wsL_law := pr_32 _ (List.mem_of_getElem? (i := 21) rfl)
theorem mw_766 : (Cond.methodLink RX9 244 yX7_isMissing : Cond) ∈ wsL_law := pr_32 _ (List.mem_of_getElem? (i := 22) rfl)
theorem mw_767 : (Cond.instanceMethod yX7_isMissing : Cond) ∈ wsL_law := pr_32 _ (List.mem_of_getElem? (i := 23) rfl)
theorem mw_768 : (Cond.selects RX7 yX7_isMissing yX7_isMissing : Cond) ∈ wsL_law := pr_33 _ (List.mem_of_getElem? (i := 0) rfl)
theorem mw_769 : (Cond.code yX7_isMissing cX7_isMissing 1 (some .boolean) : Cond) ∈ wsL_law := pr_33 _ (List.mem_of_getElem? (i := 1) rfl)
theorem mw_770 : (Cond.methodLink RX9 248 yX9_kindsToldBy : Cond) ∈ wsL_law := pr_33 _ (List.mem_of_getElem? (i := 2) rfl)
theorem mw_771 : (Cond.instanceMethod yX9_kindsToldBy : Cond) ∈ wsL_law := pr_33 _ (List.mem_of_getElem? (i := 3) rfl)
theorem mw_772 : (Cond.selects RX9 yX9_kindsToldBy yX9_kindsToldBy : Cond) ∈ wsL_law := pr_33 _ (List.mem_of_getElem? (i := 4) rfl)
theorem mw_773 : (Cond.code yX9_kindsToldBy cX9_kindsToldBy 6 (some .int) : Cond) ∈ wsL_law := pr_33 _ (List.mem_of_getElem? (i := 5) rfl)
theorem mw_774 : (Cond.methodLink RX9 252 yX7_firstUnlike : Cond) ∈ wsL_law := pr_33 _ (List.mem_of_getElem? (i := 6) rfl)
theorem mw_775 : (Cond.instanceMethod yX7_firstUnlike : Cond) ∈ wsL_law := pr_33 _ (List.mem_of_getElem? (i := 7) rfl)
theorem mw_776 : (Cond.selects RX7 yX7_firstUnlike yX7_firstUnlike : Cond) ∈ wsL_law := pr_33 _ (List.mem_of_getElem? (i := 8) rfl)
theorem mw_777 : (Cond.code yX7_firstUnlike cX7_firstUnlike 5 (some .int) : Cond) ∈ wsL_law := pr_33 _ (List.mem_of_getElem? (i := 9) rfl)
theorem mw_778 : (Cond.fieldLink RX7 19 "ClearingGates$Sheet" "size" "I" : Cond) ∈ wsL_law := pr_33 _ (List.mem_of_getElem? (i := 10) rfl)
theorem mw_779 : (Cond.methodLink RX7 32 Lib.Math.min.name : Cond) ∈ wsL_law := pr_33 _ (List.mem_of_getElem? (i := 11) rfl)
theorem mw_780 : (Cond.methodLink RL 98 yX10_tells : Cond) ∈ wsL_law := pr_33 _ (List.mem_of_getElem? (i := 12) rfl)
theorem mw_781 : (Cond.instanceMethod yX10_tells : Cond) ∈ wsL_law := pr_33 _ (List.mem_of_getElem? (i := 13) rfl)
theorem mw_782 : (Cond.selects RX10 yX10_tells yX10_tells : Cond) ∈ wsL_law := pr_33 _ (List.mem_of_getElem? (i := 14) rfl)
theorem mw_783 : (Cond.code yX10_tells cX10_tells 8 (some .int) : Cond) ∈ wsL_law := pr_33 _ (List.mem_of_getElem? (i := 15) rfl)
theorem mw_784 : (Cond.methodLink RX10 273 yX10_isSheet : Cond) ∈ wsL_law := pr_33 _ (List.mem_of_getElem? (i := 16) rfl)
theorem mw_785 : (Cond.static yX10_isSheet : Cond) ∈ wsL_law := pr_33 _ (List.mem_of_getElem? (i := 17) rfl)
theorem mw_786 : (Cond.code yX10_isSheet cX10_isSheet 1 (some .boolean) : Cond) ∈ wsL_law := pr_33 _ (List.mem_of_getElem? (i := 18) rfl)
theorem mw_787 : (Cond.methodLink RX10 276 yX10_otherIn : Cond) ∈ wsL_law := pr_33 _ (List.mem_of_getElem? (i := 19) rfl)
theorem mw_788 : (Cond.instanceMethod yX10_otherIn : Cond) ∈ wsL_law := pr_33 _ (List.mem_of_getElem? (i := 20) rfl)
theorem mw_789 : (Cond.selects RX10 yX10_otherIn yX10_otherIn : Cond) ∈ wsL_law := pr_33 _ (List.mem_of_getElem? (i := 21) rfl)
theorem mw_790 : (Cond.code yX10_otherIn cX10_otherIn 6 (some .int) : Cond) ∈ wsL_law := pr_33 _ (List.mem_of_getElem? (i := 22) rfl)
theorem mw_791 : (Cond.methodLink RX10 270 yX10_itemOf : Cond) ∈ wsL_law := pr_33 _ (List.mem_of_getElem? (i := 23) rfl)
theorem mw_792 : (Cond.instanceMethod yX10_itemOf : Cond) ∈ wsL_law := pr_34 _ (List.mem_of_getElem? (i := 0) rfl)
theorem mw_793 : (Cond.selects RX10 yX10_itemOf yX10_itemOf : Cond) ∈ wsL_law := pr_34 _ (List.mem_of_getElem? (i := 1) rfl)
theorem mw_794 : (Cond.code yX10_itemOf cX10_itemOf 3 (some .int) : Cond) ∈ wsL_law := pr_34 _ (List.mem_of_getElem? (i := 2) rfl)
theorem mw_795 : (Cond.methodLink RL 99 yX9_film : Cond) ∈ wsL_law := pr_34 _ (List.mem_of_getElem? (i := 3) rfl)
theorem mw_796 : (Cond.instanceMethod yX9_film : Cond) ∈ wsL_law := pr_34 _ (List.mem_of_getElem? (i := 4) rfl)
theorem mw_797 : (Cond.selects RX9 yX9_film yX9_film : Cond) ∈ wsL_law := pr_34 _ (List.mem_of_getElem? (i := 5) rfl)
theorem mw_798 : (Cond.code yX9_film cX9_film 3 (some .int) : Cond) ∈ wsL_law := pr_34 _ (List.mem_of_getElem? (i := 6) rfl)
theorem mw_799 : (Cond.methodLink RX9 256 yX7_takeOver : Cond) ∈ wsL_law := pr_34 _ (List.mem_of_getElem? (i := 7) rfl)
theorem mw_800 : (Cond.instanceMethod yX7_takeOver : Cond) ∈ wsL_law := pr_34 _ (List.mem_of_getElem? (i := 8) rfl)
theorem mw_801 : (Cond.selects RX7 yX7_takeOver yX7_takeOver : Cond) ∈ wsL_law := pr_34 _ (List.mem_of_getElem? (i := 9) rfl)
theorem mw_802 : (Cond.code yX7_takeOver cX7_takeOver 3 none : Cond) ∈ wsL_law := pr_34 _ (List.mem_of_getElem? (i := 10) rfl)
theorem mw_803 : (Cond.methodLink RX7 26 arraycopyName : Cond) ∈ wsL_law := pr_34 _ (List.mem_of_getElem? (i := 11) rfl)
theorem mw_804 : (Cond.methodLink RX7 22 yX7_become : Cond) ∈ wsL_law := pr_34 _ (List.mem_of_getElem? (i := 12) rfl)
theorem mw_805 : (Cond.instanceMethod yX7_become : Cond) ∈ wsL_law := pr_34 _ (List.mem_of_getElem? (i := 13) rfl)
theorem mw_806 : (Cond.selects RX7 yX7_become yX7_become : Cond) ∈ wsL_law := pr_34 _ (List.mem_of_getElem? (i := 14) rfl)
theorem mw_807 : (Cond.code yX7_become cX7_become 4 none : Cond) ∈ wsL_law := pr_34 _ (List.mem_of_getElem? (i := 15) rfl)
theorem mw_808 : (Cond.methodLink RL 102 yX10_film : Cond) ∈ wsL_law := pr_34 _ (List.mem_of_getElem? (i := 16) rfl)
theorem mw_809 : (Cond.instanceMethod yX10_film : Cond) ∈ wsL_law := pr_34 _ (List.mem_of_getElem? (i := 17) rfl)
theorem mw_810 : (Cond.selects RX10 yX10_film yX10_film : Cond) ∈ wsL_law := pr_34 _ (List.mem_of_getElem? (i := 18) rfl)
theorem mw_811 : (Cond.code yX10_film cX10_film 6 (some .int) : Cond) ∈ wsL_law := pr_34 _ (List.mem_of_getElem? (i := 19) rfl)
theorem mw_812 : (Cond.methodLink RX10 279 yX10_sheet : Cond) ∈ wsL_law := pr_34 _ (List.mem_of_getElem? (i := 20) rfl)
theorem mw_813 : (Cond.instanceMethod yX10_sheet : Cond) ∈ wsL_law := pr_34 _ (List.mem_of_getElem? (i := 21) rfl)
theorem mw_814 : (Cond.selects RX10 yX10_sheet yX10_sheet : Cond) ∈ wsL_law := pr_34 _ (List.mem_of_getElem? (i := 22) rfl)
theorem mw_815 : (Cond.code yX10_sheet cX10_sheet 5 (some .int) : Cond) ∈ wsL_law := pr_34 _ (List.mem_of_getElem? (i := 23) rfl)
theorem mw_816 : (Cond.constantLong RX10 293 (-1) : Cond) ∈ wsL_law := pr_35 _ (List.mem_of_getElem? (i := 0) rfl)
theorem mw_817 : (Cond.methodLink RL 103 yX9_image : Cond) ∈ wsL_law := pr_35 _ (List.mem_of_getElem? (i := 1) rfl)
theorem mw_818 : (Cond.instanceMethod yX9_image : Cond) ∈ wsL_law := pr_35 _ (List.mem_of_getElem? (i := 2) rfl)
theorem mw_819 : (Cond.selects RX9 yX9_image yX9_image : Cond) ∈ wsL_law := pr_35 _ (List.mem_of_getElem? (i := 3) rfl)
theorem mw_820 : (Cond.code yX9_image cX9_image 1 (some .int) : Cond) ∈ wsL_law := pr_35 _ (List.mem_of_getElem? (i := 4) rfl)
theorem mw_821 : (Cond.methodLink RX9 259 yX1_becomeAs : Cond) ∈ wsL_law := pr_35 _ (List.mem_of_getElem? (i := 5) rfl)
theorem mw_822 : (Cond.instanceMethod yX1_becomeAs : Cond) ∈ wsL_law := pr_35 _ (List.mem_of_getElem? (i := 6) rfl)
theorem mw_823 : (Cond.selects RX1 yX1_becomeAs yX1_becomeAs : Cond) ∈ wsL_law := pr_35 _ (List.mem_of_getElem? (i := 7) rfl)
theorem mw_824 : (Cond.code yX1_becomeAs cX1_becomeAs 2 none : Cond) ∈ wsL_law := pr_35 _ (List.mem_of_getElem? (i := 8) rfl)
theorem mw_825 : (Cond.methodLink RX1 19 arraycopyName : Cond) ∈ wsL_law := pr_35 _ (List.mem_of_getElem? (i := 9) rfl)
theorem mw_826 : (Cond.methodLink RL 106 yX10_image : Cond) ∈ wsL_law := pr_35 _ (List.mem_of_getElem? (i := 10) rfl)
theorem mw_827 : (Cond.instanceMethod yX10_image : Cond) ∈ wsL_law := pr_35 _ (List.mem_of_getElem? (i := 11) rfl)
theorem mw_828 : (Cond.selects RX10 yX10_image yX10_image : Cond) ∈ wsL_law := pr_35 _ (List.mem_of_getElem? (i := 12) rfl)
theorem mw_829 : (Cond.code yX10_image cX10_image 1 (some .int) : Cond) ∈ wsL_law := pr_35 _ (List.mem_of_getElem? (i := 13) rfl)
theorem mw_830 : (Cond.fieldLink RX10 283 "ClearingGatesModel" "imagePrograms" "I" : Cond) ∈ wsL_law := pr_35 _ (List.mem_of_getElem? (i := 14) rfl)
theorem mw_831 : (Cond.fieldLink RX10 286 "ClearingGatesModel" "imageFees" "J" : Cond) ∈ wsL_law := pr_35 _ (List.mem_of_getElem? (i := 15) rfl)
theorem mw_832 : (Cond.fieldLink RX10 289 "ClearingGatesModel" "hasImage" "Z" : Cond) ∈ wsL_law := pr_35 _ (List.mem_of_getElem? (i := 16) rfl)
theorem mw_833 : (Cond.methodLink RL 107 yX9_back : Cond) ∈ wsL_law := pr_35 _ (List.mem_of_getElem? (i := 17) rfl)
theorem mw_834 : (Cond.instanceMethod yX9_back : Cond) ∈ wsL_law := pr_35 _ (List.mem_of_getElem? (i := 18) rfl)
theorem mw_835 : (Cond.selects RX9 yX9_back yX9_back : Cond) ∈ wsL_law := pr_35 _ (List.mem_of_getElem? (i := 19) rfl)
theorem mw_836 : (Cond.code yX9_back cX9_back 1 (some .int) : Cond) ∈ wsL_law := pr_35 _ (List.mem_of_getElem? (i := 20) rfl)
theorem mw_837 : (Cond.methodLink RL 110 yX10_back : Cond) ∈ wsL_law := pr_35 _ (List.mem_of_getElem? (i := 21) rfl)
theorem mw_838 : (Cond.instanceMethod yX10_back : Cond) ∈ wsL_law := pr_35 _ (List.mem_of_getElem? (i := 22) rfl)
theorem mw_839 : (Cond.selects RX10 yX10_back yX10_back : Cond) ∈ wsL_law := pr_35 _ (List.mem_of_getElem? (i := 23) rfl)
theorem mw_840 : (Cond.code yX10_back cX10_back 1 (some .int) : Cond) ∈ wsL_law := pr_36 _ (List.mem_of_getElem? (i := 0) rfl)
theorem mw_841 : (Cond.methodLink RL 111 yX9_sheet : Cond) ∈ wsL_law := pr_36 _ (List.mem_of_getElem? (i := 1) rfl)
theorem mw_842 : (Cond.instanceMethod yX9_sheet : Cond) ∈ wsL_law := pr_36 _ (List.mem_of_getElem? (i := 2) rfl)
theorem mw_843 : (Cond.selects RX9 yX9_sheet yX9_sheet : Cond) ∈ wsL_law := pr_36 _ (List.mem_of_getElem? (i := 3) rfl)
theorem mw_844 : (Cond.code yX9_sheet cX9_sheet 4 (some .int) : Cond) ∈ wsL_law := pr_36 _ (List.mem_of_getElem? (i := 4) rfl)
theorem mw_845 : (Cond.methodLink RX9 261 yX7_become : Cond) ∈ wsL_law := pr_36 _ (List.mem_of_getElem? (i := 5) rfl)
theorem mw_846 : (Cond.methodLink RL 114 yX10_sheet : Cond) ∈ wsL_law := pr_36 _ (List.mem_of_getElem? (i := 6) rfl)
theorem mw_847 : (Cond.methodLink RL 115 yX9_put : Cond) ∈ wsL_law := pr_36 _ (List.mem_of_getElem? (i := 7) rfl)
theorem mw_848 : (Cond.instanceMethod yX9_put : Cond) ∈ wsL_law := pr_36 _ (List.mem_of_getElem? (i := 8) rfl)
theorem mw_849 : (Cond.selects RX9 yX9_put yX9_put : Cond) ∈ wsL_law := pr_36 _ (List.mem_of_getElem? (i := 9) rfl)
theorem mw_850 : (Cond.code yX9_put cX9_put 5 (some .int) : Cond) ∈ wsL_law := pr_36 _ (List.mem_of_getElem? (i := 10) rfl)
theorem mw_851 : (Cond.methodLink RX9 264 yX7_hasPlace : Cond) ∈ wsL_law := pr_36 _ (List.mem_of_getElem? (i := 11) rfl)
theorem mw_852 : (Cond.instanceMethod yX7_hasPlace : Cond) ∈ wsL_law := pr_36 _ (List.mem_of_getElem? (i := 12) rfl)
theorem mw_853 : (Cond.selects RX7 yX7_hasPlace yX7_hasPlace : Cond) ∈ wsL_law := pr_36 _ (List.mem_of_getElem? (i := 13) rfl)
theorem mw_854 : (Cond.code yX7_hasPlace cX7_hasPlace 2 (some .boolean) : Cond) ∈ wsL_law := pr_36 _ (List.mem_of_getElem? (i := 14) rfl)
theorem mw_855 : (Cond.methodLink RX9 267 yX7_write : Cond) ∈ wsL_law := pr_36 _ (List.mem_of_getElem? (i := 15) rfl)
theorem mw_856 : (Cond.instanceMethod yX7_write : Cond) ∈ wsL_law := pr_36 _ (List.mem_of_getElem? (i := 16) rfl)
theorem mw_857 : (Cond.selects RX7 yX7_write yX7_write : Cond) ∈ wsL_law := pr_36 _ (List.mem_of_getElem? (i := 17) rfl)
theorem mw_858 : (Cond.code yX7_write cX7_write 3 none : Cond) ∈ wsL_law := pr_36 _ (List.mem_of_getElem? (i := 18) rfl)
theorem mw_859 : (Cond.methodLink RL 118 yX10_put : Cond) ∈ wsL_law := pr_36 _ (List.mem_of_getElem? (i := 19) rfl)
theorem mw_860 : (Cond.instanceMethod yX10_put : Cond) ∈ wsL_law := pr_36 _ (List.mem_of_getElem? (i := 20) rfl)
theorem mw_861 : (Cond.selects RX10 yX10_put yX10_put : Cond) ∈ wsL_law := pr_36 _ (List.mem_of_getElem? (i := 21) rfl)
theorem mw_862 : (Cond.code yX10_put cX10_put 4 (some .int) : Cond) ∈ wsL_law := pr_36 _ (List.mem_of_getElem? (i := 22) rfl)
theorem mw_863 : (Cond.methodLink RL 119 yX9_copy : Cond) ∈ wsL_law := pr_36 _ (List.mem_of_getElem? (i := 23) rfl)
theorem mw_864 : (Cond.instanceMethod yX9_copy : Cond) ∈ wsL_law := pr_37 _ (List.mem_of_getElem? (i := 0) rfl)
theorem mw_865 : (Cond.selects RX9 yX9_copy yX9_copy : Cond) ∈ wsL_law := pr_37 _ (List.mem_of_getElem? (i := 1) rfl)
theorem mw_866 : (Cond.code yX9_copy cX9_copy 8 (some .int) : Cond) ∈ wsL_law := pr_37 _ (List.mem_of_getElem? (i := 2) rfl)
theorem mw_867 : (Cond.fieldLink RX9 270 "ClearingGates$Sheet" "sort" "I" : Cond) ∈ wsL_law := pr_37 _ (List.mem_of_getElem? (i := 3) rfl)
theorem mw_868 : (Cond.fieldLink RX9 276 "ClearingGates$Sheet" "items" "[I" : Cond) ∈ wsL_law := pr_37 _ (List.mem_of_getElem? (i := 4) rfl)
theorem mw_869 : (Cond.methodLink RX9 279 arraycopyName : Cond) ∈ wsL_law := pr_37 _ (List.mem_of_getElem? (i := 5) rfl)
theorem mw_870 : (Cond.methodLink RX9 273 yX7_hasStretch : Cond) ∈ wsL_law := pr_37 _ (List.mem_of_getElem? (i := 6) rfl)
theorem mw_871 : (Cond.instanceMethod yX7_hasStretch : Cond) ∈ wsL_law := pr_37 _ (List.mem_of_getElem? (i := 7) rfl)
theorem mw_872 : (Cond.selects RX7 yX7_hasStretch yX7_hasStretch : Cond) ∈ wsL_law := pr_37 _ (List.mem_of_getElem? (i := 8) rfl)
theorem mw_873 : (Cond.code yX7_hasStretch cX7_hasStretch 3 (some .boolean) : Cond) ∈ wsL_law := pr_37 _ (List.mem_of_getElem? (i := 9) rfl)
theorem mw_874 : (Cond.methodLink RL 123 yX10_copy : Cond) ∈ wsL_law := pr_37 _ (List.mem_of_getElem? (i := 10) rfl)
theorem mw_875 : (Cond.instanceMethod yX10_copy : Cond) ∈ wsL_law := pr_37 _ (List.mem_of_getElem? (i := 11) rfl)
theorem mw_876 : (Cond.selects RX10 yX10_copy yX10_copy : Cond) ∈ wsL_law := pr_37 _ (List.mem_of_getElem? (i := 12) rfl)
theorem mw_877 : (Cond.code yX10_copy cX10_copy 6 (some .int) : Cond) ∈ wsL_law := pr_37 _ (List.mem_of_getElem? (i := 13) rfl)
theorem mw_878 : (Cond.methodLink RL 124 yX9_load : Cond) ∈ wsL_law := pr_37 _ (List.mem_of_getElem? (i := 14) rfl)
theorem mw_879 : (Cond.instanceMethod yX9_load : Cond) ∈ wsL_law := pr_37 _ (List.mem_of_getElem? (i := 15) rfl)
theorem mw_880 : (Cond.selects RX9 yX9_load yX9_load : Cond) ∈ wsL_law := pr_37 _ (List.mem_of_getElem? (i := 16) rfl)
theorem mw_881 : (Cond.code yX9_load cX9_load 9 (some .int) : Cond) ∈ wsL_law := pr_37 _ (List.mem_of_getElem? (i := 17) rfl)
theorem mw_882 : (Cond.methodLink RX9 285 yX9_owe : Cond) ∈ wsL_law := pr_37 _ (List.mem_of_getElem? (i := 18) rfl)
theorem mw_883 : (Cond.methodLink RL 127 yX10_load : Cond) ∈ wsL_law := pr_37 _ (List.mem_of_getElem? (i := 19) rfl)
theorem mw_884 : (Cond.instanceMethod yX10_load : Cond) ∈ wsL_law := pr_37 _ (List.mem_of_getElem? (i := 20) rfl)
theorem mw_885 : (Cond.selects RX10 yX10_load yX10_load : Cond) ∈ wsL_law := pr_37 _ (List.mem_of_getElem? (i := 21) rfl)
theorem mw_886 : (Cond.code yX10_load cX10_load 10 (some .int) : Cond) ∈ wsL_law := pr_37 _ (List.mem_of_getElem? (i := 22) rfl)
theorem mw_887 : (Cond.constantLong RX10 295 (20) : Cond) ∈ wsL_law := pr_37 _ (List.mem_of_getElem? (i := 23) rfl)
theorem mw_888 : (Cond.methodLink RX10 297 yX10_owe : Cond) ∈ wsL_law := pr_38 _ (List.mem_of_getElem? (i := 0) rfl)
theorem inlX0 : ∀ w ∈ wsX00, w ∈ wsL_law := fun _ h => List.mem_append_left _ (List.mem_append_left _ (List.mem_append_left _ (List.mem_append_left _ (List.mem_append_left _ (List.mem_append_left _ (List.mem_append_left _ (List.mem_append_left _ (List.mem_append_right _ h))))))))
theorem inX0 : ∀ w ∈ wsX00, w ∈ lw_tbl := fun w h => wsL_law_in w (inlX0 w h)
theorem inlX1 : ∀ w ∈ wsX10, w ∈ wsL_law := fun _ h => List.mem_append_left _ (List.mem_append_left _ (List.mem_append_left _ (List.mem_append_left _ (List.mem_append_left _ (List.mem_append_left _ (List.mem_append_left _ (List.mem_append_right _ h)))))))
theorem inX1 : ∀ w ∈ wsX10, w ∈ lw_tbl := fun w h => wsL_law_in w (inlX1 w h)
theorem inX2 : ∀ w ∈ wsX20, w ∈ lw_tbl := by decide +kernel
theorem inlX3 : ∀ w ∈ wsX30, w ∈ wsL_law := fun _ h => List.mem_append_left _ (List.mem_append_left _ (List.mem_append_left _ (List.mem_append_left _ (List.mem_append_left _ (List.mem_append_right _ h)))))
theorem inX3 : ∀ w ∈ wsX30, w ∈ lw_tbl := fun w h => wsL_law_in w (inlX3 w h)
theorem inlX4 : ∀ w ∈ wsX40, w ∈ wsL_law := fun _ h => List.mem_append_left _ (List.mem_append_left _ (List.mem_append_left _ (List.mem_append_right _ h)))
theorem inX4 : ∀ w ∈ wsX40, w ∈ lw_tbl := fun w h => wsL_law_in w (inlX4 w h)
theorem inlX5 : ∀ w ∈ wsX50, w ∈ wsL_law := fun _ h => List.mem_append_left _ (List.mem_append_left _ (List.mem_append_left _ (List.mem_append_left _ (List.mem_append_left _ (List.mem_append_left _ (List.mem_append_right _ h))))))
theorem inX5 : ∀ w ∈ wsX50, w ∈ lw_tbl := fun w h => wsL_law_in w (inlX5 w h)
theorem inlX6 : ∀ w ∈ wsX60, w ∈ wsL_law := fun _ h => List.mem_append_left _ (List.mem_append_left _ (List.mem_append_right _ h))
theorem inX6 : ∀ w ∈ wsX60, w ∈ lw_tbl := fun w h => wsL_law_in w (inlX6 w h)
theorem inlX7 : ∀ w ∈ wsX70, w ∈ wsL_law := fun _ h => List.mem_append_left _ (List.mem_append_right _ h)
theorem inX7 : ∀ w ∈ wsX70, w ∈ lw_tbl := fun w h => wsL_law_in w (inlX7 w h)
theorem inlX8 : ∀ w ∈ wsX80, w ∈ wsL_law := fun _ h => List.mem_append_left _ (List.mem_append_left _ (List.mem_append_left _ (List.mem_append_left _ (List.mem_append_right _ h))))
theorem inX8 : ∀ w ∈ wsX80, w ∈ lw_tbl := fun w h => wsL_law_in w (inlX8 w h)
theorem inlX9 : ∀ w ∈ wsX90, w ∈ wsL_law := fun _ h => List.mem_append_left _ (List.mem_append_left _ (List.mem_append_left _ (List.mem_append_left _ (List.mem_append_left _ (List.mem_append_left _ (List.mem_append_left _ (List.mem_append_left _ (List.mem_append_left _ (List.mem_append_left _ (List.mem_append_right _ h))))))))))
theorem inX9 : ∀ w ∈ wsX90, w ∈ lw_tbl := fun w h => wsL_law_in w (inlX9 w h)
theorem inlX10 : ∀ w ∈ wsX100, w ∈ wsL_law := fun _ h => List.mem_append_left _ (List.mem_append_left _ (List.mem_append_left _ (List.mem_append_left _ (List.mem_append_left _ (List.mem_append_left _ (List.mem_append_left _ (List.mem_append_left _ (List.mem_append_left _ (List.mem_append_right _ h)))))))))
theorem inX10 : ∀ w ∈ wsX100, w ∈ lw_tbl := fun w h => wsL_law_in w (inlX10 w h)
theorem inJ9 : ∀ w ∈ wsJ90, w ∈ lw_tbl := by decide +kernel
theorem inJ10 : ∀ w ∈ wsJ100, w ∈ lw_tbl := by decide +kernel
theorem gr_1 : ∀ w ∈ wsL_law_r1, (w.onTables && w.keeps) = true ∨ ∃ ty, w = .arrayClass ty := fun w h => good_of_word (List.all_eq_true.mp (show wsL_law_r1.all goodWord = true by decide +kernel) w h)
theorem gr_2 : ∀ w ∈ wsL_law_r2, (w.onTables && w.keeps) = true ∨ ∃ ty, w = .arrayClass ty := fun w h => good_of_word (List.all_eq_true.mp (show wsL_law_r2.all goodWord = true by decide +kernel) w h)
theorem gr_3 : ∀ w ∈ wsL_law_r3, (w.onTables && w.keeps) = true ∨ ∃ ty, w = .arrayClass ty := fun w h => good_of_word (List.all_eq_true.mp (show wsL_law_r3.all goodWord = true by decide +kernel) w h)
theorem gr_4 : ∀ w ∈ wsL_law_r4, (w.onTables && w.keeps) = true ∨ ∃ ty, w = .arrayClass ty := fun w h => good_of_word (List.all_eq_true.mp (show wsL_law_r4.all goodWord = true by decide +kernel) w h)
theorem gr_5 : ∀ w ∈ wsL_law_r5, (w.onTables && w.keeps) = true ∨ ∃ ty, w = .arrayClass ty := fun w h => good_of_word (List.all_eq_true.mp (show wsL_law_r5.all goodWord = true by decide +kernel) w h)
theorem gr_6 : ∀ w ∈ wsL_law_r6, (w.onTables && w.keeps) = true ∨ ∃ ty, w = .arrayClass ty := fun w h => good_of_word (List.all_eq_true.mp (show wsL_law_r6.all goodWord = true by decide +kernel) w h)
theorem gr_7 : ∀ w ∈ wsL_law_r7, (w.onTables && w.keeps) = true ∨ ∃ ty, w = .arrayClass ty := fun w h => good_of_word (List.all_eq_true.mp (show wsL_law_r7.all goodWord = true by decide +kernel) w h)
theorem gr_8 : ∀ w ∈ wsL_law_r8, (w.onTables && w.keeps) = true ∨ ∃ ty, w = .arrayClass ty := fun w h => good_of_word (List.all_eq_true.mp (show wsL_law_r8.all goodWord = true by decide +kernel) w h)
theorem gr_9 : ∀ w ∈ wsL_law_r9, (w.onTables && w.keeps) = true ∨ ∃ ty, w = .arrayClass ty := fun w h => good_of_word (List.all_eq_true.mp (show wsL_law_r9.all goodWord = true by decide +kernel) w h)
theorem gr_10 : ∀ w ∈ wsL_law_r10, (w.onTables && w.keeps) = true ∨ ∃ ty, w = .arrayClass ty := fun w h => good_of_word (List.all_eq_true.mp (show wsL_law_r10.all goodWord = true by decide +kernel) w h)
theorem gr_11 : ∀ w ∈ wsL_law_r11, (w.onTables && w.keeps) = true ∨ ∃ ty, w = .arrayClass ty := fun w h => good_of_word (List.all_eq_true.mp (show wsL_law_r11.all goodWord = true by decide +kernel) w h)
theorem gr_12 : ∀ w ∈ wsL_law_r12, (w.onTables && w.keeps) = true ∨ ∃ ty, w = .arrayClass ty := fun w h => good_of_word (List.all_eq_true.mp (show wsL_law_r12.all goodWord = true by decide +kernel) w h)
theorem gr_13 : ∀ w ∈ wsL_law_r13, (w.onTables && w.keeps) = true ∨ ∃ ty, w = .arrayClass ty := fun w h => good_of_word (List.all_eq_true.mp (show wsL_law_r13.all goodWord = true by decide +kernel) w h)
theorem gr_14 : ∀ w ∈ wsL_law_r14, (w.onTables && w.keeps) = true ∨ ∃ ty, w = .arrayClass ty := fun w h => good_of_word (List.all_eq_true.mp (show wsL_law_r14.all goodWord = true by decide +kernel) w h)
theorem gr_15 : ∀ w ∈ wsL_law_r15, (w.onTables && w.keeps) = true ∨ ∃ ty, w = .arrayClass ty := fun w h => good_of_word (List.all_eq_true.mp (show wsL_law_r15.all goodWord = true by decide +kernel) w h)
theorem gr_16 : ∀ w ∈ wsL_law_r16, (w.onTables && w.keeps) = true ∨ ∃ ty, w = .arrayClass ty := fun w h => good_of_word (List.all_eq_true.mp (show wsL_law_r16.all goodWord = true by decide +kernel) w h)
theorem gr_17 : ∀ w ∈ wsL_law_r17, (w.onTables && w.keeps) = true ∨ ∃ ty, w = .arrayClass ty := fun w h => good_of_word (List.all_eq_true.mp (show wsL_law_r17.all goodWord = true by decide +kernel) w h)
theorem gr_18 : ∀ w ∈ wsL_law_r18, (w.onTables && w.keeps) = true ∨ ∃ ty, w = .arrayClass ty := fun w h => good_of_word (List.all_eq_true.mp (show wsL_law_r18.all goodWord = true by decide +kernel) w h)
theorem gr_19 : ∀ w ∈ wsL_law_r19, (w.onTables && w.keeps) = true ∨ ∃ ty, w = .arrayClass ty := fun w h => good_of_word (List.all_eq_true.mp (show wsL_law_r19.all goodWord = true by decide +kernel) w h)
theorem gr_20 : ∀ w ∈ wsL_law_r20, (w.onTables && w.keeps) = true ∨ ∃ ty, w = .arrayClass ty := fun w h => good_of_word (List.all_eq_true.mp (show wsL_law_r20.all goodWord = true by decide +kernel) w h)
theorem gr_21 : ∀ w ∈ wsL_law_r21, (w.onTables && w.keeps) = true ∨ ∃ ty, w = .arrayClass ty := fun w h => good_of_word (List.all_eq_true.mp (show wsL_law_r21.all goodWord = true by decide +kernel) w h)
theorem gr_22 : ∀ w ∈ wsL_law_r22, (w.onTables && w.keeps) = true ∨ ∃ ty, w = .arrayClass ty := fun w h => good_of_word (List.all_eq_true.mp (show wsL_law_r22.all goodWord = true by decide +kernel) w h)
theorem gr_23 : ∀ w ∈ wsL_law_r23, (w.onTables && w.keeps) = true ∨ ∃ ty, w = .arrayClass ty := fun w h => good_of_word (List.all_eq_true.mp (show wsL_law_r23.all goodWord = true by decide +kernel) w h)
theorem gr_24 : ∀ w ∈ wsL_law_r24, (w.onTables && w.keeps) = true ∨ ∃ ty, w = .arrayClass ty := fun w h => good_of_word (List.all_eq_true.mp (show wsL_law_r24.all goodWord = true by decide +kernel) w h)
theorem gr_25 : ∀ w ∈ wsL_law_r25, (w.onTables && w.keeps) = true ∨ ∃ ty, w = .arrayClass ty := fun w h => good_of_word (List.all_eq_true.mp (show wsL_law_r25.all goodWord = true by decide +kernel) w h)
theorem gr_26 : ∀ w ∈ wsL_law_r26, (w.onTables && w.keeps) = true ∨ ∃ ty, w = .arrayClass ty := fun w h => good_of_word (List.all_eq_true.mp (show wsL_law_r26.all goodWord = true by decide +kernel) w h)
theorem gr_27 : ∀ w ∈ wsL_law_r27, (w.onTables && w.keeps) = true ∨ ∃ ty, w = .arrayClass ty := fun w h => good_of_word (List.all_eq_true.mp (show wsL_law_r27.all goodWord = true by decide +kernel) w h)
theorem gr_28 : ∀ w ∈ wsL_law_r28, (w.onTables && w.keeps) = true ∨ ∃ ty, w = .arrayClass ty := fun w h => good_of_word (List.all_eq_true.mp (show wsL_law_r28.all goodWord = true by decide +kernel) w h)
theorem gr_29 : ∀ w ∈ wsL_law_r29, (w.onTables && w.keeps) = true ∨ ∃ ty, w = .arrayClass ty := fun w h => good_of_word (List.all_eq_true.mp (show wsL_law_r29.all goodWord = true by decide +kernel) w h)
theorem gr_30 : ∀ w ∈ wsL_law_r30, (w.onTables && w.keeps) = true ∨ ∃ ty, w = .arrayClass ty := fun w h => good_of_word (List.all_eq_true.mp (show wsL_law_r30.all goodWord = true by decide +kernel) w h)
theorem gr_31 : ∀ w ∈ wsL_law_r31, (w.onTables && w.keeps) = true ∨ ∃ ty, w = .arrayClass ty := fun w h => good_of_word (List.all_eq_true.mp (show wsL_law_r31.all goodWord = true by decide +kernel) w h)
theorem gr_32 : ∀ w ∈ wsL_law_r32, (w.onTables && w.keeps) = true ∨ ∃ ty, w = .arrayClass ty := fun w h => good_of_word (List.all_eq_true.mp (show wsL_law_r32.all goodWord = true by decide +kernel) w h)
theorem gr_33 : ∀ w ∈ wsL_law_r33, (w.onTables && w.keeps) = true ∨ ∃ ty, w = .arrayClass ty := fun w h => good_of_word (List.all_eq_true.mp (show wsL_law_r33.all goodWord = true by decide +kernel) w h)
theorem gr_34 : ∀ w ∈ wsL_law_r34, (w.onTables && w.keeps) = true ∨ ∃ ty, w = .arrayClass ty := fun w h => good_of_word (List.all_eq_true.mp (show wsL_law_r34.all goodWord = true by decide +kernel) w h)
theorem gr_35 : ∀ w ∈ wsL_law_r35, (w.onTables && w.keeps) = true ∨ ∃ ty, w = .arrayClass ty := fun w h => good_of_word (List.all_eq_true.mp (show wsL_law_r35.all goodWord = true by decide +kernel) w h)
theorem gr_36 : ∀ w ∈ wsL_law_r36, (w.onTables && w.keeps) = true ∨ ∃ ty, w = .arrayClass ty := fun w h => good_of_word (List.all_eq_true.mp (show wsL_law_r36.all goodWord = true by decide +kernel) w h)
theorem gr_37 : ∀ w ∈ wsL_law_r37, (w.onTables && w.keeps) = true ∨ ∃ ty, w = .arrayClass ty := fun w h => good_of_word (List.all_eq_true.mp (show wsL_law_r37.all goodWord = true by decide +kernel) w h)
theorem gr_38 : ∀ w ∈ wsL_law_r38, (w.onTables && w.keeps) = true ∨ ∃ ty, w = .arrayClass ty := fun w h => good_of_word (List.all_eq_true.mp (show wsL_law_r38.all goodWord = true by decide +kernel) w h)
theorem gr_wsX90 : ∀ w ∈ wsX90, (w.onTables && w.keeps) = true ∨ ∃ ty, w = .arrayClass ty := fun w h => good_of_word (List.all_eq_true.mp (show wsX90.all goodWord = true by decide +kernel) w h)
theorem gr_wsX100 : ∀ w ∈ wsX100, (w.onTables && w.keeps) = true ∨ ∃ ty, w = .arrayClass ty := fun w h => good_of_word (List.all_eq_true.mp (show wsX100.all goodWord = true by decide +kernel) w h)
theorem gr_wsX00 : ∀ w ∈ wsX00, (w.onTables && w.keeps) = true ∨ ∃ ty, w = .arrayClass ty := fun w h => good_of_word (List.all_eq_true.mp (show wsX00.all goodWord = true by decide +kernel) w h)
theorem gr_wsX10 : ∀ w ∈ wsX10, (w.onTables && w.keeps) = true ∨ ∃ ty, w = .arrayClass ty := fun w h => good_of_word (List.all_eq_true.mp (show wsX10.all goodWord = true by decide +kernel) w h)
theorem gr_wsX50 : ∀ w ∈ wsX50, (w.onTables && w.keeps) = true ∨ ∃ ty, w = .arrayClass ty := fun w h => good_of_word (List.all_eq_true.mp (show wsX50.all goodWord = true by decide +kernel) w h)
theorem gr_wsX30 : ∀ w ∈ wsX30, (w.onTables && w.keeps) = true ∨ ∃ ty, w = .arrayClass ty := fun w h => good_of_word (List.all_eq_true.mp (show wsX30.all goodWord = true by decide +kernel) w h)
theorem gr_wsX80 : ∀ w ∈ wsX80, (w.onTables && w.keeps) = true ∨ ∃ ty, w = .arrayClass ty := fun w h => good_of_word (List.all_eq_true.mp (show wsX80.all goodWord = true by decide +kernel) w h)
theorem gr_wsX40 : ∀ w ∈ wsX40, (w.onTables && w.keeps) = true ∨ ∃ ty, w = .arrayClass ty := fun w h => good_of_word (List.all_eq_true.mp (show wsX40.all goodWord = true by decide +kernel) w h)
theorem gr_wsX60 : ∀ w ∈ wsX60, (w.onTables && w.keeps) = true ∨ ∃ ty, w = .arrayClass ty := fun w h => good_of_word (List.all_eq_true.mp (show wsX60.all goodWord = true by decide +kernel) w h)
theorem gr_wsX70 : ∀ w ∈ wsX70, (w.onTables && w.keeps) = true ∨ ∃ ty, w = .arrayClass ty := fun w h => good_of_word (List.all_eq_true.mp (show wsX70.all goodWord = true by decide +kernel) w h)
theorem gr_all : ∀ w ∈ wsL_law, (w.onTables && w.keeps) = true ∨ ∃ ty, w = .arrayClass ty := by
  unfold wsL_law
  exact List.forall_mem_append.mpr ⟨List.forall_mem_append.mpr ⟨List.forall_mem_append.mpr ⟨List.forall_mem_append.mpr ⟨List.forall_mem_append.mpr ⟨List.forall_mem_append.mpr ⟨List.forall_mem_append.mpr ⟨List.forall_mem_append.mpr ⟨List.forall_mem_append.mpr ⟨List.forall_mem_append.mpr ⟨List.forall_mem_append.mpr ⟨List.forall_mem_append.mpr ⟨gr_1, List.forall_mem_append.mpr ⟨gr_2, List.forall_mem_append.mpr ⟨gr_3, List.forall_mem_append.mpr ⟨gr_4, List.forall_mem_append.mpr ⟨gr_5, List.forall_mem_append.mpr ⟨gr_6, List.forall_mem_append.mpr ⟨gr_7, List.forall_mem_append.mpr ⟨gr_8, List.forall_mem_append.mpr ⟨gr_9, List.forall_mem_append.mpr ⟨gr_10, List.forall_mem_append.mpr ⟨gr_11, List.forall_mem_append.mpr ⟨gr_12, List.forall_mem_append.mpr ⟨gr_13, List.forall_mem_append.mpr ⟨gr_14, List.forall_mem_append.mpr ⟨gr_15, List.forall_mem_append.mpr ⟨gr_16, List.forall_mem_append.mpr ⟨gr_17, List.forall_mem_append.mpr ⟨gr_18, List.forall_mem_append.mpr ⟨gr_19, List.forall_mem_append.mpr ⟨gr_20, List.forall_mem_append.mpr ⟨gr_21, List.forall_mem_append.mpr ⟨gr_22, List.forall_mem_append.mpr ⟨gr_23, List.forall_mem_append.mpr ⟨gr_24, List.forall_mem_append.mpr ⟨gr_25, List.forall_mem_append.mpr ⟨gr_26, List.forall_mem_append.mpr ⟨gr_27, List.forall_mem_append.mpr ⟨gr_28, List.forall_mem_append.mpr ⟨gr_29, List.forall_mem_append.mpr ⟨gr_30, List.forall_mem_append.mpr ⟨gr_31, List.forall_mem_append.mpr ⟨gr_32, List.forall_mem_append.mpr ⟨gr_33, List.forall_mem_append.mpr ⟨gr_34, List.forall_mem_append.mpr ⟨gr_35, List.forall_mem_append.mpr ⟨gr_36, List.forall_mem_append.mpr ⟨gr_37, gr_38⟩⟩⟩⟩⟩⟩⟩⟩⟩⟩⟩⟩⟩⟩⟩⟩⟩⟩⟩⟩⟩⟩⟩⟩⟩⟩⟩⟩⟩⟩⟩⟩⟩⟩⟩⟩⟩, gr_wsX90⟩, gr_wsX100⟩, gr_wsX00⟩, gr_wsX10⟩, gr_wsX50⟩, gr_wsX30⟩, gr_wsX80⟩, gr_wsX40⟩, gr_wsX60⟩, gr_wsX70⟩, fun _ h => absurd h List.not_mem_nil⟩
theorem g_of {a : Cond} {l : List Cond} (h : ∀ w ∈ l, w ∈ wsL_law) : GoodIn (a :: wsL_law) l := fun w q => ⟨List.mem_cons_of_mem _ (h w q), gr_all w (h w q)⟩
theorem g_oL {l : List Cond} (h : ∀ w ∈ l, w ∈ wsL_law) : GoodIn wsL_law l := fun w q => ⟨h w q, gr_all w (h w q)⟩
theorem l_c {c : Cond} (h : c ∈ wsL_law) : ∀ w ∈ (c :: wsL_law), w ∈ wsL_law := List.forall_mem_cons.mpr ⟨h, fun _ q => q⟩
theorem l_3 {a b d c : Cond} (h1 : a ∈ wsL_law) (h2 : b ∈ wsL_law) (h3 : d ∈ wsL_law) (h : c ∈ wsL_law) : ∀ w ∈ ([a, b, d] ++ (c :: wsL_law)), w ∈ wsL_law := List.forall_mem_cons.mpr ⟨h1, List.forall_mem_cons.mpr ⟨h2, List.forall_mem_cons.mpr ⟨h3, l_c h⟩⟩⟩
theorem l_4 {a b d e c : Cond} (h1 : a ∈ wsL_law) (h2 : b ∈ wsL_law) (h3 : d ∈ wsL_law) (h4 : e ∈ wsL_law) (h : c ∈ wsL_law) : ∀ w ∈ ([a, b, d, e] ++ (c :: wsL_law)), w ∈ wsL_law := List.forall_mem_cons.mpr ⟨h1, List.forall_mem_cons.mpr ⟨h2, List.forall_mem_cons.mpr ⟨h3, List.forall_mem_cons.mpr ⟨h4, l_c h⟩⟩⟩⟩
def wsX0_init : List Cond := .code yX0_init cX0_init 1 none :: wsL_law
def wsX0_has : List Cond := .code yX0_has cX0_has 2 (some .boolean) :: wsL_law
def wsX0_hasGate : List Cond := .code yX0_hasGate cX0_hasGate 2 (some .boolean) :: wsL_law
def wsX0_hasAllGates : List Cond := .code yX0_hasAllGates cX0_hasAllGates 2 (some .boolean) :: wsL_law
def wsX0_open : List Cond := .code yX0_open cX0_open 4 (some .int) :: wsL_law
def wsX2_feeOf : List Cond := .code yX2_feeOf cX2_feeOf 2 (some .int) :: wsL_law
def wsX0_feeOf : List Cond := .code yX0_feeOf cX0_feeOf 3 (some .int) :: wsL_law
def wsX2_floorOf : List Cond := .code yX2_floorOf cX2_floorOf 2 (some .int) :: wsL_law
def wsX0_floorOf : List Cond := .code yX0_floorOf cX0_floorOf 2 (some .int) :: wsL_law
def wsX0_allMoney : List Cond := .code yX0_allMoney cX0_allMoney 4 (some .long) :: wsL_law
def wsX0_allEntries : List Cond := .code yX0_allEntries cX0_allEntries 3 (some .int) :: wsL_law
def wsX0_enterAll : List Cond := .code yX0_enterAll cX0_enterAll 2 none :: wsL_law
def wsX0_leaveAll : List Cond := .code yX0_leaveAll cX0_leaveAll 2 none :: wsL_law
def wsX0_becomeAs : List Cond := .code yX0_becomeAs cX0_becomeAs 3 none :: wsL_law
def wsX1_init : List Cond := .code yX1_init cX1_init 1 none :: wsL_law
def wsX1_between : List Cond := .code yX1_between cX1_between 3 (some .int) :: wsL_law
def wsX1_become : List Cond := .code yX1_become cX1_become 4 none :: wsL_law
def wsX1_total : List Cond := .code yX1_total cX1_total 4 (some .long) :: wsL_law
def wsX1_positionOf : List Cond := .code yX1_positionOf cX1_positionOf 5 (some .long) :: wsL_law
def wsX1_becomeAs : List Cond := .code yX1_becomeAs cX1_becomeAs 2 none :: wsL_law
def wsX2_isKind : List Cond := .code yX2_isKind cX2_isKind 1 (some .boolean) :: wsL_law
def wsX2_isOrIsUnder : List Cond := .code yX2_isOrIsUnder cX2_isOrIsUnder 2 (some .boolean) :: wsL_law
def wsX3_init : List Cond := .code yX3_init cX3_init 1 none :: wsL_law
def wsX3_takeOver : List Cond := .code yX3_takeOver cX3_takeOver 2 none :: wsL_law
def wsX3_byteAt : List Cond := .code yX3_byteAt cX3_byteAt 2 (some .int) :: wsL_law
def wsX3_behindItem : List Cond := .code yX3_behindItem cX3_behindItem 2 (some .int) :: wsL_law
def wsX3_figureAt : List Cond := .code yX3_figureAt cX3_figureAt 2 (some .int) :: wsL_law
def wsX3_numberBetween : List Cond := .code yX3_numberBetween cX3_numberBetween 5 (some .int) :: wsL_law
def wsX4_init : List Cond := .code yX4_init cX4_init 1 none :: wsL_law
def wsX4_faultAt : List Cond := .code yX4_faultAt cX4_faultAt 2 (some .int) :: wsL_law
def wsX4_opening : List Cond := .code yX4_opening cX4_opening 2 (some .int) :: wsL_law
def wsX4_isFigure : List Cond := .code yX4_isFigure cX4_isFigure 4 (some .boolean) :: wsL_law
def wsX4_openingWithFigure : List Cond := .code yX4_openingWithFigure cX4_openingWithFigure 5 (some .int) :: wsL_law
def wsX4_ends : List Cond := .code yX4_ends cX4_ends 3 (some .int) :: wsL_law
def wsX4_closing : List Cond := .code yX4_closing cX4_closing 3 (some .int) :: wsL_law
def wsX4_payment : List Cond := .code yX4_payment cX4_payment 4 (some .int) :: wsL_law
def wsX4_bell : List Cond := .code yX4_bell cX4_bell 2 (some .int) :: wsL_law
def wsX4_step : List Cond := .code yX4_step cX4_step 2 (some .int) :: wsL_law
def wsX4_faultOf : List Cond := .code yX4_faultOf cX4_faultOf 4 (some .int) :: wsL_law
def wsX5_init : List Cond := .code yX5_init cX5_init 2 none :: wsL_law
def wsX5_leadsBack : List Cond := .code yX5_leadsBack cX5_leadsBack 6 (some .boolean) :: wsL_law
def wsX5_findsFirst : List Cond := .code yX5_findsFirst cX5_findsFirst 4 (some .boolean) :: wsL_law
def wsX5_behind : List Cond := .code yX5_behind cX5_behind 2 (some .int) :: wsL_law
def wsX5_cutFound : List Cond := .code yX5_cutFound cX5_cutFound 4 none :: wsL_law
def wsX5_cutAll : List Cond := .code yX5_cutAll cX5_cutAll 3 (some .int) :: wsL_law
def wsX6_init : List Cond := .code yX6_init cX6_init 2 none :: wsL_law
def wsX6_keptMarks : List Cond := .code yX6_keptMarks cX6_keptMarks 1 (some .int) :: wsL_law
def wsX6_keep : List Cond := .code yX6_keep cX6_keep 2 none :: wsL_law
def wsX6_undo : List Cond := .code yX6_undo cX6_undo 2 none :: wsL_law
def wsX6_mark : List Cond := .code yX6_mark cX6_mark 2 none :: wsL_law
def wsX6_isGreaterHeld : List Cond := .code yX6_isGreaterHeld cX6_isGreaterHeld 3 (some .boolean) :: wsL_law
def wsX6_isHeld : List Cond := .code yX6_isHeld cX6_isHeld 2 (some .boolean) :: wsL_law
def wsX6_payment : List Cond := .code yX6_payment cX6_payment 7 (some .int) :: wsL_law
def wsX6_bell : List Cond := .code yX6_bell cX6_bell 3 (some .int) :: wsL_law
def wsX6_attempt : List Cond := .code yX6_attempt cX6_attempt 5 (some .int) :: wsL_law
def wsX6_block : List Cond := .code yX6_block cX6_block 5 (some .int) :: wsL_law
def wsX6_inside : List Cond := .code yX6_inside cX6_inside 4 (some .int) :: wsL_law
def wsX6_item : List Cond := .code yX6_item cX6_item 3 (some .int) :: wsL_law
def wsX6_items : List Cond := .code yX6_items cX6_items 6 (some .int) :: wsL_law
def wsX6_loop : List Cond := .code yX6_loop cX6_loop 6 (some .int) :: wsL_law
def wsX6_outcomeOf : List Cond := .code yX6_outcomeOf cX6_outcomeOf 3 (some .int) :: wsL_law
def wsX7_init : List Cond := .code yX7_init cX7_init 1 none :: wsL_law
def wsX7_isMissing : List Cond := .code yX7_isMissing cX7_isMissing 1 (some .boolean) :: wsL_law
def wsX7_hasPlace : List Cond := .code yX7_hasPlace cX7_hasPlace 2 (some .boolean) :: wsL_law
def wsX7_hasStretch : List Cond := .code yX7_hasStretch cX7_hasStretch 3 (some .boolean) :: wsL_law
def wsX7_become : List Cond := .code yX7_become cX7_become 4 none :: wsL_law
def wsX7_write : List Cond := .code yX7_write cX7_write 3 none :: wsL_law
def wsX7_takeOver : List Cond := .code yX7_takeOver cX7_takeOver 3 none :: wsL_law
def wsX7_firstUnlike : List Cond := .code yX7_firstUnlike cX7_firstUnlike 5 (some .int) :: wsL_law
def wsX8_init : List Cond := .code yX8_init cX8_init 1 none :: wsL_law
def wsX8_add : List Cond := .code yX8_add cX8_add 2 none :: wsL_law
def wsX9_init : List Cond := .code yX9_init cX9_init 2 none :: wsL_law
def wsX9_isWithin : List Cond := .code yX9_isWithin cX9_isWithin 2 (some .boolean) :: wsL_law
def wsX9_account : List Cond := .code yX9_account cX9_account 3 (some .int) :: wsL_law
def wsX9_set : List Cond := .code yX9_set cX9_set 5 (some .long) :: wsL_law
def wsX9_gate : List Cond := .code yX9_gate cX9_gate 4 (some .int) :: wsL_law
def wsX9_told : List Cond := .code yX9_told cX9_told 3 (some .int) :: wsL_law
def wsX9_of : List Cond := .code yX9_of cX9_of 3 (some .long) :: wsL_law
def wsX9_count : List Cond := .code yX9_count cX9_count 2 (some .int) :: wsL_law
def wsX9_sum : List Cond := .code yX9_sum cX9_sum 2 (some .long) :: wsL_law
def wsX9_taken : List Cond := .code yX9_taken cX9_taken 3 (some .int) :: wsL_law
def wsX9_isByte : List Cond := .code yX9_isByte cX9_isByte 1 (some .boolean) :: wsL_law
def wsX9_feed : List Cond := .code yX9_feed cX9_feed 7 (some .int) :: wsL_law
def wsX9_program : List Cond := .code yX9_program cX9_program 3 (some .int) :: wsL_law
def wsX9_isProgram : List Cond := .code yX9_isProgram cX9_isProgram 2 (some .boolean) :: wsL_law
def wsX9_run : List Cond := .code yX9_run cX9_run 2 (some .int) :: wsL_law
def wsX9_trace : List Cond := .code yX9_trace cX9_trace 2 (some .int) :: wsL_law
def wsX9_isOfWould : List Cond := .code yX9_isOfWould cX9_isOfWould 2 (some .boolean) :: wsL_law
def wsX9_outcomeInThought : List Cond := .code yX9_outcomeInThought cX9_outcomeInThought 2 (some .int) :: wsL_law
def wsX9_would : List Cond := .code yX9_would cX9_would 4 (some .long) :: wsL_law
def wsX9_needed : List Cond := .code yX9_needed cX9_needed 5 (some .int) :: wsL_law
def wsX9_hinges : List Cond := .code yX9_hinges cX9_hinges 5 (some .int) :: wsL_law
def wsX9_isPair : List Cond := .code yX9_isPair cX9_isPair 3 (some .boolean) :: wsL_law
def wsX9_owe : List Cond := .code yX9_owe cX9_owe 5 (some .int) :: wsL_law
def wsX9_owed : List Cond := .code yX9_owed cX9_owed 3 (some .int) :: wsL_law
def wsX9_net : List Cond := .code yX9_net cX9_net 2 (some .int) :: wsL_law
def wsX9_isSheet : List Cond := .code yX9_isSheet cX9_isSheet 1 (some .boolean) :: wsL_law
def wsX9_kindsToldBy : List Cond := .code yX9_kindsToldBy cX9_kindsToldBy 6 (some .int) :: wsL_law
def wsX9_tells : List Cond := .code yX9_tells cX9_tells 6 (some .int) :: wsL_law
def wsX9_film : List Cond := .code yX9_film cX9_film 3 (some .int) :: wsL_law
def wsX9_image : List Cond := .code yX9_image cX9_image 1 (some .int) :: wsL_law
def wsX9_back : List Cond := .code yX9_back cX9_back 1 (some .int) :: wsL_law
def wsX9_sheet : List Cond := .code yX9_sheet cX9_sheet 4 (some .int) :: wsL_law
def wsX9_put : List Cond := .code yX9_put cX9_put 5 (some .int) :: wsL_law
def wsX9_copy : List Cond := .code yX9_copy cX9_copy 8 (some .int) :: wsL_law
def wsX9_load : List Cond := .code yX9_load cX9_load 9 (some .int) :: wsL_law
def wsX10_init : List Cond := .code yX10_init cX10_init 1 none :: wsL_law
def wsX10_isIn : List Cond := .code yX10_isIn cX10_isIn 6 (some .boolean) :: wsL_law
def wsX10_isAccount : List Cond := .code yX10_isAccount cX10_isAccount 2 (some .boolean) :: wsL_law
def wsX10_account : List Cond := .code yX10_account cX10_account 4 (some .int) :: wsL_law
def wsX10_set : List Cond := .code yX10_set cX10_set 6 (some .long) :: wsL_law
def wsX10_gate : List Cond := .code yX10_gate cX10_gate 4 (some .int) :: wsL_law
def wsX10_feeOf : List Cond := .code yX10_feeOf cX10_feeOf 4 (some .int) :: wsL_law
def wsX10_floorOf : List Cond := .code yX10_floorOf cX10_floorOf 2 (some .int) :: wsL_law
def wsX10_told : List Cond := .code yX10_told cX10_told 3 (some .int) :: wsL_law
def wsX10_owedTo : List Cond := .code yX10_owedTo cX10_owedTo 3 (some .int) :: wsL_law
def wsX10_positionOf : List Cond := .code yX10_positionOf cX10_positionOf 5 (some .long) :: wsL_law
def wsX10_of : List Cond := .code yX10_of cX10_of 3 (some .long) :: wsL_law
def wsX10_count : List Cond := .code yX10_count cX10_count 2 (some .int) :: wsL_law
def wsX10_sum : List Cond := .code yX10_sum cX10_sum 5 (some .long) :: wsL_law
def wsX10_above : List Cond := .code yX10_above cX10_above 1 (some .int) :: wsL_law
def wsX10_taken : List Cond := .code yX10_taken cX10_taken 4 (some .int) :: wsL_law
def wsX10_isByte : List Cond := .code yX10_isByte cX10_isByte 1 (some .boolean) :: wsL_law
def wsX10_feed : List Cond := .code yX10_feed cX10_feed 8 (some .int) :: wsL_law
def wsX10_byteAt : List Cond := .code yX10_byteAt cX10_byteAt 1 (some .int) :: wsL_law
def wsX10_takesFigure : List Cond := .code yX10_takesFigure cX10_takesFigure 3 (some .boolean) :: wsL_law
def wsX10_takesPayment : List Cond := .code yX10_takesPayment cX10_takesPayment 2 (some .boolean) :: wsL_law
def wsX10_takesBracket : List Cond := .code yX10_takesBracket cX10_takesBracket 5 (some .boolean) :: wsL_law
def wsX10_takesItem : List Cond := .code yX10_takesItem cX10_takesItem 3 (some .boolean) :: wsL_law
def wsX10_program : List Cond := .code yX10_program cX10_program 4 (some .int) :: wsL_law
def wsX10_marks : List Cond := .code yX10_marks cX10_marks 2 none :: wsL_law
def wsX10_signAt : List Cond := .code yX10_signAt cX10_signAt 2 (some .int) :: wsL_law
def wsX10_figureAt : List Cond := .code yX10_figureAt cX10_figureAt 2 (some .int) :: wsL_law
def wsX10_hasGate : List Cond := .code yX10_hasGate cX10_hasGate 2 (some .boolean) :: wsL_law
def wsX10_insideOf : List Cond := .code yX10_insideOf cX10_insideOf 2 (some .int) :: wsL_law
def wsX10_isClosed : List Cond := .code yX10_isClosed cX10_isClosed 2 (some .boolean) :: wsL_law
def wsX10_behind : List Cond := .code yX10_behind cX10_behind 4 (some .int) :: wsL_law
def wsX10_keepsBooks : List Cond := .code yX10_keepsBooks cX10_keepsBooks 2 none :: wsL_law
def wsX10_forgetsBooks : List Cond := .code yX10_forgetsBooks cX10_forgetsBooks 3 none :: wsL_law
def wsX10_pays : List Cond := .code yX10_pays cX10_pays 7 (some .int) :: wsL_law
def wsX10_rings : List Cond := .code yX10_rings cX10_rings 3 (some .int) :: wsL_law
def wsX10_block : List Cond := .code yX10_block cX10_block 4 (some .int) :: wsL_law
def wsX10_does : List Cond := .code yX10_does cX10_does 4 (some .int) :: wsL_law
def wsX10_doesItem : List Cond := .code yX10_doesItem cX10_doesItem 2 (some .int) :: wsL_law
def wsX10_loops : List Cond := .code yX10_loops cX10_loops 4 (some .int) :: wsL_law
def wsX10_tries : List Cond := .code yX10_tries cX10_tries 5 (some .int) :: wsL_law
def wsX10_runs : List Cond := .code yX10_runs cX10_runs 3 (some .int) :: wsL_law
def wsX10_isProgram : List Cond := .code yX10_isProgram cX10_isProgram 2 (some .boolean) :: wsL_law
def wsX10_run : List Cond := .code yX10_run cX10_run 4 (some .int) :: wsL_law
def wsX10_trace : List Cond := .code yX10_trace cX10_trace 2 (some .int) :: wsL_law
def wsX10_thinks : List Cond := .code yX10_thinks cX10_thinks 1 none :: wsL_law
def wsX10_wakes : List Cond := .code yX10_wakes cX10_wakes 1 none :: wsL_law
def wsX10_entries : List Cond := .code yX10_entries cX10_entries 4 (some .long) :: wsL_law
def wsX10_would : List Cond := .code yX10_would cX10_would 8 (some .long) :: wsL_law
def wsX10_outcomeOf : List Cond := .code yX10_outcomeOf cX10_outcomeOf 2 (some .int) :: wsL_law
def wsX10_needed : List Cond := .code yX10_needed cX10_needed 6 (some .int) :: wsL_law
def wsX10_hinges : List Cond := .code yX10_hinges cX10_hinges 5 (some .int) :: wsL_law
def wsX10_areTwo : List Cond := .code yX10_areTwo cX10_areTwo 3 (some .boolean) :: wsL_law
def wsX10_owe : List Cond := .code yX10_owe cX10_owe 5 (some .int) :: wsL_law
def wsX10_owed : List Cond := .code yX10_owed cX10_owed 3 (some .int) :: wsL_law
def wsX10_ringFrom : List Cond := .code yX10_ringFrom cX10_ringFrom 6 (some .int) :: wsL_law
def wsX10_firstRing : List Cond := .code yX10_firstRing cX10_firstRing 3 (some .int) :: wsL_law
def wsX10_net : List Cond := .code yX10_net cX10_net 5 (some .int) :: wsL_law
def wsX10_isSheet : List Cond := .code yX10_isSheet cX10_isSheet 1 (some .boolean) :: wsL_law
def wsX10_itemOf : List Cond := .code yX10_itemOf cX10_itemOf 3 (some .int) :: wsL_law
def wsX10_otherIn : List Cond := .code yX10_otherIn cX10_otherIn 6 (some .int) :: wsL_law
def wsX10_tells : List Cond := .code yX10_tells cX10_tells 8 (some .int) :: wsL_law
def wsX10_sheet : List Cond := .code yX10_sheet cX10_sheet 5 (some .int) :: wsL_law
def wsX10_film : List Cond := .code yX10_film cX10_film 6 (some .int) :: wsL_law
def wsX10_image : List Cond := .code yX10_image cX10_image 1 (some .int) :: wsL_law
def wsX10_back : List Cond := .code yX10_back cX10_back 1 (some .int) :: wsL_law
def wsX10_put : List Cond := .code yX10_put cX10_put 4 (some .int) :: wsL_law
def wsX10_copy : List Cond := .code yX10_copy cX10_copy 6 (some .int) :: wsL_law
def wsX10_load : List Cond := .code yX10_load cX10_load 10 (some .int) :: wsL_law
theorem gX0_hasGate_X0_has : GoodIn wsX0_hasGate (wsV RX0 38 RX0 yX0_has wsX0_has) := g_of (l_4 mw_474 mw_157 mw_158 mw_14 mw_159)
theorem gX0_feeOf_X2_feeOf : GoodIn wsX0_feeOf (va_wsS RX0 42 yX2_feeOf wsX2_feeOf) := g_of (l_3 mw_191 mw_192 mw_130 mw_193)
theorem gX0_floorOf_X2_floorOf : GoodIn wsX0_floorOf (va_wsS RX0 48 yX2_floorOf wsX2_floorOf) := g_of (l_3 mw_210 mw_211 mw_130 mw_212)
theorem gX1_positionOf_X1_between : GoodIn wsX1_positionOf (wsV RX1 15 RX1 yX1_between wsX1_between) := g_of (l_4 mw_217 mw_218 mw_219 mw_19 mw_220)
theorem gX3_figureAt_X3_byteAt : GoodIn wsX3_figureAt (wsV RX3 32 RX3 yX3_byteAt wsX3_byteAt) := g_of (l_4 mw_469 mw_347 mw_348 mw_29 mw_349)
theorem gX3_numberBetween_X3_byteAt : GoodIn wsX3_numberBetween (wsV RX3 32 RX3 yX3_byteAt wsX3_byteAt) := g_of (l_4 mw_469 mw_347 mw_348 mw_29 mw_349)
theorem gX4_faultOf_X4_step : GoodIn wsX4_faultOf (wsV RX4 34 RX4 yX4_step wsX4_step) := g_of (l_4 mw_342 mw_343 mw_344 mw_37 mw_345)
theorem gX4_step_X3_byteAt : GoodIn wsX4_step (wsV RX4 38 RX3 yX3_byteAt wsX3_byteAt) := g_of (l_4 mw_346 mw_347 mw_348 mw_29 mw_349)
theorem gX4_step_X4_openingWithFigure : GoodIn wsX4_step (wsV RX4 41 RX4 yX4_openingWithFigure wsX4_openingWithFigure) := g_of (l_4 mw_350 mw_351 mw_352 mw_37 mw_353)
theorem gX4_step_X4_opening : GoodIn wsX4_step (wsV RX4 45 RX4 yX4_opening wsX4_opening) := g_of (l_4 mw_354 mw_355 mw_356 mw_37 mw_357)
theorem gX4_step_X4_closing : GoodIn wsX4_step (wsV RX4 48 RX4 yX4_closing wsX4_closing) := g_of (l_4 mw_366 mw_367 mw_368 mw_37 mw_369)
theorem gX4_step_X4_payment : GoodIn wsX4_step (wsV RX4 52 RX4 yX4_payment wsX4_payment) := g_of (l_4 mw_375 mw_376 mw_377 mw_37 mw_378)
theorem gX4_step_X4_bell : GoodIn wsX4_step (wsV RX4 55 RX4 yX4_bell wsX4_bell) := g_of (l_4 mw_379 mw_380 mw_381 mw_37 mw_382)
theorem gX4_step_X4_ends : GoodIn wsX4_step (wsV RX4 58 RX4 yX4_ends wsX4_ends) := g_of (l_4 mw_370 mw_371 mw_372 mw_37 mw_373)
theorem gX4_step_X4_faultAt : GoodIn wsX4_step (wsV RX4 61 RX4 yX4_faultAt wsX4_faultAt) := g_of (l_4 mw_358 mw_359 mw_360 mw_37 mw_361)
theorem gX4_openingWithFigure_X4_opening : GoodIn wsX4_openingWithFigure (wsV RX4 45 RX4 yX4_opening wsX4_opening) := g_of (l_4 mw_354 mw_355 mw_356 mw_37 mw_357)
theorem gX4_openingWithFigure_X4_isFigure : GoodIn wsX4_openingWithFigure (wsV RX4 64 RX4 yX4_isFigure wsX4_isFigure) := g_of (l_4 mw_362 mw_363 mw_364 mw_37 mw_365)
theorem gX4_openingWithFigure_X4_faultAt : GoodIn wsX4_openingWithFigure (wsV RX4 61 RX4 yX4_faultAt wsX4_faultAt) := g_of (l_4 mw_358 mw_359 mw_360 mw_37 mw_361)
theorem gX4_opening_X4_faultAt : GoodIn wsX4_opening (wsV RX4 61 RX4 yX4_faultAt wsX4_faultAt) := g_of (l_4 mw_358 mw_359 mw_360 mw_37 mw_361)
theorem gX4_opening_X3_byteAt : GoodIn wsX4_opening (wsV RX4 38 RX3 yX3_byteAt wsX3_byteAt) := g_of (l_4 mw_346 mw_347 mw_348 mw_29 mw_349)
theorem gX4_closing_X3_byteAt : GoodIn wsX4_closing (wsV RX4 38 RX3 yX3_byteAt wsX3_byteAt) := g_of (l_4 mw_346 mw_347 mw_348 mw_29 mw_349)
theorem gX4_closing_X4_faultAt : GoodIn wsX4_closing (wsV RX4 61 RX4 yX4_faultAt wsX4_faultAt) := g_of (l_4 mw_358 mw_359 mw_360 mw_37 mw_361)
theorem gX4_closing_X4_ends : GoodIn wsX4_closing (wsV RX4 58 RX4 yX4_ends wsX4_ends) := g_of (l_4 mw_370 mw_371 mw_372 mw_37 mw_373)
theorem gX4_payment_X4_isFigure : GoodIn wsX4_payment (wsV RX4 64 RX4 yX4_isFigure wsX4_isFigure) := g_of (l_4 mw_362 mw_363 mw_364 mw_37 mw_365)
theorem gX4_payment_X4_faultAt : GoodIn wsX4_payment (wsV RX4 61 RX4 yX4_faultAt wsX4_faultAt) := g_of (l_4 mw_358 mw_359 mw_360 mw_37 mw_361)
theorem gX4_payment_X4_ends : GoodIn wsX4_payment (wsV RX4 58 RX4 yX4_ends wsX4_ends) := g_of (l_4 mw_370 mw_371 mw_372 mw_37 mw_373)
theorem gX4_bell_X4_isFigure : GoodIn wsX4_bell (wsV RX4 64 RX4 yX4_isFigure wsX4_isFigure) := g_of (l_4 mw_362 mw_363 mw_364 mw_37 mw_365)
theorem gX4_bell_X4_ends : GoodIn wsX4_bell (wsV RX4 58 RX4 yX4_ends wsX4_ends) := g_of (l_4 mw_370 mw_371 mw_372 mw_37 mw_373)
theorem gX4_bell_X4_faultAt : GoodIn wsX4_bell (wsV RX4 61 RX4 yX4_faultAt wsX4_faultAt) := g_of (l_4 mw_358 mw_359 mw_360 mw_37 mw_361)
theorem gX4_isFigure_X3_byteAt : GoodIn wsX4_isFigure (wsV RX4 38 RX3 yX3_byteAt wsX3_byteAt) := g_of (l_4 mw_346 mw_347 mw_348 mw_29 mw_349)
theorem gX5_cutAll_X5_findsFirst : GoodIn wsX5_cutAll (wsV RX5 23 RX5 yX5_findsFirst wsX5_findsFirst) := g_of (l_4 mw_720 mw_721 mw_722 mw_24 mw_723)
theorem gX5_cutAll_X5_cutFound : GoodIn wsX5_cutAll (wsV RX5 27 RX5 yX5_cutFound wsX5_cutFound) := g_of (l_4 mw_730 mw_731 mw_732 mw_24 mw_733)
theorem gX5_findsFirst_X5_leadsBack : GoodIn wsX5_findsFirst (wsV RX5 30 RX5 yX5_leadsBack wsX5_leadsBack) := g_of (l_4 mw_724 mw_725 mw_726 mw_24 mw_727)
theorem gX5_leadsBack_X1_between : GoodIn wsX5_leadsBack (wsV RX5 34 RX1 yX1_between wsX1_between) := g_of (l_4 mw_729 mw_218 mw_219 mw_19 mw_220)
theorem gX5_leadsBack_X5_leadsBack : GoodIn wsX5_leadsBack (wsV RX5 30 RX5 yX5_leadsBack wsX5_leadsBack) := g_of (l_4 mw_724 mw_725 mw_726 mw_24 mw_727)
theorem gX5_cutFound_X5_behind : GoodIn wsX5_cutFound (wsV RX5 45 RX5 yX5_behind wsX5_behind) := g_of (l_4 mw_736 mw_737 mw_738 mw_24 mw_739)
theorem gX5_cutFound_X1_between : GoodIn wsX5_cutFound (wsV RX5 34 RX1 yX1_between wsX1_between) := g_of (l_4 mw_729 mw_218 mw_219 mw_19 mw_220)
theorem gX5_cutFound_X1_become : GoodIn wsX5_cutFound (wsV RX5 54 RX1 yX1_become wsX1_become) := g_of (l_4 mw_740 mw_684 mw_685 mw_19 mw_686)
theorem gX6_outcomeOf_X6_keep : GoodIn wsX6_outcomeOf (wsV RX6 48 RX6 yX6_keep wsX6_keep) := g_of (l_4 mw_426 mw_427 mw_428 mw_41 mw_429)
theorem gX6_outcomeOf_X6_items : GoodIn wsX6_outcomeOf (wsV RX6 57 RX6 yX6_items wsX6_items) := g_of (l_4 mw_433 mw_434 mw_435 mw_41 mw_436)
theorem gX6_outcomeOf_X6_undo : GoodIn wsX6_outcomeOf (wsV RX6 61 RX6 yX6_undo wsX6_undo) := g_of (l_4 mw_452 mw_453 mw_454 mw_41 mw_455)
theorem gX6_items_X6_item : GoodIn wsX6_items (wsV RX6 64 RX6 yX6_item wsX6_item) := g_of (l_4 mw_440 mw_441 mw_442 mw_41 mw_480)
theorem gX6_items_X3_behindItem : GoodIn wsX6_items (wsV RX6 67 RX3 yX3_behindItem wsX3_behindItem) := g_of (l_4 mw_443 mw_444 mw_445 mw_29 mw_446)
theorem gX6_item_X3_byteAt : GoodIn wsX6_item (wsV RX6 74 RX3 yX3_byteAt wsX3_byteAt) := g_of (l_4 mw_481 mw_347 mw_348 mw_29 mw_349)
theorem gX6_item_X6_block : GoodIn wsX6_item (wsV RX6 77 RX6 yX6_block wsX6_block) := g_of (l_4 mw_482 mw_483 mw_484 mw_41 mw_460)
theorem gX6_item_X6_attempt : GoodIn wsX6_item (wsV RX6 80 RX6 yX6_attempt wsX6_attempt) := g_of (l_4 mw_485 mw_486 mw_487 mw_41 mw_447)
theorem gX6_item_X6_loop : GoodIn wsX6_item (wsV RX6 83 RX6 yX6_loop wsX6_loop) := g_of (l_4 mw_488 mw_489 mw_490 mw_41 mw_513)
theorem gX6_item_X6_payment : GoodIn wsX6_item (wsV RX6 86 RX6 yX6_payment wsX6_payment) := g_of (l_4 mw_491 mw_492 mw_493 mw_41 mw_494)
theorem gX6_item_X3_figureAt : GoodIn wsX6_item (wsV RX6 89 RX3 yX3_figureAt wsX3_figureAt) := g_of (l_4 mw_465 mw_466 mw_467 mw_29 mw_468)
theorem gX6_item_X6_bell : GoodIn wsX6_item (wsV RX6 92 RX6 yX6_bell wsX6_bell) := g_of (l_4 mw_507 mw_508 mw_509 mw_41 mw_510)
theorem gX6_inside_X3_behindItem : GoodIn wsX6_inside (wsV RX6 67 RX3 yX3_behindItem wsX3_behindItem) := g_of (l_4 mw_443 mw_444 mw_445 mw_29 mw_446)
theorem gX6_inside_X6_items : GoodIn wsX6_inside (wsV RX6 57 RX6 yX6_items wsX6_items) := g_of (l_4 mw_433 mw_434 mw_435 mw_41 mw_436)
theorem gX6_block_X3_figureAt : GoodIn wsX6_block (wsV RX6 89 RX3 yX3_figureAt wsX3_figureAt) := g_of (l_4 mw_465 mw_466 mw_467 mw_29 mw_468)
theorem gX6_block_X0_hasGate : GoodIn wsX6_block (wsV RX6 95 RX0 yX0_hasGate wsX0_hasGate) := g_of (l_4 mw_470 mw_471 mw_472 mw_14 mw_473)
theorem gX6_block_X6_isGreaterHeld : GoodIn wsX6_block (wsV RX6 104 RX6 yX6_isGreaterHeld wsX6_isGreaterHeld) := g_of (l_4 mw_475 mw_476 mw_477 mw_41 mw_478)
theorem gX6_block_X6_mark : GoodIn wsX6_block (wsV RX6 113 RX6 yX6_mark wsX6_mark) := g_of (l_4 mw_456 mw_457 mw_458 mw_41 mw_459)
theorem gX6_block_X6_inside : GoodIn wsX6_block (wsV RX6 116 RX6 yX6_inside wsX6_inside) := g_of (l_4 mw_449 mw_450 mw_451 mw_41 mw_479)
theorem gX6_attempt_X6_keep : GoodIn wsX6_attempt (wsV RX6 48 RX6 yX6_keep wsX6_keep) := g_of (l_4 mw_426 mw_427 mw_428 mw_41 mw_429)
theorem gX6_attempt_X6_inside : GoodIn wsX6_attempt (wsV RX6 116 RX6 yX6_inside wsX6_inside) := g_of (l_4 mw_449 mw_450 mw_451 mw_41 mw_479)
theorem gX6_attempt_X6_undo : GoodIn wsX6_attempt (wsV RX6 61 RX6 yX6_undo wsX6_undo) := g_of (l_4 mw_452 mw_453 mw_454 mw_41 mw_455)
theorem gX6_attempt_X6_mark : GoodIn wsX6_attempt (wsV RX6 113 RX6 yX6_mark wsX6_mark) := g_of (l_4 mw_456 mw_457 mw_458 mw_41 mw_459)
theorem gX6_loop_X3_figureAt : GoodIn wsX6_loop (wsV RX6 89 RX3 yX3_figureAt wsX3_figureAt) := g_of (l_4 mw_465 mw_466 mw_467 mw_29 mw_468)
theorem gX6_loop_X6_inside : GoodIn wsX6_loop (wsV RX6 116 RX6 yX6_inside wsX6_inside) := g_of (l_4 mw_449 mw_450 mw_451 mw_41 mw_479)
theorem gX6_payment_X3_figureAt : GoodIn wsX6_payment (wsV RX6 89 RX3 yX3_figureAt wsX3_figureAt) := g_of (l_4 mw_465 mw_466 mw_467 mw_29 mw_468)
theorem gX6_payment_X6_isHeld : GoodIn wsX6_payment (wsV RX6 125 RX6 yX6_isHeld wsX6_isHeld) := g_of (l_4 mw_496 mw_497 mw_498 mw_41 mw_499)
theorem gX6_payment_X3_behindItem : GoodIn wsX6_payment (wsV RX6 67 RX3 yX3_behindItem wsX3_behindItem) := g_of (l_4 mw_443 mw_444 mw_445 mw_29 mw_446)
theorem gX6_payment_X3_numberBetween : GoodIn wsX6_payment (wsV RX6 128 RX3 yX3_numberBetween wsX3_numberBetween) := g_of (l_4 mw_501 mw_502 mw_503 mw_29 mw_504)
theorem gX6_payment_X0_feeOf : GoodIn wsX6_payment (wsV RX6 131 RX0 yX0_feeOf wsX0_feeOf) := g_of (l_4 mw_505 mw_188 mw_189 mw_14 mw_190)
theorem gX6_payment_X0_floorOf : GoodIn wsX6_payment (wsV RX6 137 RX0 yX0_floorOf wsX0_floorOf) := g_of (l_4 mw_506 mw_207 mw_208 mw_14 mw_209)
theorem gX6_payment_X6_mark : GoodIn wsX6_payment (wsV RX6 113 RX6 yX6_mark wsX6_mark) := g_of (l_4 mw_456 mw_457 mw_458 mw_41 mw_459)
theorem gX6_bell_X0_hasGate : GoodIn wsX6_bell (wsV RX6 95 RX0 yX0_hasGate wsX0_hasGate) := g_of (l_4 mw_470 mw_471 mw_472 mw_14 mw_473)
theorem gX6_bell_X6_isHeld : GoodIn wsX6_bell (wsV RX6 125 RX6 yX6_isHeld wsX6_isHeld) := g_of (l_4 mw_496 mw_497 mw_498 mw_41 mw_499)
theorem gX6_bell_X6_mark : GoodIn wsX6_bell (wsV RX6 113 RX6 yX6_mark wsX6_mark) := g_of (l_4 mw_456 mw_457 mw_458 mw_41 mw_459)
theorem gX6_isHeld_X0_has : GoodIn wsX6_isHeld (wsV RX6 151 RX0 yX0_has wsX0_has) := g_of (l_4 mw_500 mw_157 mw_158 mw_14 mw_159)
theorem gX7_takeOver_X7_become : GoodIn wsX7_takeOver (wsV RX7 22 RX7 yX7_become wsX7_become) := g_of (l_4 mw_804 mw_805 mw_806 mw_47 mw_807)
theorem gX9_init_X0_init_n11 : GoodIn wsX9_init (wsX0_init) := g_of (l_c mw_49)
theorem gX9_init_X1_init_n23 : GoodIn wsX9_init (wsX1_init) := g_of (l_c mw_61)
theorem gX9_init_X5_init : GoodIn wsX9_init (wsX5_init) := g_of (l_c mw_66)
theorem gX9_init_X3_init_n46 : GoodIn wsX9_init (wsX3_init) := g_of (l_c mw_72)
theorem gX9_init_X8_init_n53 : GoodIn wsX9_init (wsX8_init) := g_of (l_c mw_77)
theorem gX9_init_X4_init_n60 : GoodIn wsX9_init (wsX4_init) := g_of (l_c mw_81)
theorem gX9_init_X6_init : GoodIn wsX9_init (wsX6_init) := g_of (l_c mw_86)
theorem gX9_init_X7_init_n83 : GoodIn wsX9_init (wsX7_init) := g_of (l_c mw_96)
theorem gX9_account_X2_isKind : GoodIn wsX9_account (va_wsS RX9 84 yX2_isKind wsX2_isKind) := g_of (l_3 mw_128 mw_129 mw_130 mw_131)
theorem gX9_account_X9_isWithin : GoodIn wsX9_account (va_wsS RX9 91 yX9_isWithin wsX9_isWithin) := g_of (l_3 mw_132 mw_133 mw_2 mw_134)
theorem gX9_account_X0_open : GoodIn wsX9_account (wsV RX9 98 RX0 yX0_open wsX0_open) := g_of (l_4 mw_135 mw_136 mw_137 mw_14 mw_138)
theorem gX9_set_X0_has : GoodIn wsX9_set (wsV RX9 102 RX0 yX0_has wsX0_has) := g_of (l_4 mw_156 mw_157 mw_158 mw_14 mw_159)
theorem gX9_set_X9_isWithin : GoodIn wsX9_set (va_wsS RX9 91 yX9_isWithin wsX9_isWithin) := g_of (l_3 mw_132 mw_133 mw_2 mw_134)
theorem gX9_gate_X0_has : GoodIn wsX9_gate (wsV RX9 102 RX0 yX0_has wsX0_has) := g_of (l_4 mw_156 mw_157 mw_158 mw_14 mw_159)
theorem gX9_told_X0_has : GoodIn wsX9_told (wsV RX9 102 RX0 yX0_has wsX0_has) := g_of (l_4 mw_156 mw_157 mw_158 mw_14 mw_159)
theorem gX9_told_X0_feeOf : GoodIn wsX9_told (wsV RX9 130 RX0 yX0_feeOf wsX0_feeOf) := g_of (l_4 mw_187 mw_188 mw_189 mw_14 mw_190)
theorem gX9_of_X0_has : GoodIn wsX9_of (wsV RX9 102 RX0 yX0_has wsX0_has) := g_of (l_4 mw_156 mw_157 mw_158 mw_14 mw_159)
theorem gX9_of_X0_floorOf : GoodIn wsX9_of (wsV RX9 133 RX0 yX0_floorOf wsX0_floorOf) := g_of (l_4 mw_206 mw_207 mw_208 mw_14 mw_209)
theorem gX9_of_X1_positionOf : GoodIn wsX9_of (wsV RX9 137 RX1 yX1_positionOf wsX1_positionOf) := g_of (l_4 mw_213 mw_214 mw_215 mw_19 mw_216)
theorem gX9_count_X6_keptMarks : GoodIn wsX9_count (wsV RX9 156 RX6 yX6_keptMarks wsX6_keptMarks) := g_of (l_4 mw_248 mw_249 mw_250 mw_41 mw_251)
theorem gX9_sum_X0_allMoney : GoodIn wsX9_sum (wsV RX9 167 RX0 yX0_allMoney wsX0_allMoney) := g_of (l_4 mw_269 mw_270 mw_271 mw_14 mw_272)
theorem gX9_sum_X1_total : GoodIn wsX9_sum (wsV RX9 171 RX1 yX1_total wsX1_total) := g_of (l_4 mw_274 mw_275 mw_276 mw_19 mw_277)
theorem gX9_taken_X0_has : GoodIn wsX9_taken (wsV RX9 102 RX0 yX0_has wsX0_has) := g_of (l_4 mw_156 mw_157 mw_158 mw_14 mw_159)
theorem gX9_taken_X2_isKind : GoodIn wsX9_taken (va_wsS RX9 84 yX2_isKind wsX2_isKind) := g_of (l_3 mw_128 mw_129 mw_130 mw_131)
theorem gX9_taken_X2_isOrIsUnder : GoodIn wsX9_taken (va_wsS RX9 174 yX2_isOrIsUnder wsX2_isOrIsUnder) := g_of (l_3 mw_287 mw_288 mw_130 mw_289)
theorem gX9_feed_X9_isByte : GoodIn wsX9_feed (va_wsS RX9 177 yX9_isByte wsX9_isByte) := g_of (l_3 mw_301 mw_302 mw_2 mw_303)
theorem gX9_feed_X8_add : GoodIn wsX9_feed (wsV RX9 180 RX8 yX8_add wsX8_add) := g_of (l_4 mw_304 mw_305 mw_306 mw_33 mw_307)
theorem gX9_program_X3_takeOver : GoodIn wsX9_program (wsV RX9 184 RX3 yX3_takeOver wsX3_takeOver) := g_of (l_4 mw_322 mw_323 mw_324 mw_29 mw_325)
theorem gX9_program_X4_faultOf : GoodIn wsX9_program (wsV RX9 188 RX4 yX4_faultOf wsX4_faultOf) := g_of (l_4 mw_333 mw_334 mw_335 mw_37 mw_336)
theorem gX9_run_X9_isProgram : GoodIn wsX9_run (wsV RX9 192 RX9 yX9_isProgram wsX9_isProgram) := g_of (l_4 mw_415 mw_416 mw_417 mw_2 mw_418)
theorem gX9_run_X6_outcomeOf : GoodIn wsX9_run (wsV RX9 195 RX6 yX6_outcomeOf wsX6_outcomeOf) := g_of (l_4 mw_419 mw_420 mw_421 mw_41 mw_422)
theorem gX9_trace_X6_keptMarks : GoodIn wsX9_trace (wsV RX9 156 RX6 yX6_keptMarks wsX6_keptMarks) := g_of (l_4 mw_248 mw_249 mw_250 mw_41 mw_251)
theorem gX9_would_X9_isProgram : GoodIn wsX9_would (wsV RX9 192 RX9 yX9_isProgram wsX9_isProgram) := g_of (l_4 mw_415 mw_416 mw_417 mw_2 mw_418)
theorem gX9_would_X9_isOfWould : GoodIn wsX9_would (wsV RX9 201 RX9 yX9_isOfWould wsX9_isOfWould) := g_of (l_4 mw_610 mw_611 mw_612 mw_2 mw_613)
theorem gX9_would_X9_outcomeInThought : GoodIn wsX9_would (wsV RX9 204 RX9 yX9_outcomeInThought wsX9_outcomeInThought) := g_of (l_4 mw_614 mw_615 mw_616 mw_2 mw_617)
theorem gX9_would_X0_allEntries : GoodIn wsX9_would (wsV RX9 211 RX0 yX0_allEntries wsX0_allEntries) := g_of (l_4 mw_627 mw_628 mw_629 mw_14 mw_630)
theorem gX9_needed_X9_isProgram : GoodIn wsX9_needed (wsV RX9 192 RX9 yX9_isProgram wsX9_isProgram) := g_of (l_4 mw_415 mw_416 mw_417 mw_2 mw_418)
theorem gX9_needed_X0_has : GoodIn wsX9_needed (wsV RX9 102 RX0 yX0_has wsX0_has) := g_of (l_4 mw_156 mw_157 mw_158 mw_14 mw_159)
theorem gX9_needed_X0_becomeAs : GoodIn wsX9_needed (wsV RX9 214 RX0 yX0_becomeAs wsX0_becomeAs) := g_of (l_4 mw_618 mw_619 mw_620 mw_14 mw_621)
theorem gX9_needed_X6_outcomeOf : GoodIn wsX9_needed (wsV RX9 195 RX6 yX6_outcomeOf wsX6_outcomeOf) := g_of (l_4 mw_419 mw_420 mw_421 mw_41 mw_422)
theorem gX9_hinges_X9_isProgram : GoodIn wsX9_hinges (wsV RX9 192 RX9 yX9_isProgram wsX9_isProgram) := g_of (l_4 mw_415 mw_416 mw_417 mw_2 mw_418)
theorem gX9_hinges_X9_outcomeInThought : GoodIn wsX9_hinges (wsV RX9 204 RX9 yX9_outcomeInThought wsX9_outcomeInThought) := g_of (l_4 mw_614 mw_615 mw_616 mw_2 mw_617)
theorem gX9_hinges_X0_becomeAs : GoodIn wsX9_hinges (wsV RX9 214 RX0 yX0_becomeAs wsX0_becomeAs) := g_of (l_4 mw_618 mw_619 mw_620 mw_14 mw_621)
theorem gX9_hinges_X6_outcomeOf : GoodIn wsX9_hinges (wsV RX9 195 RX6 yX6_outcomeOf wsX6_outcomeOf) := g_of (l_4 mw_419 mw_420 mw_421 mw_41 mw_422)
theorem gX9_owe_X9_isPair : GoodIn wsX9_owe (wsV RX9 217 RX9 yX9_isPair wsX9_isPair) := g_of (l_4 mw_678 mw_679 mw_680 mw_2 mw_681)
theorem gX9_owe_X9_isWithin : GoodIn wsX9_owe (va_wsS RX9 91 yX9_isWithin wsX9_isWithin) := g_of (l_3 mw_132 mw_133 mw_2 mw_134)
theorem gX9_owe_X1_between : GoodIn wsX9_owe (wsV RX9 221 RX1 yX1_between wsX1_between) := g_of (l_4 mw_682 mw_218 mw_219 mw_19 mw_220)
theorem gX9_owe_X1_become : GoodIn wsX9_owe (wsV RX9 224 RX1 yX1_become wsX1_become) := g_of (l_4 mw_683 mw_684 mw_685 mw_19 mw_686)
theorem gX9_owed_X9_isPair : GoodIn wsX9_owed (wsV RX9 217 RX9 yX9_isPair wsX9_isPair) := g_of (l_4 mw_678 mw_679 mw_680 mw_2 mw_681)
theorem gX9_owed_X1_between : GoodIn wsX9_owed (wsV RX9 221 RX1 yX1_between wsX1_between) := g_of (l_4 mw_682 mw_218 mw_219 mw_19 mw_220)
theorem gX9_net_X0_hasAllGates : GoodIn wsX9_net (wsV RX9 228 RX0 yX0_hasAllGates wsX0_hasAllGates) := g_of (l_4 mw_708 mw_709 mw_710 mw_14 mw_711)
theorem gX9_net_X0_enterAll : GoodIn wsX9_net (wsV RX9 232 RX0 yX0_enterAll wsX0_enterAll) := g_of (l_4 mw_712 mw_713 mw_714 mw_14 mw_715)
theorem gX9_net_X5_cutAll : GoodIn wsX9_net (wsV RX9 235 RX5 yX5_cutAll wsX5_cutAll) := g_of (l_4 mw_716 mw_717 mw_718 mw_24 mw_719)
theorem gX9_net_X0_leaveAll : GoodIn wsX9_net (wsV RX9 238 RX0 yX0_leaveAll wsX0_leaveAll) := g_of (l_4 mw_741 mw_742 mw_743 mw_14 mw_744)
theorem gX9_tells_X9_isSheet : GoodIn wsX9_tells (va_wsS RX9 241 yX9_isSheet wsX9_isSheet) := g_of (l_3 mw_763 mw_764 mw_2 mw_765)
theorem gX9_tells_X9_isProgram : GoodIn wsX9_tells (wsV RX9 192 RX9 yX9_isProgram wsX9_isProgram) := g_of (l_4 mw_415 mw_416 mw_417 mw_2 mw_418)
theorem gX9_tells_X0_has : GoodIn wsX9_tells (wsV RX9 102 RX0 yX0_has wsX0_has) := g_of (l_4 mw_156 mw_157 mw_158 mw_14 mw_159)
theorem gX9_tells_X7_isMissing : GoodIn wsX9_tells (wsV RX9 244 RX7 yX7_isMissing wsX7_isMissing) := g_of (l_4 mw_766 mw_767 mw_768 mw_47 mw_769)
theorem gX9_tells_X9_kindsToldBy : GoodIn wsX9_tells (wsV RX9 248 RX9 yX9_kindsToldBy wsX9_kindsToldBy) := g_of (l_4 mw_770 mw_771 mw_772 mw_2 mw_773)
theorem gX9_tells_X9_outcomeInThought : GoodIn wsX9_tells (wsV RX9 204 RX9 yX9_outcomeInThought wsX9_outcomeInThought) := g_of (l_4 mw_614 mw_615 mw_616 mw_2 mw_617)
theorem gX9_tells_X6_keptMarks : GoodIn wsX9_tells (wsV RX9 156 RX6 yX6_keptMarks wsX6_keptMarks) := g_of (l_4 mw_248 mw_249 mw_250 mw_41 mw_251)
theorem gX9_tells_X7_firstUnlike : GoodIn wsX9_tells (wsV RX9 252 RX7 yX7_firstUnlike wsX7_firstUnlike) := g_of (l_4 mw_774 mw_775 mw_776 mw_47 mw_777)
theorem gX9_film_X9_isSheet : GoodIn wsX9_film (va_wsS RX9 241 yX9_isSheet wsX9_isSheet) := g_of (l_3 mw_763 mw_764 mw_2 mw_765)
theorem gX9_film_X9_isProgram : GoodIn wsX9_film (wsV RX9 192 RX9 yX9_isProgram wsX9_isProgram) := g_of (l_4 mw_415 mw_416 mw_417 mw_2 mw_418)
theorem gX9_film_X9_outcomeInThought : GoodIn wsX9_film (wsV RX9 204 RX9 yX9_outcomeInThought wsX9_outcomeInThought) := g_of (l_4 mw_614 mw_615 mw_616 mw_2 mw_617)
theorem gX9_film_X6_keptMarks : GoodIn wsX9_film (wsV RX9 156 RX6 yX6_keptMarks wsX6_keptMarks) := g_of (l_4 mw_248 mw_249 mw_250 mw_41 mw_251)
theorem gX9_film_X7_takeOver : GoodIn wsX9_film (wsV RX9 256 RX7 yX7_takeOver wsX7_takeOver) := g_of (l_4 mw_799 mw_800 mw_801 mw_47 mw_802)
theorem gX9_image_X0_becomeAs : GoodIn wsX9_image (wsV RX9 214 RX0 yX0_becomeAs wsX0_becomeAs) := g_of (l_4 mw_618 mw_619 mw_620 mw_14 mw_621)
theorem gX9_image_X1_becomeAs : GoodIn wsX9_image (wsV RX9 259 RX1 yX1_becomeAs wsX1_becomeAs) := g_of (l_4 mw_821 mw_822 mw_823 mw_19 mw_824)
theorem gX9_back_X0_becomeAs : GoodIn wsX9_back (wsV RX9 214 RX0 yX0_becomeAs wsX0_becomeAs) := g_of (l_4 mw_618 mw_619 mw_620 mw_14 mw_621)
theorem gX9_back_X1_becomeAs : GoodIn wsX9_back (wsV RX9 259 RX1 yX1_becomeAs wsX1_becomeAs) := g_of (l_4 mw_821 mw_822 mw_823 mw_19 mw_824)
theorem gX9_sheet_X9_isSheet : GoodIn wsX9_sheet (va_wsS RX9 241 yX9_isSheet wsX9_isSheet) := g_of (l_3 mw_763 mw_764 mw_2 mw_765)
theorem gX9_sheet_X7_become : GoodIn wsX9_sheet (wsV RX9 261 RX7 yX7_become wsX7_become) := g_of (l_4 mw_845 mw_805 mw_806 mw_47 mw_807)
theorem gX9_put_X9_isSheet : GoodIn wsX9_put (va_wsS RX9 241 yX9_isSheet wsX9_isSheet) := g_of (l_3 mw_763 mw_764 mw_2 mw_765)
theorem gX9_put_X7_isMissing : GoodIn wsX9_put (wsV RX9 244 RX7 yX7_isMissing wsX7_isMissing) := g_of (l_4 mw_766 mw_767 mw_768 mw_47 mw_769)
theorem gX9_put_X7_hasPlace : GoodIn wsX9_put (wsV RX9 264 RX7 yX7_hasPlace wsX7_hasPlace) := g_of (l_4 mw_851 mw_852 mw_853 mw_47 mw_854)
theorem gX9_put_X7_write : GoodIn wsX9_put (wsV RX9 267 RX7 yX7_write wsX7_write) := g_of (l_4 mw_855 mw_856 mw_857 mw_47 mw_858)
theorem gX9_copy_X9_isSheet : GoodIn wsX9_copy (va_wsS RX9 241 yX9_isSheet wsX9_isSheet) := g_of (l_3 mw_763 mw_764 mw_2 mw_765)
theorem gX9_copy_X7_isMissing : GoodIn wsX9_copy (wsV RX9 244 RX7 yX7_isMissing wsX7_isMissing) := g_of (l_4 mw_766 mw_767 mw_768 mw_47 mw_769)
theorem gX9_copy_X7_hasStretch : GoodIn wsX9_copy (wsV RX9 273 RX7 yX7_hasStretch wsX7_hasStretch) := g_of (l_4 mw_870 mw_871 mw_872 mw_47 mw_873)
theorem gX9_load_X9_isSheet : GoodIn wsX9_load (va_wsS RX9 241 yX9_isSheet wsX9_isSheet) := g_of (l_3 mw_763 mw_764 mw_2 mw_765)
theorem gX9_load_X9_isWithin : GoodIn wsX9_load (va_wsS RX9 91 yX9_isWithin wsX9_isWithin) := g_of (l_3 mw_132 mw_133 mw_2 mw_134)
theorem gX9_load_X7_isMissing : GoodIn wsX9_load (wsV RX9 244 RX7 yX7_isMissing wsX7_isMissing) := g_of (l_4 mw_766 mw_767 mw_768 mw_47 mw_769)
theorem gX9_load_X7_hasStretch : GoodIn wsX9_load (wsV RX9 273 RX7 yX7_hasStretch wsX7_hasStretch) := g_of (l_4 mw_870 mw_871 mw_872 mw_47 mw_873)
theorem gX9_load_X9_owe : GoodIn wsX9_load (wsV RX9 285 RX9 yX9_owe wsX9_owe) := g_of (l_4 mw_882 mw_674 mw_675 mw_2 mw_676)
theorem gX9_isByte_X9_isWithin : GoodIn wsX9_isByte (va_wsS RX9 91 yX9_isWithin wsX9_isWithin) := g_of (l_3 mw_132 mw_133 mw_2 mw_134)
theorem gX9_isPair_X0_has : GoodIn wsX9_isPair (wsV RX9 102 RX0 yX0_has wsX0_has) := g_of (l_4 mw_156 mw_157 mw_158 mw_14 mw_159)
theorem gX9_isOfWould_X0_has : GoodIn wsX9_isOfWould (wsV RX9 102 RX0 yX0_has wsX0_has) := g_of (l_4 mw_156 mw_157 mw_158 mw_14 mw_159)
theorem gX9_isOfWould_X9_isWithin : GoodIn wsX9_isOfWould (va_wsS RX9 91 yX9_isWithin wsX9_isWithin) := g_of (l_3 mw_132 mw_133 mw_2 mw_134)
theorem gX9_outcomeInThought_X0_becomeAs : GoodIn wsX9_outcomeInThought (wsV RX9 214 RX0 yX0_becomeAs wsX0_becomeAs) := g_of (l_4 mw_618 mw_619 mw_620 mw_14 mw_621)
theorem gX9_outcomeInThought_X6_outcomeOf : GoodIn wsX9_outcomeInThought (wsV RX9 195 RX6 yX6_outcomeOf wsX6_outcomeOf) := g_of (l_4 mw_419 mw_420 mw_421 mw_41 mw_422)
theorem gX9_kindsToldBy_X0_becomeAs : GoodIn wsX9_kindsToldBy (wsV RX9 214 RX0 yX0_becomeAs wsX0_becomeAs) := g_of (l_4 mw_618 mw_619 mw_620 mw_14 mw_621)
theorem gX9_kindsToldBy_X6_outcomeOf : GoodIn wsX9_kindsToldBy (wsV RX9 195 RX6 yX6_outcomeOf wsX6_outcomeOf) := g_of (l_4 mw_419 mw_420 mw_421 mw_41 mw_422)
theorem gX9_kindsToldBy_X6_keptMarks : GoodIn wsX9_kindsToldBy (wsV RX9 156 RX6 yX6_keptMarks wsX6_keptMarks) := g_of (l_4 mw_248 mw_249 mw_250 mw_41 mw_251)
theorem gX9_kindsToldBy_X7_firstUnlike : GoodIn wsX9_kindsToldBy (wsV RX9 252 RX7 yX7_firstUnlike wsX7_firstUnlike) := g_of (l_4 mw_774 mw_775 mw_776 mw_47 mw_777)
theorem gX10_isAccount_X10_isIn : GoodIn wsX10_isAccount (va_wsS RX10 67 yX10_isIn wsX10_isIn) := g_of (l_3 mw_146 mw_147 mw_5 mw_148)
theorem gX10_account_X10_isIn : GoodIn wsX10_account (va_wsS RX10 67 yX10_isIn wsX10_isIn) := g_of (l_3 mw_146 mw_147 mw_5 mw_148)
theorem gX10_set_X10_isAccount : GoodIn wsX10_set (wsV RX10 75 RX10 yX10_isAccount wsX10_isAccount) := g_of (l_4 mw_166 mw_167 mw_168 mw_5 mw_169)
theorem gX10_set_X10_isIn : GoodIn wsX10_set (va_wsS RX10 67 yX10_isIn wsX10_isIn) := g_of (l_3 mw_146 mw_147 mw_5 mw_148)
theorem gX10_gate_X10_isAccount : GoodIn wsX10_gate (wsV RX10 75 RX10 yX10_isAccount wsX10_isAccount) := g_of (l_4 mw_166 mw_167 mw_168 mw_5 mw_169)
theorem gX10_told_X10_isAccount : GoodIn wsX10_told (wsV RX10 75 RX10 yX10_isAccount wsX10_isAccount) := g_of (l_4 mw_166 mw_167 mw_168 mw_5 mw_169)
theorem gX10_told_X10_feeOf : GoodIn wsX10_told (wsV RX10 83 RX10 yX10_feeOf wsX10_feeOf) := g_of (l_4 mw_198 mw_199 mw_200 mw_5 mw_201)
theorem gX10_positionOf_X10_owedTo : GoodIn wsX10_positionOf (wsV RX10 87 RX10 yX10_owedTo wsX10_owedTo) := g_of (l_4 mw_234 mw_235 mw_236 mw_5 mw_237)
theorem gX10_of_X10_isAccount : GoodIn wsX10_of (wsV RX10 75 RX10 yX10_isAccount wsX10_isAccount) := g_of (l_4 mw_166 mw_167 mw_168 mw_5 mw_169)
theorem gX10_of_X10_isIn : GoodIn wsX10_of (va_wsS RX10 67 yX10_isIn wsX10_isIn) := g_of (l_3 mw_146 mw_147 mw_5 mw_148)
theorem gX10_of_X10_floorOf : GoodIn wsX10_of (wsV RX10 92 RX10 yX10_floorOf wsX10_floorOf) := g_of (l_4 mw_226 mw_227 mw_228 mw_5 mw_229)
theorem gX10_of_X10_positionOf : GoodIn wsX10_of (wsV RX10 96 RX10 yX10_positionOf wsX10_positionOf) := g_of (l_4 mw_230 mw_231 mw_232 mw_5 mw_233)
theorem gX10_sum_X10_isIn : GoodIn wsX10_sum (va_wsS RX10 67 yX10_isIn wsX10_isIn) := g_of (l_3 mw_146 mw_147 mw_5 mw_148)
theorem gX10_taken_X10_isAccount : GoodIn wsX10_taken (wsV RX10 75 RX10 yX10_isAccount wsX10_isAccount) := g_of (l_4 mw_166 mw_167 mw_168 mw_5 mw_169)
theorem gX10_taken_X10_isIn : GoodIn wsX10_taken (va_wsS RX10 67 yX10_isIn wsX10_isIn) := g_of (l_3 mw_146 mw_147 mw_5 mw_148)
theorem gX10_taken_X10_above : GoodIn wsX10_taken (va_wsS RX10 114 yX10_above wsX10_above) := g_of (l_3 mw_294 mw_295 mw_5 mw_296)
theorem gX10_isByte_X10_isIn : GoodIn wsX10_isByte (va_wsS RX10 67 yX10_isIn wsX10_isIn) := g_of (l_3 mw_146 mw_147 mw_5 mw_148)
theorem gX10_feed_X10_isIn : GoodIn wsX10_feed (va_wsS RX10 67 yX10_isIn wsX10_isIn) := g_of (l_3 mw_146 mw_147 mw_5 mw_148)
theorem gX10_feed_X10_isByte : GoodIn wsX10_feed (va_wsS RX10 121 yX10_isByte wsX10_isByte) := g_of (l_3 mw_314 mw_315 mw_5 mw_316)
theorem gX10_takesFigure_X10_byteAt : GoodIn wsX10_takesFigure (wsV RX10 127 RX10 yX10_byteAt wsX10_byteAt) := g_of (l_4 mw_393 mw_394 mw_395 mw_5 mw_396)
theorem gX10_takesFigure_X10_isIn : GoodIn wsX10_takesFigure (va_wsS RX10 67 yX10_isIn wsX10_isIn) := g_of (l_3 mw_146 mw_147 mw_5 mw_148)
theorem gX10_takesBracket_X10_takesFigure : GoodIn wsX10_takesBracket (wsV RX10 134 RX10 yX10_takesFigure wsX10_takesFigure) := g_of (l_4 mw_406 mw_407 mw_408 mw_5 mw_409)
theorem gX10_takesBracket_X10_byteAt : GoodIn wsX10_takesBracket (wsV RX10 127 RX10 yX10_byteAt wsX10_byteAt) := g_of (l_4 mw_393 mw_394 mw_395 mw_5 mw_396)
theorem gX10_takesBracket_X10_takesItem : GoodIn wsX10_takesBracket (wsV RX10 138 RX10 yX10_takesItem wsX10_takesItem) := g_of (l_4 mw_389 mw_390 mw_391 mw_5 mw_392)
theorem gX10_takesPayment_X10_takesFigure : GoodIn wsX10_takesPayment (wsV RX10 134 RX10 yX10_takesFigure wsX10_takesFigure) := g_of (l_4 mw_406 mw_407 mw_408 mw_5 mw_409)
theorem gX10_takesPayment_X10_byteAt : GoodIn wsX10_takesPayment (wsV RX10 127 RX10 yX10_byteAt wsX10_byteAt) := g_of (l_4 mw_393 mw_394 mw_395 mw_5 mw_396)
theorem gX10_takesPayment_X10_isIn : GoodIn wsX10_takesPayment (va_wsS RX10 67 yX10_isIn wsX10_isIn) := g_of (l_3 mw_146 mw_147 mw_5 mw_148)
theorem gX10_takesItem_X10_byteAt : GoodIn wsX10_takesItem (wsV RX10 127 RX10 yX10_byteAt wsX10_byteAt) := g_of (l_4 mw_393 mw_394 mw_395 mw_5 mw_396)
theorem gX10_takesItem_X10_takesBracket : GoodIn wsX10_takesItem (wsV RX10 146 RX10 yX10_takesBracket wsX10_takesBracket) := g_of (l_4 mw_397 mw_398 mw_399 mw_5 mw_410)
theorem gX10_takesItem_X10_takesPayment : GoodIn wsX10_takesItem (wsV RX10 150 RX10 yX10_takesPayment wsX10_takesPayment) := g_of (l_4 mw_400 mw_401 mw_402 mw_5 mw_403)
theorem gX10_takesItem_X10_takesFigure : GoodIn wsX10_takesItem (wsV RX10 134 RX10 yX10_takesFigure wsX10_takesFigure) := g_of (l_4 mw_406 mw_407 mw_408 mw_5 mw_409)
theorem gX10_program_X10_takesItem : GoodIn wsX10_program (wsV RX10 138 RX10 yX10_takesItem wsX10_takesItem) := g_of (l_4 mw_389 mw_390 mw_391 mw_5 mw_392)
theorem gX10_figureAt_X10_signAt : GoodIn wsX10_figureAt (wsV RX10 160 RX10 yX10_signAt wsX10_signAt) := g_of (l_4 mw_543 mw_544 mw_545 mw_5 mw_546)
theorem gX10_hasGate_X10_isAccount : GoodIn wsX10_hasGate (wsV RX10 75 RX10 yX10_isAccount wsX10_isAccount) := g_of (l_4 mw_166 mw_167 mw_168 mw_5 mw_169)
theorem gX10_behind_X10_signAt : GoodIn wsX10_behind (wsV RX10 160 RX10 yX10_signAt wsX10_signAt) := g_of (l_4 mw_543 mw_544 mw_545 mw_5 mw_546)
theorem gX10_behind_X10_isIn : GoodIn wsX10_behind (va_wsS RX10 67 yX10_isIn wsX10_isIn) := g_of (l_3 mw_146 mw_147 mw_5 mw_148)
theorem gX10_behind_X10_insideOf : GoodIn wsX10_behind (wsV RX10 163 RX10 yX10_insideOf wsX10_insideOf) := g_of (l_4 mw_554 mw_555 mw_556 mw_5 mw_557)
theorem gX10_behind_X10_isClosed : GoodIn wsX10_behind (wsV RX10 166 RX10 yX10_isClosed wsX10_isClosed) := g_of (l_4 mw_539 mw_540 mw_541 mw_5 mw_542)
theorem gX10_behind_X10_behind : GoodIn wsX10_behind (wsV RX10 169 RX10 yX10_behind wsX10_behind) := g_of (l_4 mw_550 mw_551 mw_552 mw_5 mw_553)
theorem gX10_insideOf_X10_signAt : GoodIn wsX10_insideOf (wsV RX10 160 RX10 yX10_signAt wsX10_signAt) := g_of (l_4 mw_543 mw_544 mw_545 mw_5 mw_546)
theorem gX10_isClosed_X10_signAt : GoodIn wsX10_isClosed (wsV RX10 160 RX10 yX10_signAt wsX10_signAt) := g_of (l_4 mw_543 mw_544 mw_545 mw_5 mw_546)
theorem gX10_does_X10_isClosed : GoodIn wsX10_does (wsV RX10 166 RX10 yX10_isClosed wsX10_isClosed) := g_of (l_4 mw_539 mw_540 mw_541 mw_5 mw_542)
theorem gX10_does_X10_doesItem : GoodIn wsX10_does (wsV RX10 175 RX10 yX10_doesItem wsX10_doesItem) := g_of (l_4 mw_547 mw_548 mw_549 mw_5 mw_571)
theorem gX10_does_X10_behind : GoodIn wsX10_does (wsV RX10 169 RX10 yX10_behind wsX10_behind) := g_of (l_4 mw_550 mw_551 mw_552 mw_5 mw_553)
theorem gX10_block_X10_figureAt : GoodIn wsX10_block (wsV RX10 178 RX10 yX10_figureAt wsX10_figureAt) := g_of (l_4 mw_559 mw_560 mw_561 mw_5 mw_562)
theorem gX10_block_X10_hasGate : GoodIn wsX10_block (wsV RX10 181 RX10 yX10_hasGate wsX10_hasGate) := g_of (l_4 mw_563 mw_564 mw_565 mw_5 mw_566)
theorem gX10_block_X10_marks : GoodIn wsX10_block (wsV RX10 184 RX10 yX10_marks wsX10_marks) := g_of (l_4 mw_567 mw_568 mw_569 mw_5 mw_570)
theorem gX10_block_X10_insideOf : GoodIn wsX10_block (wsV RX10 163 RX10 yX10_insideOf wsX10_insideOf) := g_of (l_4 mw_554 mw_555 mw_556 mw_5 mw_557)
theorem gX10_block_X10_does : GoodIn wsX10_block (wsV RX10 187 RX10 yX10_does wsX10_does) := g_of (l_4 mw_535 mw_536 mw_537 mw_5 mw_538)
theorem gX10_pays_X10_figureAt : GoodIn wsX10_pays (wsV RX10 178 RX10 yX10_figureAt wsX10_figureAt) := g_of (l_4 mw_559 mw_560 mw_561 mw_5 mw_562)
theorem gX10_pays_X10_behind : GoodIn wsX10_pays (wsV RX10 169 RX10 yX10_behind wsX10_behind) := g_of (l_4 mw_550 mw_551 mw_552 mw_5 mw_553)
theorem gX10_pays_X10_isAccount : GoodIn wsX10_pays (wsV RX10 75 RX10 yX10_isAccount wsX10_isAccount) := g_of (l_4 mw_166 mw_167 mw_168 mw_5 mw_169)
theorem gX10_pays_X10_feeOf : GoodIn wsX10_pays (wsV RX10 83 RX10 yX10_feeOf wsX10_feeOf) := g_of (l_4 mw_198 mw_199 mw_200 mw_5 mw_201)
theorem gX10_pays_X10_floorOf : GoodIn wsX10_pays (wsV RX10 92 RX10 yX10_floorOf wsX10_floorOf) := g_of (l_4 mw_226 mw_227 mw_228 mw_5 mw_229)
theorem gX10_pays_X10_marks : GoodIn wsX10_pays (wsV RX10 184 RX10 yX10_marks wsX10_marks) := g_of (l_4 mw_567 mw_568 mw_569 mw_5 mw_570)
theorem gX10_rings_X10_hasGate : GoodIn wsX10_rings (wsV RX10 181 RX10 yX10_hasGate wsX10_hasGate) := g_of (l_4 mw_563 mw_564 mw_565 mw_5 mw_566)
theorem gX10_rings_X10_marks : GoodIn wsX10_rings (wsV RX10 184 RX10 yX10_marks wsX10_marks) := g_of (l_4 mw_567 mw_568 mw_569 mw_5 mw_570)
theorem gX10_loops_X10_figureAt : GoodIn wsX10_loops (wsV RX10 178 RX10 yX10_figureAt wsX10_figureAt) := g_of (l_4 mw_559 mw_560 mw_561 mw_5 mw_562)
theorem gX10_loops_X10_insideOf : GoodIn wsX10_loops (wsV RX10 163 RX10 yX10_insideOf wsX10_insideOf) := g_of (l_4 mw_554 mw_555 mw_556 mw_5 mw_557)
theorem gX10_loops_X10_does : GoodIn wsX10_loops (wsV RX10 187 RX10 yX10_does wsX10_does) := g_of (l_4 mw_535 mw_536 mw_537 mw_5 mw_538)
theorem gX10_tries_X10_keepsBooks : GoodIn wsX10_tries (wsV RX10 190 RX10 yX10_keepsBooks wsX10_keepsBooks) := g_of (l_4 mw_531 mw_532 mw_533 mw_5 mw_534)
theorem gX10_tries_X10_insideOf : GoodIn wsX10_tries (wsV RX10 163 RX10 yX10_insideOf wsX10_insideOf) := g_of (l_4 mw_554 mw_555 mw_556 mw_5 mw_557)
theorem gX10_tries_X10_does : GoodIn wsX10_tries (wsV RX10 187 RX10 yX10_does wsX10_does) := g_of (l_4 mw_535 mw_536 mw_537 mw_5 mw_538)
theorem gX10_tries_X10_isIn : GoodIn wsX10_tries (va_wsS RX10 67 yX10_isIn wsX10_isIn) := g_of (l_3 mw_146 mw_147 mw_5 mw_148)
theorem gX10_tries_X10_forgetsBooks : GoodIn wsX10_tries (wsV RX10 193 RX10 yX10_forgetsBooks wsX10_forgetsBooks) := g_of (l_4 mw_591 mw_592 mw_593 mw_5 mw_594)
theorem gX10_tries_X10_marks : GoodIn wsX10_tries (wsV RX10 184 RX10 yX10_marks wsX10_marks) := g_of (l_4 mw_567 mw_568 mw_569 mw_5 mw_570)
theorem gX10_doesItem_X10_signAt : GoodIn wsX10_doesItem (wsV RX10 160 RX10 yX10_signAt wsX10_signAt) := g_of (l_4 mw_543 mw_544 mw_545 mw_5 mw_546)
theorem gX10_doesItem_X10_block : GoodIn wsX10_doesItem (wsV RX10 200 RX10 yX10_block wsX10_block) := g_of (l_4 mw_572 mw_573 mw_574 mw_5 mw_558)
theorem gX10_doesItem_X10_tries : GoodIn wsX10_doesItem (wsV RX10 203 RX10 yX10_tries wsX10_tries) := g_of (l_4 mw_575 mw_576 mw_577 mw_5 mw_590)
theorem gX10_doesItem_X10_loops : GoodIn wsX10_doesItem (wsV RX10 207 RX10 yX10_loops wsX10_loops) := g_of (l_4 mw_578 mw_579 mw_580 mw_5 mw_589)
theorem gX10_doesItem_X10_pays : GoodIn wsX10_doesItem (wsV RX10 210 RX10 yX10_pays wsX10_pays) := g_of (l_4 mw_581 mw_582 mw_583 mw_5 mw_584)
theorem gX10_doesItem_X10_figureAt : GoodIn wsX10_doesItem (wsV RX10 178 RX10 yX10_figureAt wsX10_figureAt) := g_of (l_4 mw_559 mw_560 mw_561 mw_5 mw_562)
theorem gX10_doesItem_X10_rings : GoodIn wsX10_doesItem (wsV RX10 213 RX10 yX10_rings wsX10_rings) := g_of (l_4 mw_585 mw_586 mw_587 mw_5 mw_588)
theorem gX10_runs_X10_keepsBooks : GoodIn wsX10_runs (wsV RX10 190 RX10 yX10_keepsBooks wsX10_keepsBooks) := g_of (l_4 mw_531 mw_532 mw_533 mw_5 mw_534)
theorem gX10_runs_X10_does : GoodIn wsX10_runs (wsV RX10 187 RX10 yX10_does wsX10_does) := g_of (l_4 mw_535 mw_536 mw_537 mw_5 mw_538)
theorem gX10_runs_X10_forgetsBooks : GoodIn wsX10_runs (wsV RX10 193 RX10 yX10_forgetsBooks wsX10_forgetsBooks) := g_of (l_4 mw_591 mw_592 mw_593 mw_5 mw_594)
theorem gX10_isProgram_X10_isIn : GoodIn wsX10_isProgram (va_wsS RX10 67 yX10_isIn wsX10_isIn) := g_of (l_3 mw_146 mw_147 mw_5 mw_148)
theorem gX10_run_X10_isProgram : GoodIn wsX10_run (wsV RX10 216 RX10 yX10_isProgram wsX10_isProgram) := g_of (l_4 mw_520 mw_521 mw_522 mw_5 mw_523)
theorem gX10_run_X10_runs : GoodIn wsX10_run (wsV RX10 219 RX10 yX10_runs wsX10_runs) := g_of (l_4 mw_524 mw_525 mw_526 mw_5 mw_527)
theorem gX10_trace_X10_isIn : GoodIn wsX10_trace (va_wsS RX10 67 yX10_isIn wsX10_isIn) := g_of (l_3 mw_146 mw_147 mw_5 mw_148)
theorem gX10_would_X10_isProgram : GoodIn wsX10_would (wsV RX10 216 RX10 yX10_isProgram wsX10_isProgram) := g_of (l_4 mw_520 mw_521 mw_522 mw_5 mw_523)
theorem gX10_would_X10_isIn : GoodIn wsX10_would (va_wsS RX10 67 yX10_isIn wsX10_isIn) := g_of (l_3 mw_146 mw_147 mw_5 mw_148)
theorem gX10_would_X10_entries : GoodIn wsX10_would (wsV RX10 240 RX10 yX10_entries wsX10_entries) := g_of (l_4 mw_637 mw_638 mw_639 mw_5 mw_640)
theorem gX10_would_X10_thinks : GoodIn wsX10_would (wsV RX10 244 RX10 yX10_thinks wsX10_thinks) := g_of (l_4 mw_641 mw_642 mw_643 mw_5 mw_644)
theorem gX10_would_X10_runs : GoodIn wsX10_would (wsV RX10 219 RX10 yX10_runs wsX10_runs) := g_of (l_4 mw_524 mw_525 mw_526 mw_5 mw_527)
theorem gX10_would_X10_wakes : GoodIn wsX10_would (wsV RX10 247 RX10 yX10_wakes wsX10_wakes) := g_of (l_4 mw_647 mw_648 mw_649 mw_5 mw_650)
theorem gX10_outcomeOf_X10_would : GoodIn wsX10_outcomeOf (wsV RX10 250 RX10 yX10_would wsX10_would) := g_of (l_4 mw_664 mw_632 mw_633 mw_5 mw_634)
theorem gX10_needed_X10_isProgram : GoodIn wsX10_needed (wsV RX10 216 RX10 yX10_isProgram wsX10_isProgram) := g_of (l_4 mw_520 mw_521 mw_522 mw_5 mw_523)
theorem gX10_needed_X10_isAccount : GoodIn wsX10_needed (wsV RX10 75 RX10 yX10_isAccount wsX10_isAccount) := g_of (l_4 mw_166 mw_167 mw_168 mw_5 mw_169)
theorem gX10_needed_X10_outcomeOf : GoodIn wsX10_needed (wsV RX10 255 RX10 yX10_outcomeOf wsX10_outcomeOf) := g_of (l_4 mw_660 mw_661 mw_662 mw_5 mw_663)
theorem gX10_hinges_X10_isProgram : GoodIn wsX10_hinges (wsV RX10 216 RX10 yX10_isProgram wsX10_isProgram) := g_of (l_4 mw_520 mw_521 mw_522 mw_5 mw_523)
theorem gX10_hinges_X10_outcomeOf : GoodIn wsX10_hinges (wsV RX10 255 RX10 yX10_outcomeOf wsX10_outcomeOf) := g_of (l_4 mw_660 mw_661 mw_662 mw_5 mw_663)
theorem gX10_areTwo_X10_isAccount : GoodIn wsX10_areTwo (wsV RX10 75 RX10 yX10_isAccount wsX10_isAccount) := g_of (l_4 mw_166 mw_167 mw_168 mw_5 mw_169)
theorem gX10_owe_X10_areTwo : GoodIn wsX10_owe (wsV RX10 258 RX10 yX10_areTwo wsX10_areTwo) := g_of (l_4 mw_692 mw_693 mw_694 mw_5 mw_695)
theorem gX10_owe_X10_isIn : GoodIn wsX10_owe (va_wsS RX10 67 yX10_isIn wsX10_isIn) := g_of (l_3 mw_146 mw_147 mw_5 mw_148)
theorem gX10_owe_X10_owedTo : GoodIn wsX10_owe (wsV RX10 87 RX10 yX10_owedTo wsX10_owedTo) := g_of (l_4 mw_234 mw_235 mw_236 mw_5 mw_237)
theorem gX10_owed_X10_areTwo : GoodIn wsX10_owed (wsV RX10 258 RX10 yX10_areTwo wsX10_areTwo) := g_of (l_4 mw_692 mw_693 mw_694 mw_5 mw_695)
theorem gX10_owed_X10_owedTo : GoodIn wsX10_owed (wsV RX10 87 RX10 yX10_owedTo wsX10_owedTo) := g_of (l_4 mw_234 mw_235 mw_236 mw_5 mw_237)
theorem gX10_ringFrom_X10_owedTo : GoodIn wsX10_ringFrom (wsV RX10 87 RX10 yX10_owedTo wsX10_owedTo) := g_of (l_4 mw_234 mw_235 mw_236 mw_5 mw_237)
theorem gX10_ringFrom_X10_ringFrom : GoodIn wsX10_ringFrom (wsV RX10 263 RX10 yX10_ringFrom wsX10_ringFrom) := g_of (l_4 mw_754 mw_755 mw_756 mw_5 mw_757)
theorem gX10_firstRing_X10_ringFrom : GoodIn wsX10_firstRing (wsV RX10 263 RX10 yX10_ringFrom wsX10_ringFrom) := g_of (l_4 mw_754 mw_755 mw_756 mw_5 mw_757)
theorem gX10_net_X10_firstRing : GoodIn wsX10_net (wsV RX10 266 RX10 yX10_firstRing wsX10_firstRing) := g_of (l_4 mw_750 mw_751 mw_752 mw_5 mw_753)
theorem gX10_net_X10_owedTo : GoodIn wsX10_net (wsV RX10 87 RX10 yX10_owedTo wsX10_owedTo) := g_of (l_4 mw_234 mw_235 mw_236 mw_5 mw_237)
theorem gX10_isSheet_X10_isIn : GoodIn wsX10_isSheet (va_wsS RX10 67 yX10_isIn wsX10_isIn) := g_of (l_3 mw_146 mw_147 mw_5 mw_148)
theorem gX10_otherIn_X10_thinks : GoodIn wsX10_otherIn (wsV RX10 244 RX10 yX10_thinks wsX10_thinks) := g_of (l_4 mw_641 mw_642 mw_643 mw_5 mw_644)
theorem gX10_otherIn_X10_runs : GoodIn wsX10_otherIn (wsV RX10 219 RX10 yX10_runs wsX10_runs) := g_of (l_4 mw_524 mw_525 mw_526 mw_5 mw_527)
theorem gX10_otherIn_X10_wakes : GoodIn wsX10_otherIn (wsV RX10 247 RX10 yX10_wakes wsX10_wakes) := g_of (l_4 mw_647 mw_648 mw_649 mw_5 mw_650)
theorem gX10_otherIn_X10_itemOf : GoodIn wsX10_otherIn (wsV RX10 270 RX10 yX10_itemOf wsX10_itemOf) := g_of (l_4 mw_791 mw_792 mw_793 mw_5 mw_794)
theorem gX10_tells_X10_isSheet : GoodIn wsX10_tells (va_wsS RX10 273 yX10_isSheet wsX10_isSheet) := g_of (l_3 mw_784 mw_785 mw_5 mw_786)
theorem gX10_tells_X10_isProgram : GoodIn wsX10_tells (wsV RX10 216 RX10 yX10_isProgram wsX10_isProgram) := g_of (l_4 mw_520 mw_521 mw_522 mw_5 mw_523)
theorem gX10_tells_X10_isIn : GoodIn wsX10_tells (va_wsS RX10 67 yX10_isIn wsX10_isIn) := g_of (l_3 mw_146 mw_147 mw_5 mw_148)
theorem gX10_tells_X10_isAccount : GoodIn wsX10_tells (wsV RX10 75 RX10 yX10_isAccount wsX10_isAccount) := g_of (l_4 mw_166 mw_167 mw_168 mw_5 mw_169)
theorem gX10_tells_X10_otherIn : GoodIn wsX10_tells (wsV RX10 276 RX10 yX10_otherIn wsX10_otherIn) := g_of (l_4 mw_787 mw_788 mw_789 mw_5 mw_790)
theorem gX10_film_X10_isSheet : GoodIn wsX10_film (va_wsS RX10 273 yX10_isSheet wsX10_isSheet) := g_of (l_3 mw_784 mw_785 mw_5 mw_786)
theorem gX10_film_X10_isProgram : GoodIn wsX10_film (wsV RX10 216 RX10 yX10_isProgram wsX10_isProgram) := g_of (l_4 mw_520 mw_521 mw_522 mw_5 mw_523)
theorem gX10_film_X10_thinks : GoodIn wsX10_film (wsV RX10 244 RX10 yX10_thinks wsX10_thinks) := g_of (l_4 mw_641 mw_642 mw_643 mw_5 mw_644)
theorem gX10_film_X10_runs : GoodIn wsX10_film (wsV RX10 219 RX10 yX10_runs wsX10_runs) := g_of (l_4 mw_524 mw_525 mw_526 mw_5 mw_527)
theorem gX10_film_X10_wakes : GoodIn wsX10_film (wsV RX10 247 RX10 yX10_wakes wsX10_wakes) := g_of (l_4 mw_647 mw_648 mw_649 mw_5 mw_650)
theorem gX10_film_X10_sheet : GoodIn wsX10_film (wsV RX10 279 RX10 yX10_sheet wsX10_sheet) := g_of (l_4 mw_812 mw_813 mw_814 mw_5 mw_815)
theorem gX10_sheet_X10_isSheet : GoodIn wsX10_sheet (va_wsS RX10 273 yX10_isSheet wsX10_isSheet) := g_of (l_3 mw_784 mw_785 mw_5 mw_786)
theorem gX10_sheet_X10_isIn : GoodIn wsX10_sheet (va_wsS RX10 67 yX10_isIn wsX10_isIn) := g_of (l_3 mw_146 mw_147 mw_5 mw_148)
theorem gX10_put_X10_isSheet : GoodIn wsX10_put (va_wsS RX10 273 yX10_isSheet wsX10_isSheet) := g_of (l_3 mw_784 mw_785 mw_5 mw_786)
theorem gX10_put_X10_isIn : GoodIn wsX10_put (va_wsS RX10 67 yX10_isIn wsX10_isIn) := g_of (l_3 mw_146 mw_147 mw_5 mw_148)
theorem gX10_copy_X10_isSheet : GoodIn wsX10_copy (va_wsS RX10 273 yX10_isSheet wsX10_isSheet) := g_of (l_3 mw_784 mw_785 mw_5 mw_786)
theorem gX10_load_X10_isSheet : GoodIn wsX10_load (va_wsS RX10 273 yX10_isSheet wsX10_isSheet) := g_of (l_3 mw_784 mw_785 mw_5 mw_786)
theorem gX10_load_X10_isIn : GoodIn wsX10_load (va_wsS RX10 67 yX10_isIn wsX10_isIn) := g_of (l_3 mw_146 mw_147 mw_5 mw_148)
theorem gX10_load_X10_itemOf : GoodIn wsX10_load (wsV RX10 270 RX10 yX10_itemOf wsX10_itemOf) := g_of (l_4 mw_791 mw_792 mw_793 mw_5 mw_794)
theorem gX10_load_X10_owe : GoodIn wsX10_load (wsV RX10 297 RX10 yX10_owe wsX10_owe) := g_of (l_4 mw_888 mw_688 mw_689 mw_5 mw_690)
theorem gL_law_X9_init : GoodIn wsL_law (wsX9_init) := g_oL (l_c mw_8)
theorem gL_law_X10_init : GoodIn wsL_law (wsX10_init) := g_oL (l_c mw_102)
theorem gL_law_X9_account : GoodIn wsL_law (wsV RL 13 RX9 yX9_account wsX9_account) := g_oL (l_4 mw_122 mw_123 mw_124 mw_2 mw_125)
theorem gL_law_X10_account : GoodIn wsL_law (wsV RL 17 RX10 yX10_account wsX10_account) := g_oL (l_4 mw_140 mw_141 mw_142 mw_5 mw_143)
theorem gL_law_X9_set : GoodIn wsL_law (wsV RL 18 RX9 yX9_set wsX9_set) := g_oL (l_4 mw_149 mw_150 mw_151 mw_2 mw_152)
theorem gL_law_X10_set : GoodIn wsL_law (wsV RL 22 RX10 yX10_set wsX10_set) := g_oL (l_4 mw_160 mw_161 mw_162 mw_5 mw_163)
theorem gL_law_X9_gate : GoodIn wsL_law (wsV RL 23 RX9 yX9_gate wsX9_gate) := g_oL (l_4 mw_170 mw_171 mw_172 mw_2 mw_173)
theorem gL_law_X10_gate : GoodIn wsL_law (wsV RL 27 RX10 yX10_gate wsX10_gate) := g_oL (l_4 mw_175 mw_176 mw_177 mw_5 mw_178)
theorem gL_law_X9_told : GoodIn wsL_law (wsV RL 28 RX9 yX9_told wsX9_told) := g_oL (l_4 mw_179 mw_180 mw_181 mw_2 mw_182)
theorem gL_law_X10_told : GoodIn wsL_law (wsV RL 31 RX10 yX10_told wsX10_told) := g_oL (l_4 mw_194 mw_195 mw_196 mw_5 mw_197)
theorem gL_law_X9_of : GoodIn wsL_law (wsV RL 32 RX9 yX9_of wsX9_of) := g_oL (l_4 mw_202 mw_203 mw_204 mw_2 mw_205)
theorem gL_law_X10_of : GoodIn wsL_law (wsV RL 36 RX10 yX10_of wsX10_of) := g_oL (l_4 mw_221 mw_222 mw_223 mw_5 mw_224)
theorem gL_law_X9_count : GoodIn wsL_law (wsV RL 37 RX9 yX9_count wsX9_count) := g_oL (l_4 mw_238 mw_239 mw_240 mw_2 mw_241)
theorem gL_law_X10_count : GoodIn wsL_law (wsV RL 41 RX10 yX10_count wsX10_count) := g_oL (l_4 mw_257 mw_258 mw_259 mw_5 mw_260)
theorem gL_law_X9_sum : GoodIn wsL_law (wsV RL 42 RX9 yX9_sum wsX9_sum) := g_oL (l_4 mw_264 mw_265 mw_266 mw_2 mw_267)
theorem gL_law_X10_sum : GoodIn wsL_law (wsV RL 46 RX10 yX10_sum wsX10_sum) := g_oL (l_4 mw_278 mw_279 mw_280 mw_5 mw_281)
theorem gL_law_X9_taken : GoodIn wsL_law (wsV RL 47 RX9 yX9_taken wsX9_taken) := g_oL (l_4 mw_283 mw_284 mw_285 mw_2 mw_286)
theorem gL_law_X10_taken : GoodIn wsL_law (wsV RL 50 RX10 yX10_taken wsX10_taken) := g_oL (l_4 mw_290 mw_291 mw_292 mw_5 mw_293)
theorem gL_law_X9_feed : GoodIn wsL_law (wsV RL 51 RX9 yX9_feed wsX9_feed) := g_oL (l_4 mw_297 mw_298 mw_299 mw_2 mw_300)
theorem gL_law_X10_feed : GoodIn wsL_law (wsV RL 55 RX10 yX10_feed wsX10_feed) := g_oL (l_4 mw_309 mw_310 mw_311 mw_5 mw_312)
theorem gL_law_X9_program : GoodIn wsL_law (wsV RL 56 RX9 yX9_program wsX9_program) := g_oL (l_4 mw_318 mw_319 mw_320 mw_2 mw_321)
theorem gL_law_X10_program : GoodIn wsL_law (wsV RL 60 RX10 yX10_program wsX10_program) := g_oL (l_4 mw_383 mw_384 mw_385 mw_5 mw_386)
theorem gL_law_X9_run : GoodIn wsL_law (wsV RL 61 RX9 yX9_run wsX9_run) := g_oL (l_4 mw_411 mw_412 mw_413 mw_2 mw_414)
theorem gL_law_X10_run : GoodIn wsL_law (wsV RL 64 RX10 yX10_run wsX10_run) := g_oL (l_4 mw_514 mw_515 mw_516 mw_5 mw_517)
theorem gL_law_X9_trace : GoodIn wsL_law (wsV RL 65 RX9 yX9_trace wsX9_trace) := g_oL (l_4 mw_595 mw_596 mw_597 mw_2 mw_598)
theorem gL_law_X10_trace : GoodIn wsL_law (wsV RL 68 RX10 yX10_trace wsX10_trace) := g_oL (l_4 mw_600 mw_601 mw_602 mw_5 mw_603)
theorem gL_law_X9_would : GoodIn wsL_law (wsV RL 69 RX9 yX9_would wsX9_would) := g_oL (l_4 mw_604 mw_605 mw_606 mw_2 mw_607)
theorem gL_law_X10_would : GoodIn wsL_law (wsV RL 72 RX10 yX10_would wsX10_would) := g_oL (l_4 mw_631 mw_632 mw_633 mw_5 mw_634)
theorem gL_law_X9_needed : GoodIn wsL_law (wsV RL 73 RX9 yX9_needed wsX9_needed) := g_oL (l_4 mw_651 mw_652 mw_653 mw_2 mw_654)
theorem gL_law_X10_needed : GoodIn wsL_law (wsV RL 76 RX10 yX10_needed wsX10_needed) := g_oL (l_4 mw_655 mw_656 mw_657 mw_5 mw_658)
theorem gL_law_X9_hinges : GoodIn wsL_law (wsV RL 77 RX9 yX9_hinges wsX9_hinges) := g_oL (l_4 mw_665 mw_666 mw_667 mw_2 mw_668)
theorem gL_law_X10_hinges : GoodIn wsL_law (wsV RL 80 RX10 yX10_hinges wsX10_hinges) := g_oL (l_4 mw_669 mw_670 mw_671 mw_5 mw_672)
theorem gL_law_X9_owe : GoodIn wsL_law (wsV RL 81 RX9 yX9_owe wsX9_owe) := g_oL (l_4 mw_673 mw_674 mw_675 mw_2 mw_676)
theorem gL_law_X10_owe : GoodIn wsL_law (wsV RL 85 RX10 yX10_owe wsX10_owe) := g_oL (l_4 mw_687 mw_688 mw_689 mw_5 mw_690)
theorem gL_law_X9_owed : GoodIn wsL_law (wsV RL 86 RX9 yX9_owed wsX9_owed) := g_oL (l_4 mw_696 mw_697 mw_698 mw_2 mw_699)
theorem gL_law_X10_owed : GoodIn wsL_law (wsV RL 89 RX10 yX10_owed wsX10_owed) := g_oL (l_4 mw_700 mw_701 mw_702 mw_5 mw_703)
theorem gL_law_X9_net : GoodIn wsL_law (wsV RL 90 RX9 yX9_net wsX9_net) := g_oL (l_4 mw_704 mw_705 mw_706 mw_2 mw_707)
theorem gL_law_X10_net : GoodIn wsL_law (wsV RL 93 RX10 yX10_net wsX10_net) := g_oL (l_4 mw_745 mw_746 mw_747 mw_5 mw_748)
theorem gL_law_X9_tells : GoodIn wsL_law (wsV RL 94 RX9 yX9_tells wsX9_tells) := g_oL (l_4 mw_758 mw_759 mw_760 mw_2 mw_761)
theorem gL_law_X10_tells : GoodIn wsL_law (wsV RL 98 RX10 yX10_tells wsX10_tells) := g_oL (l_4 mw_780 mw_781 mw_782 mw_5 mw_783)
theorem gL_law_X9_film : GoodIn wsL_law (wsV RL 99 RX9 yX9_film wsX9_film) := g_oL (l_4 mw_795 mw_796 mw_797 mw_2 mw_798)
theorem gL_law_X10_film : GoodIn wsL_law (wsV RL 102 RX10 yX10_film wsX10_film) := g_oL (l_4 mw_808 mw_809 mw_810 mw_5 mw_811)
theorem gL_law_X9_image : GoodIn wsL_law (wsV RL 103 RX9 yX9_image wsX9_image) := g_oL (l_4 mw_817 mw_818 mw_819 mw_2 mw_820)
theorem gL_law_X10_image : GoodIn wsL_law (wsV RL 106 RX10 yX10_image wsX10_image) := g_oL (l_4 mw_826 mw_827 mw_828 mw_5 mw_829)
theorem gL_law_X9_back : GoodIn wsL_law (wsV RL 107 RX9 yX9_back wsX9_back) := g_oL (l_4 mw_833 mw_834 mw_835 mw_2 mw_836)
theorem gL_law_X10_back : GoodIn wsL_law (wsV RL 110 RX10 yX10_back wsX10_back) := g_oL (l_4 mw_837 mw_838 mw_839 mw_5 mw_840)
theorem gL_law_X9_sheet : GoodIn wsL_law (wsV RL 111 RX9 yX9_sheet wsX9_sheet) := g_oL (l_4 mw_841 mw_842 mw_843 mw_2 mw_844)
theorem gL_law_X10_sheet : GoodIn wsL_law (wsV RL 114 RX10 yX10_sheet wsX10_sheet) := g_oL (l_4 mw_846 mw_813 mw_814 mw_5 mw_815)
theorem gL_law_X9_put : GoodIn wsL_law (wsV RL 115 RX9 yX9_put wsX9_put) := g_oL (l_4 mw_847 mw_848 mw_849 mw_2 mw_850)
theorem gL_law_X10_put : GoodIn wsL_law (wsV RL 118 RX10 yX10_put wsX10_put) := g_oL (l_4 mw_859 mw_860 mw_861 mw_5 mw_862)
theorem gL_law_X9_copy : GoodIn wsL_law (wsV RL 119 RX9 yX9_copy wsX9_copy) := g_oL (l_4 mw_863 mw_864 mw_865 mw_2 mw_866)
theorem gL_law_X10_copy : GoodIn wsL_law (wsV RL 123 RX10 yX10_copy wsX10_copy) := g_oL (l_4 mw_874 mw_875 mw_876 mw_5 mw_877)
theorem gL_law_X9_load : GoodIn wsL_law (wsV RL 124 RX9 yX9_load wsX9_load) := g_oL (l_4 mw_878 mw_879 mw_880 mw_2 mw_881)
theorem gL_law_X10_load : GoodIn wsL_law (wsV RL 127 RX10 yX10_load wsX10_load) := g_oL (l_4 mw_883 mw_884 mw_885 mw_5 mw_886)

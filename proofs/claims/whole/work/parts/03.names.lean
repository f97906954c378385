/-! ===== BEGIN printed: names, fields, word lists, decode rows ===== -/
def RX0 : String := "TypedHall$GridItem"
def TX0 : u_T := fun k => match k with
  | _ => ("TypedHall$GridItem", "rows", "[[I", true)
def tyX0 : Nat → FieldType := fun k => match k with
  | _ => .array (.array .int)
abbrev wsX00 : List Cond := u_ws RX0 TX0 1
theorem nmX0 : ∀ a, a < 1 → ∀ b, b < 1 → a ≠ b → (TX0 a).2.1 ≠ (TX0 b).2.1 := by decide +kernel
theorem tyX0_ok : ∀ k, k < 1 → parseFieldDescriptor (TX0 k).2.2.1 = some (tyX0 k) := by decide +kernel
abbrev cX0_init : ByteArray := prog_2_method_1_code
def yX0_init : MethodName := ⟨RX0, "<init>", "(II)V"⟩
abbrev cX0_sort : ByteArray := prog_2_method_2_code
def yX0_sort : MethodName := ⟨RX0, "sort", "()I"⟩
def RX1 : String := "TypedHall$Item"
def TX1 : u_T := fun k => match k with
  | _ => ("", "", "", false)
def tyX1 : Nat → FieldType := fun k => match k with
  | _ => .int
abbrev wsX10 : List Cond := u_ws RX1 TX1 0
theorem nmX1 : ∀ a, a < 0 → ∀ b, b < 0 → a ≠ b → (TX1 a).2.1 ≠ (TX1 b).2.1 := by decide +kernel
theorem tyX1_ok : ∀ k, k < 0 → parseFieldDescriptor (TX1 k).2.2.1 = some (tyX1 k) := by decide +kernel
abbrev cX1_init : ByteArray := prog_3_method_1_code
def yX1_init : MethodName := ⟨RX1, "<init>", "()V"⟩
abbrev cX1_ground : ByteArray := prog_3_method_3_code
def yX1_ground : MethodName := ⟨RX1, "ground", "()LTypedHall$VectorItem;"⟩
abbrev cX1_shift : ByteArray := prog_3_method_4_code
def yX1_shift : MethodName := ⟨RX1, "shift", "()I"⟩
abbrev cX1_windows : ByteArray := prog_3_method_5_code
def yX1_windows : MethodName := ⟨RX1, "windows", "()I"⟩
def RX2 : String := "TypedHall$RecordItem"
def TX2 : u_T := fun k => match k with
  | 0 => ("TypedHall$RecordItem", "number", "J", false)
  | _ => ("TypedHall$RecordItem", "next", "LTypedHall$RecordItem;", false)
def tyX2 : Nat → FieldType := fun k => match k with
  | 0 => .long
  | _ => .object "TypedHall$RecordItem"
abbrev wsX20 : List Cond := u_ws RX2 TX2 2
theorem nmX2 : ∀ a, a < 2 → ∀ b, b < 2 → a ≠ b → (TX2 a).2.1 ≠ (TX2 b).2.1 := by decide +kernel
theorem tyX2_ok : ∀ k, k < 2 → parseFieldDescriptor (TX2 k).2.2.1 = some (tyX2 k) := by decide +kernel
abbrev cX2_init : ByteArray := prog_4_method_1_code
def yX2_init : MethodName := ⟨RX2, "<init>", "()V"⟩
abbrev cX2_sort : ByteArray := prog_4_method_2_code
def yX2_sort : MethodName := ⟨RX2, "sort", "()I"⟩
def RX3 : String := "TypedHall$VectorItem"
def TX3 : u_T := fun k => match k with
  | 0 => ("TypedHall$VectorItem", "sort", "I", true)
  | 1 => ("TypedHall$VectorItem", "numbers", "[J", false)
  | _ => ("TypedHall$VectorItem", "items", "[LTypedHall$Item;", false)
def tyX3 : Nat → FieldType := fun k => match k with
  | 0 => .int
  | 1 => .array .long
  | _ => .array (.object "TypedHall$Item")
abbrev wsX30 : List Cond := u_ws RX3 TX3 3
theorem nmX3 : ∀ a, a < 3 → ∀ b, b < 3 → a ≠ b → (TX3 a).2.1 ≠ (TX3 b).2.1 := by decide +kernel
theorem tyX3_ok : ∀ k, k < 3 → parseFieldDescriptor (TX3 k).2.2.1 = some (tyX3 k) := by decide +kernel
abbrev cX3_init : ByteArray := prog_5_method_1_code
def yX3_init : MethodName := ⟨RX3, "<init>", "(II)V"⟩
abbrev cX3_sort : ByteArray := prog_5_method_2_code
def yX3_sort : MethodName := ⟨RX3, "sort", "()I"⟩
abbrev cX3_ground : ByteArray := prog_5_method_3_code
def yX3_ground : MethodName := ⟨RX3, "ground", "()LTypedHall$VectorItem;"⟩
abbrev cX3_isLost : ByteArray := prog_5_method_4_code
def yX3_isLost : MethodName := ⟨RX3, "isLost", "()Z"⟩
abbrev cX3_length : ByteArray := prog_5_method_5_code
def yX3_length : MethodName := ⟨RX3, "length", "()I"⟩
abbrev cX3_dropStorage : ByteArray := prog_5_method_6_code
def yX3_dropStorage : MethodName := ⟨RX3, "dropStorage", "()V"⟩
abbrev cX3_changeLength : ByteArray := prog_5_method_7_code
def yX3_changeLength : MethodName := ⟨RX3, "changeLength", "(I)I"⟩
abbrev cX3_firstItems : ByteArray := prog_5_method_8_code
def yX3_firstItems : MethodName := ⟨RX3, "firstItems", "(II)[LTypedHall$Item;"⟩
def RX4 : String := "TypedHall$WindowItem"
def TX4 : u_T := fun k => match k with
  | 0 => ("TypedHall$WindowItem", "ground", "LTypedHall$VectorItem;", true)
  | 1 => ("TypedHall$WindowItem", "shift", "I", true)
  | _ => ("TypedHall$WindowItem", "windows", "I", true)
def tyX4 : Nat → FieldType := fun k => match k with
  | 0 => .object "TypedHall$VectorItem"
  | 1 => .int
  | _ => .int
abbrev wsX40 : List Cond := u_ws RX4 TX4 3
theorem nmX4 : ∀ a, a < 3 → ∀ b, b < 3 → a ≠ b → (TX4 a).2.1 ≠ (TX4 b).2.1 := by decide +kernel
theorem tyX4_ok : ∀ k, k < 3 → parseFieldDescriptor (TX4 k).2.2.1 = some (tyX4 k) := by decide +kernel
abbrev cX4_init : ByteArray := prog_6_method_1_code
def yX4_init : MethodName := ⟨RX4, "<init>", "(LTypedHall$VectorItem;II)V"⟩
abbrev cX4_sort : ByteArray := prog_6_method_2_code
def yX4_sort : MethodName := ⟨RX4, "sort", "()I"⟩
abbrev cX4_ground : ByteArray := prog_6_method_3_code
def yX4_ground : MethodName := ⟨RX4, "ground", "()LTypedHall$VectorItem;"⟩
abbrev cX4_shift : ByteArray := prog_6_method_4_code
def yX4_shift : MethodName := ⟨RX4, "shift", "()I"⟩
abbrev cX4_windows : ByteArray := prog_6_method_5_code
def yX4_windows : MethodName := ⟨RX4, "windows", "()I"⟩
def RX5 : String := "TypedHall"
def TX5 : u_T := fun k => match k with
  | 0 => ("TypedHall", "held", "[LTypedHall$Item;", true)
  | _ => ("TypedHall", "made", "I", false)
def tyX5 : Nat → FieldType := fun k => match k with
  | 0 => .array (.object "TypedHall$Item")
  | _ => .int
abbrev wsX50 : List Cond := u_ws RX5 TX5 2
theorem nmX5 : ∀ a, a < 2 → ∀ b, b < 2 → a ≠ b → (TX5 a).2.1 ≠ (TX5 b).2.1 := by decide +kernel
theorem tyX5_ok : ∀ k, k < 2 → parseFieldDescriptor (TX5 k).2.2.1 = some (tyX5 k) := by decide +kernel
abbrev cX5_init : ByteArray := prog_1_method_1_code
def yX5_init : MethodName := ⟨RX5, "<init>", "()V"⟩
abbrev cX5_make : ByteArray := prog_1_method_2_code
def yX5_make : MethodName := ⟨RX5, "make", "(III)I"⟩
abbrev cX5_grid : ByteArray := prog_1_method_3_code
def yX5_grid : MethodName := ⟨RX5, "grid", "(III)I"⟩
abbrev cX5_record : ByteArray := prog_1_method_4_code
def yX5_record : MethodName := ⟨RX5, "record", "(I)I"⟩
abbrev cX5_window : ByteArray := prog_1_method_5_code
def yX5_window : MethodName := ⟨RX5, "window", "(III)I"⟩
abbrev cX5_copy : ByteArray := prog_1_method_6_code
def yX5_copy : MethodName := ⟨RX5, "copy", "(II)Z"⟩
abbrev cX5_lose : ByteArray := prog_1_method_7_code
def yX5_lose : MethodName := ⟨RX5, "lose", "(II)I"⟩
abbrev cX5_resize : ByteArray := prog_1_method_8_code
def yX5_resize : MethodName := ⟨RX5, "resize", "(II)I"⟩
abbrev cX5_size : ByteArray := prog_1_method_9_code
def yX5_size : MethodName := ⟨RX5, "size", "(I)I"⟩
abbrev cX5_take : ByteArray := prog_1_method_10_code
def yX5_take : MethodName := ⟨RX5, "take", "(II)J"⟩
abbrev cX5_put : ByteArray := prog_1_method_11_code
def yX5_put : MethodName := ⟨RX5, "put", "(IIJ)J"⟩
abbrev cX5_cell : ByteArray := prog_1_method_12_code
def yX5_cell : MethodName := ⟨RX5, "cell", "(III)I"⟩
abbrev cX5_setCell : ByteArray := prog_1_method_13_code
def yX5_setCell : MethodName := ⟨RX5, "setCell", "(IIIII)V"⟩
abbrev cX5_refer : ByteArray := prog_1_method_14_code
def yX5_refer : MethodName := ⟨RX5, "refer", "(III)V"⟩
abbrev cX5_fetch : ByteArray := prog_1_method_15_code
def yX5_fetch : MethodName := ⟨RX5, "fetch", "(III)I"⟩
abbrev cX5_link : ByteArray := prog_1_method_16_code
def yX5_link : MethodName := ⟨RX5, "link", "(II)V"⟩
abbrev cX5_follow : ByteArray := prog_1_method_17_code
def yX5_follow : MethodName := ⟨RX5, "follow", "(II)Z"⟩
abbrev cX5_exchange : ByteArray := prog_1_method_18_code
def yX5_exchange : MethodName := ⟨RX5, "exchange", "(IJ)J"⟩
abbrev cX5_total : ByteArray := prog_1_method_19_code
def yX5_total : MethodName := ⟨RX5, "total", "(I)J"⟩
abbrev cX5_combine : ByteArray := prog_1_method_20_code
def yX5_combine : MethodName := ⟨RX5, "combine", "(IIIII)J"⟩
abbrev cX5_move : ByteArray := prog_1_method_21_code
def yX5_move : MethodName := ⟨RX5, "move", "(IIIII)I"⟩
abbrev cX5_holdNew : ByteArray := prog_1_method_22_code
def yX5_holdNew : MethodName := ⟨RX5, "holdNew", "(ILTypedHall$Item;)I"⟩
abbrev cX5_itemIn : ByteArray := prog_1_method_23_code
def yX5_itemIn : MethodName := ⟨RX5, "itemIn", "(I)LTypedHall$Item;"⟩
abbrev cX5_vectorOf : ByteArray := prog_1_method_24_code
def yX5_vectorOf : MethodName := ⟨RX5, "vectorOf", "(LTypedHall$Item;)LTypedHall$VectorItem;"⟩
abbrev cX5_gridIn : ByteArray := prog_1_method_25_code
def yX5_gridIn : MethodName := ⟨RX5, "gridIn", "(I)LTypedHall$GridItem;"⟩
abbrev cX5_recordIn : ByteArray := prog_1_method_26_code
def yX5_recordIn : MethodName := ⟨RX5, "recordIn", "(I)LTypedHall$RecordItem;"⟩
abbrev cX5_recordOrNone : ByteArray := prog_1_method_27_code
def yX5_recordOrNone : MethodName := ⟨RX5, "recordOrNone", "(I)LTypedHall$RecordItem;"⟩
abbrev cX5_loseRow : ByteArray := prog_1_method_28_code
def yX5_loseRow : MethodName := ⟨RX5, "loseRow", "(LTypedHall$GridItem;I)I"⟩
abbrev cX5_loseStorage : ByteArray := prog_1_method_29_code
def yX5_loseStorage : MethodName := ⟨RX5, "loseStorage", "(LTypedHall$VectorItem;)I"⟩
abbrev cX5_takeElement : ByteArray := prog_1_method_30_code
def yX5_takeElement : MethodName := ⟨RX5, "takeElement", "(LTypedHall$Item;I)J"⟩
abbrev cX5_putElement : ByteArray := prog_1_method_31_code
def yX5_putElement : MethodName := ⟨RX5, "putElement", "(LTypedHall$Item;IJ)J"⟩
abbrev cX5_placeOf : ByteArray := prog_1_method_32_code
def yX5_placeOf : MethodName := ⟨RX5, "placeOf", "(LTypedHall$Item;I)I"⟩
abbrev cX5_fitted : ByteArray := prog_1_method_33_code
def yX5_fitted : MethodName := ⟨RX5, "fitted", "(IJ)J"⟩
abbrev cX5_reckon : ByteArray := prog_1_method_34_code
def yX5_reckon : MethodName := ⟨RX5, "reckon", "(IJJ)J"⟩
abbrev cX5_requireRegister : ByteArray := prog_1_method_35_code
def yX5_requireRegister : MethodName := ⟨RX5, "requireRegister", "(I)V"⟩
abbrev cX5_requireArgument : ByteArray := prog_1_method_36_code
def yX5_requireArgument : MethodName := ⟨RX5, "requireArgument", "(Z)V"⟩
abbrev cX5_requireSupported : ByteArray := prog_1_method_37_code
def yX5_requireSupported : MethodName := ⟨RX5, "requireSupported", "(Z)V"⟩
abbrev cX5_requireDivisor : ByteArray := prog_1_method_38_code
def yX5_requireDivisor : MethodName := ⟨RX5, "requireDivisor", "(J)V"⟩
abbrev cX5_requireCell : ByteArray := prog_1_method_39_code
def yX5_requireCell : MethodName := ⟨RX5, "requireCell", "([II)V"⟩
abbrev cX5_requirePresent : ByteArray := prog_1_method_40_code
def yX5_requirePresent : MethodName := ⟨RX5, "requirePresent", "(Z)V"⟩
abbrev cX5_requireIndex : ByteArray := prog_1_method_41_code
def yX5_requireIndex : MethodName := ⟨RX5, "requireIndex", "(II)V"⟩
abbrev cX5_requireSize : ByteArray := prog_1_method_42_code
def yX5_requireSize : MethodName := ⟨RX5, "requireSize", "(I)V"⟩
def RX6 : String := "TypedHallModel"
def TX6 : u_T := fun k => match k with
  | 0 => ("TypedHallModel", "register", "[I", true)
  | 1 => ("TypedHallModel", "kind", "[I", true)
  | 2 => ("TypedHallModel", "length", "[I", true)
  | 3 => ("TypedHallModel", "width", "[I", true)
  | 4 => ("TypedHallModel", "base", "[I", true)
  | 5 => ("TypedHallModel", "offset", "[I", true)
  | 6 => ("TypedHallModel", "strip", "[J", true)
  | 7 => ("TypedHallModel", "lost", "[Z", true)
  | 8 => ("TypedHallModel", "made", "I", false)
  | 9 => ("TypedHallModel", "vector", "I", false)
  | 10 => ("TypedHallModel", "element", "I", false)
  | _ => ("TypedHallModel", "code", "I", false)
def tyX6 : Nat → FieldType := fun k => match k with
  | 0 => .array .int
  | 1 => .array .int
  | 2 => .array .int
  | 3 => .array .int
  | 4 => .array .int
  | 5 => .array .int
  | 6 => .array .long
  | 7 => .array .boolean
  | 8 => .int
  | 9 => .int
  | 10 => .int
  | _ => .int
abbrev wsX60 : List Cond := u_ws RX6 TX6 12
theorem nmX6 : ∀ a, a < 12 → ∀ b, b < 12 → a ≠ b → (TX6 a).2.1 ≠ (TX6 b).2.1 := by decide +kernel
theorem tyX6_ok : ∀ k, k < 12 → parseFieldDescriptor (TX6 k).2.2.1 = some (tyX6 k) := by decide +kernel
abbrev cX6_init : ByteArray := prog_8_method_1_code
def yX6_init : MethodName := ⟨RX6, "<init>", "()V"⟩
abbrev cX6_thrown : ByteArray := prog_8_method_2_code
def yX6_thrown : MethodName := ⟨RX6, "thrown", "()I"⟩
abbrev cX6_in : ByteArray := prog_8_method_3_code
def yX6_in : MethodName := ⟨RX6, "in", "(III)Z"⟩
abbrev cX6_good : ByteArray := prog_8_method_4_code
def yX6_good : MethodName := ⟨RX6, "good", "(ZI)Z"⟩
abbrev cX6_known : ByteArray := prog_8_method_5_code
def yX6_known : MethodName := ⟨RX6, "known", "(II)Z"⟩
abbrev cX6_fresh : ByteArray := prog_8_method_6_code
def yX6_fresh : MethodName := ⟨RX6, "fresh", "(III)I"⟩
abbrev cX6_make : ByteArray := prog_8_method_7_code
def yX6_make : MethodName := ⟨RX6, "make", "(III)I"⟩
abbrev cX6_grid : ByteArray := prog_8_method_8_code
def yX6_grid : MethodName := ⟨RX6, "grid", "(III)I"⟩
abbrev cX6_record : ByteArray := prog_8_method_9_code
def yX6_record : MethodName := ⟨RX6, "record", "(I)I"⟩
abbrev cX6_bottom : ByteArray := prog_8_method_10_code
def yX6_bottom : MethodName := ⟨RX6, "bottom", "(I)I"⟩
abbrev cX6_sort : ByteArray := prog_8_method_11_code
def yX6_sort : MethodName := ⟨RX6, "sort", "(I)I"⟩
abbrev cX6_windows : ByteArray := prog_8_method_12_code
def yX6_windows : MethodName := ⟨RX6, "windows", "(I)I"⟩
abbrev cX6_window : ByteArray := prog_8_method_13_code
def yX6_window : MethodName := ⟨RX6, "window", "(III)I"⟩
abbrev cX6_copy : ByteArray := prog_8_method_14_code
def yX6_copy : MethodName := ⟨RX6, "copy", "(II)Z"⟩
abbrev cX6_lose : ByteArray := prog_8_method_15_code
def yX6_lose : MethodName := ⟨RX6, "lose", "(II)I"⟩
abbrev cX6_resize : ByteArray := prog_8_method_16_code
def yX6_resize : MethodName := ⟨RX6, "resize", "(II)I"⟩
abbrev cX6_size : ByteArray := prog_8_method_17_code
def yX6_size : MethodName := ⟨RX6, "size", "(I)I"⟩
abbrev cX6_find : ByteArray := prog_8_method_18_code
def yX6_find : MethodName := ⟨RX6, "find", "(II)I"⟩
abbrev cX6_fit : ByteArray := prog_8_method_19_code
def yX6_fit : MethodName := ⟨RX6, "fit", "(IJ)J"⟩
abbrev cX6_here : ByteArray := prog_8_method_20_code
def yX6_here : MethodName := ⟨RX6, "here", "()J"⟩
abbrev cX6_set : ByteArray := prog_8_method_21_code
def yX6_set : MethodName := ⟨RX6, "set", "(J)J"⟩
abbrev cX6_reach : ByteArray := prog_8_method_22_code
def yX6_reach : MethodName := ⟨RX6, "reach", "(III)Z"⟩
abbrev cX6_take : ByteArray := prog_8_method_23_code
def yX6_take : MethodName := ⟨RX6, "take", "(II)J"⟩
abbrev cX6_put : ByteArray := prog_8_method_24_code
def yX6_put : MethodName := ⟨RX6, "put", "(IIJ)J"⟩
abbrev cX6_row : ByteArray := prog_8_method_25_code
def yX6_row : MethodName := ⟨RX6, "row", "(II)Z"⟩
abbrev cX6_column : ByteArray := prog_8_method_26_code
def yX6_column : MethodName := ⟨RX6, "column", "(III)Z"⟩
abbrev cX6_cell : ByteArray := prog_8_method_27_code
def yX6_cell : MethodName := ⟨RX6, "cell", "(III)I"⟩
abbrev cX6_setCell : ByteArray := prog_8_method_28_code
def yX6_setCell : MethodName := ⟨RX6, "setCell", "(IIIII)V"⟩
abbrev cX6_reachItem : ByteArray := prog_8_method_29_code
def yX6_reachItem : MethodName := ⟨RX6, "reachItem", "(II)Z"⟩
abbrev cX6_refer : ByteArray := prog_8_method_30_code
def yX6_refer : MethodName := ⟨RX6, "refer", "(III)V"⟩
abbrev cX6_fetch : ByteArray := prog_8_method_31_code
def yX6_fetch : MethodName := ⟨RX6, "fetch", "(III)I"⟩
abbrev cX6_isRecord : ByteArray := prog_8_method_32_code
def yX6_isRecord : MethodName := ⟨RX6, "isRecord", "(I)Z"⟩
abbrev cX6_link : ByteArray := prog_8_method_33_code
def yX6_link : MethodName := ⟨RX6, "link", "(II)V"⟩
abbrev cX6_follow : ByteArray := prog_8_method_34_code
def yX6_follow : MethodName := ⟨RX6, "follow", "(II)Z"⟩
abbrev cX6_exchange : ByteArray := prog_8_method_35_code
def yX6_exchange : MethodName := ⟨RX6, "exchange", "(IJ)J"⟩
abbrev cX6_total : ByteArray := prog_8_method_36_code
def yX6_total : MethodName := ⟨RX6, "total", "(I)J"⟩
abbrev cX6_both : ByteArray := prog_8_method_37_code
def yX6_both : MethodName := ⟨RX6, "both", "(III)Z"⟩
abbrev cX6_reckon : ByteArray := prog_8_method_38_code
def yX6_reckon : MethodName := ⟨RX6, "reckon", "(IJJ)J"⟩
abbrev cX6_combine : ByteArray := prog_8_method_39_code
def yX6_combine : MethodName := ⟨RX6, "combine", "(IIIII)J"⟩
abbrev cX6_move : ByteArray := prog_8_method_40_code
def yX6_move : MethodName := ⟨RX6, "move", "(IIIII)I"⟩
def RJx00060 : String := "java/lang/ArrayIndexOutOfBoundsException"
def TJx00060 : u_T := fun k => match k with
  | 0 => ("java/lang/Throwable", "backtrace", "Ljava/lang/Object;", false)
  | 1 => ("java/lang/Throwable", "detailMessage", "Ljava/lang/String;", false)
  | 2 => ("java/lang/Throwable", "cause", "Ljava/lang/Throwable;", false)
  | 3 => ("java/lang/Throwable", "stackTrace", "[Ljava/lang/StackTraceElement;", false)
  | 4 => ("java/lang/Throwable", "depth", "I", false)
  | _ => ("java/lang/Throwable", "suppressedExceptions", "Ljava/util/List;", false)
def tyJx00060 : Nat → FieldType := fun k => match k with
  | 0 => .object "java/lang/Object"
  | 1 => .object "java/lang/String"
  | 2 => .object "java/lang/Throwable"
  | 3 => .array (.object "java/lang/StackTraceElement")
  | 4 => .int
  | _ => .object "java/util/List"
abbrev wsJx000600 : List Cond := u_ws RJx00060 TJx00060 6
theorem nmJx00060 : ∀ a, a < 6 → ∀ b, b < 6 → a ≠ b → (TJx00060 a).2.1 ≠ (TJx00060 b).2.1 := by decide +kernel
theorem tyJx00060_ok : ∀ k, k < 6 → parseFieldDescriptor (TJx00060 k).2.2.1 = some (tyJx00060 k) := by decide +kernel
abbrev cJx00060_init_a7421 : ByteArray := prog_10_method_2_code
def yJx00060_init_a7421 : MethodName := ⟨RJx00060, "<init>", "(Ljava/lang/String;)V"⟩
def RJx8e188 : String := "java/lang/Cloneable"
def TJx8e188 : u_T := fun k => match k with
  | _ => ("", "", "", false)
def tyJx8e188 : Nat → FieldType := fun k => match k with
  | _ => .int
abbrev wsJx8e1880 : List Cond := u_ws RJx8e188 TJx8e188 0
theorem nmJx8e188 : ∀ a, a < 0 → ∀ b, b < 0 → a ≠ b → (TJx8e188 a).2.1 ≠ (TJx8e188 b).2.1 := by decide +kernel
theorem tyJx8e188_ok : ∀ k, k < 0 → parseFieldDescriptor (TJx8e188 k).2.2.1 = some (tyJx8e188 k) := by decide +kernel
def RJ9 : String := "java/lang/Math"
def TJ9 : u_T := fun k => match k with
  | _ => ("", "", "", false)
def tyJ9 : Nat → FieldType := fun k => match k with
  | _ => .int
abbrev wsJ90 : List Cond := u_ws RJ9 TJ9 0
theorem nmJ9 : ∀ a, a < 0 → ∀ b, b < 0 → a ≠ b → (TJ9 a).2.1 ≠ (TJ9 b).2.1 := by decide +kernel
theorem tyJ9_ok : ∀ k, k < 0 → parseFieldDescriptor (TJ9 k).2.2.1 = some (tyJ9 k) := by decide +kernel
abbrev cJ9_min_7cf53 : ByteArray := prog_16_method_69_code
def yJ9_min_7cf53 : MethodName := ⟨RJ9, "min", "(II)I"⟩
def RJxde1cd : String := "java/lang/NegativeArraySizeException"
def TJxde1cd : u_T := fun k => match k with
  | 0 => ("java/lang/Throwable", "backtrace", "Ljava/lang/Object;", false)
  | 1 => ("java/lang/Throwable", "detailMessage", "Ljava/lang/String;", false)
  | 2 => ("java/lang/Throwable", "cause", "Ljava/lang/Throwable;", false)
  | 3 => ("java/lang/Throwable", "stackTrace", "[Ljava/lang/StackTraceElement;", false)
  | 4 => ("java/lang/Throwable", "depth", "I", false)
  | _ => ("java/lang/Throwable", "suppressedExceptions", "Ljava/util/List;", false)
def tyJxde1cd : Nat → FieldType := fun k => match k with
  | 0 => .object "java/lang/Object"
  | 1 => .object "java/lang/String"
  | 2 => .object "java/lang/Throwable"
  | 3 => .array (.object "java/lang/StackTraceElement")
  | 4 => .int
  | _ => .object "java/util/List"
abbrev wsJxde1cd0 : List Cond := u_ws RJxde1cd TJxde1cd 6
theorem nmJxde1cd : ∀ a, a < 6 → ∀ b, b < 6 → a ≠ b → (TJxde1cd a).2.1 ≠ (TJxde1cd b).2.1 := by decide +kernel
theorem tyJxde1cd_ok : ∀ k, k < 6 → parseFieldDescriptor (TJxde1cd k).2.2.1 = some (tyJxde1cd k) := by decide +kernel
abbrev cJxde1cd_init_a7421 : ByteArray := prog_17_method_2_code
def yJxde1cd_init_a7421 : MethodName := ⟨RJxde1cd, "<init>", "(Ljava/lang/String;)V"⟩
def RJx5d777 : String := "java/lang/NullPointerException"
def TJx5d777 : u_T := fun k => match k with
  | 0 => ("java/lang/Throwable", "backtrace", "Ljava/lang/Object;", false)
  | 1 => ("java/lang/Throwable", "detailMessage", "Ljava/lang/String;", false)
  | 2 => ("java/lang/Throwable", "cause", "Ljava/lang/Throwable;", false)
  | 3 => ("java/lang/Throwable", "stackTrace", "[Ljava/lang/StackTraceElement;", false)
  | 4 => ("java/lang/Throwable", "depth", "I", false)
  | 5 => ("java/lang/Throwable", "suppressedExceptions", "Ljava/util/List;", false)
  | 6 => ("java/lang/NullPointerException", "extendedMessageState", "I", false)
  | _ => ("java/lang/NullPointerException", "extendedMessage", "Ljava/lang/String;", false)
def tyJx5d777 : Nat → FieldType := fun k => match k with
  | 0 => .object "java/lang/Object"
  | 1 => .object "java/lang/String"
  | 2 => .object "java/lang/Throwable"
  | 3 => .array (.object "java/lang/StackTraceElement")
  | 4 => .int
  | 5 => .object "java/util/List"
  | 6 => .int
  | _ => .object "java/lang/String"
abbrev wsJx5d7770 : List Cond := u_ws RJx5d777 TJx5d777 8
theorem nmJx5d777 : ∀ a, a < 8 → ∀ b, b < 8 → a ≠ b → (TJx5d777 a).2.1 ≠ (TJx5d777 b).2.1 := by decide +kernel
theorem tyJx5d777_ok : ∀ k, k < 8 → parseFieldDescriptor (TJx5d777 k).2.2.1 = some (tyJx5d777 k) := by decide +kernel
abbrev cJx5d777_init_da8c8 : ByteArray := prog_18_method_1_code
def yJx5d777_init_da8c8 : MethodName := ⟨RJx5d777, "<init>", "()V"⟩
abbrev cJx5d777_fillInStackTrace_cddbd : ByteArray := prog_18_method_3_code
def yJx5d777_fillInStackTrace_cddbd : MethodName := ⟨RJx5d777, "fillInStackTrace", "()Ljava/lang/Throwable;"⟩
def RJ0 : String := "java/lang/String"
def TJ0 : u_T := fun k => match k with
  | 0 => ("java/lang/String", "value", "[B", true)
  | _ => ("java/lang/String", "coder", "B", true)
def tyJ0 : Nat → FieldType := fun k => match k with
  | 0 => .array .byte
  | _ => .byte
abbrev wsJ00 : List Cond := u_ws RJ0 TJ0 2
theorem nmJ0 : ∀ a, a < 2 → ∀ b, b < 2 → a ≠ b → (TJ0 a).2.1 ≠ (TJ0 b).2.1 := by decide +kernel
theorem tyJ0_ok : ∀ k, k < 2 → parseFieldDescriptor (TJ0 k).2.2.1 = some (tyJ0 k) := by decide +kernel
def RJ10 : String := "java/lang/System"
def TJ10 : u_T := fun k => match k with
  | _ => ("", "", "", false)
def tyJ10 : Nat → FieldType := fun k => match k with
  | _ => .int
abbrev wsJ100 : List Cond := u_ws RJ10 TJ10 0
theorem nmJ10 : ∀ a, a < 0 → ∀ b, b < 0 → a ≠ b → (TJ10 a).2.1 ≠ (TJ10 b).2.1 := by decide +kernel
theorem tyJ10_ok : ∀ k, k < 0 → parseFieldDescriptor (TJ10 k).2.2.1 = some (tyJ10 k) := by decide +kernel
def RJ7 : String := "java/util/Arrays"
def TJ7 : u_T := fun k => match k with
  | _ => ("", "", "", false)
def tyJ7 : Nat → FieldType := fun k => match k with
  | _ => .int
abbrev wsJ70 : List Cond := u_ws RJ7 TJ7 0
theorem nmJ7 : ∀ a, a < 0 → ∀ b, b < 0 → a ≠ b → (TJ7 a).2.1 ≠ (TJ7 b).2.1 := by decide +kernel
theorem tyJ7_ok : ∀ k, k < 0 → parseFieldDescriptor (TJ7 k).2.2.1 = some (tyJ7 k) := by decide +kernel
abbrev cJ7_copyOf_c38d5 : ByteArray := prog_24_method_124_code
def yJ7_copyOf_c38d5 : MethodName := ⟨RJ7, "copyOf", "([JI)[J"⟩
def RL : String := "TypedHallLaw"
abbrev cL_make : ByteArray := method_3_code
def yL_make : MethodName := ⟨RL, "make", "(LTypedHall;III[J)I"⟩
abbrev cL_grid : ByteArray := method_4_code
def yL_grid : MethodName := ⟨RL, "grid", "(LTypedHall;III[J)I"⟩
abbrev cL_record : ByteArray := method_5_code
def yL_record : MethodName := ⟨RL, "record", "(LTypedHall;I[J)I"⟩
abbrev cL_window : ByteArray := method_6_code
def yL_window : MethodName := ⟨RL, "window", "(LTypedHall;III[J)I"⟩
abbrev cL_copy : ByteArray := method_7_code
def yL_copy : MethodName := ⟨RL, "copy", "(LTypedHall;II[J)I"⟩
abbrev cL_lose : ByteArray := method_8_code
def yL_lose : MethodName := ⟨RL, "lose", "(LTypedHall;II[J)I"⟩
abbrev cL_resize : ByteArray := method_9_code
def yL_resize : MethodName := ⟨RL, "resize", "(LTypedHall;II[J)I"⟩
abbrev cL_size : ByteArray := method_10_code
def yL_size : MethodName := ⟨RL, "size", "(LTypedHall;I[J)I"⟩
abbrev cL_take : ByteArray := method_11_code
def yL_take : MethodName := ⟨RL, "take", "(LTypedHall;II[J)I"⟩
abbrev cL_put : ByteArray := method_12_code
def yL_put : MethodName := ⟨RL, "put", "(LTypedHall;IIJ[J)I"⟩
abbrev cL_cell : ByteArray := method_13_code
def yL_cell : MethodName := ⟨RL, "cell", "(LTypedHall;III[J)I"⟩
abbrev cL_setCell : ByteArray := method_14_code
def yL_setCell : MethodName := ⟨RL, "setCell", "(LTypedHall;IIIII)I"⟩
abbrev cL_refer : ByteArray := method_15_code
def yL_refer : MethodName := ⟨RL, "refer", "(LTypedHall;III)I"⟩
abbrev cL_fetch : ByteArray := method_16_code
def yL_fetch : MethodName := ⟨RL, "fetch", "(LTypedHall;III[J)I"⟩
abbrev cL_link : ByteArray := method_17_code
def yL_link : MethodName := ⟨RL, "link", "(LTypedHall;II)I"⟩
abbrev cL_follow : ByteArray := method_18_code
def yL_follow : MethodName := ⟨RL, "follow", "(LTypedHall;II[J)I"⟩
abbrev cL_exchange : ByteArray := method_19_code
def yL_exchange : MethodName := ⟨RL, "exchange", "(LTypedHall;IJ[J)I"⟩
abbrev cL_total : ByteArray := method_20_code
def yL_total : MethodName := ⟨RL, "total", "(LTypedHall;I[J)I"⟩
abbrev cL_combine : ByteArray := method_21_code
def yL_combine : MethodName := ⟨RL, "combine", "(LTypedHall;IIIII[J)I"⟩
abbrev cL_move : ByteArray := method_22_code
def yL_move : MethodName := ⟨RL, "move", "(LTypedHall;IIIII[J)I"⟩
abbrev cL_law : ByteArray := code
def yL_law : MethodName := ⟨RL, "law", "([I)Z"⟩
abbrev vwCl : List vw_C := [(RJ0, TJ0, 2), (RJx00060, TJx00060, 6), (RJxde1cd, TJxde1cd, 6), (RJx5d777, TJx5d777, 8), (RX0, TX0, 1), (RX2, TX2, 2), (RX3, TX3, 3), (RX4, TX4, 3), (RX5, TX5, 2), (RX6, TX6, 12)]

/-! ===== BEGIN printed: names, fields, word lists, decode rows ===== -/
def RX0 : String := "MatchFinders$Finder"
def TX0 : u_T := fun k => match k with
  | 0 => ("MatchFinders$Finder", "text", "LMatchFinders$Text;", true)
  | 1 => ("MatchFinders$Finder", "span", "I", true)
  | 2 => ("MatchFinders$Finder", "depth", "I", true)
  | 3 => ("MatchFinders$Finder", "frontLengths", "[I", true)
  | 4 => ("MatchFinders$Finder", "frontDistances", "[I", true)
  | 5 => ("MatchFinders$Finder", "frontCount", "I", false)
  | 6 => ("MatchFinders$Finder", "length", "I", false)
  | _ => ("MatchFinders$Finder", "distance", "I", false)
def tyX0 : Nat → FieldType := fun k => match k with
  | 0 => .object "MatchFinders$Text"
  | 1 => .int
  | 2 => .int
  | 3 => .array .int
  | 4 => .array .int
  | 5 => .int
  | 6 => .int
  | _ => .int
abbrev wsX00 : List Cond := u_ws RX0 TX0 8
theorem nmX0 : ∀ a, a < 8 → ∀ b, b < 8 → a ≠ b → (TX0 a).2.1 ≠ (TX0 b).2.1 := by decide +kernel
theorem tyX0_ok : ∀ k, k < 8 → parseFieldDescriptor (TX0 k).2.2.1 = some (tyX0 k) := by decide +kernel
abbrev cX0_init : ByteArray := prog_2_method_1_code
def yX0_init : MethodName := ⟨RX0, "<init>", "(LMatchFinders$Text;II)V"⟩
abbrev cX0_take : ByteArray := prog_2_method_2_code
def yX0_take : MethodName := ⟨RX0, "take", "(II)V"⟩
abbrev cX0_gatherFront : ByteArray := prog_2_method_3_code
def yX0_gatherFront : MethodName := ⟨RX0, "gatherFront", "(I)V"⟩
abbrev cX0_seekLongest : ByteArray := prog_2_method_4_code
def yX0_seekLongest : MethodName := ⟨RX0, "seekLongest", "(I)V"⟩
abbrev cX0_seekChained : ByteArray := prog_2_method_5_code
def yX0_seekChained : MethodName := ⟨RX0, "seekChained", "(I)V"⟩
abbrev cX0_seekLookingAhead : ByteArray := prog_2_method_6_code
def yX0_seekLookingAhead : MethodName := ⟨RX0, "seekLookingAhead", "(I)V"⟩
def RX1 : String := "MatchFinders$Plan"
def TX1 : u_T := fun k => match k with
  | 0 => ("MatchFinders$Plan", "costs", "[I", true)
  | 1 => ("MatchFinders$Plan", "lengths", "[I", true)
  | _ => ("MatchFinders$Plan", "distances", "[I", true)
def tyX1 : Nat → FieldType := fun k => match k with
  | 0 => .array .int
  | 1 => .array .int
  | _ => .array .int
abbrev wsX10 : List Cond := u_ws RX1 TX1 3
theorem nmX1 : ∀ a, a < 3 → ∀ b, b < 3 → a ≠ b → (TX1 a).2.1 ≠ (TX1 b).2.1 := by decide +kernel
theorem tyX1_ok : ∀ k, k < 3 → parseFieldDescriptor (TX1 k).2.2.1 = some (tyX1 k) := by decide +kernel
abbrev cX1_init : ByteArray := prog_3_method_1_code
def yX1_init : MethodName := ⟨RX1, "<init>", "()V"⟩
abbrev cX1_make : ByteArray := prog_3_method_2_code
def yX1_make : MethodName := ⟨RX1, "make", "(LMatchFinders$Finder;)V"⟩
abbrev cX1_weighMatches : ByteArray := prog_3_method_3_code
def yX1_weighMatches : MethodName := ⟨RX1, "weighMatches", "(ILMatchFinders$Finder;)V"⟩
def RX2 : String := "MatchFinders$Row"
def TX2 : u_T := fun k => match k with
  | 0 => ("MatchFinders$Row", "places", "[I", true)
  | 1 => ("MatchFinders$Row", "lengths", "[I", true)
  | 2 => ("MatchFinders$Row", "distances", "[I", true)
  | 3 => ("MatchFinders$Row", "count", "I", false)
  | 4 => ("MatchFinders$Row", "plainBits", "I", false)
  | 5 => ("MatchFinders$Row", "bitsWithRepeats", "I", false)
  | 6 => ("MatchFinders$Row", "repeatCount", "I", false)
  | 7 => ("MatchFinders$Row", "told", "Z", false)
  | 8 => ("MatchFinders$Row", "latest", "I", false)
  | 9 => ("MatchFinders$Row", "second", "I", false)
  | _ => ("MatchFinders$Row", "third", "I", false)
def tyX2 : Nat → FieldType := fun k => match k with
  | 0 => .array .int
  | 1 => .array .int
  | 2 => .array .int
  | 3 => .int
  | 4 => .int
  | 5 => .int
  | 6 => .int
  | 7 => .boolean
  | 8 => .int
  | 9 => .int
  | _ => .int
abbrev wsX20 : List Cond := u_ws RX2 TX2 11
theorem nmX2 : ∀ a, a < 11 → ∀ b, b < 11 → a ≠ b → (TX2 a).2.1 ≠ (TX2 b).2.1 := by decide +kernel
theorem tyX2_ok : ∀ k, k < 11 → parseFieldDescriptor (TX2 k).2.2.1 = some (tyX2 k) := by decide +kernel
abbrev cX2_init : ByteArray := prog_4_method_1_code
def yX2_init : MethodName := ⟨RX2, "<init>", "()V"⟩
abbrev cX2_begin : ByteArray := prog_4_method_2_code
def yX2_begin : MethodName := ⟨RX2, "begin", "()V"⟩
abbrev cX2_put : ByteArray := prog_4_method_3_code
def yX2_put : MethodName := ⟨RX2, "put", "(III)V"⟩
abbrev cX2_countMatch : ByteArray := prog_4_method_4_code
def yX2_countMatch : MethodName := ⟨RX2, "countMatch", "(II)V"⟩
abbrev cX2_remember : ByteArray := prog_4_method_5_code
def yX2_remember : MethodName := ⟨RX2, "remember", "(I)V"⟩
def RX3 : String := "MatchFinders$Text"
def TX3 : u_T := fun k => match k with
  | 0 => ("MatchFinders$Text", "bytes", "[I", true)
  | 1 => ("MatchFinders$Text", "ahead", "I", false)
  | _ => ("MatchFinders$Text", "size", "I", false)
def tyX3 : Nat → FieldType := fun k => match k with
  | 0 => .array .int
  | 1 => .int
  | _ => .int
abbrev wsX30 : List Cond := u_ws RX3 TX3 3
theorem nmX3 : ∀ a, a < 3 → ∀ b, b < 3 → a ≠ b → (TX3 a).2.1 ≠ (TX3 b).2.1 := by decide +kernel
theorem tyX3_ok : ∀ k, k < 3 → parseFieldDescriptor (TX3 k).2.2.1 = some (tyX3 k) := by decide +kernel
abbrev cX3_init : ByteArray := prog_5_method_1_code
def yX3_init : MethodName := ⟨RX3, "<init>", "()V"⟩
abbrev cX3_put : ByteArray := prog_5_method_2_code
def yX3_put : MethodName := ⟨RX3, "put", "(I)V"⟩
abbrev cX3_becomeDictionary : ByteArray := prog_5_method_3_code
def yX3_becomeDictionary : MethodName := ⟨RX3, "becomeDictionary", "()V"⟩
abbrev cX3_at : ByteArray := prog_5_method_4_code
def yX3_at : MethodName := ⟨RX3, "at", "(I)I"⟩
abbrev cX3_farthest : ByteArray := prog_5_method_5_code
def yX3_farthest : MethodName := ⟨RX3, "farthest", "(I)I"⟩
abbrev cX3_mostLength : ByteArray := prog_5_method_6_code
def yX3_mostLength : MethodName := ⟨RX3, "mostLength", "(I)I"⟩
abbrev cX3_reach : ByteArray := prog_5_method_7_code
def yX3_reach : MethodName := ⟨RX3, "reach", "(III)I"⟩
def RX4 : String := "MatchFinders"
def TX4 : u_T := fun k => match k with
  | 0 => ("MatchFinders", "text", "LMatchFinders$Text;", true)
  | 1 => ("MatchFinders", "finder", "LMatchFinders$Finder;", true)
  | 2 => ("MatchFinders", "plan", "LMatchFinders$Plan;", true)
  | _ => ("MatchFinders", "rows", "[LMatchFinders$Row;", true)
def tyX4 : Nat → FieldType := fun k => match k with
  | 0 => .object "MatchFinders$Text"
  | 1 => .object "MatchFinders$Finder"
  | 2 => .object "MatchFinders$Plan"
  | _ => .array (.object "MatchFinders$Row")
abbrev wsX40 : List Cond := u_ws RX4 TX4 4
theorem nmX4 : ∀ a, a < 4 → ∀ b, b < 4 → a ≠ b → (TX4 a).2.1 ≠ (TX4 b).2.1 := by decide +kernel
theorem tyX4_ok : ∀ k, k < 4 → parseFieldDescriptor (TX4 k).2.2.1 = some (tyX4 k) := by decide +kernel
abbrev cX4_init : ByteArray := prog_1_method_1_code
def yX4_init : MethodName := ⟨RX4, "<init>", "(II)V"⟩
abbrev cX4_add : ByteArray := prog_1_method_2_code
def yX4_add : MethodName := ⟨RX4, "add", "(I)I"⟩
abbrev cX4_fill : ByteArray := prog_1_method_3_code
def yX4_fill : MethodName := ⟨RX4, "fill", "(III)I"⟩
abbrev cX4_clear : ByteArray := prog_1_method_4_code
def yX4_clear : MethodName := ⟨RX4, "clear", "()I"⟩
abbrev cX4_dictionary : ByteArray := prog_1_method_5_code
def yX4_dictionary : MethodName := ⟨RX4, "dictionary", "()I"⟩
abbrev cX4_size : ByteArray := prog_1_method_6_code
def yX4_size : MethodName := ⟨RX4, "size", "(I)I"⟩
abbrev cX4_octet : ByteArray := prog_1_method_7_code
def yX4_octet : MethodName := ⟨RX4, "octet", "(I)I"⟩
abbrev cX4_longest : ByteArray := prog_1_method_8_code
def yX4_longest : MethodName := ⟨RX4, "longest", "(II)I"⟩
abbrev cX4_chained : ByteArray := prog_1_method_9_code
def yX4_chained : MethodName := ⟨RX4, "chained", "(II)I"⟩
abbrev cX4_front : ByteArray := prog_1_method_10_code
def yX4_front : MethodName := ⟨RX4, "front", "(III)I"⟩
abbrev cX4_pieces : ByteArray := prog_1_method_11_code
def yX4_pieces : MethodName := ⟨RX4, "pieces", "(I)I"⟩
abbrev cX4_piece : ByteArray := prog_1_method_12_code
def yX4_piece : MethodName := ⟨RX4, "piece", "(III)I"⟩
abbrev cX4_bits : ByteArray := prog_1_method_13_code
def yX4_bits : MethodName := ⟨RX4, "bits", "(II)I"⟩
abbrev cX4_repeats : ByteArray := prog_1_method_14_code
def yX4_repeats : MethodName := ⟨RX4, "repeats", "(I)I"⟩
abbrev cX4_share : ByteArray := prog_1_method_15_code
def yX4_share : MethodName := ⟨RX4, "share", "(I)I"⟩
abbrev cX4_nearest : ByteArray := prog_1_method_16_code
def yX4_nearest : MethodName := ⟨RX4, "nearest", "(II)I"⟩
abbrev cX4_gammaBits : ByteArray := prog_1_method_17_code
def yX4_gammaBits : MethodName := ⟨RX4, "gammaBits", "(I)I"⟩
abbrev cX4_isPlace : ByteArray := prog_1_method_18_code
def yX4_isPlace : MethodName := ⟨RX4, "isPlace", "(I)Z"⟩
abbrev cX4_isWay : ByteArray := prog_1_method_19_code
def yX4_isWay : MethodName := ⟨RX4, "isWay", "(I)Z"⟩
abbrev cX4_filling : ByteArray := prog_1_method_20_code
def yX4_filling : MethodName := ⟨RX4, "filling", "(III)I"⟩
abbrev cX4_forgetRows : ByteArray := prog_1_method_21_code
def yX4_forgetRows : MethodName := ⟨RX4, "forgetRows", "()V"⟩
abbrev cX4_rowOf : ByteArray := prog_1_method_22_code
def yX4_rowOf : MethodName := ⟨RX4, "rowOf", "(I)LMatchFinders$Row;"⟩
abbrev cX4_choose : ByteArray := prog_1_method_23_code
def yX4_choose : MethodName := ⟨RX4, "choose", "(II)V"⟩
def RX5 : String := "MatchFindersModel"
def TX5 : u_T := fun k => match k with
  | 0 => ("MatchFindersModel", "thrown", "I", false)
  | 1 => ("MatchFindersModel", "span", "I", true)
  | 2 => ("MatchFindersModel", "depth", "I", true)
  | 3 => ("MatchFindersModel", "bytes", "[I", true)
  | 4 => ("MatchFindersModel", "size", "I", false)
  | 5 => ("MatchFindersModel", "ahead", "I", false)
  | 6 => ("MatchFindersModel", "isMade", "[Z", true)
  | 7 => ("MatchFindersModel", "pieces", "[I", true)
  | 8 => ("MatchFindersModel", "place", "[I", true)
  | 9 => ("MatchFindersModel", "length", "[I", true)
  | 10 => ("MatchFindersModel", "distance", "[I", true)
  | 11 => ("MatchFindersModel", "cost", "[I", true)
  | 12 => ("MatchFindersModel", "least", "[I", true)
  | 13 => ("MatchFindersModel", "bestLength", "I", false)
  | 14 => ("MatchFindersModel", "bestDistance", "I", false)
  | _ => ("MatchFindersModel", "repeats", "I", false)
def tyX5 : Nat → FieldType := fun k => match k with
  | 0 => .int
  | 1 => .int
  | 2 => .int
  | 3 => .array .int
  | 4 => .int
  | 5 => .int
  | 6 => .array .boolean
  | 7 => .array .int
  | 8 => .array .int
  | 9 => .array .int
  | 10 => .array .int
  | 11 => .array .int
  | 12 => .array .int
  | 13 => .int
  | 14 => .int
  | _ => .int
abbrev wsX50 : List Cond := u_ws RX5 TX5 16
theorem nmX5 : ∀ a, a < 16 → ∀ b, b < 16 → a ≠ b → (TX5 a).2.1 ≠ (TX5 b).2.1 := by decide +kernel
theorem tyX5_ok : ∀ k, k < 16 → parseFieldDescriptor (TX5 k).2.2.1 = some (tyX5 k) := by decide +kernel
abbrev cX5_init : ByteArray := prog_7_method_1_code
def yX5_init : MethodName := ⟨RX5, "<init>", "(II)V"⟩
abbrev cX5_thrown : ByteArray := prog_7_method_2_code
def yX5_thrown : MethodName := ⟨RX5, "thrown", "()I"⟩
abbrev cX5_in : ByteArray := prog_7_method_3_code
def yX5_in : MethodName := ⟨RX5, "in", "(III)Z"⟩
abbrev cX5_forget : ByteArray := prog_7_method_4_code
def yX5_forget : MethodName := ⟨RX5, "forget", "()V"⟩
abbrev cX5_lay : ByteArray := prog_7_method_5_code
def yX5_lay : MethodName := ⟨RX5, "lay", "(I)V"⟩
abbrev cX5_add : ByteArray := prog_7_method_6_code
def yX5_add : MethodName := ⟨RX5, "add", "(I)I"⟩
abbrev cX5_fill : ByteArray := prog_7_method_7_code
def yX5_fill : MethodName := ⟨RX5, "fill", "(III)I"⟩
abbrev cX5_clear : ByteArray := prog_7_method_8_code
def yX5_clear : MethodName := ⟨RX5, "clear", "()I"⟩
abbrev cX5_dictionary : ByteArray := prog_7_method_9_code
def yX5_dictionary : MethodName := ⟨RX5, "dictionary", "()I"⟩
abbrev cX5_size : ByteArray := prog_7_method_10_code
def yX5_size : MethodName := ⟨RX5, "size", "(I)I"⟩
abbrev cX5_octet : ByteArray := prog_7_method_11_code
def yX5_octet : MethodName := ⟨RX5, "octet", "(I)I"⟩
abbrev cX5_longAt : ByteArray := prog_7_method_12_code
def yX5_longAt : MethodName := ⟨RX5, "longAt", "(II)I"⟩
abbrev cX5_find : ByteArray := prog_7_method_13_code
def yX5_find : MethodName := ⟨RX5, "find", "(II)V"⟩
abbrev cX5_told : ByteArray := prog_7_method_14_code
def yX5_told : MethodName := ⟨RX5, "told", "(III)I"⟩
abbrev cX5_longest : ByteArray := prog_7_method_15_code
def yX5_longest : MethodName := ⟨RX5, "longest", "(II)I"⟩
abbrev cX5_chained : ByteArray := prog_7_method_16_code
def yX5_chained : MethodName := ⟨RX5, "chained", "(II)I"⟩
abbrev cX5_front : ByteArray := prog_7_method_17_code
def yX5_front : MethodName := ⟨RX5, "front", "(III)I"⟩
abbrev cX5_g : ByteArray := prog_7_method_18_code
def yX5_g : MethodName := ⟨RX5, "g", "(I)I"⟩
abbrev cX5_lay_ : ByteArray := prog_7_method_19_code
def yX5_lay_ : MethodName := ⟨RX5, "lay", "(IIII)V"⟩
abbrev cX5_make : ByteArray := prog_7_method_20_code
def yX5_make : MethodName := ⟨RX5, "make", "(I)V"⟩
abbrev cX5_findLeast : ByteArray := prog_7_method_21_code
def yX5_findLeast : MethodName := ⟨RX5, "findLeast", "(I)V"⟩
abbrev cX5_choose : ByteArray := prog_7_method_22_code
def yX5_choose : MethodName := ⟨RX5, "choose", "(I)I"⟩
abbrev cX5_makeLeast : ByteArray := prog_7_method_23_code
def yX5_makeLeast : MethodName := ⟨RX5, "makeLeast", "()V"⟩
abbrev cX5_isWay : ByteArray := prog_7_method_24_code
def yX5_isWay : MethodName := ⟨RX5, "isWay", "(I)Z"⟩
abbrev cX5_pieces : ByteArray := prog_7_method_25_code
def yX5_pieces : MethodName := ⟨RX5, "pieces", "(I)I"⟩
abbrev cX5_piece : ByteArray := prog_7_method_26_code
def yX5_piece : MethodName := ⟨RX5, "piece", "(III)I"⟩
abbrev cX5_bitsOf : ByteArray := prog_7_method_27_code
def yX5_bitsOf : MethodName := ⟨RX5, "bitsOf", "(IZ)I"⟩
abbrev cX5_bits : ByteArray := prog_7_method_28_code
def yX5_bits : MethodName := ⟨RX5, "bits", "(II)I"⟩
abbrev cX5_repeats : ByteArray := prog_7_method_29_code
def yX5_repeats : MethodName := ⟨RX5, "repeats", "(I)I"⟩
abbrev cX5_share : ByteArray := prog_7_method_30_code
def yX5_share : MethodName := ⟨RX5, "share", "(I)I"⟩
def RJ9 : String := "java/lang/Math"
def TJ9 : u_T := fun k => match k with
  | _ => ("", "", "", false)
def tyJ9 : Nat → FieldType := fun k => match k with
  | _ => .int
abbrev wsJ90 : List Cond := u_ws RJ9 TJ9 0
theorem nmJ9 : ∀ a, a < 0 → ∀ b, b < 0 → a ≠ b → (TJ9 a).2.1 ≠ (TJ9 b).2.1 := by decide +kernel
theorem tyJ9_ok : ∀ k, k < 0 → parseFieldDescriptor (TJ9 k).2.2.1 = some (tyJ9 k) := by decide +kernel
abbrev cJ9_max_7cf53 : ByteArray := prog_10_method_65_code
def yJ9_max_7cf53 : MethodName := ⟨RJ9, "max", "(II)I"⟩
abbrev cJ9_min_7cf53 : ByteArray := prog_10_method_69_code
def yJ9_min_7cf53 : MethodName := ⟨RJ9, "min", "(II)I"⟩
def RJ0 : String := "java/lang/String"
def TJ0 : u_T := fun k => match k with
  | _ => ("", "", "", false)
def tyJ0 : Nat → FieldType := fun k => match k with
  | _ => .int
abbrev wsJ00 : List Cond := u_ws RJ0 TJ0 0
theorem nmJ0 : ∀ a, a < 0 → ∀ b, b < 0 → a ≠ b → (TJ0 a).2.1 ≠ (TJ0 b).2.1 := by decide +kernel
theorem tyJ0_ok : ∀ k, k < 0 → parseFieldDescriptor (TJ0 k).2.2.1 = some (tyJ0 k) := by decide +kernel
def RL : String := "MatchFindersLaw"
abbrev cL_share : ByteArray := method_3_code
def yL_share : MethodName := ⟨RL, "share", "(LMatchFinders;I[J)I"⟩
def wsX0_init : List Cond := .code yX0_init cX0_init 4 none :: ([.methodLink RX0 3 objectInit, .instanceMethod objectInit, .code objectInit ⟨#[0xb1]⟩ 1 none, .arrayClass .int, .fieldLink RX0 9 "MatchFinders$Finder" "frontLengths" "[I", .fieldLink RX0 15 "MatchFinders$Finder" "frontDistances" "[I", .fieldLink RX0 18 "MatchFinders$Finder" "text" "LMatchFinders$Text;", .fieldLink RX0 22 "MatchFinders$Finder" "span" "I", .fieldLink RX0 26 "MatchFinders$Finder" "depth" "I"] ++ wsX00)
def wsX0_take : List Cond := .code yX0_take cX0_take 3 none :: ([.fieldLink RX0 29 "MatchFinders$Finder" "length" "I", .fieldLink RX0 32 "MatchFinders$Finder" "distance" "I"] ++ wsX00)
def wsX3_mostLength : List Cond := .code yX3_mostLength cX3_mostLength 2 (some .int) :: ([.fieldLink RX3 15 "MatchFinders$Text" "size" "I", .methodLink RX3 22 Lib.Math.min.name, .static Lib.Math.min.name, .initialized "java/lang/Math", .code Lib.Math.min.name Lib.Math.min.code 2 (some .int)] ++ wsX30)
def wsX3_farthest : List Cond := .code yX3_farthest cX3_farthest 2 (some .int) :: ([.fieldLink RX3 19 "MatchFinders$Text" "ahead" "I"] ++ wsX30)
def wsX3_reach : List Cond := .code yX3_reach cX3_reach 7 (some .int) :: ([.fieldLink RX3 19 "MatchFinders$Text" "ahead" "I", .fieldLink RX3 9 "MatchFinders$Text" "bytes" "[I"] ++ wsX30)
def wsX0_gatherFront_r1 : List Cond := [Cond.fieldLink RX0 35 "MatchFinders$Finder" "frontCount" "I", Cond.fieldLink RX0 18 "MatchFinders$Finder" "text" "LMatchFinders$Text;", Cond.fieldLink RX0 22 "MatchFinders$Finder" "span" "I", Cond.methodLink RX0 47 Lib.Math.min.name, Cond.static Lib.Math.min.name, Cond.initialized "java/lang/Math", Cond.code Lib.Math.min.name Lib.Math.min.code 2 (some .int), Cond.fieldLink RX0 9 "MatchFinders$Finder" "frontLengths" "[I", Cond.fieldLink RX0 15 "MatchFinders$Finder" "frontDistances" "[I", Cond.methodLink RX0 38 yX3_mostLength, Cond.instanceMethod yX3_mostLength, Cond.selects RX3 yX3_mostLength yX3_mostLength, Cond.initialized RX3, Cond.code yX3_mostLength cX3_mostLength 2 (some .int), Cond.fieldLink RX3 15 "MatchFinders$Text" "size" "I", Cond.methodLink RX3 22 Lib.Math.min.name, Cond.methodLink RX0 44 yX3_farthest, Cond.instanceMethod yX3_farthest, Cond.selects RX3 yX3_farthest yX3_farthest, Cond.code yX3_farthest cX3_farthest 2 (some .int), Cond.fieldLink RX3 19 "MatchFinders$Text" "ahead" "I", Cond.methodLink RX0 53 yX3_reach, Cond.instanceMethod yX3_reach, Cond.selects RX3 yX3_reach yX3_reach]
def wsX0_gatherFront_r2 : List Cond := [Cond.code yX3_reach cX3_reach 7 (some .int), Cond.fieldLink RX3 9 "MatchFinders$Text" "bytes" "[I"]
def wsX0_gatherFront : List Cond := .code yX0_gatherFront cX0_gatherFront 7 none :: ((wsX0_gatherFront_r1 ++ wsX0_gatherFront_r2) ++ wsX00 ++ wsX30)
def wsX0_seekLongest_r1 : List Cond := [Cond.fieldLink RX0 35 "MatchFinders$Finder" "frontCount" "I", Cond.fieldLink RX0 9 "MatchFinders$Finder" "frontLengths" "[I", Cond.fieldLink RX0 15 "MatchFinders$Finder" "frontDistances" "[I", Cond.methodLink RX0 57 yX0_gatherFront, Cond.instanceMethod yX0_gatherFront, Cond.selects RX0 yX0_gatherFront yX0_gatherFront, Cond.initialized RX0, Cond.code yX0_gatherFront cX0_gatherFront 7 none, Cond.fieldLink RX0 18 "MatchFinders$Finder" "text" "LMatchFinders$Text;", Cond.fieldLink RX0 22 "MatchFinders$Finder" "span" "I", Cond.methodLink RX0 47 Lib.Math.min.name, Cond.static Lib.Math.min.name, Cond.initialized "java/lang/Math", Cond.code Lib.Math.min.name Lib.Math.min.code 2 (some .int), Cond.methodLink RX0 38 yX3_mostLength, Cond.instanceMethod yX3_mostLength, Cond.selects RX3 yX3_mostLength yX3_mostLength, Cond.initialized RX3, Cond.code yX3_mostLength cX3_mostLength 2 (some .int), Cond.fieldLink RX3 15 "MatchFinders$Text" "size" "I", Cond.methodLink RX3 22 Lib.Math.min.name, Cond.methodLink RX0 44 yX3_farthest, Cond.instanceMethod yX3_farthest, Cond.selects RX3 yX3_farthest yX3_farthest]
def wsX0_seekLongest_r2 : List Cond := [Cond.code yX3_farthest cX3_farthest 2 (some .int), Cond.fieldLink RX3 19 "MatchFinders$Text" "ahead" "I", Cond.methodLink RX0 53 yX3_reach, Cond.instanceMethod yX3_reach, Cond.selects RX3 yX3_reach yX3_reach, Cond.code yX3_reach cX3_reach 7 (some .int), Cond.fieldLink RX3 9 "MatchFinders$Text" "bytes" "[I", Cond.methodLink RX0 61 yX0_take, Cond.instanceMethod yX0_take, Cond.selects RX0 yX0_take yX0_take, Cond.code yX0_take cX0_take 3 none, Cond.fieldLink RX0 29 "MatchFinders$Finder" "length" "I", Cond.fieldLink RX0 32 "MatchFinders$Finder" "distance" "I"]
def wsX0_seekLongest : List Cond := .code yX0_seekLongest cX0_seekLongest 2 none :: ((wsX0_seekLongest_r1 ++ wsX0_seekLongest_r2) ++ wsX00 ++ wsX30)
def wsX0_seekChained_r1 : List Cond := [Cond.fieldLink RX0 18 "MatchFinders$Finder" "text" "LMatchFinders$Text;", Cond.fieldLink RX0 22 "MatchFinders$Finder" "span" "I", Cond.methodLink RX0 47 Lib.Math.min.name, Cond.static Lib.Math.min.name, Cond.initialized "java/lang/Math", Cond.code Lib.Math.min.name Lib.Math.min.code 2 (some .int), Cond.fieldLink RX0 26 "MatchFinders$Finder" "depth" "I", Cond.fieldLink RX0 29 "MatchFinders$Finder" "length" "I", Cond.methodLink RX0 61 yX0_take, Cond.instanceMethod yX0_take, Cond.selects RX0 yX0_take yX0_take, Cond.initialized RX0, Cond.code yX0_take cX0_take 3 none, Cond.fieldLink RX0 32 "MatchFinders$Finder" "distance" "I", Cond.methodLink RX0 38 yX3_mostLength, Cond.instanceMethod yX3_mostLength, Cond.selects RX3 yX3_mostLength yX3_mostLength, Cond.initialized RX3, Cond.code yX3_mostLength cX3_mostLength 2 (some .int), Cond.fieldLink RX3 15 "MatchFinders$Text" "size" "I", Cond.methodLink RX3 22 Lib.Math.min.name, Cond.methodLink RX0 44 yX3_farthest, Cond.instanceMethod yX3_farthest, Cond.selects RX3 yX3_farthest yX3_farthest]
def wsX0_seekChained_r2 : List Cond := [Cond.code yX3_farthest cX3_farthest 2 (some .int), Cond.fieldLink RX3 19 "MatchFinders$Text" "ahead" "I", Cond.methodLink RX0 53 yX3_reach, Cond.instanceMethod yX3_reach, Cond.selects RX3 yX3_reach yX3_reach, Cond.code yX3_reach cX3_reach 7 (some .int), Cond.fieldLink RX3 9 "MatchFinders$Text" "bytes" "[I"]
def wsX0_seekChained : List Cond := .code yX0_seekChained cX0_seekChained 7 none :: ((wsX0_seekChained_r1 ++ wsX0_seekChained_r2) ++ wsX00 ++ wsX30)
def wsX0_seekLookingAhead_r1 : List Cond := [Cond.fieldLink RX0 29 "MatchFinders$Finder" "length" "I", Cond.methodLink RX0 65 yX0_seekLongest, Cond.instanceMethod yX0_seekLongest, Cond.selects RX0 yX0_seekLongest yX0_seekLongest, Cond.initialized RX0, Cond.code yX0_seekLongest cX0_seekLongest 2 none, Cond.fieldLink RX0 35 "MatchFinders$Finder" "frontCount" "I", Cond.fieldLink RX0 9 "MatchFinders$Finder" "frontLengths" "[I", Cond.fieldLink RX0 15 "MatchFinders$Finder" "frontDistances" "[I", Cond.methodLink RX0 57 yX0_gatherFront, Cond.instanceMethod yX0_gatherFront, Cond.selects RX0 yX0_gatherFront yX0_gatherFront, Cond.code yX0_gatherFront cX0_gatherFront 7 none, Cond.fieldLink RX0 18 "MatchFinders$Finder" "text" "LMatchFinders$Text;", Cond.fieldLink RX0 22 "MatchFinders$Finder" "span" "I", Cond.methodLink RX0 47 Lib.Math.min.name, Cond.static Lib.Math.min.name, Cond.initialized "java/lang/Math", Cond.code Lib.Math.min.name Lib.Math.min.code 2 (some .int), Cond.methodLink RX0 38 yX3_mostLength, Cond.instanceMethod yX3_mostLength, Cond.selects RX3 yX3_mostLength yX3_mostLength, Cond.initialized RX3, Cond.code yX3_mostLength cX3_mostLength 2 (some .int)]
def wsX0_seekLookingAhead_r2 : List Cond := [Cond.fieldLink RX3 15 "MatchFinders$Text" "size" "I", Cond.methodLink RX3 22 Lib.Math.min.name, Cond.methodLink RX0 44 yX3_farthest, Cond.instanceMethod yX3_farthest, Cond.selects RX3 yX3_farthest yX3_farthest, Cond.code yX3_farthest cX3_farthest 2 (some .int), Cond.fieldLink RX3 19 "MatchFinders$Text" "ahead" "I", Cond.methodLink RX0 53 yX3_reach, Cond.instanceMethod yX3_reach, Cond.selects RX3 yX3_reach yX3_reach, Cond.code yX3_reach cX3_reach 7 (some .int), Cond.fieldLink RX3 9 "MatchFinders$Text" "bytes" "[I", Cond.methodLink RX0 61 yX0_take, Cond.instanceMethod yX0_take, Cond.selects RX0 yX0_take yX0_take, Cond.code yX0_take cX0_take 3 none, Cond.fieldLink RX0 32 "MatchFinders$Finder" "distance" "I"]
def wsX0_seekLookingAhead : List Cond := .code yX0_seekLookingAhead cX0_seekLookingAhead 3 none :: ((wsX0_seekLookingAhead_r1 ++ wsX0_seekLookingAhead_r2) ++ wsX00 ++ wsX30)
def wsX1_init : List Cond := .code yX1_init cX1_init 1 none :: ([.methodLink RX1 3 objectInit, .instanceMethod objectInit, .code objectInit ⟨#[0xb1]⟩ 1 none, .arrayClass .int, .fieldLink RX1 9 "MatchFinders$Plan" "costs" "[I", .fieldLink RX1 15 "MatchFinders$Plan" "lengths" "[I", .fieldLink RX1 18 "MatchFinders$Plan" "distances" "[I"] ++ wsX10)
def wsX4_gammaBits : List Cond := .code yX4_gammaBits cX4_gammaBits 3 (some .int) :: ([])
def wsX1_weighMatches : List Cond := .code yX1_weighMatches cX1_weighMatches 8 none :: ([.fieldLink RX1 41 "MatchFinders$Finder" "frontCount" "I", .fieldLink RX1 44 "MatchFinders$Finder" "frontDistances" "[I", .fieldLink RX1 51 "MatchFinders$Finder" "frontLengths" "[I", .fieldLink RX1 9 "MatchFinders$Plan" "costs" "[I", .fieldLink RX1 15 "MatchFinders$Plan" "lengths" "[I", .fieldLink RX1 18 "MatchFinders$Plan" "distances" "[I", .static yX4_gammaBits, .initialized RX4, .code yX4_gammaBits cX4_gammaBits 3 (some .int)] ++ wsX00 ++ wsX10)
def wsX1_make_r1 : List Cond := [Cond.fieldLink RX1 21 "MatchFinders$Finder" "text" "LMatchFinders$Text;", Cond.fieldLink RX1 27 "MatchFinders$Text" "size" "I", Cond.fieldLink RX1 9 "MatchFinders$Plan" "costs" "[I", Cond.fieldLink RX1 15 "MatchFinders$Plan" "lengths" "[I", Cond.fieldLink RX1 18 "MatchFinders$Plan" "distances" "[I", Cond.methodLink RX1 33 yX0_gatherFront, Cond.instanceMethod yX0_gatherFront, Cond.selects RX0 yX0_gatherFront yX0_gatherFront, Cond.initialized RX0, Cond.code yX0_gatherFront cX0_gatherFront 7 none, Cond.fieldLink RX0 35 "MatchFinders$Finder" "frontCount" "I", Cond.fieldLink RX0 18 "MatchFinders$Finder" "text" "LMatchFinders$Text;", Cond.fieldLink RX0 22 "MatchFinders$Finder" "span" "I", Cond.methodLink RX0 47 Lib.Math.min.name, Cond.static Lib.Math.min.name, Cond.initialized "java/lang/Math", Cond.code Lib.Math.min.name Lib.Math.min.code 2 (some .int), Cond.fieldLink RX0 9 "MatchFinders$Finder" "frontLengths" "[I", Cond.fieldLink RX0 15 "MatchFinders$Finder" "frontDistances" "[I", Cond.methodLink RX0 38 yX3_mostLength, Cond.instanceMethod yX3_mostLength, Cond.selects RX3 yX3_mostLength yX3_mostLength, Cond.initialized RX3, Cond.code yX3_mostLength cX3_mostLength 2 (some .int)]
def wsX1_make_r2 : List Cond := [Cond.fieldLink RX3 15 "MatchFinders$Text" "size" "I", Cond.methodLink RX3 22 Lib.Math.min.name, Cond.methodLink RX0 44 yX3_farthest, Cond.instanceMethod yX3_farthest, Cond.selects RX3 yX3_farthest yX3_farthest, Cond.code yX3_farthest cX3_farthest 2 (some .int), Cond.fieldLink RX3 19 "MatchFinders$Text" "ahead" "I", Cond.methodLink RX0 53 yX3_reach, Cond.instanceMethod yX3_reach, Cond.selects RX3 yX3_reach yX3_reach, Cond.code yX3_reach cX3_reach 7 (some .int), Cond.fieldLink RX3 9 "MatchFinders$Text" "bytes" "[I", Cond.methodLink RX1 37 yX1_weighMatches, Cond.instanceMethod yX1_weighMatches, Cond.selects RX1 yX1_weighMatches yX1_weighMatches, Cond.initialized RX1, Cond.code yX1_weighMatches cX1_weighMatches 8 none, Cond.fieldLink RX1 41 "MatchFinders$Finder" "frontCount" "I", Cond.fieldLink RX1 44 "MatchFinders$Finder" "frontDistances" "[I", Cond.fieldLink RX1 51 "MatchFinders$Finder" "frontLengths" "[I", Cond.static yX4_gammaBits, Cond.initialized RX4, Cond.code yX4_gammaBits cX4_gammaBits 3 (some .int)]
def wsX1_make : List Cond := .code yX1_make cX1_make 4 none :: ((wsX1_make_r1 ++ wsX1_make_r2) ++ wsX00 ++ wsX30 ++ wsX10)
def wsX2_init : List Cond := .code yX2_init cX2_init 1 none :: ([.methodLink RX2 3 objectInit, .instanceMethod objectInit, .code objectInit ⟨#[0xb1]⟩ 1 none, .arrayClass .int, .fieldLink RX2 9 "MatchFinders$Row" "places" "[I", .fieldLink RX2 15 "MatchFinders$Row" "lengths" "[I", .fieldLink RX2 18 "MatchFinders$Row" "distances" "[I"] ++ wsX20)
def wsX2_begin : List Cond := .code yX2_begin cX2_begin 1 none :: ([.fieldLink RX2 21 "MatchFinders$Row" "count" "I", .fieldLink RX2 25 "MatchFinders$Row" "plainBits" "I", .fieldLink RX2 28 "MatchFinders$Row" "bitsWithRepeats" "I", .fieldLink RX2 31 "MatchFinders$Row" "repeatCount" "I", .fieldLink RX2 34 "MatchFinders$Row" "latest" "I", .fieldLink RX2 37 "MatchFinders$Row" "second" "I", .fieldLink RX2 40 "MatchFinders$Row" "third" "I"] ++ wsX20)
def wsX2_remember : List Cond := .code yX2_remember cX2_remember 2 none :: ([.fieldLink RX2 34 "MatchFinders$Row" "latest" "I", .fieldLink RX2 37 "MatchFinders$Row" "second" "I", .fieldLink RX2 40 "MatchFinders$Row" "third" "I"] ++ wsX20)
def wsX2_countMatch : List Cond := .code yX2_countMatch cX2_countMatch 5 none :: ([.fieldLink RX2 25 "MatchFinders$Row" "plainBits" "I", .fieldLink RX2 34 "MatchFinders$Row" "latest" "I", .fieldLink RX2 37 "MatchFinders$Row" "second" "I", .fieldLink RX2 40 "MatchFinders$Row" "third" "I", .fieldLink RX2 31 "MatchFinders$Row" "repeatCount" "I", .fieldLink RX2 28 "MatchFinders$Row" "bitsWithRepeats" "I", .static yX4_gammaBits, .initialized RX4, .code yX4_gammaBits cX4_gammaBits 3 (some .int), .methodLink RX2 51 yX2_remember, .instanceMethod yX2_remember, .selects RX2 yX2_remember yX2_remember, .initialized RX2, .code yX2_remember cX2_remember 2 none] ++ wsX20)
def wsX2_put : List Cond := .code yX2_put cX2_put 4 none :: ([.fieldLink RX2 21 "MatchFinders$Row" "count" "I", .fieldLink RX2 9 "MatchFinders$Row" "places" "[I", .fieldLink RX2 15 "MatchFinders$Row" "lengths" "[I", .fieldLink RX2 18 "MatchFinders$Row" "distances" "[I", .fieldLink RX2 25 "MatchFinders$Row" "plainBits" "I", .fieldLink RX2 28 "MatchFinders$Row" "bitsWithRepeats" "I", .methodLink RX2 43 yX2_countMatch, .instanceMethod yX2_countMatch, .selects RX2 yX2_countMatch yX2_countMatch, .initialized RX2, .code yX2_countMatch cX2_countMatch 5 none, .fieldLink RX2 34 "MatchFinders$Row" "latest" "I", .fieldLink RX2 37 "MatchFinders$Row" "second" "I", .fieldLink RX2 40 "MatchFinders$Row" "third" "I", .fieldLink RX2 31 "MatchFinders$Row" "repeatCount" "I", .static yX4_gammaBits, .initialized RX4, .code yX4_gammaBits cX4_gammaBits 3 (some .int), .methodLink RX2 51 yX2_remember, .instanceMethod yX2_remember, .selects RX2 yX2_remember yX2_remember, .code yX2_remember cX2_remember 2 none] ++ wsX20)
def wsX3_init : List Cond := .code yX3_init cX3_init 1 none :: ([.methodLink RX3 3 objectInit, .instanceMethod objectInit, .code objectInit ⟨#[0xb1]⟩ 1 none, .arrayClass .int, .fieldLink RX3 9 "MatchFinders$Text" "bytes" "[I"] ++ wsX30)
def wsX3_put : List Cond := .code yX3_put cX3_put 2 none :: ([.fieldLink RX3 15 "MatchFinders$Text" "size" "I", .fieldLink RX3 9 "MatchFinders$Text" "bytes" "[I", .fieldLink RX3 19 "MatchFinders$Text" "ahead" "I"] ++ wsX30)
def wsX3_becomeDictionary : List Cond := .code yX3_becomeDictionary cX3_becomeDictionary 4 none :: ([.fieldLink RX3 15 "MatchFinders$Text" "size" "I", .methodLink RX3 22 Lib.Math.min.name, .static Lib.Math.min.name, .initialized "java/lang/Math", .code Lib.Math.min.name Lib.Math.min.code 2 (some .int), .fieldLink RX3 19 "MatchFinders$Text" "ahead" "I", .fieldLink RX3 9 "MatchFinders$Text" "bytes" "[I"] ++ wsX30)
def wsX3_at : List Cond := .code yX3_at cX3_at 2 (some .int) :: ([.fieldLink RX3 19 "MatchFinders$Text" "ahead" "I", .fieldLink RX3 15 "MatchFinders$Text" "size" "I", .fieldLink RX3 9 "MatchFinders$Text" "bytes" "[I"] ++ wsX30)
def wsX4_nearest : List Cond := .code yX4_nearest cX4_nearest 2 (some .int) :: ([.methodLink RX4 133 Lib.Math.min.name, .static Lib.Math.min.name, .initialized "java/lang/Math", .code Lib.Math.min.name Lib.Math.min.code 2 (some .int), .methodLink RX4 138 Lib.Math.max.name, .static Lib.Math.max.name, .code Lib.Math.max.name Lib.Math.max.code 2 (some .int)])
def wsX4_init_r1 : List Cond := [Cond.methodLink RX4 3 objectInit, Cond.instanceMethod objectInit, Cond.code objectInit ⟨#[0xb1]⟩ 1 none, Cond.classLink RX4 9 RX3, Cond.instantiable RX3 3, Cond.initialized RX3, Cond.fieldLink RX4 12 "MatchFinders" "text" "LMatchFinders$Text;", Cond.classLink RX4 16 RX0, Cond.instantiable RX0 8, Cond.initialized RX0, Cond.fieldLink RX4 25 "MatchFinders" "finder" "LMatchFinders$Finder;", Cond.classLink RX4 29 RX1, Cond.instantiable RX1 3, Cond.initialized RX1, Cond.fieldLink RX4 32 "MatchFinders" "plan" "LMatchFinders$Plan;", Cond.classLink RX4 36 RX2, Cond.fieldLink RX4 38 "MatchFinders" "rows" "[LMatchFinders$Row;", Cond.instantiable RX2 11, Cond.initialized RX2, Cond.instanceMethod yX3_init, Cond.code yX3_init cX3_init 1 none, Cond.methodLink RX3 3 objectInit, Cond.arrayClass .int, Cond.fieldLink RX3 9 "MatchFinders$Text" "bytes" "[I"]
def wsX4_init_r2 : List Cond := [Cond.methodLink RX4 18 yX4_nearest, Cond.static yX4_nearest, Cond.initialized RX4, Cond.code yX4_nearest cX4_nearest 2 (some .int), Cond.methodLink RX4 133 Lib.Math.min.name, Cond.static Lib.Math.min.name, Cond.initialized "java/lang/Math", Cond.code Lib.Math.min.name Lib.Math.min.code 2 (some .int), Cond.methodLink RX4 138 Lib.Math.max.name, Cond.static Lib.Math.max.name, Cond.code Lib.Math.max.name Lib.Math.max.code 2 (some .int), Cond.methodLink RX4 22 yX0_init, Cond.instanceMethod yX0_init, Cond.code yX0_init cX0_init 4 none, Cond.methodLink RX0 3 objectInit, Cond.fieldLink RX0 9 "MatchFinders$Finder" "frontLengths" "[I", Cond.fieldLink RX0 15 "MatchFinders$Finder" "frontDistances" "[I", Cond.fieldLink RX0 18 "MatchFinders$Finder" "text" "LMatchFinders$Text;", Cond.fieldLink RX0 22 "MatchFinders$Finder" "span" "I", Cond.fieldLink RX0 26 "MatchFinders$Finder" "depth" "I", Cond.instanceMethod yX1_init, Cond.code yX1_init cX1_init 1 none, Cond.methodLink RX1 3 objectInit, Cond.fieldLink RX1 9 "MatchFinders$Plan" "costs" "[I"]
def wsX4_init_r3 : List Cond := [Cond.fieldLink RX1 15 "MatchFinders$Plan" "lengths" "[I", Cond.fieldLink RX1 18 "MatchFinders$Plan" "distances" "[I", Cond.instanceMethod yX2_init, Cond.code yX2_init cX2_init 1 none, Cond.methodLink RX2 3 objectInit, Cond.fieldLink RX2 9 "MatchFinders$Row" "places" "[I", Cond.fieldLink RX2 15 "MatchFinders$Row" "lengths" "[I", Cond.fieldLink RX2 18 "MatchFinders$Row" "distances" "[I"]
def wsX4_init : List Cond := .code yX4_init cX4_init 4 none :: ((wsX4_init_r1 ++ (wsX4_init_r2 ++ wsX4_init_r3)) ++ wsX30 ++ wsX40 ++ wsX00 ++ wsX10 ++ wsX20)
def wsX4_forgetRows : List Cond := .code yX4_forgetRows cX4_forgetRows 2 none :: ([.fieldLink RX4 38 "MatchFinders" "rows" "[LMatchFinders$Row;", .fieldLink RX4 141 "MatchFinders$Row" "told" "Z"] ++ wsX40 ++ wsX20)
def wsX4_add : List Cond := .code yX4_add cX4_add 2 (some .int) :: ([.fieldLink RX4 12 "MatchFinders" "text" "LMatchFinders$Text;", .fieldLink RX4 43 "MatchFinders$Text" "size" "I", .methodLink RX4 47 yX3_put, .instanceMethod yX3_put, .selects RX3 yX3_put yX3_put, .initialized RX3, .code yX3_put cX3_put 2 none, .fieldLink RX3 15 "MatchFinders$Text" "size" "I", .fieldLink RX3 9 "MatchFinders$Text" "bytes" "[I", .fieldLink RX3 19 "MatchFinders$Text" "ahead" "I", .methodLink RX4 51 yX4_forgetRows, .instanceMethod yX4_forgetRows, .selects RX4 yX4_forgetRows yX4_forgetRows, .initialized RX4, .code yX4_forgetRows cX4_forgetRows 2 none, .fieldLink RX4 38 "MatchFinders" "rows" "[LMatchFinders$Row;", .fieldLink RX4 141 "MatchFinders$Row" "told" "Z"] ++ wsX40 ++ wsX30 ++ wsX20)
def wsX4_filling : List Cond := .code yX4_filling cX4_filling 5 (some .int) :: ([.fieldLink RX4 12 "MatchFinders" "text" "LMatchFinders$Text;", .fieldLink RX4 43 "MatchFinders$Text" "size" "I", .methodLink RX4 65 yX3_at, .instanceMethod yX3_at, .selects RX3 yX3_at yX3_at, .initialized RX3, .code yX3_at cX3_at 2 (some .int), .fieldLink RX3 19 "MatchFinders$Text" "ahead" "I", .fieldLink RX3 15 "MatchFinders$Text" "size" "I", .fieldLink RX3 9 "MatchFinders$Text" "bytes" "[I"] ++ wsX40 ++ wsX30)
def wsX4_fill_r1 : List Cond := [Cond.fieldLink RX4 12 "MatchFinders" "text" "LMatchFinders$Text;", Cond.fieldLink RX4 43 "MatchFinders$Text" "size" "I", Cond.constant RX4 54 (1103515245), Cond.methodLink RX4 55 yX4_filling, Cond.instanceMethod yX4_filling, Cond.selects RX4 yX4_filling yX4_filling, Cond.initialized RX4, Cond.code yX4_filling cX4_filling 5 (some .int), Cond.methodLink RX4 65 yX3_at, Cond.instanceMethod yX3_at, Cond.selects RX3 yX3_at yX3_at, Cond.initialized RX3, Cond.code yX3_at cX3_at 2 (some .int), Cond.fieldLink RX3 19 "MatchFinders$Text" "ahead" "I", Cond.fieldLink RX3 15 "MatchFinders$Text" "size" "I", Cond.fieldLink RX3 9 "MatchFinders$Text" "bytes" "[I", Cond.methodLink RX4 47 yX3_put, Cond.instanceMethod yX3_put, Cond.selects RX3 yX3_put yX3_put, Cond.code yX3_put cX3_put 2 none, Cond.methodLink RX4 51 yX4_forgetRows, Cond.instanceMethod yX4_forgetRows, Cond.selects RX4 yX4_forgetRows yX4_forgetRows, Cond.code yX4_forgetRows cX4_forgetRows 2 none]
def wsX4_fill_r2 : List Cond := [Cond.fieldLink RX4 38 "MatchFinders" "rows" "[LMatchFinders$Row;", Cond.fieldLink RX4 141 "MatchFinders$Row" "told" "Z"]
def wsX4_fill : List Cond := .code yX4_fill cX4_fill 7 (some .int) :: ((wsX4_fill_r1 ++ wsX4_fill_r2) ++ wsX40 ++ wsX30 ++ wsX20)
def wsX4_clear : List Cond := .code yX4_clear cX4_clear 2 (some .int) :: ([.fieldLink RX4 12 "MatchFinders" "text" "LMatchFinders$Text;", .fieldLink RX4 43 "MatchFinders$Text" "size" "I", .methodLink RX4 51 yX4_forgetRows, .instanceMethod yX4_forgetRows, .selects RX4 yX4_forgetRows yX4_forgetRows, .initialized RX4, .code yX4_forgetRows cX4_forgetRows 2 none, .fieldLink RX4 38 "MatchFinders" "rows" "[LMatchFinders$Row;", .fieldLink RX4 141 "MatchFinders$Row" "told" "Z"] ++ wsX40 ++ wsX30 ++ wsX20)
def wsX4_dictionary : List Cond := .code yX4_dictionary cX4_dictionary 1 (some .int) :: ([.fieldLink RX4 12 "MatchFinders" "text" "LMatchFinders$Text;", .fieldLink RX4 62 "MatchFinders$Text" "ahead" "I", .methodLink RX4 59 yX3_becomeDictionary, .instanceMethod yX3_becomeDictionary, .selects RX3 yX3_becomeDictionary yX3_becomeDictionary, .initialized RX3, .code yX3_becomeDictionary cX3_becomeDictionary 4 none, .fieldLink RX3 15 "MatchFinders$Text" "size" "I", .methodLink RX3 22 Lib.Math.min.name, .static Lib.Math.min.name, .initialized "java/lang/Math", .code Lib.Math.min.name Lib.Math.min.code 2 (some .int), .fieldLink RX3 19 "MatchFinders$Text" "ahead" "I", .fieldLink RX3 9 "MatchFinders$Text" "bytes" "[I", .methodLink RX4 51 yX4_forgetRows, .instanceMethod yX4_forgetRows, .selects RX4 yX4_forgetRows yX4_forgetRows, .initialized RX4, .code yX4_forgetRows cX4_forgetRows 2 none, .fieldLink RX4 38 "MatchFinders" "rows" "[LMatchFinders$Row;", .fieldLink RX4 141 "MatchFinders$Row" "told" "Z"] ++ wsX40 ++ wsX30 ++ wsX20)
def wsX4_size : List Cond := .code yX4_size cX4_size 2 (some .int) :: ([.fieldLink RX4 12 "MatchFinders" "text" "LMatchFinders$Text;", .fieldLink RX4 43 "MatchFinders$Text" "size" "I", .fieldLink RX4 62 "MatchFinders$Text" "ahead" "I"] ++ wsX40 ++ wsX30)
def wsX4_octet : List Cond := .code yX4_octet cX4_octet 2 (some .int) :: ([.fieldLink RX4 12 "MatchFinders" "text" "LMatchFinders$Text;", .methodLink RX4 65 yX3_at, .instanceMethod yX3_at, .selects RX3 yX3_at yX3_at, .initialized RX3, .code yX3_at cX3_at 2 (some .int), .fieldLink RX3 19 "MatchFinders$Text" "ahead" "I", .fieldLink RX3 15 "MatchFinders$Text" "size" "I", .fieldLink RX3 9 "MatchFinders$Text" "bytes" "[I"] ++ wsX40 ++ wsX30)
def wsX4_isPlace : List Cond := .code yX4_isPlace cX4_isPlace 2 (some .boolean) :: ([.fieldLink RX4 12 "MatchFinders" "text" "LMatchFinders$Text;", .fieldLink RX4 43 "MatchFinders$Text" "size" "I"] ++ wsX40 ++ wsX30)
def wsX4_longest_r1 : List Cond := [Cond.fieldLink RX4 25 "MatchFinders" "finder" "LMatchFinders$Finder;", Cond.fieldLink RX4 76 "MatchFinders$Finder" "length" "I", Cond.fieldLink RX4 79 "MatchFinders$Finder" "distance" "I", Cond.methodLink RX4 69 yX4_isPlace, Cond.instanceMethod yX4_isPlace, Cond.selects RX4 yX4_isPlace yX4_isPlace, Cond.initialized RX4, Cond.code yX4_isPlace cX4_isPlace 2 (some .boolean), Cond.fieldLink RX4 12 "MatchFinders" "text" "LMatchFinders$Text;", Cond.fieldLink RX4 43 "MatchFinders$Text" "size" "I", Cond.methodLink RX4 73 yX0_seekLongest, Cond.instanceMethod yX0_seekLongest, Cond.selects RX0 yX0_seekLongest yX0_seekLongest, Cond.initialized RX0, Cond.code yX0_seekLongest cX0_seekLongest 2 none, Cond.fieldLink RX0 35 "MatchFinders$Finder" "frontCount" "I", Cond.fieldLink RX0 9 "MatchFinders$Finder" "frontLengths" "[I", Cond.fieldLink RX0 15 "MatchFinders$Finder" "frontDistances" "[I", Cond.methodLink RX0 57 yX0_gatherFront, Cond.instanceMethod yX0_gatherFront, Cond.selects RX0 yX0_gatherFront yX0_gatherFront, Cond.code yX0_gatherFront cX0_gatherFront 7 none, Cond.fieldLink RX0 18 "MatchFinders$Finder" "text" "LMatchFinders$Text;", Cond.fieldLink RX0 22 "MatchFinders$Finder" "span" "I"]
def wsX4_longest_r2 : List Cond := [Cond.methodLink RX0 47 Lib.Math.min.name, Cond.static Lib.Math.min.name, Cond.initialized "java/lang/Math", Cond.code Lib.Math.min.name Lib.Math.min.code 2 (some .int), Cond.methodLink RX0 38 yX3_mostLength, Cond.instanceMethod yX3_mostLength, Cond.selects RX3 yX3_mostLength yX3_mostLength, Cond.initialized RX3, Cond.code yX3_mostLength cX3_mostLength 2 (some .int), Cond.fieldLink RX3 15 "MatchFinders$Text" "size" "I", Cond.methodLink RX3 22 Lib.Math.min.name, Cond.methodLink RX0 44 yX3_farthest, Cond.instanceMethod yX3_farthest, Cond.selects RX3 yX3_farthest yX3_farthest, Cond.code yX3_farthest cX3_farthest 2 (some .int), Cond.fieldLink RX3 19 "MatchFinders$Text" "ahead" "I", Cond.methodLink RX0 53 yX3_reach, Cond.instanceMethod yX3_reach, Cond.selects RX3 yX3_reach yX3_reach, Cond.code yX3_reach cX3_reach 7 (some .int), Cond.fieldLink RX3 9 "MatchFinders$Text" "bytes" "[I", Cond.methodLink RX0 61 yX0_take, Cond.instanceMethod yX0_take, Cond.selects RX0 yX0_take yX0_take]
def wsX4_longest_r3 : List Cond := [Cond.code yX0_take cX0_take 3 none, Cond.fieldLink RX0 29 "MatchFinders$Finder" "length" "I", Cond.fieldLink RX0 32 "MatchFinders$Finder" "distance" "I"]
def wsX4_longest : List Cond := .code yX4_longest cX4_longest 3 (some .int) :: ((wsX4_longest_r1 ++ (wsX4_longest_r2 ++ wsX4_longest_r3)) ++ wsX40 ++ wsX00 ++ wsX30)
def wsX4_chained_r1 : List Cond := [Cond.fieldLink RX4 25 "MatchFinders" "finder" "LMatchFinders$Finder;", Cond.fieldLink RX4 76 "MatchFinders$Finder" "length" "I", Cond.fieldLink RX4 79 "MatchFinders$Finder" "distance" "I", Cond.methodLink RX4 69 yX4_isPlace, Cond.instanceMethod yX4_isPlace, Cond.selects RX4 yX4_isPlace yX4_isPlace, Cond.initialized RX4, Cond.code yX4_isPlace cX4_isPlace 2 (some .boolean), Cond.fieldLink RX4 12 "MatchFinders" "text" "LMatchFinders$Text;", Cond.fieldLink RX4 43 "MatchFinders$Text" "size" "I", Cond.methodLink RX4 82 yX0_seekChained, Cond.instanceMethod yX0_seekChained, Cond.selects RX0 yX0_seekChained yX0_seekChained, Cond.initialized RX0, Cond.code yX0_seekChained cX0_seekChained 7 none, Cond.fieldLink RX0 18 "MatchFinders$Finder" "text" "LMatchFinders$Text;", Cond.fieldLink RX0 22 "MatchFinders$Finder" "span" "I", Cond.methodLink RX0 47 Lib.Math.min.name, Cond.static Lib.Math.min.name, Cond.initialized "java/lang/Math", Cond.code Lib.Math.min.name Lib.Math.min.code 2 (some .int), Cond.fieldLink RX0 26 "MatchFinders$Finder" "depth" "I", Cond.fieldLink RX0 29 "MatchFinders$Finder" "length" "I", Cond.methodLink RX0 61 yX0_take]
def wsX4_chained_r2 : List Cond := [Cond.instanceMethod yX0_take, Cond.selects RX0 yX0_take yX0_take, Cond.code yX0_take cX0_take 3 none, Cond.fieldLink RX0 32 "MatchFinders$Finder" "distance" "I", Cond.methodLink RX0 38 yX3_mostLength, Cond.instanceMethod yX3_mostLength, Cond.selects RX3 yX3_mostLength yX3_mostLength, Cond.initialized RX3, Cond.code yX3_mostLength cX3_mostLength 2 (some .int), Cond.fieldLink RX3 15 "MatchFinders$Text" "size" "I", Cond.methodLink RX3 22 Lib.Math.min.name, Cond.methodLink RX0 44 yX3_farthest, Cond.instanceMethod yX3_farthest, Cond.selects RX3 yX3_farthest yX3_farthest, Cond.code yX3_farthest cX3_farthest 2 (some .int), Cond.fieldLink RX3 19 "MatchFinders$Text" "ahead" "I", Cond.methodLink RX0 53 yX3_reach, Cond.instanceMethod yX3_reach, Cond.selects RX3 yX3_reach yX3_reach, Cond.code yX3_reach cX3_reach 7 (some .int), Cond.fieldLink RX3 9 "MatchFinders$Text" "bytes" "[I"]
def wsX4_chained : List Cond := .code yX4_chained cX4_chained 3 (some .int) :: ((wsX4_chained_r1 ++ wsX4_chained_r2) ++ wsX40 ++ wsX00 ++ wsX30)
def wsX4_front_r1 : List Cond := [Cond.fieldLink RX4 25 "MatchFinders" "finder" "LMatchFinders$Finder;", Cond.fieldLink RX4 88 "MatchFinders$Finder" "frontCount" "I", Cond.fieldLink RX4 91 "MatchFinders$Finder" "frontLengths" "[I", Cond.fieldLink RX4 95 "MatchFinders$Finder" "frontDistances" "[I", Cond.methodLink RX4 69 yX4_isPlace, Cond.instanceMethod yX4_isPlace, Cond.selects RX4 yX4_isPlace yX4_isPlace, Cond.initialized RX4, Cond.code yX4_isPlace cX4_isPlace 2 (some .boolean), Cond.fieldLink RX4 12 "MatchFinders" "text" "LMatchFinders$Text;", Cond.fieldLink RX4 43 "MatchFinders$Text" "size" "I", Cond.methodLink RX4 85 yX0_gatherFront, Cond.instanceMethod yX0_gatherFront, Cond.selects RX0 yX0_gatherFront yX0_gatherFront, Cond.initialized RX0, Cond.code yX0_gatherFront cX0_gatherFront 7 none, Cond.fieldLink RX0 35 "MatchFinders$Finder" "frontCount" "I", Cond.fieldLink RX0 18 "MatchFinders$Finder" "text" "LMatchFinders$Text;", Cond.fieldLink RX0 22 "MatchFinders$Finder" "span" "I", Cond.methodLink RX0 47 Lib.Math.min.name, Cond.static Lib.Math.min.name, Cond.initialized "java/lang/Math", Cond.code Lib.Math.min.name Lib.Math.min.code 2 (some .int), Cond.fieldLink RX0 9 "MatchFinders$Finder" "frontLengths" "[I"]
def wsX4_front_r2 : List Cond := [Cond.fieldLink RX0 15 "MatchFinders$Finder" "frontDistances" "[I", Cond.methodLink RX0 38 yX3_mostLength, Cond.instanceMethod yX3_mostLength, Cond.selects RX3 yX3_mostLength yX3_mostLength, Cond.initialized RX3, Cond.code yX3_mostLength cX3_mostLength 2 (some .int), Cond.fieldLink RX3 15 "MatchFinders$Text" "size" "I", Cond.methodLink RX3 22 Lib.Math.min.name, Cond.methodLink RX0 44 yX3_farthest, Cond.instanceMethod yX3_farthest, Cond.selects RX3 yX3_farthest yX3_farthest, Cond.code yX3_farthest cX3_farthest 2 (some .int), Cond.fieldLink RX3 19 "MatchFinders$Text" "ahead" "I", Cond.methodLink RX0 53 yX3_reach, Cond.instanceMethod yX3_reach, Cond.selects RX3 yX3_reach yX3_reach, Cond.code yX3_reach cX3_reach 7 (some .int), Cond.fieldLink RX3 9 "MatchFinders$Text" "bytes" "[I"]
def wsX4_front : List Cond := .code yX4_front cX4_front 4 (some .int) :: ((wsX4_front_r1 ++ wsX4_front_r2) ++ wsX40 ++ wsX00 ++ wsX30)
def wsX4_isWay : List Cond := .code yX4_isWay cX4_isWay 1 (some .boolean) :: ([])
def wsX4_choose_r1 : List Cond := [Cond.fieldLink RX4 25 "MatchFinders" "finder" "LMatchFinders$Finder;", Cond.fieldLink RX4 32 "MatchFinders" "plan" "LMatchFinders$Plan;", Cond.fieldLink RX4 162 "MatchFinders$Plan" "lengths" "[I", Cond.fieldLink RX4 163 "MatchFinders$Plan" "distances" "[I", Cond.methodLink RX4 73 yX0_seekLongest, Cond.instanceMethod yX0_seekLongest, Cond.selects RX0 yX0_seekLongest yX0_seekLongest, Cond.initialized RX0, Cond.code yX0_seekLongest cX0_seekLongest 2 none, Cond.fieldLink RX0 35 "MatchFinders$Finder" "frontCount" "I", Cond.fieldLink RX0 9 "MatchFinders$Finder" "frontLengths" "[I", Cond.fieldLink RX0 15 "MatchFinders$Finder" "frontDistances" "[I", Cond.methodLink RX0 57 yX0_gatherFront, Cond.instanceMethod yX0_gatherFront, Cond.selects RX0 yX0_gatherFront yX0_gatherFront, Cond.code yX0_gatherFront cX0_gatherFront 7 none, Cond.fieldLink RX0 18 "MatchFinders$Finder" "text" "LMatchFinders$Text;", Cond.fieldLink RX0 22 "MatchFinders$Finder" "span" "I", Cond.methodLink RX0 47 Lib.Math.min.name, Cond.static Lib.Math.min.name, Cond.initialized "java/lang/Math", Cond.code Lib.Math.min.name Lib.Math.min.code 2 (some .int), Cond.methodLink RX0 38 yX3_mostLength, Cond.instanceMethod yX3_mostLength]
def wsX4_choose_r2 : List Cond := [Cond.selects RX3 yX3_mostLength yX3_mostLength, Cond.initialized RX3, Cond.code yX3_mostLength cX3_mostLength 2 (some .int), Cond.fieldLink RX3 15 "MatchFinders$Text" "size" "I", Cond.methodLink RX3 22 Lib.Math.min.name, Cond.methodLink RX0 44 yX3_farthest, Cond.instanceMethod yX3_farthest, Cond.selects RX3 yX3_farthest yX3_farthest, Cond.code yX3_farthest cX3_farthest 2 (some .int), Cond.fieldLink RX3 19 "MatchFinders$Text" "ahead" "I", Cond.methodLink RX0 53 yX3_reach, Cond.instanceMethod yX3_reach, Cond.selects RX3 yX3_reach yX3_reach, Cond.code yX3_reach cX3_reach 7 (some .int), Cond.fieldLink RX3 9 "MatchFinders$Text" "bytes" "[I", Cond.methodLink RX0 61 yX0_take, Cond.instanceMethod yX0_take, Cond.selects RX0 yX0_take yX0_take, Cond.code yX0_take cX0_take 3 none, Cond.fieldLink RX0 29 "MatchFinders$Finder" "length" "I", Cond.fieldLink RX0 32 "MatchFinders$Finder" "distance" "I", Cond.methodLink RX4 82 yX0_seekChained, Cond.instanceMethod yX0_seekChained, Cond.selects RX0 yX0_seekChained yX0_seekChained]
def wsX4_choose_r3 : List Cond := [Cond.code yX0_seekChained cX0_seekChained 7 none, Cond.fieldLink RX0 26 "MatchFinders$Finder" "depth" "I", Cond.methodLink RX4 159 yX0_seekLookingAhead, Cond.instanceMethod yX0_seekLookingAhead, Cond.selects RX0 yX0_seekLookingAhead yX0_seekLookingAhead, Cond.code yX0_seekLookingAhead cX0_seekLookingAhead 3 none, Cond.methodLink RX0 65 yX0_seekLongest, Cond.methodLink RX4 164 yX0_take]
def wsX4_choose : List Cond := .code yX4_choose cX4_choose 3 none :: ((wsX4_choose_r1 ++ (wsX4_choose_r2 ++ wsX4_choose_r3)) ++ wsX40 ++ wsX10 ++ wsX00 ++ wsX30)
def wsX4_rowOf_r1 : List Cond := [Cond.fieldLink RX4 38 "MatchFinders" "rows" "[LMatchFinders$Row;", Cond.fieldLink RX4 141 "MatchFinders$Row" "told" "Z", Cond.fieldLink RX4 32 "MatchFinders" "plan" "LMatchFinders$Plan;", Cond.fieldLink RX4 25 "MatchFinders" "finder" "LMatchFinders$Finder;", Cond.fieldLink RX4 12 "MatchFinders" "text" "LMatchFinders$Text;", Cond.fieldLink RX4 43 "MatchFinders$Text" "size" "I", Cond.fieldLink RX4 76 "MatchFinders$Finder" "length" "I", Cond.fieldLink RX4 79 "MatchFinders$Finder" "distance" "I", Cond.methodLink RX4 145 yX1_make, Cond.instanceMethod yX1_make, Cond.selects RX1 yX1_make yX1_make, Cond.initialized RX1, Cond.code yX1_make cX1_make 4 none, Cond.fieldLink RX1 21 "MatchFinders$Finder" "text" "LMatchFinders$Text;", Cond.fieldLink RX1 27 "MatchFinders$Text" "size" "I", Cond.fieldLink RX1 9 "MatchFinders$Plan" "costs" "[I", Cond.fieldLink RX1 15 "MatchFinders$Plan" "lengths" "[I", Cond.fieldLink RX1 18 "MatchFinders$Plan" "distances" "[I", Cond.methodLink RX1 33 yX0_gatherFront, Cond.instanceMethod yX0_gatherFront, Cond.selects RX0 yX0_gatherFront yX0_gatherFront, Cond.initialized RX0, Cond.code yX0_gatherFront cX0_gatherFront 7 none, Cond.fieldLink RX0 35 "MatchFinders$Finder" "frontCount" "I"]
def wsX4_rowOf_r2 : List Cond := [Cond.fieldLink RX0 18 "MatchFinders$Finder" "text" "LMatchFinders$Text;", Cond.fieldLink RX0 22 "MatchFinders$Finder" "span" "I", Cond.methodLink RX0 47 Lib.Math.min.name, Cond.static Lib.Math.min.name, Cond.initialized "java/lang/Math", Cond.code Lib.Math.min.name Lib.Math.min.code 2 (some .int), Cond.fieldLink RX0 9 "MatchFinders$Finder" "frontLengths" "[I", Cond.fieldLink RX0 15 "MatchFinders$Finder" "frontDistances" "[I", Cond.methodLink RX0 38 yX3_mostLength, Cond.instanceMethod yX3_mostLength, Cond.selects RX3 yX3_mostLength yX3_mostLength, Cond.initialized RX3, Cond.code yX3_mostLength cX3_mostLength 2 (some .int), Cond.fieldLink RX3 15 "MatchFinders$Text" "size" "I", Cond.methodLink RX3 22 Lib.Math.min.name, Cond.methodLink RX0 44 yX3_farthest, Cond.instanceMethod yX3_farthest, Cond.selects RX3 yX3_farthest yX3_farthest, Cond.code yX3_farthest cX3_farthest 2 (some .int), Cond.fieldLink RX3 19 "MatchFinders$Text" "ahead" "I", Cond.methodLink RX0 53 yX3_reach, Cond.instanceMethod yX3_reach, Cond.selects RX3 yX3_reach yX3_reach, Cond.code yX3_reach cX3_reach 7 (some .int)]
def wsX4_rowOf_r3 : List Cond := [Cond.fieldLink RX3 9 "MatchFinders$Text" "bytes" "[I", Cond.methodLink RX1 37 yX1_weighMatches, Cond.instanceMethod yX1_weighMatches, Cond.selects RX1 yX1_weighMatches yX1_weighMatches, Cond.code yX1_weighMatches cX1_weighMatches 8 none, Cond.fieldLink RX1 41 "MatchFinders$Finder" "frontCount" "I", Cond.fieldLink RX1 44 "MatchFinders$Finder" "frontDistances" "[I", Cond.fieldLink RX1 51 "MatchFinders$Finder" "frontLengths" "[I", Cond.static yX4_gammaBits, Cond.initialized RX4, Cond.code yX4_gammaBits cX4_gammaBits 3 (some .int), Cond.methodLink RX4 149 yX2_begin, Cond.instanceMethod yX2_begin, Cond.selects RX2 yX2_begin yX2_begin, Cond.initialized RX2, Cond.code yX2_begin cX2_begin 1 none, Cond.fieldLink RX2 21 "MatchFinders$Row" "count" "I", Cond.fieldLink RX2 25 "MatchFinders$Row" "plainBits" "I", Cond.fieldLink RX2 28 "MatchFinders$Row" "bitsWithRepeats" "I", Cond.fieldLink RX2 31 "MatchFinders$Row" "repeatCount" "I", Cond.fieldLink RX2 34 "MatchFinders$Row" "latest" "I", Cond.fieldLink RX2 37 "MatchFinders$Row" "second" "I", Cond.fieldLink RX2 40 "MatchFinders$Row" "third" "I", Cond.methodLink RX4 152 yX4_choose]
def wsX4_rowOf_r4 : List Cond := [Cond.instanceMethod yX4_choose, Cond.selects RX4 yX4_choose yX4_choose, Cond.code yX4_choose cX4_choose 3 none, Cond.fieldLink RX4 162 "MatchFinders$Plan" "lengths" "[I", Cond.fieldLink RX4 163 "MatchFinders$Plan" "distances" "[I", Cond.methodLink RX4 73 yX0_seekLongest, Cond.instanceMethod yX0_seekLongest, Cond.selects RX0 yX0_seekLongest yX0_seekLongest, Cond.code yX0_seekLongest cX0_seekLongest 2 none, Cond.methodLink RX0 57 yX0_gatherFront, Cond.methodLink RX0 61 yX0_take, Cond.instanceMethod yX0_take, Cond.selects RX0 yX0_take yX0_take, Cond.code yX0_take cX0_take 3 none, Cond.fieldLink RX0 29 "MatchFinders$Finder" "length" "I", Cond.fieldLink RX0 32 "MatchFinders$Finder" "distance" "I", Cond.methodLink RX4 82 yX0_seekChained, Cond.instanceMethod yX0_seekChained, Cond.selects RX0 yX0_seekChained yX0_seekChained, Cond.code yX0_seekChained cX0_seekChained 7 none, Cond.fieldLink RX0 26 "MatchFinders$Finder" "depth" "I", Cond.methodLink RX4 159 yX0_seekLookingAhead, Cond.instanceMethod yX0_seekLookingAhead, Cond.selects RX0 yX0_seekLookingAhead yX0_seekLookingAhead]
def wsX4_rowOf_r5 : List Cond := [Cond.code yX0_seekLookingAhead cX0_seekLookingAhead 3 none, Cond.methodLink RX0 65 yX0_seekLongest, Cond.methodLink RX4 164 yX0_take, Cond.methodLink RX4 156 yX2_put, Cond.instanceMethod yX2_put, Cond.selects RX2 yX2_put yX2_put, Cond.code yX2_put cX2_put 4 none, Cond.fieldLink RX2 9 "MatchFinders$Row" "places" "[I", Cond.fieldLink RX2 15 "MatchFinders$Row" "lengths" "[I", Cond.fieldLink RX2 18 "MatchFinders$Row" "distances" "[I", Cond.methodLink RX2 43 yX2_countMatch, Cond.instanceMethod yX2_countMatch, Cond.selects RX2 yX2_countMatch yX2_countMatch, Cond.code yX2_countMatch cX2_countMatch 5 none, Cond.methodLink RX2 51 yX2_remember, Cond.instanceMethod yX2_remember, Cond.selects RX2 yX2_remember yX2_remember, Cond.code yX2_remember cX2_remember 2 none]
def wsX4_rowOf : List Cond := .code yX4_rowOf cX4_rowOf 6 (some (.object "MatchFinders$Row")) :: ((wsX4_rowOf_r1 ++ (wsX4_rowOf_r2 ++ (wsX4_rowOf_r3 ++ (wsX4_rowOf_r4 ++ wsX4_rowOf_r5)))) ++ wsX40 ++ wsX20 ++ wsX30 ++ wsX00 ++ wsX10)
def wsX4_pieces_r1 : List Cond := [Cond.fieldLink RX4 105 "MatchFinders$Row" "count" "I", Cond.methodLink RX4 98 yX4_isWay, Cond.static yX4_isWay, Cond.initialized RX4, Cond.code yX4_isWay cX4_isWay 1 (some .boolean), Cond.methodLink RX4 101 yX4_rowOf, Cond.instanceMethod yX4_rowOf, Cond.selects RX4 yX4_rowOf yX4_rowOf, Cond.code yX4_rowOf cX4_rowOf 6 (some (.object "MatchFinders$Row")), Cond.fieldLink RX4 38 "MatchFinders" "rows" "[LMatchFinders$Row;", Cond.fieldLink RX4 141 "MatchFinders$Row" "told" "Z", Cond.fieldLink RX4 32 "MatchFinders" "plan" "LMatchFinders$Plan;", Cond.fieldLink RX4 25 "MatchFinders" "finder" "LMatchFinders$Finder;", Cond.fieldLink RX4 12 "MatchFinders" "text" "LMatchFinders$Text;", Cond.fieldLink RX4 43 "MatchFinders$Text" "size" "I", Cond.fieldLink RX4 76 "MatchFinders$Finder" "length" "I", Cond.fieldLink RX4 79 "MatchFinders$Finder" "distance" "I", Cond.methodLink RX4 145 yX1_make, Cond.instanceMethod yX1_make, Cond.selects RX1 yX1_make yX1_make, Cond.initialized RX1, Cond.code yX1_make cX1_make 4 none, Cond.fieldLink RX1 21 "MatchFinders$Finder" "text" "LMatchFinders$Text;", Cond.fieldLink RX1 27 "MatchFinders$Text" "size" "I"]
def wsX4_pieces_r2 : List Cond := [Cond.fieldLink RX1 9 "MatchFinders$Plan" "costs" "[I", Cond.fieldLink RX1 15 "MatchFinders$Plan" "lengths" "[I", Cond.fieldLink RX1 18 "MatchFinders$Plan" "distances" "[I", Cond.methodLink RX1 33 yX0_gatherFront, Cond.instanceMethod yX0_gatherFront, Cond.selects RX0 yX0_gatherFront yX0_gatherFront, Cond.initialized RX0, Cond.code yX0_gatherFront cX0_gatherFront 7 none, Cond.fieldLink RX0 35 "MatchFinders$Finder" "frontCount" "I", Cond.fieldLink RX0 18 "MatchFinders$Finder" "text" "LMatchFinders$Text;", Cond.fieldLink RX0 22 "MatchFinders$Finder" "span" "I", Cond.methodLink RX0 47 Lib.Math.min.name, Cond.static Lib.Math.min.name, Cond.initialized "java/lang/Math", Cond.code Lib.Math.min.name Lib.Math.min.code 2 (some .int), Cond.fieldLink RX0 9 "MatchFinders$Finder" "frontLengths" "[I", Cond.fieldLink RX0 15 "MatchFinders$Finder" "frontDistances" "[I", Cond.methodLink RX0 38 yX3_mostLength, Cond.instanceMethod yX3_mostLength, Cond.selects RX3 yX3_mostLength yX3_mostLength, Cond.initialized RX3, Cond.code yX3_mostLength cX3_mostLength 2 (some .int), Cond.fieldLink RX3 15 "MatchFinders$Text" "size" "I", Cond.methodLink RX3 22 Lib.Math.min.name]
def wsX4_pieces_r3 : List Cond := [Cond.methodLink RX0 44 yX3_farthest, Cond.instanceMethod yX3_farthest, Cond.selects RX3 yX3_farthest yX3_farthest, Cond.code yX3_farthest cX3_farthest 2 (some .int), Cond.fieldLink RX3 19 "MatchFinders$Text" "ahead" "I", Cond.methodLink RX0 53 yX3_reach, Cond.instanceMethod yX3_reach, Cond.selects RX3 yX3_reach yX3_reach, Cond.code yX3_reach cX3_reach 7 (some .int), Cond.fieldLink RX3 9 "MatchFinders$Text" "bytes" "[I", Cond.methodLink RX1 37 yX1_weighMatches, Cond.instanceMethod yX1_weighMatches, Cond.selects RX1 yX1_weighMatches yX1_weighMatches, Cond.code yX1_weighMatches cX1_weighMatches 8 none, Cond.fieldLink RX1 41 "MatchFinders$Finder" "frontCount" "I", Cond.fieldLink RX1 44 "MatchFinders$Finder" "frontDistances" "[I", Cond.fieldLink RX1 51 "MatchFinders$Finder" "frontLengths" "[I", Cond.static yX4_gammaBits, Cond.code yX4_gammaBits cX4_gammaBits 3 (some .int), Cond.methodLink RX4 149 yX2_begin, Cond.instanceMethod yX2_begin, Cond.selects RX2 yX2_begin yX2_begin, Cond.initialized RX2, Cond.code yX2_begin cX2_begin 1 none]
def wsX4_pieces_r4 : List Cond := [Cond.fieldLink RX2 21 "MatchFinders$Row" "count" "I", Cond.fieldLink RX2 25 "MatchFinders$Row" "plainBits" "I", Cond.fieldLink RX2 28 "MatchFinders$Row" "bitsWithRepeats" "I", Cond.fieldLink RX2 31 "MatchFinders$Row" "repeatCount" "I", Cond.fieldLink RX2 34 "MatchFinders$Row" "latest" "I", Cond.fieldLink RX2 37 "MatchFinders$Row" "second" "I", Cond.fieldLink RX2 40 "MatchFinders$Row" "third" "I", Cond.methodLink RX4 152 yX4_choose, Cond.instanceMethod yX4_choose, Cond.selects RX4 yX4_choose yX4_choose, Cond.code yX4_choose cX4_choose 3 none, Cond.fieldLink RX4 162 "MatchFinders$Plan" "lengths" "[I", Cond.fieldLink RX4 163 "MatchFinders$Plan" "distances" "[I", Cond.methodLink RX4 73 yX0_seekLongest, Cond.instanceMethod yX0_seekLongest, Cond.selects RX0 yX0_seekLongest yX0_seekLongest, Cond.code yX0_seekLongest cX0_seekLongest 2 none, Cond.methodLink RX0 57 yX0_gatherFront, Cond.methodLink RX0 61 yX0_take, Cond.instanceMethod yX0_take, Cond.selects RX0 yX0_take yX0_take, Cond.code yX0_take cX0_take 3 none, Cond.fieldLink RX0 29 "MatchFinders$Finder" "length" "I", Cond.fieldLink RX0 32 "MatchFinders$Finder" "distance" "I"]
def wsX4_pieces_r5 : List Cond := [Cond.methodLink RX4 82 yX0_seekChained, Cond.instanceMethod yX0_seekChained, Cond.selects RX0 yX0_seekChained yX0_seekChained, Cond.code yX0_seekChained cX0_seekChained 7 none, Cond.fieldLink RX0 26 "MatchFinders$Finder" "depth" "I", Cond.methodLink RX4 159 yX0_seekLookingAhead, Cond.instanceMethod yX0_seekLookingAhead, Cond.selects RX0 yX0_seekLookingAhead yX0_seekLookingAhead, Cond.code yX0_seekLookingAhead cX0_seekLookingAhead 3 none, Cond.methodLink RX0 65 yX0_seekLongest, Cond.methodLink RX4 164 yX0_take, Cond.methodLink RX4 156 yX2_put, Cond.instanceMethod yX2_put, Cond.selects RX2 yX2_put yX2_put, Cond.code yX2_put cX2_put 4 none, Cond.fieldLink RX2 9 "MatchFinders$Row" "places" "[I", Cond.fieldLink RX2 15 "MatchFinders$Row" "lengths" "[I", Cond.fieldLink RX2 18 "MatchFinders$Row" "distances" "[I", Cond.methodLink RX2 43 yX2_countMatch, Cond.instanceMethod yX2_countMatch, Cond.selects RX2 yX2_countMatch yX2_countMatch, Cond.code yX2_countMatch cX2_countMatch 5 none, Cond.methodLink RX2 51 yX2_remember, Cond.instanceMethod yX2_remember]
def wsX4_pieces_r6 : List Cond := [Cond.selects RX2 yX2_remember yX2_remember, Cond.code yX2_remember cX2_remember 2 none]
def wsX4_pieces : List Cond := .code yX4_pieces cX4_pieces 2 (some .int) :: ((wsX4_pieces_r1 ++ (wsX4_pieces_r2 ++ (wsX4_pieces_r3 ++ (wsX4_pieces_r4 ++ (wsX4_pieces_r5 ++ wsX4_pieces_r6))))) ++ wsX20 ++ wsX40 ++ wsX30 ++ wsX00 ++ wsX10)
def wsX4_piece_r1 : List Cond := [Cond.fieldLink RX4 105 "MatchFinders$Row" "count" "I", Cond.fieldLink RX4 108 "MatchFinders$Row" "places" "[I", Cond.fieldLink RX4 111 "MatchFinders$Row" "lengths" "[I", Cond.fieldLink RX4 114 "MatchFinders$Row" "distances" "[I", Cond.methodLink RX4 98 yX4_isWay, Cond.static yX4_isWay, Cond.initialized RX4, Cond.code yX4_isWay cX4_isWay 1 (some .boolean), Cond.methodLink RX4 101 yX4_rowOf, Cond.instanceMethod yX4_rowOf, Cond.selects RX4 yX4_rowOf yX4_rowOf, Cond.code yX4_rowOf cX4_rowOf 6 (some (.object "MatchFinders$Row")), Cond.fieldLink RX4 38 "MatchFinders" "rows" "[LMatchFinders$Row;", Cond.fieldLink RX4 141 "MatchFinders$Row" "told" "Z", Cond.fieldLink RX4 32 "MatchFinders" "plan" "LMatchFinders$Plan;", Cond.fieldLink RX4 25 "MatchFinders" "finder" "LMatchFinders$Finder;", Cond.fieldLink RX4 12 "MatchFinders" "text" "LMatchFinders$Text;", Cond.fieldLink RX4 43 "MatchFinders$Text" "size" "I", Cond.fieldLink RX4 76 "MatchFinders$Finder" "length" "I", Cond.fieldLink RX4 79 "MatchFinders$Finder" "distance" "I", Cond.methodLink RX4 145 yX1_make, Cond.instanceMethod yX1_make, Cond.selects RX1 yX1_make yX1_make, Cond.initialized RX1]
def wsX4_piece_r2 : List Cond := [Cond.code yX1_make cX1_make 4 none, Cond.fieldLink RX1 21 "MatchFinders$Finder" "text" "LMatchFinders$Text;", Cond.fieldLink RX1 27 "MatchFinders$Text" "size" "I", Cond.fieldLink RX1 9 "MatchFinders$Plan" "costs" "[I", Cond.fieldLink RX1 15 "MatchFinders$Plan" "lengths" "[I", Cond.fieldLink RX1 18 "MatchFinders$Plan" "distances" "[I", Cond.methodLink RX1 33 yX0_gatherFront, Cond.instanceMethod yX0_gatherFront, Cond.selects RX0 yX0_gatherFront yX0_gatherFront, Cond.initialized RX0, Cond.code yX0_gatherFront cX0_gatherFront 7 none, Cond.fieldLink RX0 35 "MatchFinders$Finder" "frontCount" "I", Cond.fieldLink RX0 18 "MatchFinders$Finder" "text" "LMatchFinders$Text;", Cond.fieldLink RX0 22 "MatchFinders$Finder" "span" "I", Cond.methodLink RX0 47 Lib.Math.min.name, Cond.static Lib.Math.min.name, Cond.initialized "java/lang/Math", Cond.code Lib.Math.min.name Lib.Math.min.code 2 (some .int), Cond.fieldLink RX0 9 "MatchFinders$Finder" "frontLengths" "[I", Cond.fieldLink RX0 15 "MatchFinders$Finder" "frontDistances" "[I", Cond.methodLink RX0 38 yX3_mostLength, Cond.instanceMethod yX3_mostLength, Cond.selects RX3 yX3_mostLength yX3_mostLength, Cond.initialized RX3]
def wsX4_piece_r3 : List Cond := [Cond.code yX3_mostLength cX3_mostLength 2 (some .int), Cond.fieldLink RX3 15 "MatchFinders$Text" "size" "I", Cond.methodLink RX3 22 Lib.Math.min.name, Cond.methodLink RX0 44 yX3_farthest, Cond.instanceMethod yX3_farthest, Cond.selects RX3 yX3_farthest yX3_farthest, Cond.code yX3_farthest cX3_farthest 2 (some .int), Cond.fieldLink RX3 19 "MatchFinders$Text" "ahead" "I", Cond.methodLink RX0 53 yX3_reach, Cond.instanceMethod yX3_reach, Cond.selects RX3 yX3_reach yX3_reach, Cond.code yX3_reach cX3_reach 7 (some .int), Cond.fieldLink RX3 9 "MatchFinders$Text" "bytes" "[I", Cond.methodLink RX1 37 yX1_weighMatches, Cond.instanceMethod yX1_weighMatches, Cond.selects RX1 yX1_weighMatches yX1_weighMatches, Cond.code yX1_weighMatches cX1_weighMatches 8 none, Cond.fieldLink RX1 41 "MatchFinders$Finder" "frontCount" "I", Cond.fieldLink RX1 44 "MatchFinders$Finder" "frontDistances" "[I", Cond.fieldLink RX1 51 "MatchFinders$Finder" "frontLengths" "[I", Cond.static yX4_gammaBits, Cond.code yX4_gammaBits cX4_gammaBits 3 (some .int), Cond.methodLink RX4 149 yX2_begin, Cond.instanceMethod yX2_begin]
def wsX4_piece_r4 : List Cond := [Cond.selects RX2 yX2_begin yX2_begin, Cond.initialized RX2, Cond.code yX2_begin cX2_begin 1 none, Cond.fieldLink RX2 21 "MatchFinders$Row" "count" "I", Cond.fieldLink RX2 25 "MatchFinders$Row" "plainBits" "I", Cond.fieldLink RX2 28 "MatchFinders$Row" "bitsWithRepeats" "I", Cond.fieldLink RX2 31 "MatchFinders$Row" "repeatCount" "I", Cond.fieldLink RX2 34 "MatchFinders$Row" "latest" "I", Cond.fieldLink RX2 37 "MatchFinders$Row" "second" "I", Cond.fieldLink RX2 40 "MatchFinders$Row" "third" "I", Cond.methodLink RX4 152 yX4_choose, Cond.instanceMethod yX4_choose, Cond.selects RX4 yX4_choose yX4_choose, Cond.code yX4_choose cX4_choose 3 none, Cond.fieldLink RX4 162 "MatchFinders$Plan" "lengths" "[I", Cond.fieldLink RX4 163 "MatchFinders$Plan" "distances" "[I", Cond.methodLink RX4 73 yX0_seekLongest, Cond.instanceMethod yX0_seekLongest, Cond.selects RX0 yX0_seekLongest yX0_seekLongest, Cond.code yX0_seekLongest cX0_seekLongest 2 none, Cond.methodLink RX0 57 yX0_gatherFront, Cond.methodLink RX0 61 yX0_take, Cond.instanceMethod yX0_take, Cond.selects RX0 yX0_take yX0_take]
def wsX4_piece_r5 : List Cond := [Cond.code yX0_take cX0_take 3 none, Cond.fieldLink RX0 29 "MatchFinders$Finder" "length" "I", Cond.fieldLink RX0 32 "MatchFinders$Finder" "distance" "I", Cond.methodLink RX4 82 yX0_seekChained, Cond.instanceMethod yX0_seekChained, Cond.selects RX0 yX0_seekChained yX0_seekChained, Cond.code yX0_seekChained cX0_seekChained 7 none, Cond.fieldLink RX0 26 "MatchFinders$Finder" "depth" "I", Cond.methodLink RX4 159 yX0_seekLookingAhead, Cond.instanceMethod yX0_seekLookingAhead, Cond.selects RX0 yX0_seekLookingAhead yX0_seekLookingAhead, Cond.code yX0_seekLookingAhead cX0_seekLookingAhead 3 none, Cond.methodLink RX0 65 yX0_seekLongest, Cond.methodLink RX4 164 yX0_take, Cond.methodLink RX4 156 yX2_put, Cond.instanceMethod yX2_put, Cond.selects RX2 yX2_put yX2_put, Cond.code yX2_put cX2_put 4 none, Cond.fieldLink RX2 9 "MatchFinders$Row" "places" "[I", Cond.fieldLink RX2 15 "MatchFinders$Row" "lengths" "[I", Cond.fieldLink RX2 18 "MatchFinders$Row" "distances" "[I", Cond.methodLink RX2 43 yX2_countMatch, Cond.instanceMethod yX2_countMatch, Cond.selects RX2 yX2_countMatch yX2_countMatch]
def wsX4_piece_r6 : List Cond := [Cond.code yX2_countMatch cX2_countMatch 5 none, Cond.methodLink RX2 51 yX2_remember, Cond.instanceMethod yX2_remember, Cond.selects RX2 yX2_remember yX2_remember, Cond.code yX2_remember cX2_remember 2 none]
def wsX4_piece : List Cond := .code yX4_piece cX4_piece 5 (some .int) :: ((wsX4_piece_r1 ++ (wsX4_piece_r2 ++ (wsX4_piece_r3 ++ (wsX4_piece_r4 ++ (wsX4_piece_r5 ++ wsX4_piece_r6))))) ++ wsX20 ++ wsX40 ++ wsX30 ++ wsX00 ++ wsX10)
def wsX4_bits_r1 : List Cond := [Cond.fieldLink RX4 117 "MatchFinders$Row" "plainBits" "I", Cond.fieldLink RX4 120 "MatchFinders$Row" "bitsWithRepeats" "I", Cond.methodLink RX4 98 yX4_isWay, Cond.static yX4_isWay, Cond.initialized RX4, Cond.code yX4_isWay cX4_isWay 1 (some .boolean), Cond.methodLink RX4 101 yX4_rowOf, Cond.instanceMethod yX4_rowOf, Cond.selects RX4 yX4_rowOf yX4_rowOf, Cond.code yX4_rowOf cX4_rowOf 6 (some (.object "MatchFinders$Row")), Cond.fieldLink RX4 38 "MatchFinders" "rows" "[LMatchFinders$Row;", Cond.fieldLink RX4 141 "MatchFinders$Row" "told" "Z", Cond.fieldLink RX4 32 "MatchFinders" "plan" "LMatchFinders$Plan;", Cond.fieldLink RX4 25 "MatchFinders" "finder" "LMatchFinders$Finder;", Cond.fieldLink RX4 12 "MatchFinders" "text" "LMatchFinders$Text;", Cond.fieldLink RX4 43 "MatchFinders$Text" "size" "I", Cond.fieldLink RX4 76 "MatchFinders$Finder" "length" "I", Cond.fieldLink RX4 79 "MatchFinders$Finder" "distance" "I", Cond.methodLink RX4 145 yX1_make, Cond.instanceMethod yX1_make, Cond.selects RX1 yX1_make yX1_make, Cond.initialized RX1, Cond.code yX1_make cX1_make 4 none, Cond.fieldLink RX1 21 "MatchFinders$Finder" "text" "LMatchFinders$Text;"]
def wsX4_bits_r2 : List Cond := [Cond.fieldLink RX1 27 "MatchFinders$Text" "size" "I", Cond.fieldLink RX1 9 "MatchFinders$Plan" "costs" "[I", Cond.fieldLink RX1 15 "MatchFinders$Plan" "lengths" "[I", Cond.fieldLink RX1 18 "MatchFinders$Plan" "distances" "[I", Cond.methodLink RX1 33 yX0_gatherFront, Cond.instanceMethod yX0_gatherFront, Cond.selects RX0 yX0_gatherFront yX0_gatherFront, Cond.initialized RX0, Cond.code yX0_gatherFront cX0_gatherFront 7 none, Cond.fieldLink RX0 35 "MatchFinders$Finder" "frontCount" "I", Cond.fieldLink RX0 18 "MatchFinders$Finder" "text" "LMatchFinders$Text;", Cond.fieldLink RX0 22 "MatchFinders$Finder" "span" "I", Cond.methodLink RX0 47 Lib.Math.min.name, Cond.static Lib.Math.min.name, Cond.initialized "java/lang/Math", Cond.code Lib.Math.min.name Lib.Math.min.code 2 (some .int), Cond.fieldLink RX0 9 "MatchFinders$Finder" "frontLengths" "[I", Cond.fieldLink RX0 15 "MatchFinders$Finder" "frontDistances" "[I", Cond.methodLink RX0 38 yX3_mostLength, Cond.instanceMethod yX3_mostLength, Cond.selects RX3 yX3_mostLength yX3_mostLength, Cond.initialized RX3, Cond.code yX3_mostLength cX3_mostLength 2 (some .int), Cond.fieldLink RX3 15 "MatchFinders$Text" "size" "I"]
def wsX4_bits_r3 : List Cond := [Cond.methodLink RX3 22 Lib.Math.min.name, Cond.methodLink RX0 44 yX3_farthest, Cond.instanceMethod yX3_farthest, Cond.selects RX3 yX3_farthest yX3_farthest, Cond.code yX3_farthest cX3_farthest 2 (some .int), Cond.fieldLink RX3 19 "MatchFinders$Text" "ahead" "I", Cond.methodLink RX0 53 yX3_reach, Cond.instanceMethod yX3_reach, Cond.selects RX3 yX3_reach yX3_reach, Cond.code yX3_reach cX3_reach 7 (some .int), Cond.fieldLink RX3 9 "MatchFinders$Text" "bytes" "[I", Cond.methodLink RX1 37 yX1_weighMatches, Cond.instanceMethod yX1_weighMatches, Cond.selects RX1 yX1_weighMatches yX1_weighMatches, Cond.code yX1_weighMatches cX1_weighMatches 8 none, Cond.fieldLink RX1 41 "MatchFinders$Finder" "frontCount" "I", Cond.fieldLink RX1 44 "MatchFinders$Finder" "frontDistances" "[I", Cond.fieldLink RX1 51 "MatchFinders$Finder" "frontLengths" "[I", Cond.static yX4_gammaBits, Cond.code yX4_gammaBits cX4_gammaBits 3 (some .int), Cond.methodLink RX4 149 yX2_begin, Cond.instanceMethod yX2_begin, Cond.selects RX2 yX2_begin yX2_begin, Cond.initialized RX2]
def wsX4_bits_r4 : List Cond := [Cond.code yX2_begin cX2_begin 1 none, Cond.fieldLink RX2 21 "MatchFinders$Row" "count" "I", Cond.fieldLink RX2 25 "MatchFinders$Row" "plainBits" "I", Cond.fieldLink RX2 28 "MatchFinders$Row" "bitsWithRepeats" "I", Cond.fieldLink RX2 31 "MatchFinders$Row" "repeatCount" "I", Cond.fieldLink RX2 34 "MatchFinders$Row" "latest" "I", Cond.fieldLink RX2 37 "MatchFinders$Row" "second" "I", Cond.fieldLink RX2 40 "MatchFinders$Row" "third" "I", Cond.methodLink RX4 152 yX4_choose, Cond.instanceMethod yX4_choose, Cond.selects RX4 yX4_choose yX4_choose, Cond.code yX4_choose cX4_choose 3 none, Cond.fieldLink RX4 162 "MatchFinders$Plan" "lengths" "[I", Cond.fieldLink RX4 163 "MatchFinders$Plan" "distances" "[I", Cond.methodLink RX4 73 yX0_seekLongest, Cond.instanceMethod yX0_seekLongest, Cond.selects RX0 yX0_seekLongest yX0_seekLongest, Cond.code yX0_seekLongest cX0_seekLongest 2 none, Cond.methodLink RX0 57 yX0_gatherFront, Cond.methodLink RX0 61 yX0_take, Cond.instanceMethod yX0_take, Cond.selects RX0 yX0_take yX0_take, Cond.code yX0_take cX0_take 3 none, Cond.fieldLink RX0 29 "MatchFinders$Finder" "length" "I"]
def wsX4_bits_r5 : List Cond := [Cond.fieldLink RX0 32 "MatchFinders$Finder" "distance" "I", Cond.methodLink RX4 82 yX0_seekChained, Cond.instanceMethod yX0_seekChained, Cond.selects RX0 yX0_seekChained yX0_seekChained, Cond.code yX0_seekChained cX0_seekChained 7 none, Cond.fieldLink RX0 26 "MatchFinders$Finder" "depth" "I", Cond.methodLink RX4 159 yX0_seekLookingAhead, Cond.instanceMethod yX0_seekLookingAhead, Cond.selects RX0 yX0_seekLookingAhead yX0_seekLookingAhead, Cond.code yX0_seekLookingAhead cX0_seekLookingAhead 3 none, Cond.methodLink RX0 65 yX0_seekLongest, Cond.methodLink RX4 164 yX0_take, Cond.methodLink RX4 156 yX2_put, Cond.instanceMethod yX2_put, Cond.selects RX2 yX2_put yX2_put, Cond.code yX2_put cX2_put 4 none, Cond.fieldLink RX2 9 "MatchFinders$Row" "places" "[I", Cond.fieldLink RX2 15 "MatchFinders$Row" "lengths" "[I", Cond.fieldLink RX2 18 "MatchFinders$Row" "distances" "[I", Cond.methodLink RX2 43 yX2_countMatch, Cond.instanceMethod yX2_countMatch, Cond.selects RX2 yX2_countMatch yX2_countMatch, Cond.code yX2_countMatch cX2_countMatch 5 none, Cond.methodLink RX2 51 yX2_remember]
def wsX4_bits_r6 : List Cond := [Cond.instanceMethod yX2_remember, Cond.selects RX2 yX2_remember yX2_remember, Cond.code yX2_remember cX2_remember 2 none]
def wsX4_bits : List Cond := .code yX4_bits cX4_bits 4 (some .int) :: ((wsX4_bits_r1 ++ (wsX4_bits_r2 ++ (wsX4_bits_r3 ++ (wsX4_bits_r4 ++ (wsX4_bits_r5 ++ wsX4_bits_r6))))) ++ wsX20 ++ wsX40 ++ wsX30 ++ wsX00 ++ wsX10)
def wsX4_repeats_r1 : List Cond := [Cond.fieldLink RX4 123 "MatchFinders$Row" "repeatCount" "I", Cond.methodLink RX4 98 yX4_isWay, Cond.static yX4_isWay, Cond.initialized RX4, Cond.code yX4_isWay cX4_isWay 1 (some .boolean), Cond.methodLink RX4 101 yX4_rowOf, Cond.instanceMethod yX4_rowOf, Cond.selects RX4 yX4_rowOf yX4_rowOf, Cond.code yX4_rowOf cX4_rowOf 6 (some (.object "MatchFinders$Row")), Cond.fieldLink RX4 38 "MatchFinders" "rows" "[LMatchFinders$Row;", Cond.fieldLink RX4 141 "MatchFinders$Row" "told" "Z", Cond.fieldLink RX4 32 "MatchFinders" "plan" "LMatchFinders$Plan;", Cond.fieldLink RX4 25 "MatchFinders" "finder" "LMatchFinders$Finder;", Cond.fieldLink RX4 12 "MatchFinders" "text" "LMatchFinders$Text;", Cond.fieldLink RX4 43 "MatchFinders$Text" "size" "I", Cond.fieldLink RX4 76 "MatchFinders$Finder" "length" "I", Cond.fieldLink RX4 79 "MatchFinders$Finder" "distance" "I", Cond.methodLink RX4 145 yX1_make, Cond.instanceMethod yX1_make, Cond.selects RX1 yX1_make yX1_make, Cond.initialized RX1, Cond.code yX1_make cX1_make 4 none, Cond.fieldLink RX1 21 "MatchFinders$Finder" "text" "LMatchFinders$Text;", Cond.fieldLink RX1 27 "MatchFinders$Text" "size" "I"]
def wsX4_repeats_r2 : List Cond := [Cond.fieldLink RX1 9 "MatchFinders$Plan" "costs" "[I", Cond.fieldLink RX1 15 "MatchFinders$Plan" "lengths" "[I", Cond.fieldLink RX1 18 "MatchFinders$Plan" "distances" "[I", Cond.methodLink RX1 33 yX0_gatherFront, Cond.instanceMethod yX0_gatherFront, Cond.selects RX0 yX0_gatherFront yX0_gatherFront, Cond.initialized RX0, Cond.code yX0_gatherFront cX0_gatherFront 7 none, Cond.fieldLink RX0 35 "MatchFinders$Finder" "frontCount" "I", Cond.fieldLink RX0 18 "MatchFinders$Finder" "text" "LMatchFinders$Text;", Cond.fieldLink RX0 22 "MatchFinders$Finder" "span" "I", Cond.methodLink RX0 47 Lib.Math.min.name, Cond.static Lib.Math.min.name, Cond.initialized "java/lang/Math", Cond.code Lib.Math.min.name Lib.Math.min.code 2 (some .int), Cond.fieldLink RX0 9 "MatchFinders$Finder" "frontLengths" "[I", Cond.fieldLink RX0 15 "MatchFinders$Finder" "frontDistances" "[I", Cond.methodLink RX0 38 yX3_mostLength, Cond.instanceMethod yX3_mostLength, Cond.selects RX3 yX3_mostLength yX3_mostLength, Cond.initialized RX3, Cond.code yX3_mostLength cX3_mostLength 2 (some .int), Cond.fieldLink RX3 15 "MatchFinders$Text" "size" "I", Cond.methodLink RX3 22 Lib.Math.min.name]
def wsX4_repeats_r3 : List Cond := [Cond.methodLink RX0 44 yX3_farthest, Cond.instanceMethod yX3_farthest, Cond.selects RX3 yX3_farthest yX3_farthest, Cond.code yX3_farthest cX3_farthest 2 (some .int), Cond.fieldLink RX3 19 "MatchFinders$Text" "ahead" "I", Cond.methodLink RX0 53 yX3_reach, Cond.instanceMethod yX3_reach, Cond.selects RX3 yX3_reach yX3_reach, Cond.code yX3_reach cX3_reach 7 (some .int), Cond.fieldLink RX3 9 "MatchFinders$Text" "bytes" "[I", Cond.methodLink RX1 37 yX1_weighMatches, Cond.instanceMethod yX1_weighMatches, Cond.selects RX1 yX1_weighMatches yX1_weighMatches, Cond.code yX1_weighMatches cX1_weighMatches 8 none, Cond.fieldLink RX1 41 "MatchFinders$Finder" "frontCount" "I", Cond.fieldLink RX1 44 "MatchFinders$Finder" "frontDistances" "[I", Cond.fieldLink RX1 51 "MatchFinders$Finder" "frontLengths" "[I", Cond.static yX4_gammaBits, Cond.code yX4_gammaBits cX4_gammaBits 3 (some .int), Cond.methodLink RX4 149 yX2_begin, Cond.instanceMethod yX2_begin, Cond.selects RX2 yX2_begin yX2_begin, Cond.initialized RX2, Cond.code yX2_begin cX2_begin 1 none]
def wsX4_repeats_r4 : List Cond := [Cond.fieldLink RX2 21 "MatchFinders$Row" "count" "I", Cond.fieldLink RX2 25 "MatchFinders$Row" "plainBits" "I", Cond.fieldLink RX2 28 "MatchFinders$Row" "bitsWithRepeats" "I", Cond.fieldLink RX2 31 "MatchFinders$Row" "repeatCount" "I", Cond.fieldLink RX2 34 "MatchFinders$Row" "latest" "I", Cond.fieldLink RX2 37 "MatchFinders$Row" "second" "I", Cond.fieldLink RX2 40 "MatchFinders$Row" "third" "I", Cond.methodLink RX4 152 yX4_choose, Cond.instanceMethod yX4_choose, Cond.selects RX4 yX4_choose yX4_choose, Cond.code yX4_choose cX4_choose 3 none, Cond.fieldLink RX4 162 "MatchFinders$Plan" "lengths" "[I", Cond.fieldLink RX4 163 "MatchFinders$Plan" "distances" "[I", Cond.methodLink RX4 73 yX0_seekLongest, Cond.instanceMethod yX0_seekLongest, Cond.selects RX0 yX0_seekLongest yX0_seekLongest, Cond.code yX0_seekLongest cX0_seekLongest 2 none, Cond.methodLink RX0 57 yX0_gatherFront, Cond.methodLink RX0 61 yX0_take, Cond.instanceMethod yX0_take, Cond.selects RX0 yX0_take yX0_take, Cond.code yX0_take cX0_take 3 none, Cond.fieldLink RX0 29 "MatchFinders$Finder" "length" "I", Cond.fieldLink RX0 32 "MatchFinders$Finder" "distance" "I"]
def wsX4_repeats_r5 : List Cond := [Cond.methodLink RX4 82 yX0_seekChained, Cond.instanceMethod yX0_seekChained, Cond.selects RX0 yX0_seekChained yX0_seekChained, Cond.code yX0_seekChained cX0_seekChained 7 none, Cond.fieldLink RX0 26 "MatchFinders$Finder" "depth" "I", Cond.methodLink RX4 159 yX0_seekLookingAhead, Cond.instanceMethod yX0_seekLookingAhead, Cond.selects RX0 yX0_seekLookingAhead yX0_seekLookingAhead, Cond.code yX0_seekLookingAhead cX0_seekLookingAhead 3 none, Cond.methodLink RX0 65 yX0_seekLongest, Cond.methodLink RX4 164 yX0_take, Cond.methodLink RX4 156 yX2_put, Cond.instanceMethod yX2_put, Cond.selects RX2 yX2_put yX2_put, Cond.code yX2_put cX2_put 4 none, Cond.fieldLink RX2 9 "MatchFinders$Row" "places" "[I", Cond.fieldLink RX2 15 "MatchFinders$Row" "lengths" "[I", Cond.fieldLink RX2 18 "MatchFinders$Row" "distances" "[I", Cond.methodLink RX2 43 yX2_countMatch, Cond.instanceMethod yX2_countMatch, Cond.selects RX2 yX2_countMatch yX2_countMatch, Cond.code yX2_countMatch cX2_countMatch 5 none, Cond.methodLink RX2 51 yX2_remember, Cond.instanceMethod yX2_remember]
def wsX4_repeats_r6 : List Cond := [Cond.selects RX2 yX2_remember yX2_remember, Cond.code yX2_remember cX2_remember 2 none]
def wsX4_repeats : List Cond := .code yX4_repeats cX4_repeats 2 (some .int) :: ((wsX4_repeats_r1 ++ (wsX4_repeats_r2 ++ (wsX4_repeats_r3 ++ (wsX4_repeats_r4 ++ (wsX4_repeats_r5 ++ wsX4_repeats_r6))))) ++ wsX20 ++ wsX40 ++ wsX30 ++ wsX00 ++ wsX10)
def wsX4_share_r1 : List Cond := [Cond.classLink RX4 126 "java/lang/ArithmeticException", Cond.initialized "java/lang/ArithmeticException", Cond.fieldLink RX4 12 "MatchFinders" "text" "LMatchFinders$Text;", Cond.fieldLink RX4 43 "MatchFinders$Text" "size" "I", Cond.fieldLink RX4 120 "MatchFinders$Row" "bitsWithRepeats" "I", Cond.methodLink RX4 98 yX4_isWay, Cond.static yX4_isWay, Cond.initialized RX4, Cond.code yX4_isWay cX4_isWay 1 (some .boolean), Cond.methodLink RX4 101 yX4_rowOf, Cond.instanceMethod yX4_rowOf, Cond.selects RX4 yX4_rowOf yX4_rowOf, Cond.code yX4_rowOf cX4_rowOf 6 (some (.object "MatchFinders$Row")), Cond.fieldLink RX4 38 "MatchFinders" "rows" "[LMatchFinders$Row;", Cond.fieldLink RX4 141 "MatchFinders$Row" "told" "Z", Cond.fieldLink RX4 32 "MatchFinders" "plan" "LMatchFinders$Plan;", Cond.fieldLink RX4 25 "MatchFinders" "finder" "LMatchFinders$Finder;", Cond.fieldLink RX4 76 "MatchFinders$Finder" "length" "I", Cond.fieldLink RX4 79 "MatchFinders$Finder" "distance" "I", Cond.methodLink RX4 145 yX1_make, Cond.instanceMethod yX1_make, Cond.selects RX1 yX1_make yX1_make, Cond.initialized RX1, Cond.code yX1_make cX1_make 4 none]
def wsX4_share_r2 : List Cond := [Cond.fieldLink RX1 21 "MatchFinders$Finder" "text" "LMatchFinders$Text;", Cond.fieldLink RX1 27 "MatchFinders$Text" "size" "I", Cond.fieldLink RX1 9 "MatchFinders$Plan" "costs" "[I", Cond.fieldLink RX1 15 "MatchFinders$Plan" "lengths" "[I", Cond.fieldLink RX1 18 "MatchFinders$Plan" "distances" "[I", Cond.methodLink RX1 33 yX0_gatherFront, Cond.instanceMethod yX0_gatherFront, Cond.selects RX0 yX0_gatherFront yX0_gatherFront, Cond.initialized RX0, Cond.code yX0_gatherFront cX0_gatherFront 7 none, Cond.fieldLink RX0 35 "MatchFinders$Finder" "frontCount" "I", Cond.fieldLink RX0 18 "MatchFinders$Finder" "text" "LMatchFinders$Text;", Cond.fieldLink RX0 22 "MatchFinders$Finder" "span" "I", Cond.methodLink RX0 47 Lib.Math.min.name, Cond.static Lib.Math.min.name, Cond.initialized "java/lang/Math", Cond.code Lib.Math.min.name Lib.Math.min.code 2 (some .int), Cond.fieldLink RX0 9 "MatchFinders$Finder" "frontLengths" "[I", Cond.fieldLink RX0 15 "MatchFinders$Finder" "frontDistances" "[I", Cond.methodLink RX0 38 yX3_mostLength, Cond.instanceMethod yX3_mostLength, Cond.selects RX3 yX3_mostLength yX3_mostLength, Cond.initialized RX3, Cond.code yX3_mostLength cX3_mostLength 2 (some .int)]
def wsX4_share_r3 : List Cond := [Cond.fieldLink RX3 15 "MatchFinders$Text" "size" "I", Cond.methodLink RX3 22 Lib.Math.min.name, Cond.methodLink RX0 44 yX3_farthest, Cond.instanceMethod yX3_farthest, Cond.selects RX3 yX3_farthest yX3_farthest, Cond.code yX3_farthest cX3_farthest 2 (some .int), Cond.fieldLink RX3 19 "MatchFinders$Text" "ahead" "I", Cond.methodLink RX0 53 yX3_reach, Cond.instanceMethod yX3_reach, Cond.selects RX3 yX3_reach yX3_reach, Cond.code yX3_reach cX3_reach 7 (some .int), Cond.fieldLink RX3 9 "MatchFinders$Text" "bytes" "[I", Cond.methodLink RX1 37 yX1_weighMatches, Cond.instanceMethod yX1_weighMatches, Cond.selects RX1 yX1_weighMatches yX1_weighMatches, Cond.code yX1_weighMatches cX1_weighMatches 8 none, Cond.fieldLink RX1 41 "MatchFinders$Finder" "frontCount" "I", Cond.fieldLink RX1 44 "MatchFinders$Finder" "frontDistances" "[I", Cond.fieldLink RX1 51 "MatchFinders$Finder" "frontLengths" "[I", Cond.static yX4_gammaBits, Cond.code yX4_gammaBits cX4_gammaBits 3 (some .int), Cond.methodLink RX4 149 yX2_begin, Cond.instanceMethod yX2_begin, Cond.selects RX2 yX2_begin yX2_begin]
def wsX4_share_r4 : List Cond := [Cond.initialized RX2, Cond.code yX2_begin cX2_begin 1 none, Cond.fieldLink RX2 21 "MatchFinders$Row" "count" "I", Cond.fieldLink RX2 25 "MatchFinders$Row" "plainBits" "I", Cond.fieldLink RX2 28 "MatchFinders$Row" "bitsWithRepeats" "I", Cond.fieldLink RX2 31 "MatchFinders$Row" "repeatCount" "I", Cond.fieldLink RX2 34 "MatchFinders$Row" "latest" "I", Cond.fieldLink RX2 37 "MatchFinders$Row" "second" "I", Cond.fieldLink RX2 40 "MatchFinders$Row" "third" "I", Cond.methodLink RX4 152 yX4_choose, Cond.instanceMethod yX4_choose, Cond.selects RX4 yX4_choose yX4_choose, Cond.code yX4_choose cX4_choose 3 none, Cond.fieldLink RX4 162 "MatchFinders$Plan" "lengths" "[I", Cond.fieldLink RX4 163 "MatchFinders$Plan" "distances" "[I", Cond.methodLink RX4 73 yX0_seekLongest, Cond.instanceMethod yX0_seekLongest, Cond.selects RX0 yX0_seekLongest yX0_seekLongest, Cond.code yX0_seekLongest cX0_seekLongest 2 none, Cond.methodLink RX0 57 yX0_gatherFront, Cond.methodLink RX0 61 yX0_take, Cond.instanceMethod yX0_take, Cond.selects RX0 yX0_take yX0_take, Cond.code yX0_take cX0_take 3 none]
def wsX4_share_r5 : List Cond := [Cond.fieldLink RX0 29 "MatchFinders$Finder" "length" "I", Cond.fieldLink RX0 32 "MatchFinders$Finder" "distance" "I", Cond.methodLink RX4 82 yX0_seekChained, Cond.instanceMethod yX0_seekChained, Cond.selects RX0 yX0_seekChained yX0_seekChained, Cond.code yX0_seekChained cX0_seekChained 7 none, Cond.fieldLink RX0 26 "MatchFinders$Finder" "depth" "I", Cond.methodLink RX4 159 yX0_seekLookingAhead, Cond.instanceMethod yX0_seekLookingAhead, Cond.selects RX0 yX0_seekLookingAhead yX0_seekLookingAhead, Cond.code yX0_seekLookingAhead cX0_seekLookingAhead 3 none, Cond.methodLink RX0 65 yX0_seekLongest, Cond.methodLink RX4 164 yX0_take, Cond.methodLink RX4 156 yX2_put, Cond.instanceMethod yX2_put, Cond.selects RX2 yX2_put yX2_put, Cond.code yX2_put cX2_put 4 none, Cond.fieldLink RX2 9 "MatchFinders$Row" "places" "[I", Cond.fieldLink RX2 15 "MatchFinders$Row" "lengths" "[I", Cond.fieldLink RX2 18 "MatchFinders$Row" "distances" "[I", Cond.methodLink RX2 43 yX2_countMatch, Cond.instanceMethod yX2_countMatch, Cond.selects RX2 yX2_countMatch yX2_countMatch, Cond.code yX2_countMatch cX2_countMatch 5 none]
def wsX4_share_r6 : List Cond := [Cond.methodLink RX2 51 yX2_remember, Cond.instanceMethod yX2_remember, Cond.selects RX2 yX2_remember yX2_remember, Cond.code yX2_remember cX2_remember 2 none]
def wsX4_share : List Cond := .code yX4_share cX4_share 2 (some .int) :: ((wsX4_share_r1 ++ (wsX4_share_r2 ++ (wsX4_share_r3 ++ (wsX4_share_r4 ++ (wsX4_share_r5 ++ wsX4_share_r6))))) ++ wsX40 ++ wsX30 ++ wsX20 ++ wsX00 ++ wsX10 ++ (vx_atS RX4 130 "java/lang/ArithmeticException" ["java/lang/RuntimeException", "java/lang/Exception"]).filter goodWord)
def wsX5_init : List Cond := .code yX5_init cX5_init 3 none :: ([.methodLink RX5 1 objectInit, .instanceMethod objectInit, .code objectInit ⟨#[0xb1]⟩ 1 none, .arrayClass .int, .fieldLink RX5 7 "MatchFindersModel" "bytes" "[I", .arrayClass .boolean, .fieldLink RX5 13 "MatchFindersModel" "isMade" "[Z", .fieldLink RX5 17 "MatchFindersModel" "pieces" "[I", .fieldLink RX5 20 "MatchFindersModel" "place" "[I", .fieldLink RX5 23 "MatchFindersModel" "length" "[I", .fieldLink RX5 26 "MatchFindersModel" "distance" "[I", .fieldLink RX5 29 "MatchFindersModel" "cost" "[I", .fieldLink RX5 32 "MatchFindersModel" "least" "[I", .fieldLink RX5 35 "MatchFindersModel" "span" "I", .fieldLink RX5 39 "MatchFindersModel" "depth" "I"] ++ wsX50)
def wsX5_thrown : List Cond := .code yX5_thrown cX5_thrown 1 (some .int) :: ([.fieldLink RX5 42 "MatchFindersModel" "thrown" "I"] ++ wsX50)
def wsX5_in : List Cond := .code yX5_in cX5_in 3 (some .boolean) :: ([])
def wsX5_forget : List Cond := .code yX5_forget cX5_forget 2 none :: ([.fieldLink RX5 13 "MatchFindersModel" "isMade" "[Z"] ++ wsX50)
def wsX5_lay : List Cond := .code yX5_lay cX5_lay 2 none :: ([.fieldLink RX5 7 "MatchFindersModel" "bytes" "[I", .fieldLink RX5 45 "MatchFindersModel" "size" "I"] ++ wsX50)
def wsX5_add : List Cond := .code yX5_add cX5_add 2 (some .int) :: ([.fieldLink RX5 42 "MatchFindersModel" "thrown" "I", .fieldLink RX5 45 "MatchFindersModel" "size" "I", .methodLink RX5 48 yX5_in, .static yX5_in, .initialized RX5, .code yX5_in cX5_in 3 (some .boolean), .methodLink RX5 52 yX5_lay, .instanceMethod yX5_lay, .selects RX5 yX5_lay yX5_lay, .code yX5_lay cX5_lay 2 none, .fieldLink RX5 7 "MatchFindersModel" "bytes" "[I", .methodLink RX5 56 yX5_forget, .instanceMethod yX5_forget, .selects RX5 yX5_forget yX5_forget, .code yX5_forget cX5_forget 2 none, .fieldLink RX5 13 "MatchFindersModel" "isMade" "[Z"] ++ wsX50)
def wsX5_fill : List Cond := .code yX5_fill cX5_fill 8 (some .int) :: ([.fieldLink RX5 42 "MatchFindersModel" "thrown" "I", .fieldLink RX5 45 "MatchFindersModel" "size" "I", .constant RX5 59 (1103515245), .fieldLink RX5 7 "MatchFindersModel" "bytes" "[I", .methodLink RX5 48 yX5_in, .static yX5_in, .initialized RX5, .code yX5_in cX5_in 3 (some .boolean), .methodLink RX5 52 yX5_lay, .instanceMethod yX5_lay, .selects RX5 yX5_lay yX5_lay, .code yX5_lay cX5_lay 2 none, .methodLink RX5 56 yX5_forget, .instanceMethod yX5_forget, .selects RX5 yX5_forget yX5_forget, .code yX5_forget cX5_forget 2 none, .fieldLink RX5 13 "MatchFindersModel" "isMade" "[Z"] ++ wsX50)
def wsX5_clear : List Cond := .code yX5_clear cX5_clear 2 (some .int) :: ([.fieldLink RX5 42 "MatchFindersModel" "thrown" "I", .fieldLink RX5 45 "MatchFindersModel" "size" "I", .methodLink RX5 56 yX5_forget, .instanceMethod yX5_forget, .selects RX5 yX5_forget yX5_forget, .initialized RX5, .code yX5_forget cX5_forget 2 none, .fieldLink RX5 13 "MatchFindersModel" "isMade" "[Z"] ++ wsX50)
def wsX5_dictionary : List Cond := .code yX5_dictionary cX5_dictionary 2 (some .int) :: ([.fieldLink RX5 42 "MatchFindersModel" "thrown" "I", .fieldLink RX5 45 "MatchFindersModel" "size" "I", .fieldLink RX5 60 "MatchFindersModel" "ahead" "I", .fieldLink RX5 7 "MatchFindersModel" "bytes" "[I", .methodLink RX5 56 yX5_forget, .instanceMethod yX5_forget, .selects RX5 yX5_forget yX5_forget, .initialized RX5, .code yX5_forget cX5_forget 2 none, .fieldLink RX5 13 "MatchFindersModel" "isMade" "[Z"] ++ wsX50)
def wsX5_size : List Cond := .code yX5_size cX5_size 2 (some .int) :: ([.fieldLink RX5 42 "MatchFindersModel" "thrown" "I", .fieldLink RX5 45 "MatchFindersModel" "size" "I", .fieldLink RX5 60 "MatchFindersModel" "ahead" "I"] ++ wsX50)
def wsX5_octet : List Cond := .code yX5_octet cX5_octet 2 (some .int) :: ([.fieldLink RX5 42 "MatchFindersModel" "thrown" "I", .fieldLink RX5 60 "MatchFindersModel" "ahead" "I", .fieldLink RX5 45 "MatchFindersModel" "size" "I", .fieldLink RX5 7 "MatchFindersModel" "bytes" "[I", .methodLink RX5 48 yX5_in, .static yX5_in, .initialized RX5, .code yX5_in cX5_in 3 (some .boolean)] ++ wsX50)
def wsX5_longAt : List Cond := .code yX5_longAt cX5_longAt 4 (some .int) :: ([.fieldLink RX5 60 "MatchFindersModel" "ahead" "I", .fieldLink RX5 45 "MatchFindersModel" "size" "I", .fieldLink RX5 7 "MatchFindersModel" "bytes" "[I"] ++ wsX50)
def wsX5_find : List Cond := .code yX5_find cX5_find 6 none :: ([.fieldLink RX5 63 "MatchFindersModel" "bestLength" "I", .fieldLink RX5 66 "MatchFindersModel" "bestDistance" "I", .fieldLink RX5 35 "MatchFindersModel" "span" "I", .methodLink RX5 69 yX5_longAt, .instanceMethod yX5_longAt, .selects RX5 yX5_longAt yX5_longAt, .initialized RX5, .code yX5_longAt cX5_longAt 4 (some .int), .fieldLink RX5 60 "MatchFindersModel" "ahead" "I", .fieldLink RX5 45 "MatchFindersModel" "size" "I", .fieldLink RX5 7 "MatchFindersModel" "bytes" "[I"] ++ wsX50)
def wsX5_told : List Cond := .code yX5_told cX5_told 4 (some .int) :: ([.fieldLink RX5 45 "MatchFindersModel" "size" "I", .fieldLink RX5 63 "MatchFindersModel" "bestLength" "I", .fieldLink RX5 66 "MatchFindersModel" "bestDistance" "I", .methodLink RX5 48 yX5_in, .static yX5_in, .initialized RX5, .code yX5_in cX5_in 3 (some .boolean), .methodLink RX5 73 yX5_find, .instanceMethod yX5_find, .selects RX5 yX5_find yX5_find, .code yX5_find cX5_find 6 none, .fieldLink RX5 35 "MatchFindersModel" "span" "I", .methodLink RX5 69 yX5_longAt, .instanceMethod yX5_longAt, .selects RX5 yX5_longAt yX5_longAt, .code yX5_longAt cX5_longAt 4 (some .int), .fieldLink RX5 60 "MatchFindersModel" "ahead" "I", .fieldLink RX5 7 "MatchFindersModel" "bytes" "[I"] ++ wsX50)
def wsX5_longest : List Cond := .code yX5_longest cX5_longest 3 (some .int) :: ([.fieldLink RX5 42 "MatchFindersModel" "thrown" "I", .methodLink RX5 77 yX5_told, .instanceMethod yX5_told, .selects RX5 yX5_told yX5_told, .initialized RX5, .code yX5_told cX5_told 4 (some .int), .fieldLink RX5 45 "MatchFindersModel" "size" "I", .fieldLink RX5 63 "MatchFindersModel" "bestLength" "I", .fieldLink RX5 66 "MatchFindersModel" "bestDistance" "I", .methodLink RX5 48 yX5_in, .static yX5_in, .code yX5_in cX5_in 3 (some .boolean), .methodLink RX5 73 yX5_find, .instanceMethod yX5_find, .selects RX5 yX5_find yX5_find, .code yX5_find cX5_find 6 none, .fieldLink RX5 35 "MatchFindersModel" "span" "I", .methodLink RX5 69 yX5_longAt, .instanceMethod yX5_longAt, .selects RX5 yX5_longAt yX5_longAt, .code yX5_longAt cX5_longAt 4 (some .int), .fieldLink RX5 60 "MatchFindersModel" "ahead" "I", .fieldLink RX5 7 "MatchFindersModel" "bytes" "[I"] ++ wsX50)
def wsX5_chained : List Cond := .code yX5_chained cX5_chained 3 (some .int) :: ([.fieldLink RX5 42 "MatchFindersModel" "thrown" "I", .fieldLink RX5 39 "MatchFindersModel" "depth" "I", .methodLink RX5 77 yX5_told, .instanceMethod yX5_told, .selects RX5 yX5_told yX5_told, .initialized RX5, .code yX5_told cX5_told 4 (some .int), .fieldLink RX5 45 "MatchFindersModel" "size" "I", .fieldLink RX5 63 "MatchFindersModel" "bestLength" "I", .fieldLink RX5 66 "MatchFindersModel" "bestDistance" "I", .methodLink RX5 48 yX5_in, .static yX5_in, .code yX5_in cX5_in 3 (some .boolean), .methodLink RX5 73 yX5_find, .instanceMethod yX5_find, .selects RX5 yX5_find yX5_find, .code yX5_find cX5_find 6 none, .fieldLink RX5 35 "MatchFindersModel" "span" "I", .methodLink RX5 69 yX5_longAt, .instanceMethod yX5_longAt, .selects RX5 yX5_longAt yX5_longAt, .code yX5_longAt cX5_longAt 4 (some .int), .fieldLink RX5 60 "MatchFindersModel" "ahead" "I", .fieldLink RX5 7 "MatchFindersModel" "bytes" "[I"] ++ wsX50)
def wsX5_front : List Cond := .code yX5_front cX5_front 9 (some .int) :: ([.fieldLink RX5 42 "MatchFindersModel" "thrown" "I", .fieldLink RX5 45 "MatchFindersModel" "size" "I", .fieldLink RX5 35 "MatchFindersModel" "span" "I", .methodLink RX5 48 yX5_in, .static yX5_in, .initialized RX5, .code yX5_in cX5_in 3 (some .boolean), .methodLink RX5 69 yX5_longAt, .instanceMethod yX5_longAt, .selects RX5 yX5_longAt yX5_longAt, .code yX5_longAt cX5_longAt 4 (some .int), .fieldLink RX5 60 "MatchFindersModel" "ahead" "I", .fieldLink RX5 7 "MatchFindersModel" "bytes" "[I"] ++ wsX50)
def wsX5_g : List Cond := .code yX5_g cX5_g 3 (some .int) :: ([])
def wsX5_lay_ : List Cond := .code yX5_lay_ cX5_lay_ 6 none :: ([.fieldLink RX5 17 "MatchFindersModel" "pieces" "[I", .fieldLink RX5 20 "MatchFindersModel" "place" "[I", .fieldLink RX5 23 "MatchFindersModel" "length" "[I", .fieldLink RX5 26 "MatchFindersModel" "distance" "[I"] ++ wsX50)
def wsX5_findLeast : List Cond := .code yX5_findLeast cX5_findLeast 5 none :: ([.fieldLink RX5 32 "MatchFindersModel" "least" "[I", .fieldLink RX5 35 "MatchFindersModel" "span" "I", .methodLink RX5 69 yX5_longAt, .instanceMethod yX5_longAt, .selects RX5 yX5_longAt yX5_longAt, .initialized RX5, .code yX5_longAt cX5_longAt 4 (some .int), .fieldLink RX5 60 "MatchFindersModel" "ahead" "I", .fieldLink RX5 45 "MatchFindersModel" "size" "I", .fieldLink RX5 7 "MatchFindersModel" "bytes" "[I"] ++ wsX50)
def wsX5_choose : List Cond := .code yX5_choose cX5_choose 5 (some .int) :: ([.fieldLink RX5 29 "MatchFindersModel" "cost" "[I", .fieldLink RX5 32 "MatchFindersModel" "least" "[I", .methodLink RX5 87 yX5_g, .static yX5_g, .initialized RX5, .code yX5_g cX5_g 3 (some .int)] ++ wsX50)
def wsX5_makeLeast_r1 : List Cond := [Cond.fieldLink RX5 29 "MatchFindersModel" "cost" "[I", Cond.fieldLink RX5 45 "MatchFindersModel" "size" "I", Cond.fieldLink RX5 32 "MatchFindersModel" "least" "[I", Cond.methodLink RX5 91 yX5_findLeast, Cond.instanceMethod yX5_findLeast, Cond.selects RX5 yX5_findLeast yX5_findLeast, Cond.initialized RX5, Cond.code yX5_findLeast cX5_findLeast 5 none, Cond.fieldLink RX5 35 "MatchFindersModel" "span" "I", Cond.methodLink RX5 69 yX5_longAt, Cond.instanceMethod yX5_longAt, Cond.selects RX5 yX5_longAt yX5_longAt, Cond.code yX5_longAt cX5_longAt 4 (some .int), Cond.fieldLink RX5 60 "MatchFindersModel" "ahead" "I", Cond.fieldLink RX5 7 "MatchFindersModel" "bytes" "[I", Cond.methodLink RX5 94 yX5_choose, Cond.instanceMethod yX5_choose, Cond.selects RX5 yX5_choose yX5_choose, Cond.code yX5_choose cX5_choose 5 (some .int), Cond.methodLink RX5 87 yX5_g, Cond.static yX5_g, Cond.code yX5_g cX5_g 3 (some .int), Cond.methodLink RX5 84 yX5_lay_, Cond.instanceMethod yX5_lay_]
def wsX5_makeLeast_r2 : List Cond := [Cond.selects RX5 yX5_lay_ yX5_lay_, Cond.code yX5_lay_ cX5_lay_ 6 none, Cond.fieldLink RX5 17 "MatchFindersModel" "pieces" "[I", Cond.fieldLink RX5 20 "MatchFindersModel" "place" "[I", Cond.fieldLink RX5 23 "MatchFindersModel" "length" "[I", Cond.fieldLink RX5 26 "MatchFindersModel" "distance" "[I"]
def wsX5_makeLeast : List Cond := .code yX5_makeLeast cX5_makeLeast 3 none :: ((wsX5_makeLeast_r1 ++ wsX5_makeLeast_r2) ++ wsX50)
def wsX5_make_r1 : List Cond := [Cond.fieldLink RX5 13 "MatchFindersModel" "isMade" "[Z", Cond.fieldLink RX5 17 "MatchFindersModel" "pieces" "[I", Cond.fieldLink RX5 45 "MatchFindersModel" "size" "I", Cond.fieldLink RX5 39 "MatchFindersModel" "depth" "I", Cond.fieldLink RX5 63 "MatchFindersModel" "bestLength" "I", Cond.fieldLink RX5 66 "MatchFindersModel" "bestDistance" "I", Cond.methodLink RX5 81 yX5_makeLeast, Cond.instanceMethod yX5_makeLeast, Cond.selects RX5 yX5_makeLeast yX5_makeLeast, Cond.initialized RX5, Cond.code yX5_makeLeast cX5_makeLeast 3 none, Cond.fieldLink RX5 29 "MatchFindersModel" "cost" "[I", Cond.fieldLink RX5 32 "MatchFindersModel" "least" "[I", Cond.methodLink RX5 91 yX5_findLeast, Cond.instanceMethod yX5_findLeast, Cond.selects RX5 yX5_findLeast yX5_findLeast, Cond.code yX5_findLeast cX5_findLeast 5 none, Cond.fieldLink RX5 35 "MatchFindersModel" "span" "I", Cond.methodLink RX5 69 yX5_longAt, Cond.instanceMethod yX5_longAt, Cond.selects RX5 yX5_longAt yX5_longAt, Cond.code yX5_longAt cX5_longAt 4 (some .int), Cond.fieldLink RX5 60 "MatchFindersModel" "ahead" "I", Cond.fieldLink RX5 7 "MatchFindersModel" "bytes" "[I"]
def wsX5_make_r2 : List Cond := [Cond.methodLink RX5 94 yX5_choose, Cond.instanceMethod yX5_choose, Cond.selects RX5 yX5_choose yX5_choose, Cond.code yX5_choose cX5_choose 5 (some .int), Cond.methodLink RX5 87 yX5_g, Cond.static yX5_g, Cond.code yX5_g cX5_g 3 (some .int), Cond.methodLink RX5 84 yX5_lay_, Cond.instanceMethod yX5_lay_, Cond.selects RX5 yX5_lay_ yX5_lay_, Cond.code yX5_lay_ cX5_lay_ 6 none, Cond.fieldLink RX5 20 "MatchFindersModel" "place" "[I", Cond.fieldLink RX5 23 "MatchFindersModel" "length" "[I", Cond.fieldLink RX5 26 "MatchFindersModel" "distance" "[I", Cond.methodLink RX5 73 yX5_find, Cond.instanceMethod yX5_find, Cond.selects RX5 yX5_find yX5_find, Cond.code yX5_find cX5_find 6 none]
def wsX5_make : List Cond := .code yX5_make cX5_make 5 none :: ((wsX5_make_r1 ++ wsX5_make_r2) ++ wsX50)
def wsX5_isWay : List Cond := .code yX5_isWay cX5_isWay 1 (some .boolean) :: ([.methodLink RX5 48 yX5_in, .static yX5_in, .initialized RX5, .code yX5_in cX5_in 3 (some .boolean)])
def wsX5_pieces_r1 : List Cond := [Cond.fieldLink RX5 42 "MatchFindersModel" "thrown" "I", Cond.fieldLink RX5 17 "MatchFindersModel" "pieces" "[I", Cond.methodLink RX5 97 yX5_isWay, Cond.static yX5_isWay, Cond.initialized RX5, Cond.code yX5_isWay cX5_isWay 1 (some .boolean), Cond.methodLink RX5 48 yX5_in, Cond.static yX5_in, Cond.code yX5_in cX5_in 3 (some .boolean), Cond.methodLink RX5 101 yX5_make, Cond.instanceMethod yX5_make, Cond.selects RX5 yX5_make yX5_make, Cond.code yX5_make cX5_make 5 none, Cond.fieldLink RX5 13 "MatchFindersModel" "isMade" "[Z", Cond.fieldLink RX5 45 "MatchFindersModel" "size" "I", Cond.fieldLink RX5 39 "MatchFindersModel" "depth" "I", Cond.fieldLink RX5 63 "MatchFindersModel" "bestLength" "I", Cond.fieldLink RX5 66 "MatchFindersModel" "bestDistance" "I", Cond.methodLink RX5 81 yX5_makeLeast, Cond.instanceMethod yX5_makeLeast, Cond.selects RX5 yX5_makeLeast yX5_makeLeast, Cond.code yX5_makeLeast cX5_makeLeast 3 none, Cond.fieldLink RX5 29 "MatchFindersModel" "cost" "[I", Cond.fieldLink RX5 32 "MatchFindersModel" "least" "[I"]
def wsX5_pieces_r2 : List Cond := [Cond.methodLink RX5 91 yX5_findLeast, Cond.instanceMethod yX5_findLeast, Cond.selects RX5 yX5_findLeast yX5_findLeast, Cond.code yX5_findLeast cX5_findLeast 5 none, Cond.fieldLink RX5 35 "MatchFindersModel" "span" "I", Cond.methodLink RX5 69 yX5_longAt, Cond.instanceMethod yX5_longAt, Cond.selects RX5 yX5_longAt yX5_longAt, Cond.code yX5_longAt cX5_longAt 4 (some .int), Cond.fieldLink RX5 60 "MatchFindersModel" "ahead" "I", Cond.fieldLink RX5 7 "MatchFindersModel" "bytes" "[I", Cond.methodLink RX5 94 yX5_choose, Cond.instanceMethod yX5_choose, Cond.selects RX5 yX5_choose yX5_choose, Cond.code yX5_choose cX5_choose 5 (some .int), Cond.methodLink RX5 87 yX5_g, Cond.static yX5_g, Cond.code yX5_g cX5_g 3 (some .int), Cond.methodLink RX5 84 yX5_lay_, Cond.instanceMethod yX5_lay_, Cond.selects RX5 yX5_lay_ yX5_lay_, Cond.code yX5_lay_ cX5_lay_ 6 none, Cond.fieldLink RX5 20 "MatchFindersModel" "place" "[I", Cond.fieldLink RX5 23 "MatchFindersModel" "length" "[I"]
def wsX5_pieces_r3 : List Cond := [Cond.fieldLink RX5 26 "MatchFindersModel" "distance" "[I", Cond.methodLink RX5 73 yX5_find, Cond.instanceMethod yX5_find, Cond.selects RX5 yX5_find yX5_find, Cond.code yX5_find cX5_find 6 none]
def wsX5_pieces : List Cond := .code yX5_pieces cX5_pieces 2 (some .int) :: ((wsX5_pieces_r1 ++ (wsX5_pieces_r2 ++ wsX5_pieces_r3)) ++ wsX50)
def wsX5_piece_r1 : List Cond := [Cond.fieldLink RX5 42 "MatchFindersModel" "thrown" "I", Cond.fieldLink RX5 17 "MatchFindersModel" "pieces" "[I", Cond.fieldLink RX5 20 "MatchFindersModel" "place" "[I", Cond.fieldLink RX5 23 "MatchFindersModel" "length" "[I", Cond.fieldLink RX5 26 "MatchFindersModel" "distance" "[I", Cond.methodLink RX5 97 yX5_isWay, Cond.static yX5_isWay, Cond.initialized RX5, Cond.code yX5_isWay cX5_isWay 1 (some .boolean), Cond.methodLink RX5 48 yX5_in, Cond.static yX5_in, Cond.code yX5_in cX5_in 3 (some .boolean), Cond.methodLink RX5 101 yX5_make, Cond.instanceMethod yX5_make, Cond.selects RX5 yX5_make yX5_make, Cond.code yX5_make cX5_make 5 none, Cond.fieldLink RX5 13 "MatchFindersModel" "isMade" "[Z", Cond.fieldLink RX5 45 "MatchFindersModel" "size" "I", Cond.fieldLink RX5 39 "MatchFindersModel" "depth" "I", Cond.fieldLink RX5 63 "MatchFindersModel" "bestLength" "I", Cond.fieldLink RX5 66 "MatchFindersModel" "bestDistance" "I", Cond.methodLink RX5 81 yX5_makeLeast, Cond.instanceMethod yX5_makeLeast, Cond.selects RX5 yX5_makeLeast yX5_makeLeast]
def wsX5_piece_r2 : List Cond := [Cond.code yX5_makeLeast cX5_makeLeast 3 none, Cond.fieldLink RX5 29 "MatchFindersModel" "cost" "[I", Cond.fieldLink RX5 32 "MatchFindersModel" "least" "[I", Cond.methodLink RX5 91 yX5_findLeast, Cond.instanceMethod yX5_findLeast, Cond.selects RX5 yX5_findLeast yX5_findLeast, Cond.code yX5_findLeast cX5_findLeast 5 none, Cond.fieldLink RX5 35 "MatchFindersModel" "span" "I", Cond.methodLink RX5 69 yX5_longAt, Cond.instanceMethod yX5_longAt, Cond.selects RX5 yX5_longAt yX5_longAt, Cond.code yX5_longAt cX5_longAt 4 (some .int), Cond.fieldLink RX5 60 "MatchFindersModel" "ahead" "I", Cond.fieldLink RX5 7 "MatchFindersModel" "bytes" "[I", Cond.methodLink RX5 94 yX5_choose, Cond.instanceMethod yX5_choose, Cond.selects RX5 yX5_choose yX5_choose, Cond.code yX5_choose cX5_choose 5 (some .int), Cond.methodLink RX5 87 yX5_g, Cond.static yX5_g, Cond.code yX5_g cX5_g 3 (some .int), Cond.methodLink RX5 84 yX5_lay_, Cond.instanceMethod yX5_lay_, Cond.selects RX5 yX5_lay_ yX5_lay_]
def wsX5_piece_r3 : List Cond := [Cond.code yX5_lay_ cX5_lay_ 6 none, Cond.methodLink RX5 73 yX5_find, Cond.instanceMethod yX5_find, Cond.selects RX5 yX5_find yX5_find, Cond.code yX5_find cX5_find 6 none]
def wsX5_piece : List Cond := .code yX5_piece cX5_piece 5 (some .int) :: ((wsX5_piece_r1 ++ (wsX5_piece_r2 ++ wsX5_piece_r3)) ++ wsX50)
def wsX5_bitsOf_r1 : List Cond := [Cond.fieldLink RX5 104 "MatchFindersModel" "repeats" "I", Cond.fieldLink RX5 17 "MatchFindersModel" "pieces" "[I", Cond.fieldLink RX5 26 "MatchFindersModel" "distance" "[I", Cond.fieldLink RX5 23 "MatchFindersModel" "length" "[I", Cond.methodLink RX5 101 yX5_make, Cond.instanceMethod yX5_make, Cond.selects RX5 yX5_make yX5_make, Cond.initialized RX5, Cond.code yX5_make cX5_make 5 none, Cond.fieldLink RX5 13 "MatchFindersModel" "isMade" "[Z", Cond.fieldLink RX5 45 "MatchFindersModel" "size" "I", Cond.fieldLink RX5 39 "MatchFindersModel" "depth" "I", Cond.fieldLink RX5 63 "MatchFindersModel" "bestLength" "I", Cond.fieldLink RX5 66 "MatchFindersModel" "bestDistance" "I", Cond.methodLink RX5 81 yX5_makeLeast, Cond.instanceMethod yX5_makeLeast, Cond.selects RX5 yX5_makeLeast yX5_makeLeast, Cond.code yX5_makeLeast cX5_makeLeast 3 none, Cond.fieldLink RX5 29 "MatchFindersModel" "cost" "[I", Cond.fieldLink RX5 32 "MatchFindersModel" "least" "[I", Cond.methodLink RX5 91 yX5_findLeast, Cond.instanceMethod yX5_findLeast, Cond.selects RX5 yX5_findLeast yX5_findLeast, Cond.code yX5_findLeast cX5_findLeast 5 none]
def wsX5_bitsOf_r2 : List Cond := [Cond.fieldLink RX5 35 "MatchFindersModel" "span" "I", Cond.methodLink RX5 69 yX5_longAt, Cond.instanceMethod yX5_longAt, Cond.selects RX5 yX5_longAt yX5_longAt, Cond.code yX5_longAt cX5_longAt 4 (some .int), Cond.fieldLink RX5 60 "MatchFindersModel" "ahead" "I", Cond.fieldLink RX5 7 "MatchFindersModel" "bytes" "[I", Cond.methodLink RX5 94 yX5_choose, Cond.instanceMethod yX5_choose, Cond.selects RX5 yX5_choose yX5_choose, Cond.code yX5_choose cX5_choose 5 (some .int), Cond.methodLink RX5 87 yX5_g, Cond.static yX5_g, Cond.code yX5_g cX5_g 3 (some .int), Cond.methodLink RX5 84 yX5_lay_, Cond.instanceMethod yX5_lay_, Cond.selects RX5 yX5_lay_ yX5_lay_, Cond.code yX5_lay_ cX5_lay_ 6 none, Cond.fieldLink RX5 20 "MatchFindersModel" "place" "[I", Cond.methodLink RX5 73 yX5_find, Cond.instanceMethod yX5_find, Cond.selects RX5 yX5_find yX5_find, Cond.code yX5_find cX5_find 6 none]
def wsX5_bitsOf : List Cond := .code yX5_bitsOf cX5_bitsOf 10 (some .int) :: ((wsX5_bitsOf_r1 ++ wsX5_bitsOf_r2) ++ wsX50)
def wsX5_bits_r1 : List Cond := [Cond.fieldLink RX5 42 "MatchFindersModel" "thrown" "I", Cond.methodLink RX5 97 yX5_isWay, Cond.static yX5_isWay, Cond.initialized RX5, Cond.code yX5_isWay cX5_isWay 1 (some .boolean), Cond.methodLink RX5 48 yX5_in, Cond.static yX5_in, Cond.code yX5_in cX5_in 3 (some .boolean), Cond.methodLink RX5 107 yX5_bitsOf, Cond.instanceMethod yX5_bitsOf, Cond.selects RX5 yX5_bitsOf yX5_bitsOf, Cond.code yX5_bitsOf cX5_bitsOf 10 (some .int), Cond.fieldLink RX5 104 "MatchFindersModel" "repeats" "I", Cond.fieldLink RX5 17 "MatchFindersModel" "pieces" "[I", Cond.fieldLink RX5 26 "MatchFindersModel" "distance" "[I", Cond.fieldLink RX5 23 "MatchFindersModel" "length" "[I", Cond.methodLink RX5 101 yX5_make, Cond.instanceMethod yX5_make, Cond.selects RX5 yX5_make yX5_make, Cond.code yX5_make cX5_make 5 none, Cond.fieldLink RX5 13 "MatchFindersModel" "isMade" "[Z", Cond.fieldLink RX5 45 "MatchFindersModel" "size" "I", Cond.fieldLink RX5 39 "MatchFindersModel" "depth" "I", Cond.fieldLink RX5 63 "MatchFindersModel" "bestLength" "I"]
def wsX5_bits_r2 : List Cond := [Cond.fieldLink RX5 66 "MatchFindersModel" "bestDistance" "I", Cond.methodLink RX5 81 yX5_makeLeast, Cond.instanceMethod yX5_makeLeast, Cond.selects RX5 yX5_makeLeast yX5_makeLeast, Cond.code yX5_makeLeast cX5_makeLeast 3 none, Cond.fieldLink RX5 29 "MatchFindersModel" "cost" "[I", Cond.fieldLink RX5 32 "MatchFindersModel" "least" "[I", Cond.methodLink RX5 91 yX5_findLeast, Cond.instanceMethod yX5_findLeast, Cond.selects RX5 yX5_findLeast yX5_findLeast, Cond.code yX5_findLeast cX5_findLeast 5 none, Cond.fieldLink RX5 35 "MatchFindersModel" "span" "I", Cond.methodLink RX5 69 yX5_longAt, Cond.instanceMethod yX5_longAt, Cond.selects RX5 yX5_longAt yX5_longAt, Cond.code yX5_longAt cX5_longAt 4 (some .int), Cond.fieldLink RX5 60 "MatchFindersModel" "ahead" "I", Cond.fieldLink RX5 7 "MatchFindersModel" "bytes" "[I", Cond.methodLink RX5 94 yX5_choose, Cond.instanceMethod yX5_choose, Cond.selects RX5 yX5_choose yX5_choose, Cond.code yX5_choose cX5_choose 5 (some .int), Cond.methodLink RX5 87 yX5_g, Cond.static yX5_g]
def wsX5_bits_r3 : List Cond := [Cond.code yX5_g cX5_g 3 (some .int), Cond.methodLink RX5 84 yX5_lay_, Cond.instanceMethod yX5_lay_, Cond.selects RX5 yX5_lay_ yX5_lay_, Cond.code yX5_lay_ cX5_lay_ 6 none, Cond.fieldLink RX5 20 "MatchFindersModel" "place" "[I", Cond.methodLink RX5 73 yX5_find, Cond.instanceMethod yX5_find, Cond.selects RX5 yX5_find yX5_find, Cond.code yX5_find cX5_find 6 none]
def wsX5_bits : List Cond := .code yX5_bits cX5_bits 3 (some .int) :: ((wsX5_bits_r1 ++ (wsX5_bits_r2 ++ wsX5_bits_r3)) ++ wsX50)
def wsX5_repeats_r1 : List Cond := [Cond.fieldLink RX5 42 "MatchFindersModel" "thrown" "I", Cond.fieldLink RX5 104 "MatchFindersModel" "repeats" "I", Cond.methodLink RX5 97 yX5_isWay, Cond.static yX5_isWay, Cond.initialized RX5, Cond.code yX5_isWay cX5_isWay 1 (some .boolean), Cond.methodLink RX5 48 yX5_in, Cond.static yX5_in, Cond.code yX5_in cX5_in 3 (some .boolean), Cond.methodLink RX5 107 yX5_bitsOf, Cond.instanceMethod yX5_bitsOf, Cond.selects RX5 yX5_bitsOf yX5_bitsOf, Cond.code yX5_bitsOf cX5_bitsOf 10 (some .int), Cond.fieldLink RX5 17 "MatchFindersModel" "pieces" "[I", Cond.fieldLink RX5 26 "MatchFindersModel" "distance" "[I", Cond.fieldLink RX5 23 "MatchFindersModel" "length" "[I", Cond.methodLink RX5 101 yX5_make, Cond.instanceMethod yX5_make, Cond.selects RX5 yX5_make yX5_make, Cond.code yX5_make cX5_make 5 none, Cond.fieldLink RX5 13 "MatchFindersModel" "isMade" "[Z", Cond.fieldLink RX5 45 "MatchFindersModel" "size" "I", Cond.fieldLink RX5 39 "MatchFindersModel" "depth" "I", Cond.fieldLink RX5 63 "MatchFindersModel" "bestLength" "I"]
def wsX5_repeats_r2 : List Cond := [Cond.fieldLink RX5 66 "MatchFindersModel" "bestDistance" "I", Cond.methodLink RX5 81 yX5_makeLeast, Cond.instanceMethod yX5_makeLeast, Cond.selects RX5 yX5_makeLeast yX5_makeLeast, Cond.code yX5_makeLeast cX5_makeLeast 3 none, Cond.fieldLink RX5 29 "MatchFindersModel" "cost" "[I", Cond.fieldLink RX5 32 "MatchFindersModel" "least" "[I", Cond.methodLink RX5 91 yX5_findLeast, Cond.instanceMethod yX5_findLeast, Cond.selects RX5 yX5_findLeast yX5_findLeast, Cond.code yX5_findLeast cX5_findLeast 5 none, Cond.fieldLink RX5 35 "MatchFindersModel" "span" "I", Cond.methodLink RX5 69 yX5_longAt, Cond.instanceMethod yX5_longAt, Cond.selects RX5 yX5_longAt yX5_longAt, Cond.code yX5_longAt cX5_longAt 4 (some .int), Cond.fieldLink RX5 60 "MatchFindersModel" "ahead" "I", Cond.fieldLink RX5 7 "MatchFindersModel" "bytes" "[I", Cond.methodLink RX5 94 yX5_choose, Cond.instanceMethod yX5_choose, Cond.selects RX5 yX5_choose yX5_choose, Cond.code yX5_choose cX5_choose 5 (some .int), Cond.methodLink RX5 87 yX5_g, Cond.static yX5_g]
def wsX5_repeats_r3 : List Cond := [Cond.code yX5_g cX5_g 3 (some .int), Cond.methodLink RX5 84 yX5_lay_, Cond.instanceMethod yX5_lay_, Cond.selects RX5 yX5_lay_ yX5_lay_, Cond.code yX5_lay_ cX5_lay_ 6 none, Cond.fieldLink RX5 20 "MatchFindersModel" "place" "[I", Cond.methodLink RX5 73 yX5_find, Cond.instanceMethod yX5_find, Cond.selects RX5 yX5_find yX5_find, Cond.code yX5_find cX5_find 6 none]
def wsX5_repeats : List Cond := .code yX5_repeats cX5_repeats 3 (some .int) :: ((wsX5_repeats_r1 ++ (wsX5_repeats_r2 ++ wsX5_repeats_r3)) ++ wsX50)
def wsX5_share_r1 : List Cond := [Cond.fieldLink RX5 42 "MatchFindersModel" "thrown" "I", Cond.fieldLink RX5 45 "MatchFindersModel" "size" "I", Cond.methodLink RX5 97 yX5_isWay, Cond.static yX5_isWay, Cond.initialized RX5, Cond.code yX5_isWay cX5_isWay 1 (some .boolean), Cond.methodLink RX5 48 yX5_in, Cond.static yX5_in, Cond.code yX5_in cX5_in 3 (some .boolean), Cond.methodLink RX5 107 yX5_bitsOf, Cond.instanceMethod yX5_bitsOf, Cond.selects RX5 yX5_bitsOf yX5_bitsOf, Cond.code yX5_bitsOf cX5_bitsOf 10 (some .int), Cond.fieldLink RX5 104 "MatchFindersModel" "repeats" "I", Cond.fieldLink RX5 17 "MatchFindersModel" "pieces" "[I", Cond.fieldLink RX5 26 "MatchFindersModel" "distance" "[I", Cond.fieldLink RX5 23 "MatchFindersModel" "length" "[I", Cond.methodLink RX5 101 yX5_make, Cond.instanceMethod yX5_make, Cond.selects RX5 yX5_make yX5_make, Cond.code yX5_make cX5_make 5 none, Cond.fieldLink RX5 13 "MatchFindersModel" "isMade" "[Z", Cond.fieldLink RX5 39 "MatchFindersModel" "depth" "I", Cond.fieldLink RX5 63 "MatchFindersModel" "bestLength" "I"]
def wsX5_share_r2 : List Cond := [Cond.fieldLink RX5 66 "MatchFindersModel" "bestDistance" "I", Cond.methodLink RX5 81 yX5_makeLeast, Cond.instanceMethod yX5_makeLeast, Cond.selects RX5 yX5_makeLeast yX5_makeLeast, Cond.code yX5_makeLeast cX5_makeLeast 3 none, Cond.fieldLink RX5 29 "MatchFindersModel" "cost" "[I", Cond.fieldLink RX5 32 "MatchFindersModel" "least" "[I", Cond.methodLink RX5 91 yX5_findLeast, Cond.instanceMethod yX5_findLeast, Cond.selects RX5 yX5_findLeast yX5_findLeast, Cond.code yX5_findLeast cX5_findLeast 5 none, Cond.fieldLink RX5 35 "MatchFindersModel" "span" "I", Cond.methodLink RX5 69 yX5_longAt, Cond.instanceMethod yX5_longAt, Cond.selects RX5 yX5_longAt yX5_longAt, Cond.code yX5_longAt cX5_longAt 4 (some .int), Cond.fieldLink RX5 60 "MatchFindersModel" "ahead" "I", Cond.fieldLink RX5 7 "MatchFindersModel" "bytes" "[I", Cond.methodLink RX5 94 yX5_choose, Cond.instanceMethod yX5_choose, Cond.selects RX5 yX5_choose yX5_choose, Cond.code yX5_choose cX5_choose 5 (some .int), Cond.methodLink RX5 87 yX5_g, Cond.static yX5_g]
def wsX5_share_r3 : List Cond := [Cond.code yX5_g cX5_g 3 (some .int), Cond.methodLink RX5 84 yX5_lay_, Cond.instanceMethod yX5_lay_, Cond.selects RX5 yX5_lay_ yX5_lay_, Cond.code yX5_lay_ cX5_lay_ 6 none, Cond.fieldLink RX5 20 "MatchFindersModel" "place" "[I", Cond.methodLink RX5 73 yX5_find, Cond.instanceMethod yX5_find, Cond.selects RX5 yX5_find yX5_find, Cond.code yX5_find cX5_find 6 none]
def wsX5_share : List Cond := .code yX5_share cX5_share 2 (some .int) :: ((wsX5_share_r1 ++ (wsX5_share_r2 ++ wsX5_share_r3)) ++ wsX50)
def wsJ9_max_7cf53 : List Cond := .code yJ9_max_7cf53 cJ9_max_7cf53 2 (some .int) :: ([])
def wsJ9_min_7cf53 : List Cond := .code yJ9_min_7cf53 cJ9_min_7cf53 2 (some .int) :: ([])
theorem inJ9 : ∀ w ∈ wsJ90, w ∈ lw_tbl := by decide +kernel
theorem inJ0 : ∀ w ∈ wsJ00, w ∈ lw_tbl := by decide +kernel
theorem dX0_init_0 : decode cX0_init 0 = .ok (.aload_n 0, 1) := by decide +kernel
theorem dX0_init_1 : decode cX0_init 1 = .ok (.invokespecial 3, 3) := by decide +kernel
theorem dX0_init_4 : decode cX0_init 4 = .ok (.aload_n 0, 1) := by decide +kernel
theorem dX0_init_5 : decode cX0_init 5 = .ok (.bipush 38, 2) := by decide +kernel
theorem dX0_init_7 : decode cX0_init 7 = .ok (.newarray .int, 2) := by decide +kernel
theorem dX0_init_9 : decode cX0_init 9 = .ok (.putfield 9, 3) := by decide +kernel
theorem dX0_init_12 : decode cX0_init 12 = .ok (.aload_n 0, 1) := by decide +kernel
theorem dX0_init_13 : decode cX0_init 13 = .ok (.bipush 38, 2) := by decide +kernel
theorem dX0_init_15 : decode cX0_init 15 = .ok (.newarray .int, 2) := by decide +kernel
theorem dX0_init_17 : decode cX0_init 17 = .ok (.putfield 15, 3) := by decide +kernel
theorem dX0_init_20 : decode cX0_init 20 = .ok (.aload_n 0, 1) := by decide +kernel
theorem dX0_init_21 : decode cX0_init 21 = .ok (.aload_n 1, 1) := by decide +kernel
theorem dX0_init_22 : decode cX0_init 22 = .ok (.putfield 18, 3) := by decide +kernel
theorem dX0_init_25 : decode cX0_init 25 = .ok (.aload_n 0, 1) := by decide +kernel
theorem dX0_init_26 : decode cX0_init 26 = .ok (.iload_n 2, 1) := by decide +kernel
theorem dX0_init_27 : decode cX0_init 27 = .ok (.putfield 22, 3) := by decide +kernel
theorem dX0_init_30 : decode cX0_init 30 = .ok (.aload_n 0, 1) := by decide +kernel
theorem dX0_init_31 : decode cX0_init 31 = .ok (.iload_n 3, 1) := by decide +kernel
theorem dX0_init_32 : decode cX0_init 32 = .ok (.putfield 26, 3) := by decide +kernel
theorem dX0_init_35 : decode cX0_init 35 = .ok (.return_, 1) := by decide +kernel
theorem dX0_take_0 : decode cX0_take 0 = .ok (.aload_n 0, 1) := by decide +kernel
theorem dX0_take_1 : decode cX0_take 1 = .ok (.iload_n 1, 1) := by decide +kernel
theorem dX0_take_2 : decode cX0_take 2 = .ok (.putfield 29, 3) := by decide +kernel
theorem dX0_take_5 : decode cX0_take 5 = .ok (.aload_n 0, 1) := by decide +kernel
theorem dX0_take_6 : decode cX0_take 6 = .ok (.iload_n 2, 1) := by decide +kernel
theorem dX0_take_7 : decode cX0_take 7 = .ok (.putfield 32, 3) := by decide +kernel
theorem dX0_take_10 : decode cX0_take 10 = .ok (.return_, 1) := by decide +kernel
set_option maxRecDepth 20000 in
theorem ggX0_gatherFront_X3_mostLength : GoodIn wsX0_gatherFront wsX3_mostLength := goodIn_r _ [14, 15, 16, 5, 6, 7, 35, 36, 37] (by decide +kernel) (by decide +kernel)
set_option maxRecDepth 20000 in
theorem gX0_gatherFront_X3_mostLength : GoodIn wsX0_gatherFront (wsV RX0 38 RX3 yX3_mostLength wsX3_mostLength) := goodIn_app (goodIn_of _ (by decide +kernel)) ggX0_gatherFront_X3_mostLength
set_option maxRecDepth 20000 in
theorem ggX0_gatherFront_X3_farthest : GoodIn wsX0_gatherFront wsX3_farthest := goodIn_r _ [20, 21, 35, 36, 37] (by decide +kernel) (by decide +kernel)
set_option maxRecDepth 20000 in
theorem gX0_gatherFront_X3_farthest : GoodIn wsX0_gatherFront (wsV RX0 44 RX3 yX3_farthest wsX3_farthest) := goodIn_app (goodIn_of _ (by decide +kernel)) ggX0_gatherFront_X3_farthest
set_option maxRecDepth 20000 in
theorem ggX0_gatherFront_X3_reach : GoodIn wsX0_gatherFront wsX3_reach := goodIn_r _ [25, 21, 26, 35, 36, 37] (by decide +kernel) (by decide +kernel)
set_option maxRecDepth 20000 in
theorem gX0_gatherFront_X3_reach : GoodIn wsX0_gatherFront (wsV RX0 53 RX3 yX3_reach wsX3_reach) := goodIn_app (goodIn_of _ (by decide +kernel)) ggX0_gatherFront_X3_reach
theorem dX0_gatherFront_0 : decode cX0_gatherFront 0 = .ok (.aload_n 0, 1) := by decide +kernel
theorem dX0_gatherFront_1 : decode cX0_gatherFront 1 = .ok (.iconst 0, 1) := by decide +kernel
theorem dX0_gatherFront_2 : decode cX0_gatherFront 2 = .ok (.putfield 35, 3) := by decide +kernel
theorem dX0_gatherFront_5 : decode cX0_gatherFront 5 = .ok (.aload_n 0, 1) := by decide +kernel
theorem dX0_gatherFront_6 : decode cX0_gatherFront 6 = .ok (.getfield 18, 3) := by decide +kernel
theorem dX0_gatherFront_9 : decode cX0_gatherFront 9 = .ok (.iload_n 1, 1) := by decide +kernel
theorem dX0_gatherFront_10 : decode cX0_gatherFront 10 = .ok (.invokevirtual 38, 3) := by decide +kernel
theorem dX0_gatherFront_13 : decode cX0_gatherFront 13 = .ok (.istore_n 2, 1) := by decide +kernel
theorem dX0_gatherFront_14 : decode cX0_gatherFront 14 = .ok (.aload_n 0, 1) := by decide +kernel
theorem dX0_gatherFront_15 : decode cX0_gatherFront 15 = .ok (.getfield 22, 3) := by decide +kernel
theorem dX0_gatherFront_18 : decode cX0_gatherFront 18 = .ok (.aload_n 0, 1) := by decide +kernel
theorem dX0_gatherFront_19 : decode cX0_gatherFront 19 = .ok (.getfield 18, 3) := by decide +kernel
theorem dX0_gatherFront_22 : decode cX0_gatherFront 22 = .ok (.iload_n 1, 1) := by decide +kernel
theorem dX0_gatherFront_23 : decode cX0_gatherFront 23 = .ok (.invokevirtual 44, 3) := by decide +kernel
theorem dX0_gatherFront_26 : decode cX0_gatherFront 26 = .ok (.invokestatic 47, 3) := by decide +kernel
theorem dX0_gatherFront_29 : decode cX0_gatherFront 29 = .ok (.istore_n 3, 1) := by decide +kernel
theorem dX0_gatherFront_30 : decode cX0_gatherFront 30 = .ok (.iconst 2, 1) := by decide +kernel
theorem dX0_gatherFront_31 : decode cX0_gatherFront 31 = .ok (.istore 4, 2) := by decide +kernel
theorem dX0_gatherFront_33 : decode cX0_gatherFront 33 = .ok (.iconst 1, 1) := by decide +kernel
theorem dX0_gatherFront_34 : decode cX0_gatherFront 34 = .ok (.istore 5, 2) := by decide +kernel
theorem dX0_gatherFront_36 : decode cX0_gatherFront 36 = .ok (.iload 5, 2) := by decide +kernel
theorem dX0_gatherFront_38 : decode cX0_gatherFront 38 = .ok (.iload_n 3, 1) := by decide +kernel
theorem dX0_gatherFront_39 : decode cX0_gatherFront 39 = .ok (.if_icmp .gt 80, 3) := by decide +kernel
theorem dX0_gatherFront_42 : decode cX0_gatherFront 42 = .ok (.iload 4, 2) := by decide +kernel
theorem dX0_gatherFront_44 : decode cX0_gatherFront 44 = .ok (.iload_n 2, 1) := by decide +kernel
theorem dX0_gatherFront_45 : decode cX0_gatherFront 45 = .ok (.if_icmp .ge 74, 3) := by decide +kernel
theorem dX0_gatherFront_48 : decode cX0_gatherFront 48 = .ok (.aload_n 0, 1) := by decide +kernel
theorem dX0_gatherFront_49 : decode cX0_gatherFront 49 = .ok (.getfield 18, 3) := by decide +kernel
theorem dX0_gatherFront_52 : decode cX0_gatherFront 52 = .ok (.iload_n 1, 1) := by decide +kernel
theorem dX0_gatherFront_53 : decode cX0_gatherFront 53 = .ok (.iload 5, 2) := by decide +kernel
theorem dX0_gatherFront_55 : decode cX0_gatherFront 55 = .ok (.iload_n 2, 1) := by decide +kernel
theorem dX0_gatherFront_56 : decode cX0_gatherFront 56 = .ok (.invokevirtual 53, 3) := by decide +kernel
theorem dX0_gatherFront_59 : decode cX0_gatherFront 59 = .ok (.istore 6, 2) := by decide +kernel
theorem dX0_gatherFront_61 : decode cX0_gatherFront 61 = .ok (.iload 6, 2) := by decide +kernel
theorem dX0_gatherFront_63 : decode cX0_gatherFront 63 = .ok (.iload 4, 2) := by decide +kernel
theorem dX0_gatherFront_65 : decode cX0_gatherFront 65 = .ok (.if_icmp .le 48, 3) := by decide +kernel
theorem dX0_gatherFront_68 : decode cX0_gatherFront 68 = .ok (.aload_n 0, 1) := by decide +kernel
theorem dX0_gatherFront_69 : decode cX0_gatherFront 69 = .ok (.getfield 35, 3) := by decide +kernel
theorem dX0_gatherFront_72 : decode cX0_gatherFront 72 = .ok (.bipush 38, 2) := by decide +kernel
theorem dX0_gatherFront_74 : decode cX0_gatherFront 74 = .ok (.if_icmp .ge 39, 3) := by decide +kernel
theorem dX0_gatherFront_77 : decode cX0_gatherFront 77 = .ok (.aload_n 0, 1) := by decide +kernel
theorem dX0_gatherFront_78 : decode cX0_gatherFront 78 = .ok (.getfield 9, 3) := by decide +kernel
theorem dX0_gatherFront_81 : decode cX0_gatherFront 81 = .ok (.aload_n 0, 1) := by decide +kernel
theorem dX0_gatherFront_82 : decode cX0_gatherFront 82 = .ok (.getfield 35, 3) := by decide +kernel
theorem dX0_gatherFront_85 : decode cX0_gatherFront 85 = .ok (.iload 6, 2) := by decide +kernel
theorem dX0_gatherFront_87 : decode cX0_gatherFront 87 = .ok (.iastore, 1) := by decide +kernel
theorem dX0_gatherFront_88 : decode cX0_gatherFront 88 = .ok (.aload_n 0, 1) := by decide +kernel
theorem dX0_gatherFront_89 : decode cX0_gatherFront 89 = .ok (.getfield 15, 3) := by decide +kernel
theorem dX0_gatherFront_92 : decode cX0_gatherFront 92 = .ok (.aload_n 0, 1) := by decide +kernel
theorem dX0_gatherFront_93 : decode cX0_gatherFront 93 = .ok (.getfield 35, 3) := by decide +kernel
theorem dX0_gatherFront_96 : decode cX0_gatherFront 96 = .ok (.iload 5, 2) := by decide +kernel
theorem dX0_gatherFront_98 : decode cX0_gatherFront 98 = .ok (.iastore, 1) := by decide +kernel
theorem dX0_gatherFront_99 : decode cX0_gatherFront 99 = .ok (.aload_n 0, 1) := by decide +kernel
theorem dX0_gatherFront_100 : decode cX0_gatherFront 100 = .ok (.dup, 1) := by decide +kernel
theorem dX0_gatherFront_101 : decode cX0_gatherFront 101 = .ok (.getfield 35, 3) := by decide +kernel
theorem dX0_gatherFront_104 : decode cX0_gatherFront 104 = .ok (.iconst 1, 1) := by decide +kernel
theorem dX0_gatherFront_105 : decode cX0_gatherFront 105 = .ok (.iadd, 1) := by decide +kernel
theorem dX0_gatherFront_106 : decode cX0_gatherFront 106 = .ok (.putfield 35, 3) := by decide +kernel
theorem dX0_gatherFront_109 : decode cX0_gatherFront 109 = .ok (.iload 6, 2) := by decide +kernel
theorem dX0_gatherFront_111 : decode cX0_gatherFront 111 = .ok (.istore 4, 2) := by decide +kernel
theorem dX0_gatherFront_113 : decode cX0_gatherFront 113 = .ok (.iinc 5 1, 3) := by decide +kernel
theorem dX0_gatherFront_116 : decode cX0_gatherFront 116 = .ok (.goto (-80), 3) := by decide +kernel
theorem dX0_gatherFront_119 : decode cX0_gatherFront 119 = .ok (.return_, 1) := by decide +kernel
set_option maxRecDepth 20000 in
theorem ggX0_seekLongest_X0_gatherFront : GoodIn wsX0_seekLongest wsX0_gatherFront := goodIn_r _ [8, 1, 9, 10, 11, 12, 13, 14, 2, 3, 15, 16, 17, 18, 19, 20, 21, 22, 23, 24, 25, 26, 27, 28, 29, 30, 31, 38, 39, 40, 41, 42, 43, 44, 45, 46, 47, 48] (by decide +kernel) (by decide +kernel)
set_option maxRecDepth 20000 in
theorem gX0_seekLongest_X0_gatherFront : GoodIn wsX0_seekLongest (wsV RX0 57 RX0 yX0_gatherFront wsX0_gatherFront) := goodIn_app (goodIn_of _ (by decide +kernel)) ggX0_seekLongest_X0_gatherFront
set_option maxRecDepth 20000 in
theorem ggX0_seekLongest_X0_take : GoodIn wsX0_seekLongest wsX0_take := goodIn_r _ [35, 36, 37, 38, 39, 40, 41, 42, 43, 44, 45] (by decide +kernel) (by decide +kernel)
set_option maxRecDepth 20000 in
theorem gX0_seekLongest_X0_take : GoodIn wsX0_seekLongest (wsV RX0 61 RX0 yX0_take wsX0_take) := goodIn_app (goodIn_of _ (by decide +kernel)) ggX0_seekLongest_X0_take
theorem dX0_seekLongest_0 : decode cX0_seekLongest 0 = .ok (.aload_n 0, 1) := by decide +kernel
theorem dX0_seekLongest_1 : decode cX0_seekLongest 1 = .ok (.iload_n 1, 1) := by decide +kernel
theorem dX0_seekLongest_2 : decode cX0_seekLongest 2 = .ok (.invokevirtual 57, 3) := by decide +kernel
theorem dX0_seekLongest_5 : decode cX0_seekLongest 5 = .ok (.aload_n 0, 1) := by decide +kernel
theorem dX0_seekLongest_6 : decode cX0_seekLongest 6 = .ok (.iconst 0, 1) := by decide +kernel
theorem dX0_seekLongest_7 : decode cX0_seekLongest 7 = .ok (.iconst 0, 1) := by decide +kernel
theorem dX0_seekLongest_8 : decode cX0_seekLongest 8 = .ok (.invokevirtual 61, 3) := by decide +kernel
theorem dX0_seekLongest_11 : decode cX0_seekLongest 11 = .ok (.aload_n 0, 1) := by decide +kernel
theorem dX0_seekLongest_12 : decode cX0_seekLongest 12 = .ok (.getfield 35, 3) := by decide +kernel
theorem dX0_seekLongest_15 : decode cX0_seekLongest 15 = .ok (.ifCond .le 29, 3) := by decide +kernel
theorem dX0_seekLongest_18 : decode cX0_seekLongest 18 = .ok (.aload_n 0, 1) := by decide +kernel
theorem dX0_seekLongest_19 : decode cX0_seekLongest 19 = .ok (.aload_n 0, 1) := by decide +kernel
theorem dX0_seekLongest_20 : decode cX0_seekLongest 20 = .ok (.getfield 9, 3) := by decide +kernel
theorem dX0_seekLongest_23 : decode cX0_seekLongest 23 = .ok (.aload_n 0, 1) := by decide +kernel
theorem dX0_seekLongest_24 : decode cX0_seekLongest 24 = .ok (.getfield 35, 3) := by decide +kernel
theorem dX0_seekLongest_27 : decode cX0_seekLongest 27 = .ok (.iconst 1, 1) := by decide +kernel
theorem dX0_seekLongest_28 : decode cX0_seekLongest 28 = .ok (.isub, 1) := by decide +kernel
theorem dX0_seekLongest_29 : decode cX0_seekLongest 29 = .ok (.iaload, 1) := by decide +kernel
theorem dX0_seekLongest_30 : decode cX0_seekLongest 30 = .ok (.aload_n 0, 1) := by decide +kernel
theorem dX0_seekLongest_31 : decode cX0_seekLongest 31 = .ok (.getfield 15, 3) := by decide +kernel
theorem dX0_seekLongest_34 : decode cX0_seekLongest 34 = .ok (.aload_n 0, 1) := by decide +kernel
theorem dX0_seekLongest_35 : decode cX0_seekLongest 35 = .ok (.getfield 35, 3) := by decide +kernel
theorem dX0_seekLongest_38 : decode cX0_seekLongest 38 = .ok (.iconst 1, 1) := by decide +kernel
theorem dX0_seekLongest_39 : decode cX0_seekLongest 39 = .ok (.isub, 1) := by decide +kernel
theorem dX0_seekLongest_40 : decode cX0_seekLongest 40 = .ok (.iaload, 1) := by decide +kernel
theorem dX0_seekLongest_41 : decode cX0_seekLongest 41 = .ok (.invokevirtual 61, 3) := by decide +kernel
theorem dX0_seekLongest_44 : decode cX0_seekLongest 44 = .ok (.return_, 1) := by decide +kernel
set_option maxRecDepth 20000 in
theorem ggX0_seekChained_X0_take : GoodIn wsX0_seekChained wsX0_take := goodIn_r _ [13, 8, 14, 32, 33, 34, 35, 36, 37, 38, 39] (by decide +kernel) (by decide +kernel)
set_option maxRecDepth 20000 in
theorem gX0_seekChained_X0_take : GoodIn wsX0_seekChained (wsV RX0 61 RX0 yX0_take wsX0_take) := goodIn_app (goodIn_of _ (by decide +kernel)) ggX0_seekChained_X0_take
set_option maxRecDepth 20000 in
theorem ggX0_seekChained_X3_mostLength : GoodIn wsX0_seekChained wsX3_mostLength := goodIn_r _ [19, 20, 21, 4, 5, 6, 40, 41, 42] (by decide +kernel) (by decide +kernel)
set_option maxRecDepth 20000 in
theorem gX0_seekChained_X3_mostLength : GoodIn wsX0_seekChained (wsV RX0 38 RX3 yX3_mostLength wsX3_mostLength) := goodIn_app (goodIn_of _ (by decide +kernel)) ggX0_seekChained_X3_mostLength
set_option maxRecDepth 20000 in
theorem ggX0_seekChained_X3_farthest : GoodIn wsX0_seekChained wsX3_farthest := goodIn_r _ [25, 26, 40, 41, 42] (by decide +kernel) (by decide +kernel)
set_option maxRecDepth 20000 in
theorem gX0_seekChained_X3_farthest : GoodIn wsX0_seekChained (wsV RX0 44 RX3 yX3_farthest wsX3_farthest) := goodIn_app (goodIn_of _ (by decide +kernel)) ggX0_seekChained_X3_farthest
set_option maxRecDepth 20000 in
theorem ggX0_seekChained_X3_reach : GoodIn wsX0_seekChained wsX3_reach := goodIn_r _ [30, 26, 31, 40, 41, 42] (by decide +kernel) (by decide +kernel)
set_option maxRecDepth 20000 in
theorem gX0_seekChained_X3_reach : GoodIn wsX0_seekChained (wsV RX0 53 RX3 yX3_reach wsX3_reach) := goodIn_app (goodIn_of _ (by decide +kernel)) ggX0_seekChained_X3_reach
theorem dX0_seekChained_0 : decode cX0_seekChained 0 = .ok (.aload_n 0, 1) := by decide +kernel
theorem dX0_seekChained_1 : decode cX0_seekChained 1 = .ok (.iconst 0, 1) := by decide +kernel
theorem dX0_seekChained_2 : decode cX0_seekChained 2 = .ok (.iconst 0, 1) := by decide +kernel
theorem dX0_seekChained_3 : decode cX0_seekChained 3 = .ok (.invokevirtual 61, 3) := by decide +kernel
theorem dX0_seekChained_6 : decode cX0_seekChained 6 = .ok (.aload_n 0, 1) := by decide +kernel
theorem dX0_seekChained_7 : decode cX0_seekChained 7 = .ok (.getfield 18, 3) := by decide +kernel
theorem dX0_seekChained_10 : decode cX0_seekChained 10 = .ok (.iload_n 1, 1) := by decide +kernel
theorem dX0_seekChained_11 : decode cX0_seekChained 11 = .ok (.invokevirtual 38, 3) := by decide +kernel
theorem dX0_seekChained_14 : decode cX0_seekChained 14 = .ok (.istore_n 2, 1) := by decide +kernel
theorem dX0_seekChained_15 : decode cX0_seekChained 15 = .ok (.aload_n 0, 1) := by decide +kernel
theorem dX0_seekChained_16 : decode cX0_seekChained 16 = .ok (.getfield 22, 3) := by decide +kernel
theorem dX0_seekChained_19 : decode cX0_seekChained 19 = .ok (.aload_n 0, 1) := by decide +kernel
theorem dX0_seekChained_20 : decode cX0_seekChained 20 = .ok (.getfield 18, 3) := by decide +kernel
theorem dX0_seekChained_23 : decode cX0_seekChained 23 = .ok (.iload_n 1, 1) := by decide +kernel
theorem dX0_seekChained_24 : decode cX0_seekChained 24 = .ok (.invokevirtual 44, 3) := by decide +kernel
theorem dX0_seekChained_27 : decode cX0_seekChained 27 = .ok (.invokestatic 47, 3) := by decide +kernel
theorem dX0_seekChained_30 : decode cX0_seekChained 30 = .ok (.istore_n 3, 1) := by decide +kernel
theorem dX0_seekChained_31 : decode cX0_seekChained 31 = .ok (.iconst 0, 1) := by decide +kernel
theorem dX0_seekChained_32 : decode cX0_seekChained 32 = .ok (.istore 4, 2) := by decide +kernel
theorem dX0_seekChained_34 : decode cX0_seekChained 34 = .ok (.iconst 1, 1) := by decide +kernel
theorem dX0_seekChained_35 : decode cX0_seekChained 35 = .ok (.istore 5, 2) := by decide +kernel
theorem dX0_seekChained_37 : decode cX0_seekChained 37 = .ok (.iload 5, 2) := by decide +kernel
theorem dX0_seekChained_39 : decode cX0_seekChained 39 = .ok (.iload_n 3, 1) := by decide +kernel
theorem dX0_seekChained_40 : decode cX0_seekChained 40 = .ok (.if_icmp .gt 57, 3) := by decide +kernel
theorem dX0_seekChained_43 : decode cX0_seekChained 43 = .ok (.iload 4, 2) := by decide +kernel
theorem dX0_seekChained_45 : decode cX0_seekChained 45 = .ok (.aload_n 0, 1) := by decide +kernel
theorem dX0_seekChained_46 : decode cX0_seekChained 46 = .ok (.getfield 26, 3) := by decide +kernel
theorem dX0_seekChained_49 : decode cX0_seekChained 49 = .ok (.if_icmp .ge 48, 3) := by decide +kernel
theorem dX0_seekChained_52 : decode cX0_seekChained 52 = .ok (.aload_n 0, 1) := by decide +kernel
theorem dX0_seekChained_53 : decode cX0_seekChained 53 = .ok (.getfield 18, 3) := by decide +kernel
theorem dX0_seekChained_56 : decode cX0_seekChained 56 = .ok (.iload_n 1, 1) := by decide +kernel
theorem dX0_seekChained_57 : decode cX0_seekChained 57 = .ok (.iload 5, 2) := by decide +kernel
theorem dX0_seekChained_59 : decode cX0_seekChained 59 = .ok (.iload_n 2, 1) := by decide +kernel
theorem dX0_seekChained_60 : decode cX0_seekChained 60 = .ok (.invokevirtual 53, 3) := by decide +kernel
theorem dX0_seekChained_63 : decode cX0_seekChained 63 = .ok (.istore 6, 2) := by decide +kernel
theorem dX0_seekChained_65 : decode cX0_seekChained 65 = .ok (.iload 6, 2) := by decide +kernel
theorem dX0_seekChained_67 : decode cX0_seekChained 67 = .ok (.iconst 3, 1) := by decide +kernel
theorem dX0_seekChained_68 : decode cX0_seekChained 68 = .ok (.if_icmp .lt 23, 3) := by decide +kernel
theorem dX0_seekChained_71 : decode cX0_seekChained 71 = .ok (.iinc 4 1, 3) := by decide +kernel
theorem dX0_seekChained_74 : decode cX0_seekChained 74 = .ok (.iload 6, 2) := by decide +kernel
theorem dX0_seekChained_76 : decode cX0_seekChained 76 = .ok (.aload_n 0, 1) := by decide +kernel
theorem dX0_seekChained_77 : decode cX0_seekChained 77 = .ok (.getfield 29, 3) := by decide +kernel
theorem dX0_seekChained_80 : decode cX0_seekChained 80 = .ok (.if_icmp .le 11, 3) := by decide +kernel
theorem dX0_seekChained_83 : decode cX0_seekChained 83 = .ok (.aload_n 0, 1) := by decide +kernel
theorem dX0_seekChained_84 : decode cX0_seekChained 84 = .ok (.iload 6, 2) := by decide +kernel
theorem dX0_seekChained_86 : decode cX0_seekChained 86 = .ok (.iload 5, 2) := by decide +kernel
theorem dX0_seekChained_88 : decode cX0_seekChained 88 = .ok (.invokevirtual 61, 3) := by decide +kernel
theorem dX0_seekChained_91 : decode cX0_seekChained 91 = .ok (.iinc 5 1, 3) := by decide +kernel
theorem dX0_seekChained_94 : decode cX0_seekChained 94 = .ok (.goto (-57), 3) := by decide +kernel
theorem dX0_seekChained_97 : decode cX0_seekChained 97 = .ok (.return_, 1) := by decide +kernel
set_option maxRecDepth 20000 in
theorem ggX0_seekLookingAhead_X0_seekLongest : GoodIn wsX0_seekLookingAhead wsX0_seekLongest := goodIn_r _ [6, 7, 8, 9, 10, 11, 12, 5, 13, 14, 15, 16, 17, 18, 19, 20, 21, 22, 23, 24, 25, 26, 27, 28, 29, 30, 31, 32, 33, 34, 35, 36, 37, 38, 39, 40, 1, 41, 42, 43, 44, 45, 46, 47, 48, 49, 50, 51, 52] (by decide +kernel) (by decide +kernel)
set_option maxRecDepth 20000 in
theorem gX0_seekLookingAhead_X0_seekLongest : GoodIn wsX0_seekLookingAhead (wsV RX0 65 RX0 yX0_seekLongest wsX0_seekLongest) := goodIn_app (goodIn_of _ (by decide +kernel)) ggX0_seekLookingAhead_X0_seekLongest
set_option maxRecDepth 20000 in
theorem ggX0_seekLookingAhead_X0_take : GoodIn wsX0_seekLookingAhead wsX0_take := goodIn_r _ [40, 1, 41, 42, 43, 44, 45, 46, 47, 48, 49] (by decide +kernel) (by decide +kernel)
set_option maxRecDepth 20000 in
theorem gX0_seekLookingAhead_X0_take : GoodIn wsX0_seekLookingAhead (wsV RX0 61 RX0 yX0_take wsX0_take) := goodIn_app (goodIn_of _ (by decide +kernel)) ggX0_seekLookingAhead_X0_take
theorem dX0_seekLookingAhead_0 : decode cX0_seekLookingAhead 0 = .ok (.aload_n 0, 1) := by decide +kernel
theorem dX0_seekLookingAhead_1 : decode cX0_seekLookingAhead 1 = .ok (.iload_n 1, 1) := by decide +kernel
theorem dX0_seekLookingAhead_2 : decode cX0_seekLookingAhead 2 = .ok (.iconst 1, 1) := by decide +kernel
theorem dX0_seekLookingAhead_3 : decode cX0_seekLookingAhead 3 = .ok (.iadd, 1) := by decide +kernel
theorem dX0_seekLookingAhead_4 : decode cX0_seekLookingAhead 4 = .ok (.invokevirtual 65, 3) := by decide +kernel
theorem dX0_seekLookingAhead_7 : decode cX0_seekLookingAhead 7 = .ok (.aload_n 0, 1) := by decide +kernel
theorem dX0_seekLookingAhead_8 : decode cX0_seekLookingAhead 8 = .ok (.getfield 29, 3) := by decide +kernel
theorem dX0_seekLookingAhead_11 : decode cX0_seekLookingAhead 11 = .ok (.istore_n 2, 1) := by decide +kernel
theorem dX0_seekLookingAhead_12 : decode cX0_seekLookingAhead 12 = .ok (.aload_n 0, 1) := by decide +kernel
theorem dX0_seekLookingAhead_13 : decode cX0_seekLookingAhead 13 = .ok (.iload_n 1, 1) := by decide +kernel
theorem dX0_seekLookingAhead_14 : decode cX0_seekLookingAhead 14 = .ok (.invokevirtual 65, 3) := by decide +kernel
theorem dX0_seekLookingAhead_17 : decode cX0_seekLookingAhead 17 = .ok (.iload_n 2, 1) := by decide +kernel
theorem dX0_seekLookingAhead_18 : decode cX0_seekLookingAhead 18 = .ok (.aload_n 0, 1) := by decide +kernel
theorem dX0_seekLookingAhead_19 : decode cX0_seekLookingAhead 19 = .ok (.getfield 29, 3) := by decide +kernel
theorem dX0_seekLookingAhead_22 : decode cX0_seekLookingAhead 22 = .ok (.if_icmp .le 9, 3) := by decide +kernel
theorem dX0_seekLookingAhead_25 : decode cX0_seekLookingAhead 25 = .ok (.aload_n 0, 1) := by decide +kernel
theorem dX0_seekLookingAhead_26 : decode cX0_seekLookingAhead 26 = .ok (.iconst 0, 1) := by decide +kernel
theorem dX0_seekLookingAhead_27 : decode cX0_seekLookingAhead 27 = .ok (.iconst 0, 1) := by decide +kernel
theorem dX0_seekLookingAhead_28 : decode cX0_seekLookingAhead 28 = .ok (.invokevirtual 61, 3) := by decide +kernel
theorem dX0_seekLookingAhead_31 : decode cX0_seekLookingAhead 31 = .ok (.return_, 1) := by decide +kernel
theorem dX1_init_0 : decode cX1_init 0 = .ok (.aload_n 0, 1) := by decide +kernel
theorem dX1_init_1 : decode cX1_init 1 = .ok (.invokespecial 3, 3) := by decide +kernel
theorem dX1_init_4 : decode cX1_init 4 = .ok (.aload_n 0, 1) := by decide +kernel
theorem dX1_init_5 : decode cX1_init 5 = .ok (.sipush 301, 3) := by decide +kernel
theorem dX1_init_8 : decode cX1_init 8 = .ok (.newarray .int, 2) := by decide +kernel
theorem dX1_init_10 : decode cX1_init 10 = .ok (.putfield 9, 3) := by decide +kernel
theorem dX1_init_13 : decode cX1_init 13 = .ok (.aload_n 0, 1) := by decide +kernel
theorem dX1_init_14 : decode cX1_init 14 = .ok (.sipush 300, 3) := by decide +kernel
theorem dX1_init_17 : decode cX1_init 17 = .ok (.newarray .int, 2) := by decide +kernel
theorem dX1_init_19 : decode cX1_init 19 = .ok (.putfield 15, 3) := by decide +kernel
theorem dX1_init_22 : decode cX1_init 22 = .ok (.aload_n 0, 1) := by decide +kernel
theorem dX1_init_23 : decode cX1_init 23 = .ok (.sipush 300, 3) := by decide +kernel
theorem dX1_init_26 : decode cX1_init 26 = .ok (.newarray .int, 2) := by decide +kernel
theorem dX1_init_28 : decode cX1_init 28 = .ok (.putfield 18, 3) := by decide +kernel
theorem dX1_init_31 : decode cX1_init 31 = .ok (.return_, 1) := by decide +kernel
set_option maxRecDepth 20000 in
theorem ggX1_make_X0_gatherFront : GoodIn wsX1_make wsX0_gatherFront := goodIn_r _ [10, 11, 12, 13, 14, 15, 16, 17, 18, 19, 20, 21, 22, 23, 24, 25, 26, 27, 28, 29, 30, 31, 32, 33, 34, 35, 36, 48, 49, 50, 51, 52, 53, 54, 55, 56, 57, 58] (by decide +kernel) (by decide +kernel)
set_option maxRecDepth 20000 in
theorem gX1_make_X0_gatherFront : GoodIn wsX1_make (wsV RX1 33 RX0 yX0_gatherFront wsX0_gatherFront) := goodIn_app (goodIn_of _ (by decide +kernel)) ggX1_make_X0_gatherFront
set_option maxRecDepth 20000 in
theorem ggX1_make_X1_weighMatches : GoodIn wsX1_make wsX1_weighMatches := goodIn_r _ [41, 42, 43, 44, 3, 4, 5, 45, 46, 47, 48, 49, 50, 51, 52, 53, 54, 55, 59, 60, 61] (by decide +kernel) (by decide +kernel)
set_option maxRecDepth 20000 in
theorem gX1_make_X1_weighMatches : GoodIn wsX1_make (wsV RX1 37 RX1 yX1_weighMatches wsX1_weighMatches) := goodIn_app (goodIn_of _ (by decide +kernel)) ggX1_make_X1_weighMatches
theorem dX1_make_0 : decode cX1_make 0 = .ok (.aload_n 1, 1) := by decide +kernel
theorem dX1_make_1 : decode cX1_make 1 = .ok (.getfield 21, 3) := by decide +kernel
theorem dX1_make_4 : decode cX1_make 4 = .ok (.getfield 27, 3) := by decide +kernel
theorem dX1_make_7 : decode cX1_make 7 = .ok (.istore_n 2, 1) := by decide +kernel
theorem dX1_make_8 : decode cX1_make 8 = .ok (.aload_n 0, 1) := by decide +kernel
theorem dX1_make_9 : decode cX1_make 9 = .ok (.getfield 9, 3) := by decide +kernel
theorem dX1_make_12 : decode cX1_make 12 = .ok (.iload_n 2, 1) := by decide +kernel
theorem dX1_make_13 : decode cX1_make 13 = .ok (.iconst 0, 1) := by decide +kernel
theorem dX1_make_14 : decode cX1_make 14 = .ok (.iastore, 1) := by decide +kernel
theorem dX1_make_15 : decode cX1_make 15 = .ok (.iload_n 2, 1) := by decide +kernel
theorem dX1_make_16 : decode cX1_make 16 = .ok (.iconst 1, 1) := by decide +kernel
theorem dX1_make_17 : decode cX1_make 17 = .ok (.isub, 1) := by decide +kernel
theorem dX1_make_18 : decode cX1_make 18 = .ok (.istore_n 3, 1) := by decide +kernel
theorem dX1_make_19 : decode cX1_make 19 = .ok (.iload_n 3, 1) := by decide +kernel
theorem dX1_make_20 : decode cX1_make 20 = .ok (.ifCond .lt 51, 3) := by decide +kernel
theorem dX1_make_23 : decode cX1_make 23 = .ok (.aload_n 0, 1) := by decide +kernel
theorem dX1_make_24 : decode cX1_make 24 = .ok (.getfield 9, 3) := by decide +kernel
theorem dX1_make_27 : decode cX1_make 27 = .ok (.iload_n 3, 1) := by decide +kernel
theorem dX1_make_28 : decode cX1_make 28 = .ok (.bipush 9, 2) := by decide +kernel
theorem dX1_make_30 : decode cX1_make 30 = .ok (.aload_n 0, 1) := by decide +kernel
theorem dX1_make_31 : decode cX1_make 31 = .ok (.getfield 9, 3) := by decide +kernel
theorem dX1_make_34 : decode cX1_make 34 = .ok (.iload_n 3, 1) := by decide +kernel
theorem dX1_make_35 : decode cX1_make 35 = .ok (.iconst 1, 1) := by decide +kernel
theorem dX1_make_36 : decode cX1_make 36 = .ok (.iadd, 1) := by decide +kernel
theorem dX1_make_37 : decode cX1_make 37 = .ok (.iaload, 1) := by decide +kernel
theorem dX1_make_38 : decode cX1_make 38 = .ok (.iadd, 1) := by decide +kernel
theorem dX1_make_39 : decode cX1_make 39 = .ok (.iastore, 1) := by decide +kernel
theorem dX1_make_40 : decode cX1_make 40 = .ok (.aload_n 0, 1) := by decide +kernel
theorem dX1_make_41 : decode cX1_make 41 = .ok (.getfield 15, 3) := by decide +kernel
theorem dX1_make_44 : decode cX1_make 44 = .ok (.iload_n 3, 1) := by decide +kernel
theorem dX1_make_45 : decode cX1_make 45 = .ok (.iconst 1, 1) := by decide +kernel
theorem dX1_make_46 : decode cX1_make 46 = .ok (.iastore, 1) := by decide +kernel
theorem dX1_make_47 : decode cX1_make 47 = .ok (.aload_n 0, 1) := by decide +kernel
theorem dX1_make_48 : decode cX1_make 48 = .ok (.getfield 18, 3) := by decide +kernel
theorem dX1_make_51 : decode cX1_make 51 = .ok (.iload_n 3, 1) := by decide +kernel
theorem dX1_make_52 : decode cX1_make 52 = .ok (.iconst 0, 1) := by decide +kernel
theorem dX1_make_53 : decode cX1_make 53 = .ok (.iastore, 1) := by decide +kernel
theorem dX1_make_54 : decode cX1_make 54 = .ok (.aload_n 1, 1) := by decide +kernel
theorem dX1_make_55 : decode cX1_make 55 = .ok (.iload_n 3, 1) := by decide +kernel
theorem dX1_make_56 : decode cX1_make 56 = .ok (.invokevirtual 33, 3) := by decide +kernel
theorem dX1_make_59 : decode cX1_make 59 = .ok (.aload_n 0, 1) := by decide +kernel
theorem dX1_make_60 : decode cX1_make 60 = .ok (.iload_n 3, 1) := by decide +kernel
theorem dX1_make_61 : decode cX1_make 61 = .ok (.aload_n 1, 1) := by decide +kernel
theorem dX1_make_62 : decode cX1_make 62 = .ok (.invokevirtual 37, 3) := by decide +kernel
theorem dX1_make_65 : decode cX1_make 65 = .ok (.iinc 3 (-1), 3) := by decide +kernel
theorem dX1_make_68 : decode cX1_make 68 = .ok (.goto (-49), 3) := by decide +kernel
theorem dX1_make_71 : decode cX1_make 71 = .ok (.return_, 1) := by decide +kernel
set_option maxRecDepth 20000 in
theorem ggX1_weighMatches_X4_gammaBits : GoodIn wsX1_weighMatches wsX4_gammaBits := goodIn_r _ [9] (by decide +kernel) (by decide +kernel)
set_option maxRecDepth 20000 in
theorem gX1_weighMatches_X4_gammaBits_n47 : GoodIn wsX1_weighMatches (wsX4_gammaBits) := ggX1_weighMatches_X4_gammaBits
theorem dX1_weighMatches_0 : decode cX1_weighMatches 0 = .ok (.iconst 3, 1) := by decide +kernel
theorem dX1_weighMatches_1 : decode cX1_weighMatches 1 = .ok (.istore_n 3, 1) := by decide +kernel
theorem dX1_weighMatches_2 : decode cX1_weighMatches 2 = .ok (.iconst 0, 1) := by decide +kernel
theorem dX1_weighMatches_3 : decode cX1_weighMatches 3 = .ok (.istore 4, 2) := by decide +kernel
theorem dX1_weighMatches_5 : decode cX1_weighMatches 5 = .ok (.iload 4, 2) := by decide +kernel
theorem dX1_weighMatches_7 : decode cX1_weighMatches 7 = .ok (.aload_n 2, 1) := by decide +kernel
theorem dX1_weighMatches_8 : decode cX1_weighMatches 8 = .ok (.getfield 41, 3) := by decide +kernel
theorem dX1_weighMatches_11 : decode cX1_weighMatches 11 = .ok (.if_icmp .ge 98, 3) := by decide +kernel
theorem dX1_weighMatches_14 : decode cX1_weighMatches 14 = .ok (.aload_n 2, 1) := by decide +kernel
theorem dX1_weighMatches_15 : decode cX1_weighMatches 15 = .ok (.getfield 44, 3) := by decide +kernel
theorem dX1_weighMatches_18 : decode cX1_weighMatches 18 = .ok (.iload 4, 2) := by decide +kernel
theorem dX1_weighMatches_20 : decode cX1_weighMatches 20 = .ok (.iaload, 1) := by decide +kernel
theorem dX1_weighMatches_21 : decode cX1_weighMatches 21 = .ok (.istore 5, 2) := by decide +kernel
theorem dX1_weighMatches_23 : decode cX1_weighMatches 23 = .ok (.iconst 2, 1) := by decide +kernel
theorem dX1_weighMatches_24 : decode cX1_weighMatches 24 = .ok (.iload 5, 2) := by decide +kernel
theorem dX1_weighMatches_26 : decode cX1_weighMatches 26 = .ok (.invokestatic 47, 3) := by decide +kernel
theorem dX1_weighMatches_29 : decode cX1_weighMatches 29 = .ok (.iadd, 1) := by decide +kernel
theorem dX1_weighMatches_30 : decode cX1_weighMatches 30 = .ok (.istore 6, 2) := by decide +kernel
theorem dX1_weighMatches_32 : decode cX1_weighMatches 32 = .ok (.iload_n 3, 1) := by decide +kernel
theorem dX1_weighMatches_33 : decode cX1_weighMatches 33 = .ok (.aload_n 2, 1) := by decide +kernel
theorem dX1_weighMatches_34 : decode cX1_weighMatches 34 = .ok (.getfield 51, 3) := by decide +kernel
theorem dX1_weighMatches_37 : decode cX1_weighMatches 37 = .ok (.iload 4, 2) := by decide +kernel
theorem dX1_weighMatches_39 : decode cX1_weighMatches 39 = .ok (.iaload, 1) := by decide +kernel
theorem dX1_weighMatches_40 : decode cX1_weighMatches 40 = .ok (.if_icmp .gt 63, 3) := by decide +kernel
theorem dX1_weighMatches_43 : decode cX1_weighMatches 43 = .ok (.iload 6, 2) := by decide +kernel
theorem dX1_weighMatches_45 : decode cX1_weighMatches 45 = .ok (.iload_n 3, 1) := by decide +kernel
theorem dX1_weighMatches_46 : decode cX1_weighMatches 46 = .ok (.iconst 2, 1) := by decide +kernel
theorem dX1_weighMatches_47 : decode cX1_weighMatches 47 = .ok (.isub, 1) := by decide +kernel
theorem dX1_weighMatches_48 : decode cX1_weighMatches 48 = .ok (.invokestatic 47, 3) := by decide +kernel
theorem dX1_weighMatches_51 : decode cX1_weighMatches 51 = .ok (.iadd, 1) := by decide +kernel
theorem dX1_weighMatches_52 : decode cX1_weighMatches 52 = .ok (.aload_n 0, 1) := by decide +kernel
theorem dX1_weighMatches_53 : decode cX1_weighMatches 53 = .ok (.getfield 9, 3) := by decide +kernel
theorem dX1_weighMatches_56 : decode cX1_weighMatches 56 = .ok (.iload_n 1, 1) := by decide +kernel
theorem dX1_weighMatches_57 : decode cX1_weighMatches 57 = .ok (.iload_n 3, 1) := by decide +kernel
theorem dX1_weighMatches_58 : decode cX1_weighMatches 58 = .ok (.iadd, 1) := by decide +kernel
theorem dX1_weighMatches_59 : decode cX1_weighMatches 59 = .ok (.iaload, 1) := by decide +kernel
theorem dX1_weighMatches_60 : decode cX1_weighMatches 60 = .ok (.iadd, 1) := by decide +kernel
theorem dX1_weighMatches_61 : decode cX1_weighMatches 61 = .ok (.istore 7, 2) := by decide +kernel
theorem dX1_weighMatches_63 : decode cX1_weighMatches 63 = .ok (.iload 7, 2) := by decide +kernel
theorem dX1_weighMatches_65 : decode cX1_weighMatches 65 = .ok (.aload_n 0, 1) := by decide +kernel
theorem dX1_weighMatches_66 : decode cX1_weighMatches 66 = .ok (.getfield 9, 3) := by decide +kernel
theorem dX1_weighMatches_69 : decode cX1_weighMatches 69 = .ok (.iload_n 1, 1) := by decide +kernel
theorem dX1_weighMatches_70 : decode cX1_weighMatches 70 = .ok (.iaload, 1) := by decide +kernel
theorem dX1_weighMatches_71 : decode cX1_weighMatches 71 = .ok (.if_icmp .gt 26, 3) := by decide +kernel
theorem dX1_weighMatches_74 : decode cX1_weighMatches 74 = .ok (.aload_n 0, 1) := by decide +kernel
theorem dX1_weighMatches_75 : decode cX1_weighMatches 75 = .ok (.getfield 9, 3) := by decide +kernel
theorem dX1_weighMatches_78 : decode cX1_weighMatches 78 = .ok (.iload_n 1, 1) := by decide +kernel
theorem dX1_weighMatches_79 : decode cX1_weighMatches 79 = .ok (.iload 7, 2) := by decide +kernel
theorem dX1_weighMatches_81 : decode cX1_weighMatches 81 = .ok (.iastore, 1) := by decide +kernel
theorem dX1_weighMatches_82 : decode cX1_weighMatches 82 = .ok (.aload_n 0, 1) := by decide +kernel
theorem dX1_weighMatches_83 : decode cX1_weighMatches 83 = .ok (.getfield 15, 3) := by decide +kernel
theorem dX1_weighMatches_86 : decode cX1_weighMatches 86 = .ok (.iload_n 1, 1) := by decide +kernel
theorem dX1_weighMatches_87 : decode cX1_weighMatches 87 = .ok (.iload_n 3, 1) := by decide +kernel
theorem dX1_weighMatches_88 : decode cX1_weighMatches 88 = .ok (.iastore, 1) := by decide +kernel
theorem dX1_weighMatches_89 : decode cX1_weighMatches 89 = .ok (.aload_n 0, 1) := by decide +kernel
theorem dX1_weighMatches_90 : decode cX1_weighMatches 90 = .ok (.getfield 18, 3) := by decide +kernel
theorem dX1_weighMatches_93 : decode cX1_weighMatches 93 = .ok (.iload_n 1, 1) := by decide +kernel
theorem dX1_weighMatches_94 : decode cX1_weighMatches 94 = .ok (.iload 5, 2) := by decide +kernel
theorem dX1_weighMatches_96 : decode cX1_weighMatches 96 = .ok (.iastore, 1) := by decide +kernel
theorem dX1_weighMatches_97 : decode cX1_weighMatches 97 = .ok (.iinc 3 1, 3) := by decide +kernel
theorem dX1_weighMatches_100 : decode cX1_weighMatches 100 = .ok (.goto (-68), 3) := by decide +kernel
theorem dX1_weighMatches_103 : decode cX1_weighMatches 103 = .ok (.iinc 4 1, 3) := by decide +kernel
theorem dX1_weighMatches_106 : decode cX1_weighMatches 106 = .ok (.goto (-101), 3) := by decide +kernel
theorem dX1_weighMatches_109 : decode cX1_weighMatches 109 = .ok (.return_, 1) := by decide +kernel
theorem dX2_init_0 : decode cX2_init 0 = .ok (.aload_n 0, 1) := by decide +kernel
theorem dX2_init_1 : decode cX2_init 1 = .ok (.invokespecial 3, 3) := by decide +kernel
theorem dX2_init_4 : decode cX2_init 4 = .ok (.aload_n 0, 1) := by decide +kernel
theorem dX2_init_5 : decode cX2_init 5 = .ok (.sipush 300, 3) := by decide +kernel
theorem dX2_init_8 : decode cX2_init 8 = .ok (.newarray .int, 2) := by decide +kernel
theorem dX2_init_10 : decode cX2_init 10 = .ok (.putfield 9, 3) := by decide +kernel
theorem dX2_init_13 : decode cX2_init 13 = .ok (.aload_n 0, 1) := by decide +kernel
theorem dX2_init_14 : decode cX2_init 14 = .ok (.sipush 300, 3) := by decide +kernel
theorem dX2_init_17 : decode cX2_init 17 = .ok (.newarray .int, 2) := by decide +kernel
theorem dX2_init_19 : decode cX2_init 19 = .ok (.putfield 15, 3) := by decide +kernel
theorem dX2_init_22 : decode cX2_init 22 = .ok (.aload_n 0, 1) := by decide +kernel
theorem dX2_init_23 : decode cX2_init 23 = .ok (.sipush 300, 3) := by decide +kernel
theorem dX2_init_26 : decode cX2_init 26 = .ok (.newarray .int, 2) := by decide +kernel
theorem dX2_init_28 : decode cX2_init 28 = .ok (.putfield 18, 3) := by decide +kernel
theorem dX2_init_31 : decode cX2_init 31 = .ok (.return_, 1) := by decide +kernel
theorem dX2_begin_0 : decode cX2_begin 0 = .ok (.aload_n 0, 1) := by decide +kernel
theorem dX2_begin_1 : decode cX2_begin 1 = .ok (.iconst 0, 1) := by decide +kernel
theorem dX2_begin_2 : decode cX2_begin 2 = .ok (.putfield 21, 3) := by decide +kernel
theorem dX2_begin_5 : decode cX2_begin 5 = .ok (.aload_n 0, 1) := by decide +kernel
theorem dX2_begin_6 : decode cX2_begin 6 = .ok (.iconst 0, 1) := by decide +kernel
theorem dX2_begin_7 : decode cX2_begin 7 = .ok (.putfield 25, 3) := by decide +kernel
theorem dX2_begin_10 : decode cX2_begin 10 = .ok (.aload_n 0, 1) := by decide +kernel
theorem dX2_begin_11 : decode cX2_begin 11 = .ok (.iconst 0, 1) := by decide +kernel
theorem dX2_begin_12 : decode cX2_begin 12 = .ok (.putfield 28, 3) := by decide +kernel
theorem dX2_begin_15 : decode cX2_begin 15 = .ok (.aload_n 0, 1) := by decide +kernel
theorem dX2_begin_16 : decode cX2_begin 16 = .ok (.iconst 0, 1) := by decide +kernel
theorem dX2_begin_17 : decode cX2_begin 17 = .ok (.putfield 31, 3) := by decide +kernel
theorem dX2_begin_20 : decode cX2_begin 20 = .ok (.aload_n 0, 1) := by decide +kernel
theorem dX2_begin_21 : decode cX2_begin 21 = .ok (.iconst 0, 1) := by decide +kernel
theorem dX2_begin_22 : decode cX2_begin 22 = .ok (.putfield 34, 3) := by decide +kernel
theorem dX2_begin_25 : decode cX2_begin 25 = .ok (.aload_n 0, 1) := by decide +kernel
theorem dX2_begin_26 : decode cX2_begin 26 = .ok (.iconst 0, 1) := by decide +kernel
theorem dX2_begin_27 : decode cX2_begin 27 = .ok (.putfield 37, 3) := by decide +kernel
theorem dX2_begin_30 : decode cX2_begin 30 = .ok (.aload_n 0, 1) := by decide +kernel
theorem dX2_begin_31 : decode cX2_begin 31 = .ok (.iconst 0, 1) := by decide +kernel
theorem dX2_begin_32 : decode cX2_begin 32 = .ok (.putfield 40, 3) := by decide +kernel
theorem dX2_begin_35 : decode cX2_begin 35 = .ok (.return_, 1) := by decide +kernel
set_option maxRecDepth 20000 in
theorem ggX2_put_X2_countMatch : GoodIn wsX2_put wsX2_countMatch := goodIn_r _ [11, 5, 12, 13, 14, 15, 6, 16, 17, 18, 19, 20, 21, 10, 22, 23, 24, 25, 26, 27, 28, 29, 30, 31, 32, 33] (by decide +kernel) (by decide +kernel)
set_option maxRecDepth 20000 in
theorem gX2_put_X2_countMatch : GoodIn wsX2_put (wsV RX2 43 RX2 yX2_countMatch wsX2_countMatch) := goodIn_app (goodIn_of _ (by decide +kernel)) ggX2_put_X2_countMatch
theorem dX2_put_0 : decode cX2_put 0 = .ok (.aload_n 0, 1) := by decide +kernel
theorem dX2_put_1 : decode cX2_put 1 = .ok (.getfield 21, 3) := by decide +kernel
theorem dX2_put_4 : decode cX2_put 4 = .ok (.sipush 300, 3) := by decide +kernel
theorem dX2_put_7 : decode cX2_put 7 = .ok (.if_icmp .lt 4, 3) := by decide +kernel
theorem dX2_put_10 : decode cX2_put 10 = .ok (.return_, 1) := by decide +kernel
theorem dX2_put_11 : decode cX2_put 11 = .ok (.aload_n 0, 1) := by decide +kernel
theorem dX2_put_12 : decode cX2_put 12 = .ok (.getfield 9, 3) := by decide +kernel
theorem dX2_put_15 : decode cX2_put 15 = .ok (.aload_n 0, 1) := by decide +kernel
theorem dX2_put_16 : decode cX2_put 16 = .ok (.getfield 21, 3) := by decide +kernel
theorem dX2_put_19 : decode cX2_put 19 = .ok (.iload_n 1, 1) := by decide +kernel
theorem dX2_put_20 : decode cX2_put 20 = .ok (.iastore, 1) := by decide +kernel
theorem dX2_put_21 : decode cX2_put 21 = .ok (.aload_n 0, 1) := by decide +kernel
theorem dX2_put_22 : decode cX2_put 22 = .ok (.getfield 15, 3) := by decide +kernel
theorem dX2_put_25 : decode cX2_put 25 = .ok (.aload_n 0, 1) := by decide +kernel
theorem dX2_put_26 : decode cX2_put 26 = .ok (.getfield 21, 3) := by decide +kernel
theorem dX2_put_29 : decode cX2_put 29 = .ok (.iload_n 2, 1) := by decide +kernel
theorem dX2_put_30 : decode cX2_put 30 = .ok (.iastore, 1) := by decide +kernel
theorem dX2_put_31 : decode cX2_put 31 = .ok (.aload_n 0, 1) := by decide +kernel
theorem dX2_put_32 : decode cX2_put 32 = .ok (.getfield 18, 3) := by decide +kernel
theorem dX2_put_35 : decode cX2_put 35 = .ok (.aload_n 0, 1) := by decide +kernel
theorem dX2_put_36 : decode cX2_put 36 = .ok (.getfield 21, 3) := by decide +kernel
theorem dX2_put_39 : decode cX2_put 39 = .ok (.iload_n 3, 1) := by decide +kernel
theorem dX2_put_40 : decode cX2_put 40 = .ok (.iastore, 1) := by decide +kernel
theorem dX2_put_41 : decode cX2_put 41 = .ok (.aload_n 0, 1) := by decide +kernel
theorem dX2_put_42 : decode cX2_put 42 = .ok (.dup, 1) := by decide +kernel
theorem dX2_put_43 : decode cX2_put 43 = .ok (.getfield 21, 3) := by decide +kernel
theorem dX2_put_46 : decode cX2_put 46 = .ok (.iconst 1, 1) := by decide +kernel
theorem dX2_put_47 : decode cX2_put 47 = .ok (.iadd, 1) := by decide +kernel
theorem dX2_put_48 : decode cX2_put 48 = .ok (.putfield 21, 3) := by decide +kernel
theorem dX2_put_51 : decode cX2_put 51 = .ok (.iload_n 3, 1) := by decide +kernel
theorem dX2_put_52 : decode cX2_put 52 = .ok (.ifCond .ne 28, 3) := by decide +kernel
theorem dX2_put_55 : decode cX2_put 55 = .ok (.aload_n 0, 1) := by decide +kernel
theorem dX2_put_56 : decode cX2_put 56 = .ok (.dup, 1) := by decide +kernel
